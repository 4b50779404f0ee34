
set_option maxHeartbeats 4000000 in
set_option maxRecDepth 100000 in
theorem c_X8_standsAsPoleD (l : Launch) (D : va_G) (cI : ClassId) (aK aV : Nat → Nat) (k k0 k1 k2 k3 k4 k5 k6 k7 k8 : Nat) (sz : Nat) (c9 : Int32) (c0 : Nat → Int32) (c1 : Nat → Int32) (c5 : Nat → Int32) (a0 : Int32) (a1 : Int32) : Met l yX8_standsAsPole (gW yX8_standsAsPole cX8_standsAsPole 3 (some .boolean)) ({ frames := 1, cells := 0, slots := 0, locals := 21 } : Room) (kPreX D cI aK aV [.ref k, .int a0, .int a1] [(k, .inr (8, [.ref k0, .ref k1, .ref k2, .ref k3, .ref k4, .ref k5, .ref k6, .ref k7, .ref k8, .int c9])), (k0, .inl (cI, 60, .inl c0)), (k1, .inl (cI, 60, .inl c1)), (k5, .inl (cI, 60, .inl c5))] sz) (va_Qi (fun (r : Int32) (u : Unit) => (r = 1 ∧ 0 ≤ a0.toInt ∧ a0.toInt < c9.toInt ∧ a0.toInt ≤ 59 ∧ (c5 a0.toNatClampNeg).toInt = 0 ∧ (c1 a0.toNatClampNeg).toInt = a1.toInt ∧ ((c0 a0.toNatClampNeg).toInt = 1 ∨ (c0 a0.toNatClampNeg).toInt = 2 ∨ (c0 a0.toNatClampNeg).toInt = 3)) ∨ (r = 0 ∧ 0 ≤ a0.toInt ∧ a0.toInt < c9.toInt ∧ a0.toInt ≤ 59 ∧ (c5 a0.toNatClampNeg).toInt ≠ 0) ∨ (r = 0 ∧ 0 ≤ a0.toInt ∧ a0.toInt < c9.toInt ∧ a0.toInt ≤ 59 ∧ (c1 a0.toNatClampNeg).toInt ≠ a1.toInt) ∨ (r = 0 ∧ 0 ≤ a0.toInt ∧ a0.toInt < c9.toInt ∧ a0.toInt ≤ 59 ∧ (c0 a0.toNatClampNeg).toInt ≠ 1 ∧ (c0 a0.toNatClampNeg).toInt ≠ 2 ∧ (c0 a0.toNatClampNeg).toInt ≠ 3) ∨ (r = 0 ∧ (a0.toInt < 0 ∨ c9.toInt ≤ a0.toInt ∨ 60 ≤ a0.toInt))) (fun u t => kWd D cI (va_A [(k, .inr (8, [.ref k0, .ref k1, .ref k2, .ref k3, .ref k4, .ref k5, .ref k6, .ref k7, .ref k8, .int c9])), (k0, .inl (cI, 60, .inl c0)), (k1, .inl (cI, 60, .inl c1)), (k5, .inl (cI, 60, .inl c5))] sz) [(k, .inr (8, [.ref k0, .ref k1, .ref k2, .ref k3, .ref k4, .ref k5, .ref k6, .ref k7, .ref k8, .int c9])), (k0, .inl (cI, 60, .inl c0)), (k1, .inl (cI, 60, .inl c1)), (k5, .inl (cI, 60, .inl c5))] t) (va_A [(k, .inr (8, [.ref k0, .ref k1, .ref k2, .ref k3, .ref k4, .ref k5, .ref k6, .ref k7, .ref k8, .int c9])), (k0, .inl (cI, 60, .inl c0)), (k1, .inl (cI, 60, .inl c1)), (k5, .inl (cI, 60, .inl c5))] sz)) 0 0 (va_A [(k, .inr (8, [.ref k0, .ref k1, .ref k2, .ref k3, .ref k4, .ref k5, .ref k6, .ref k7, .ref k8, .int c9])), (k0, .inl (cI, 60, .inl c0)), (k1, .inl (cI, 60, .inl c1)), (k5, .inl (cI, 60, .inl c5))] sz) := by
  refine kMetIX (own := RX8) (by decide +kernel) rfl (Nat.le_of_ble_eq_true rfl) ?_
  intro p e s m args below meth c hx hb hT hown hname hml A Q hK hP hD hS hA hN hXS hRet ls hl
  have hl : lv_has ls 3 [(0, .ref k), (1, .int a0), (2, .int a1)] := hl
  have lo_a0 := k_lo a0
  have hi_a0 := k_hi a0
  have lo_c9 := k_lo c9
  have hi_c9 := k_hi c9
  refine lv_aload_n hx hb dX8_standsAsPole_0 rfl (lv_at hl 0 rfl) ?_
  refine lv_iload_n hx hb dX8_standsAsPole_1 rfl (lv_at hl 1 rfl) ?_
  refine kJi (wr := [(k0, .inl (cI, 60, .inl c0)), (k1, .inl (cI, 60, .inl c1)), (k5, .inl (cI, 60, .inl c5))]) (va_runV (As := [.int a0]) (rest := []) ⟨hx, hb, hml, hown, hT⟩ (c_X8_hasG l D cI aK aV k k0 k1 k2 k3 k4 k5 k6 k7 k8 s.heap.size c9 a0) (cwV 1 hT (gV_in mw_371 mw_368 mw_369 mw_370 mw_3) rfl rfl rfl (by decide +kernel) ⟨Nat.le_of_ble_eq_true rfl, Nat.le_of_ble_eq_true rfl⟩) (kRecvX (q0 := 0) (ci := 8) hK hP hD hN hXS hS hA rfl rfl [0] rfl (by decide +kernel)) rfl rfl hl.1 rfl (lv_room (Nat.le_of_ble_eq_true rfl)) dX8_standsAsPole_2 ⟨Nat.le_of_ble_eq_true rfl, Nat.le_of_ble_eq_true rfl⟩) hP hD hS hA [0] [1, 2, 3] rfl rfl (by decide +kernel) (by decide +kernel) ?_
  clear hP hD hS
  intro r_1 u_3 H locs w_2 hP hD hS
  replace hP : va_P D vwCl [(k0, .inl (cI, 60, .inl c0)), (k1, .inl (cI, 60, .inl c1)), (k5, .inl (cI, 60, .inl c5)), (k, .inr (8, [.ref k0, .ref k1, .ref k2, .ref k3, .ref k4, .ref k5, .ref k6, .ref k7, .ref k8, .int c9]))] H := hP
  replace hD : va_D A [(k0, .inl (cI, 60, .inl c0)), (k1, .inl (cI, 60, .inl c1)), (k5, .inl (cI, 60, .inl c5)), (k, .inr (8, [.ref k0, .ref k1, .ref k2, .ref k3, .ref k4, .ref k5, .ref k6, .ref k7, .ref k8, .int c9]))] := hD
  rcases w_2 with ⟨hr_1, h_4, h_5, h_6⟩ | ⟨hr_1, h_7⟩
  · have h_4 : 0 ≤ a0.toInt := h_4
    have h_5 : a0.toInt < c9.toInt := h_5
    have h_6 : a0.toInt < 60 := h_6
    obtain rfl : r_1 = 1 := hr_1.trans (by decide +kernel)
    refine b_if_eq hx hb zl_1 (tgt := 43) dX8_standsAsPole_5 (by decide +kernel) (fun c_8 => by exfalso; omega) (fun c_8 => ?_)
    refine lv_aload_n hx hb dX8_standsAsPole_8 rfl (lv_at hl 0 rfl) ?_
    refine va_get (D := D) (ci := 8) (v := .ref k5) (C := RX8) (T := TX8) (N := 10) hx hb hT giX8 hown hK hP 3 rfl rfl 5 (by decide +kernel) (hT (Cond.fieldLink RX8 27 "DesertWire$Works" "downs" "[I") mw_45) (fun _ h9 => h9) rfl dX8_standsAsPole_9 ?_
    refine lv_iload_n hx hb dX8_standsAsPole_12 rfl (lv_at hl 1 rfl) ?_
    refine k_iald (v := (c5 a0.toNatClampNeg)) hx hb hK hP 2 0 rfl rfl (k_in (by omega) (by omega)) rfl dX8_standsAsPole_13 ?_
    refine lv_topi (fun v_9 ev_9 => ?_)
    have lo_v_9 := k_lo v_9
    have hi_v_9 := k_hi v_9
    have tv_9 : v_9.toInt = (c5 a0.toNatClampNeg).toInt := by rw [ev_9]
    refine b_if_ne hx hb rfl (tgt := 43) dX8_standsAsPole_14 (by decide +kernel) (fun c_10 => ?_) (fun c_10 => ?_)
    · refine lv_iconst (v := 0) hx hb dX8_standsAsPole_43 (by decide +kernel) ?_
      exact hRet () [3, 0, 1, 2] (by first | exact Or.inr (Or.inl ⟨rfl, (by omega), (by omega), (by omega), (by omega)⟩) | exact Or.inr (Or.inr (Or.inl ⟨rfl, (by omega), (by omega), (by omega), (by omega)⟩)) | exact Or.inr (Or.inr (Or.inr (Or.inl ⟨rfl, (by omega), (by omega), (by omega), (by omega), (by omega), (by omega)⟩))) | exact Or.inr (Or.inr (Or.inr (Or.inr (⟨rfl, (by omega)⟩))))) hP hD (by decide +kernel) rfl hS rfl dX8_standsAsPole_44
    · refine lv_aload_n hx hb dX8_standsAsPole_17 rfl (lv_at hl 0 rfl) ?_
      refine va_get (D := D) (ci := 8) (v := .ref k1) (C := RX8) (T := TX8) (N := 10) hx hb hT giX8 hown hK hP 3 rfl rfl 1 (by decide +kernel) (hT (Cond.fieldLink RX8 15 "DesertWire$Works" "miles" "[I") mw_41) (fun _ h9 => h9) rfl dX8_standsAsPole_18 ?_
      refine lv_iload_n hx hb dX8_standsAsPole_21 rfl (lv_at hl 1 rfl) ?_
      refine k_iald (v := (c1 a0.toNatClampNeg)) hx hb hK hP 1 0 rfl rfl (k_in (by omega) (by omega)) rfl dX8_standsAsPole_22 ?_
      refine lv_topi (fun v_11 ev_11 => ?_)
      have lo_v_11 := k_lo v_11
      have hi_v_11 := k_hi v_11
      have tv_11 : v_11.toInt = (c1 a0.toNatClampNeg).toInt := by rw [ev_11]
      refine lv_iload_n hx hb dX8_standsAsPole_23 rfl (lv_at hl 2 rfl) ?_
      refine b_icmp_ne hx hb rfl rfl (tgt := 43) dX8_standsAsPole_24 (by decide +kernel) (fun c_12 => ?_) (fun c_12 => ?_)
      · refine lv_iconst (v := 0) hx hb dX8_standsAsPole_43 (by decide +kernel) ?_
        exact hRet () [3, 0, 1, 2] (by first | exact Or.inr (Or.inl ⟨rfl, (by omega), (by omega), (by omega), (by omega)⟩) | exact Or.inr (Or.inr (Or.inl ⟨rfl, (by omega), (by omega), (by omega), (by omega)⟩)) | exact Or.inr (Or.inr (Or.inr (Or.inl ⟨rfl, (by omega), (by omega), (by omega), (by omega), (by omega), (by omega)⟩))) | exact Or.inr (Or.inr (Or.inr (Or.inr (⟨rfl, (by omega)⟩))))) hP hD (by decide +kernel) rfl hS rfl dX8_standsAsPole_44
      · refine lv_aload_n hx hb dX8_standsAsPole_27 rfl (lv_at hl 0 rfl) ?_
        refine va_get (D := D) (ci := 8) (v := .ref k0) (C := RX8) (T := TX8) (N := 10) hx hb hT giX8 hown hK hP 3 rfl rfl 0 (by decide +kernel) (hT (Cond.fieldLink RX8 9 "DesertWire$Works" "kinds" "[I") mw_40) (fun _ h9 => h9) rfl dX8_standsAsPole_28 ?_
        refine lv_iload_n hx hb dX8_standsAsPole_31 rfl (lv_at hl 1 rfl) ?_
        refine k_iald (v := (c0 a0.toNatClampNeg)) hx hb hK hP 0 0 rfl rfl (k_in (by omega) (by omega)) rfl dX8_standsAsPole_32 ?_
        refine lv_topi (fun v_13 ev_13 => ?_)
        have lo_v_13 := k_lo v_13
        have hi_v_13 := k_hi v_13
        have tv_13 : v_13.toInt = (c0 a0.toNatClampNeg).toInt := by rw [ev_13]
        refine kJi (wr := [(k0, .inl (cI, 60, .inl c0)), (k1, .inl (cI, 60, .inl c1)), (k5, .inl (cI, 60, .inl c5)), (k, .inr (8, [.ref k0, .ref k1, .ref k2, .ref k3, .ref k4, .ref k5, .ref k6, .ref k7, .ref k8, .int c9]))]) (va_runSN (As := [.int v_13]) (rest := []) ⟨hx, hb, hml, hown, hT⟩ (c_X10_isPoleD l D cI aK aV H.size v_13) ⟨va_cnB 1 hT (gW_in mw_375) rfl rfl rfl (hN _ mw_373) (hT _ mw_1) (by decide +kernel) ⟨Nat.le_of_ble_eq_true rfl, Nat.le_of_ble_eq_true rfl⟩, hT _ mw_374, trivial⟩ (kStatX hK hP hD hN hXS hS hA [] rfl (by decide +kernel)) rfl rfl hl.1 rfl (lv_room (Nat.le_of_ble_eq_true rfl)) dX8_standsAsPole_33 ⟨Nat.le_of_ble_eq_true rfl, Nat.le_of_ble_eq_true rfl⟩) hP hD hS hA [] [0, 1, 2, 3] rfl rfl (by decide +kernel) (by decide +kernel) ?_
        clear hP hD hS
        intro r_14 u_16 H locs w_15 hP hD hS
        replace hP : va_P D vwCl [(k0, .inl (cI, 60, .inl c0)), (k1, .inl (cI, 60, .inl c1)), (k5, .inl (cI, 60, .inl c5)), (k, .inr (8, [.ref k0, .ref k1, .ref k2, .ref k3, .ref k4, .ref k5, .ref k6, .ref k7, .ref k8, .int c9]))] H := hP
        replace hD : va_D A [(k0, .inl (cI, 60, .inl c0)), (k1, .inl (cI, 60, .inl c1)), (k5, .inl (cI, 60, .inl c5)), (k, .inr (8, [.ref k0, .ref k1, .ref k2, .ref k3, .ref k4, .ref k5, .ref k6, .ref k7, .ref k8, .int c9]))] := hD
        rcases w_15 with ⟨hr_14, h_17⟩ | ⟨hr_14, h_18, h_19, h_20⟩
        · have h_17 : v_13.toInt = 1 ∨ v_13.toInt = 2 ∨ v_13.toInt = 3 := h_17
          obtain rfl : r_14 = 1 := hr_14.trans (by decide +kernel)
          refine b_if_eq hx hb zl_1 (tgt := 43) dX8_standsAsPole_36 (by decide +kernel) (fun c_21 => by exfalso; omega) (fun c_21 => ?_)
          refine lv_iconst (v := 1) hx hb dX8_standsAsPole_39 (by decide +kernel) ?_
          refine lv_goto (tgt := 44) hx hb dX8_standsAsPole_40 (by decide +kernel) ?_
          exact hRet () [3, 0, 1, 2] (Or.inl ⟨rfl, (by omega), (by omega), (by omega), (by omega), (by omega), (by omega)⟩) hP hD (by decide +kernel) rfl hS rfl dX8_standsAsPole_44
        · have h_18 : v_13.toInt ≠ 1 := h_18
          have h_19 : v_13.toInt ≠ 2 := h_19
          have h_20 : v_13.toInt ≠ 3 := h_20
          obtain rfl : r_14 = 0 := hr_14.trans (by decide +kernel)
          refine b_if_eq hx hb zl_0 (tgt := 43) dX8_standsAsPole_36 (by decide +kernel) (fun c_22 => ?_) (fun c_22 => by exfalso; omega)
          refine lv_iconst (v := 0) hx hb dX8_standsAsPole_43 (by decide +kernel) ?_
          exact hRet () [3, 0, 1, 2] (by first | exact Or.inr (Or.inl ⟨rfl, (by omega), (by omega), (by omega), (by omega)⟩) | exact Or.inr (Or.inr (Or.inl ⟨rfl, (by omega), (by omega), (by omega), (by omega)⟩)) | exact Or.inr (Or.inr (Or.inr (Or.inl ⟨rfl, (by omega), (by omega), (by omega), (by omega), (by omega), (by omega)⟩))) | exact Or.inr (Or.inr (Or.inr (Or.inr (⟨rfl, (by omega)⟩))))) hP hD (by decide +kernel) rfl hS rfl dX8_standsAsPole_44
  · have h_7 : a0.toInt < 0 ∨ c9.toInt ≤ a0.toInt ∨ 60 ≤ a0.toInt := h_7
    obtain rfl : r_1 = 0 := hr_1.trans (by decide +kernel)
    refine b_if_eq hx hb zl_0 (tgt := 43) dX8_standsAsPole_5 (by decide +kernel) (fun c_23 => ?_) (fun c_23 => by exfalso; omega)
    refine lv_iconst (v := 0) hx hb dX8_standsAsPole_43 (by decide +kernel) ?_
    exact hRet () [3, 0, 1, 2] (by first | exact Or.inr (Or.inl ⟨rfl, (by omega), (by omega), (by omega), (by omega)⟩) | exact Or.inr (Or.inr (Or.inl ⟨rfl, (by omega), (by omega), (by omega), (by omega)⟩)) | exact Or.inr (Or.inr (Or.inr (Or.inl ⟨rfl, (by omega), (by omega), (by omega), (by omega), (by omega), (by omega)⟩))) | exact Or.inr (Or.inr (Or.inr (Or.inr (⟨rfl, (by omega)⟩))))) hP hD (by decide +kernel) rfl hS rfl dX8_standsAsPole_44

set_option maxHeartbeats 4000000 in
set_option maxRecDepth 100000 in
theorem c_X8_tallyD (l : Launch) (D : va_G) (cI : ClassId) (aK aV : Nat → Nat) (k k0 k1 k2 k3 k4 k5 k6 k7 k8 : Nat) (sz : Nat) (c9 : Int32) (c0 : Nat → Int32) (c1 : Nat → Int32) (c2 : Nat → Int32) (c6 : Nat → Int32) (c7 : Nat → Int32) (c8 : Nat → Int32) (a0 : Int32) (a1 : Int32) (pre0 : 0 ≤ a0.toInt) (pre1 : a0.toInt < c9.toInt) (pre2 : c9.toInt ≤ 60) (pre3 : 0 ≤ (c1 a0.toNatClampNeg).toInt) (pre4 : (c1 a0.toNatClampNeg).toInt ≤ 39) : Met l yX8_tally (gW yX8_tally cX8_tally 5 none) ({ frames := 2, cells := 0, slots := 0, locals := 42 } : Room) (kPreX D cI aK aV [.ref k, .int a0, .int a1] [(k, .inr (8, [.ref k0, .ref k1, .ref k2, .ref k3, .ref k4, .ref k5, .ref k6, .ref k7, .ref k8, .int c9])), (k0, .inl (cI, 60, .inl c0)), (k1, .inl (cI, 60, .inl c1)), (k2, .inl (cI, 60, .inl c2)), (k6, .inl (cI, 40, .inl c6)), (k7, .inl (cI, 40, .inl c7)), (k8, .inl (cI, 40, .inl c8))] sz) (va_Qv (fun (u : (Nat → Int32) × (Nat → Int32) × (Nat → Int32)) => u.1 = tlP (c0 a0.toNatClampNeg) c6 (c1 a0.toNatClampNeg) a1 ∧ u.2.1 = tlQ 4 (c0 a0.toNatClampNeg) c7 (c1 a0.toNatClampNeg) (a1 * c2 a0.toNatClampNeg) ∧ u.2.2 = tlQ 5 (c0 a0.toNatClampNeg) c8 (c1 a0.toNatClampNeg) a1) (fun u t => kWd D cI (va_A [(k, .inr (8, [.ref k0, .ref k1, .ref k2, .ref k3, .ref k4, .ref k5, .ref k6, .ref k7, .ref k8, .int c9])), (k0, .inl (cI, 60, .inl c0)), (k1, .inl (cI, 60, .inl c1)), (k2, .inl (cI, 60, .inl c2)), (k6, .inl (cI, 40, .inl c6)), (k7, .inl (cI, 40, .inl c7)), (k8, .inl (cI, 40, .inl c8))] sz) [(k, .inr (8, [.ref k0, .ref k1, .ref k2, .ref k3, .ref k4, .ref k5, .ref k6, .ref k7, .ref k8, .int c9])), (k0, .inl (cI, 60, .inl c0)), (k1, .inl (cI, 60, .inl c1)), (k2, .inl (cI, 60, .inl c2)), (k6, .inl (cI, 40, .inl u.1)), (k7, .inl (cI, 40, .inl u.2.1)), (k8, .inl (cI, 40, .inl u.2.2))] t) (va_A [(k, .inr (8, [.ref k0, .ref k1, .ref k2, .ref k3, .ref k4, .ref k5, .ref k6, .ref k7, .ref k8, .int c9])), (k0, .inl (cI, 60, .inl c0)), (k1, .inl (cI, 60, .inl c1)), (k2, .inl (cI, 60, .inl c2)), (k6, .inl (cI, 40, .inl c6)), (k7, .inl (cI, 40, .inl c7)), (k8, .inl (cI, 40, .inl c8))] sz)) 0 0 (va_A [(k, .inr (8, [.ref k0, .ref k1, .ref k2, .ref k3, .ref k4, .ref k5, .ref k6, .ref k7, .ref k8, .int c9])), (k0, .inl (cI, 60, .inl c0)), (k1, .inl (cI, 60, .inl c1)), (k2, .inl (cI, 60, .inl c2)), (k6, .inl (cI, 40, .inl c6)), (k7, .inl (cI, 40, .inl c7)), (k8, .inl (cI, 40, .inl c8))] sz) := by
  refine kMetVX (own := RX8) (by decide +kernel) rfl (Nat.le_of_ble_eq_true rfl) ?_
  intro p e s m args below meth c hx hb hT hown hname hml A Q hK hP hD hS hA hN hXS hRet ls hl
  have hl : lv_has ls 5 [(0, .ref k), (1, .int a0), (2, .int a1)] := hl
  have lo_a0 := k_lo a0
  have hi_a0 := k_hi a0
  have lo_a1 := k_lo a1
  have hi_a1 := k_hi a1
  have lo_c9 := k_lo c9
  have hi_c9 := k_hi c9
  refine lv_aload_n hx hb dX8_tally_0 rfl (lv_at hl 0 rfl) ?_
  refine lv_iload_n hx hb dX8_tally_1 rfl (lv_at hl 1 rfl) ?_
  refine kJi (wr := [(k0, .inl (cI, 60, .inl c0)), (k2, .inl (cI, 60, .inl c2)), (k6, .inl (cI, 40, .inl c6)), (k7, .inl (cI, 40, .inl c7)), (k8, .inl (cI, 40, .inl c8))]) (va_runV (As := [.int a0]) (rest := []) ⟨hx, hb, hml, hown, hT⟩ (c_X8_mileOfD l D cI aK aV k k0 k1 k2 k3 k4 k5 k6 k7 k8 s.heap.size c9 c1 a0) (cwV 1 hT (gV_in mw_367 mw_364 mw_365 mw_366 mw_3) rfl rfl rfl (by decide +kernel) ⟨Nat.le_of_ble_eq_true rfl, Nat.le_of_ble_eq_true rfl⟩) (kRecvX (q0 := 0) (ci := 8) hK hP hD hN hXS hS hA rfl rfl [0, 2] rfl (by decide +kernel)) rfl rfl hl.1 rfl (lv_room (Nat.le_of_ble_eq_true rfl)) dX8_tally_2 ⟨Nat.le_of_ble_eq_true rfl, Nat.le_of_ble_eq_true rfl⟩) hP hD hS hA [0, 2] [1, 3, 4, 5, 6] rfl rfl (by decide +kernel) (by decide +kernel) ?_
  clear hP hD hS
  intro r_1 u_3 H locs w_2 hP hD hS
  replace hP : va_P D vwCl [(k0, .inl (cI, 60, .inl c0)), (k2, .inl (cI, 60, .inl c2)), (k6, .inl (cI, 40, .inl c6)), (k7, .inl (cI, 40, .inl c7)), (k8, .inl (cI, 40, .inl c8)), (k, .inr (8, [.ref k0, .ref k1, .ref k2, .ref k3, .ref k4, .ref k5, .ref k6, .ref k7, .ref k8, .int c9])), (k1, .inl (cI, 60, .inl c1))] H := hP
  replace hD : va_D A [(k0, .inl (cI, 60, .inl c0)), (k2, .inl (cI, 60, .inl c2)), (k6, .inl (cI, 40, .inl c6)), (k7, .inl (cI, 40, .inl c7)), (k8, .inl (cI, 40, .inl c8)), (k, .inr (8, [.ref k0, .ref k1, .ref k2, .ref k3, .ref k4, .ref k5, .ref k6, .ref k7, .ref k8, .int c9])), (k1, .inl (cI, 60, .inl c1))] := hD
  rcases w_2 with ⟨h_4, h_5, h_6, h_7⟩ | ⟨hr_1, h_8⟩
  · have h_4 : 0 ≤ a0.toInt := h_4
    have h_5 : a0.toInt < c9.toInt := h_5
    have h_6 : a0.toInt ≤ 59 := h_6
    have h_7 : r_1 = c1 a0.toNatClampNeg := h_7
    have t_9 : r_1.toInt = (c1 a0.toNatClampNeg).toInt := by rw [h_7]
    have lo_r_1 := k_lo r_1
    have hi_r_1 := k_hi r_1
    refine lv_istore_n (lv' := [(3, .int r_1), (0, .ref k), (1, .int a0), (2, .int a1)]) hx hb dX8_tally_5 rfl hl (by decide +kernel) rfl ?_
    clear hl
    intro ls hl
    refine lv_aload_n hx hb dX8_tally_6 rfl (lv_at hl 1 rfl) ?_
    refine lv_iload_n hx hb dX8_tally_7 rfl (lv_at hl 2 rfl) ?_
    refine kJi (wr := [(k0, .inl (cI, 60, .inl c0)), (k2, .inl (cI, 60, .inl c2)), (k6, .inl (cI, 40, .inl c6)), (k7, .inl (cI, 40, .inl c7)), (k8, .inl (cI, 40, .inl c8)), (k1, .inl (cI, 60, .inl c1))]) (va_runV (As := [.int a0]) (rest := []) ⟨hx, hb, hml, hown, hT⟩ (c_X8_hasG l D cI aK aV k k0 k1 k2 k3 k4 k5 k6 k7 k8 H.size c9 a0) (cwV 1 hT (gV_in mw_371 mw_368 mw_369 mw_370 mw_3) rfl rfl rfl (by decide +kernel) ⟨Nat.le_of_ble_eq_true rfl, Nat.le_of_ble_eq_true rfl⟩) (kRecvX (q0 := 5) (ci := 8) hK hP hD hN hXS hS hA rfl rfl [5] rfl (by decide +kernel)) rfl rfl hl.1 rfl (lv_room (Nat.le_of_ble_eq_true rfl)) dX8_tally_8 ⟨Nat.le_of_ble_eq_true rfl, Nat.le_of_ble_eq_true rfl⟩) hP hD hS hA [5] [0, 1, 2, 3, 4, 6] rfl rfl (by decide +kernel) (by decide +kernel) ?_
    clear hP hD hS
    intro r_10 u_12 H locs w_11 hP hD hS
    replace hP : va_P D vwCl [(k0, .inl (cI, 60, .inl c0)), (k2, .inl (cI, 60, .inl c2)), (k6, .inl (cI, 40, .inl c6)), (k7, .inl (cI, 40, .inl c7)), (k8, .inl (cI, 40, .inl c8)), (k1, .inl (cI, 60, .inl c1)), (k, .inr (8, [.ref k0, .ref k1, .ref k2, .ref k3, .ref k4, .ref k5, .ref k6, .ref k7, .ref k8, .int c9]))] H := hP
    replace hD : va_D A [(k0, .inl (cI, 60, .inl c0)), (k2, .inl (cI, 60, .inl c2)), (k6, .inl (cI, 40, .inl c6)), (k7, .inl (cI, 40, .inl c7)), (k8, .inl (cI, 40, .inl c8)), (k1, .inl (cI, 60, .inl c1)), (k, .inr (8, [.ref k0, .ref k1, .ref k2, .ref k3, .ref k4, .ref k5, .ref k6, .ref k7, .ref k8, .int c9]))] := hD
    rcases w_11 with ⟨hr_10, h_13, h_14, h_15⟩ | ⟨hr_10, h_16⟩
    · have h_13 : 0 ≤ a0.toInt := h_13
      have h_14 : a0.toInt < c9.toInt := h_14
      have h_15 : a0.toInt < 60 := h_15
      obtain rfl : r_10 = 1 := hr_10.trans (by decide +kernel)
      refine b_if_eq hx hb zl_1 (tgt := 21) dX8_tally_11 (by decide +kernel) (fun c_17 => by exfalso; omega) (fun c_17 => ?_)
      refine lv_iload_n hx hb dX8_tally_14 rfl (lv_at hl 0 rfl) ?_
      refine kJi (wr := [(k0, .inl (cI, 60, .inl c0)), (k2, .inl (cI, 60, .inl c2)), (k6, .inl (cI, 40, .inl c6)), (k7, .inl (cI, 40, .inl c7)), (k8, .inl (cI, 40, .inl c8)), (k1, .inl (cI, 60, .inl c1)), (k, .inr (8, [.ref k0, .ref k1, .ref k2, .ref k3, .ref k4, .ref k5, .ref k6, .ref k7, .ref k8, .int c9]))]) (va_runSN (As := [.int r_1]) (rest := []) ⟨hx, hb, hml, hown, hT⟩ (c_X10_isMileG l D cI aK aV H.size r_1) ⟨va_cnB 1 hT (gW_in mw_346) rfl rfl rfl (hN _ mw_372) (hT _ mw_1) (by decide +kernel) ⟨Nat.le_of_ble_eq_true rfl, Nat.le_of_ble_eq_true rfl⟩, hT _ mw_345, trivial⟩ (kStatX hK hP hD hN hXS hS hA [] rfl (by decide +kernel)) rfl rfl hl.1 rfl (lv_room (Nat.le_of_ble_eq_true rfl)) dX8_tally_15 ⟨Nat.le_of_ble_eq_true rfl, Nat.le_of_ble_eq_true rfl⟩) hP hD hS hA [] [0, 1, 2, 3, 4, 5, 6] rfl rfl (by decide +kernel) (by decide +kernel) ?_
      clear hP hD hS
      intro r_18 u_20 H locs w_19 hP hD hS
      replace hP : va_P D vwCl [(k0, .inl (cI, 60, .inl c0)), (k2, .inl (cI, 60, .inl c2)), (k6, .inl (cI, 40, .inl c6)), (k7, .inl (cI, 40, .inl c7)), (k8, .inl (cI, 40, .inl c8)), (k1, .inl (cI, 60, .inl c1)), (k, .inr (8, [.ref k0, .ref k1, .ref k2, .ref k3, .ref k4, .ref k5, .ref k6, .ref k7, .ref k8, .int c9]))] H := hP
      replace hD : va_D A [(k0, .inl (cI, 60, .inl c0)), (k2, .inl (cI, 60, .inl c2)), (k6, .inl (cI, 40, .inl c6)), (k7, .inl (cI, 40, .inl c7)), (k8, .inl (cI, 40, .inl c8)), (k1, .inl (cI, 60, .inl c1)), (k, .inr (8, [.ref k0, .ref k1, .ref k2, .ref k3, .ref k4, .ref k5, .ref k6, .ref k7, .ref k8, .int c9]))] := hD
      rcases w_19 with ⟨hr_18, h_21, h_22⟩ | ⟨hr_18, h_23⟩
      · have h_21 : 0 ≤ r_1.toInt := h_21
        have h_22 : r_1.toInt ≤ 39 := h_22
        obtain rfl : r_18 = 1 := hr_18.trans (by decide +kernel)
        refine b_if_ne hx hb zl_1 (tgt := 22) dX8_tally_18 (by decide +kernel) (fun c_24 => ?_) (fun c_24 => by exfalso; omega)
        refine lv_aload_n hx hb dX8_tally_22 rfl (lv_at hl 1 rfl) ?_
        refine va_get (D := D) (ci := 8) (v := .ref k0) (C := RX8) (T := TX8) (N := 10) hx hb hT giX8 hown hK hP 6 rfl rfl 0 (by decide +kernel) (hT (Cond.fieldLink RX8 9 "DesertWire$Works" "kinds" "[I") mw_40) (fun _ h9 => h9) rfl dX8_tally_23 ?_
        refine lv_iload_n hx hb dX8_tally_26 rfl (lv_at hl 2 rfl) ?_
        refine k_iald (v := (c0 a0.toNatClampNeg)) hx hb hK hP 0 0 rfl rfl (k_in (by omega) (by omega)) rfl dX8_tally_27 ?_
        refine lv_topi (fun v_25 ev_25 => ?_)
        have lo_v_25 := k_lo v_25
        have hi_v_25 := k_hi v_25
        have tv_25 : v_25.toInt = (c0 a0.toNatClampNeg).toInt := by rw [ev_25]
        refine lv_istore (lv' := [(4, .int v_25), (3, .int r_1), (0, .ref k), (1, .int a0), (2, .int a1)]) hx hb dX8_tally_28 hl (by decide +kernel) rfl ?_
        clear hl
        intro ls hl
        refine lv_iload hx hb dX8_tally_30 (lv_at hl 0 rfl) ?_
        refine kJi (wr := [(k0, .inl (cI, 60, .inl c0)), (k2, .inl (cI, 60, .inl c2)), (k6, .inl (cI, 40, .inl c6)), (k7, .inl (cI, 40, .inl c7)), (k8, .inl (cI, 40, .inl c8)), (k1, .inl (cI, 60, .inl c1)), (k, .inr (8, [.ref k0, .ref k1, .ref k2, .ref k3, .ref k4, .ref k5, .ref k6, .ref k7, .ref k8, .int c9]))]) (va_runSN (As := [.int v_25]) (rest := []) ⟨hx, hb, hml, hown, hT⟩ (c_X10_isPoleD l D cI aK aV H.size v_25) ⟨va_cnB 1 hT (gW_in mw_375) rfl rfl rfl (hN _ mw_373) (hT _ mw_1) (by decide +kernel) ⟨Nat.le_of_ble_eq_true rfl, Nat.le_of_ble_eq_true rfl⟩, hT _ mw_374, trivial⟩ (kStatX hK hP hD hN hXS hS hA [] rfl (by decide +kernel)) rfl rfl hl.1 rfl (lv_room (Nat.le_of_ble_eq_true rfl)) dX8_tally_32 ⟨Nat.le_of_ble_eq_true rfl, Nat.le_of_ble_eq_true rfl⟩) hP hD hS hA [] [0, 1, 2, 3, 4, 5, 6] rfl rfl (by decide +kernel) (by decide +kernel) ?_
        clear hP hD hS
        intro r_26 u_28 H locs w_27 hP hD hS
        replace hP : va_P D vwCl [(k0, .inl (cI, 60, .inl c0)), (k2, .inl (cI, 60, .inl c2)), (k6, .inl (cI, 40, .inl c6)), (k7, .inl (cI, 40, .inl c7)), (k8, .inl (cI, 40, .inl c8)), (k1, .inl (cI, 60, .inl c1)), (k, .inr (8, [.ref k0, .ref k1, .ref k2, .ref k3, .ref k4, .ref k5, .ref k6, .ref k7, .ref k8, .int c9]))] H := hP
        replace hD : va_D A [(k0, .inl (cI, 60, .inl c0)), (k2, .inl (cI, 60, .inl c2)), (k6, .inl (cI, 40, .inl c6)), (k7, .inl (cI, 40, .inl c7)), (k8, .inl (cI, 40, .inl c8)), (k1, .inl (cI, 60, .inl c1)), (k, .inr (8, [.ref k0, .ref k1, .ref k2, .ref k3, .ref k4, .ref k5, .ref k6, .ref k7, .ref k8, .int c9]))] := hD
        rcases w_27 with ⟨hr_26, h_29⟩ | ⟨hr_26, h_30, h_31, h_32⟩
        · have h_29 : v_25.toInt = 1 ∨ v_25.toInt = 2 ∨ v_25.toInt = 3 := h_29
          obtain rfl : r_26 = 1 := hr_26.trans (by decide +kernel)
          refine b_if_eq hx hb zl_1 (tgt := 51) dX8_tally_35 (by decide +kernel) (fun c_33 => by exfalso; omega) (fun c_33 => ?_)
          refine lv_aload_n hx hb dX8_tally_38 rfl (lv_at hl 2 rfl) ?_
          refine va_get (D := D) (ci := 8) (v := .ref k6) (C := RX8) (T := TX8) (N := 10) hx hb hT giX8 hown hK hP 6 rfl rfl 6 (by decide +kernel) (hT (Cond.fieldLink RX8 30 "DesertWire$Works" "poles" "[I") mw_46) (fun _ h9 => h9) rfl dX8_tally_39 ?_
          refine lv_iload_n hx hb dX8_tally_42 rfl (lv_at hl 1 rfl) ?_
          refine lv_dup2_11 hx hb dX8_tally_43 rfl rfl ?_
          refine k_iald (v := (c6 r_1.toNatClampNeg)) hx hb hK hP 2 0 rfl rfl (k_in (by omega) (by omega)) rfl dX8_tally_44 ?_
          refine lv_topi (fun v_34 ev_34 => ?_)
          have lo_v_34 := k_lo v_34
          have hi_v_34 := k_hi v_34
          have tv_34 : v_34.toInt = (c6 r_1.toNatClampNeg).toInt := by rw [ev_34]
          refine lv_iload_n hx hb dX8_tally_45 rfl (lv_at hl 4 rfl) ?_
          refine lv_iadd hx hb dX8_tally_46 ?_
          refine lv_topi (fun v_35 ev_35 => ?_)
          have lo_v_35 := k_lo v_35
          have hi_v_35 := k_hi v_35
          refine va_iast hx hb hK hP hD hS 2 0 rfl rfl (k_in (by omega) (by omega)) dX8_tally_47 ?_
          clear hP hD hS
          intro H locs hP hD hS
          replace hP : va_P D vwCl [(k0, .inl (cI, 60, .inl c0)), (k2, .inl (cI, 60, .inl c2)), (k6, .inl (cI, 40, .inl (upd c6 r_1.toNatClampNeg v_35))), (k7, .inl (cI, 40, .inl c7)), (k8, .inl (cI, 40, .inl c8)), (k1, .inl (cI, 60, .inl c1)), (k, .inr (8, [.ref k0, .ref k1, .ref k2, .ref k3, .ref k4, .ref k5, .ref k6, .ref k7, .ref k8, .int c9]))] H := hP
          replace hD : va_D A [(k0, .inl (cI, 60, .inl c0)), (k2, .inl (cI, 60, .inl c2)), (k6, .inl (cI, 40, .inl (upd c6 r_1.toNatClampNeg v_35))), (k7, .inl (cI, 40, .inl c7)), (k8, .inl (cI, 40, .inl c8)), (k1, .inl (cI, 60, .inl c1)), (k, .inr (8, [.ref k0, .ref k1, .ref k2, .ref k3, .ref k4, .ref k5, .ref k6, .ref k7, .ref k8, .int c9]))] := hD
          obtain ⟨f_36, ef_36⟩ : ∃ g : Nat → Int32, g = upd c6 r_1.toNatClampNeg v_35 := ⟨_, rfl⟩
          rw [← ef_36] at hP hD
          refine lv_goto (tgt := 93) hx hb dX8_tally_48 (by decide +kernel) ?_
          exact hRet (f_36, c7, c8) [6, 0, 5, 1, 2, 3, 4] ⟨(by (try dsimp only); unfold tlP; rw [if_pos (by omega), ef_36, ev_35, ev_34, h_7]), (by (try dsimp only); unfold tlQ; (repeat (first | rw [if_pos (by omega)] | rw [if_neg (by omega)]))), (by (try dsimp only); unfold tlQ; (repeat (first | rw [if_pos (by omega)] | rw [if_neg (by omega)])))⟩ hP hD (by decide +kernel) rfl hS dX8_tally_93
        · have h_30 : v_25.toInt ≠ 1 := h_30
          have h_31 : v_25.toInt ≠ 2 := h_31
          have h_32 : v_25.toInt ≠ 3 := h_32
          obtain rfl : r_26 = 0 := hr_26.trans (by decide +kernel)
          refine b_if_eq hx hb zl_0 (tgt := 51) dX8_tally_35 (by decide +kernel) (fun c_37 => ?_) (fun c_37 => by exfalso; omega)
          refine lv_iload hx hb dX8_tally_51 (lv_at hl 0 rfl) ?_
          refine lv_iconst (v := 4) hx hb dX8_tally_53 (by decide +kernel) ?_
          refine b_icmp_ne hx hb rfl zl_4 (tgt := 77) dX8_tally_54 (by decide +kernel) (fun c_38 => ?_) (fun c_38 => ?_)
          · refine lv_iload hx hb dX8_tally_77 (lv_at hl 0 rfl) ?_
            refine lv_iconst (v := 5) hx hb dX8_tally_79 (by decide +kernel) ?_
            refine b_icmp_ne hx hb rfl zl_5 (tgt := 93) dX8_tally_80 (by decide +kernel) (fun c_39 => ?_) (fun c_39 => ?_)
            · exact hRet (c6, c7, c8) [6, 0, 5, 1, 2, 3, 4] ⟨(by (try dsimp only); unfold tlP; (repeat (first | rw [if_pos (by omega)] | rw [if_neg (by omega)]))), (by (try dsimp only); unfold tlQ; (repeat (first | rw [if_pos (by omega)] | rw [if_neg (by omega)]))), (by (try dsimp only); unfold tlQ; (repeat (first | rw [if_pos (by omega)] | rw [if_neg (by omega)])))⟩ hP hD (by decide +kernel) rfl hS dX8_tally_93
            · refine lv_aload_n hx hb dX8_tally_83 rfl (lv_at hl 2 rfl) ?_
              refine va_get (D := D) (ci := 8) (v := .ref k8) (C := RX8) (T := TX8) (N := 10) hx hb hT giX8 hown hK hP 6 rfl rfl 8 (by decide +kernel) (hT (Cond.fieldLink RX8 36 "DesertWire$Works" "depots" "[I") mw_48) (fun _ h9 => h9) rfl dX8_tally_84 ?_
              refine lv_iload_n hx hb dX8_tally_87 rfl (lv_at hl 1 rfl) ?_
              refine lv_dup2_11 hx hb dX8_tally_88 rfl rfl ?_
              refine k_iald (v := (c8 r_1.toNatClampNeg)) hx hb hK hP 4 0 rfl rfl (k_in (by omega) (by omega)) rfl dX8_tally_89 ?_
              refine lv_topi (fun v_40 ev_40 => ?_)
              have lo_v_40 := k_lo v_40
              have hi_v_40 := k_hi v_40
              have tv_40 : v_40.toInt = (c8 r_1.toNatClampNeg).toInt := by rw [ev_40]
              refine lv_iload_n hx hb dX8_tally_90 rfl (lv_at hl 4 rfl) ?_
              refine lv_iadd hx hb dX8_tally_91 ?_
              refine lv_topi (fun v_41 ev_41 => ?_)
              have lo_v_41 := k_lo v_41
              have hi_v_41 := k_hi v_41
              refine va_iast hx hb hK hP hD hS 4 0 rfl rfl (k_in (by omega) (by omega)) dX8_tally_92 ?_
              clear hP hD hS
              intro H locs hP hD hS
              replace hP : va_P D vwCl [(k0, .inl (cI, 60, .inl c0)), (k2, .inl (cI, 60, .inl c2)), (k6, .inl (cI, 40, .inl c6)), (k7, .inl (cI, 40, .inl c7)), (k8, .inl (cI, 40, .inl (upd c8 r_1.toNatClampNeg v_41))), (k1, .inl (cI, 60, .inl c1)), (k, .inr (8, [.ref k0, .ref k1, .ref k2, .ref k3, .ref k4, .ref k5, .ref k6, .ref k7, .ref k8, .int c9]))] H := hP
              replace hD : va_D A [(k0, .inl (cI, 60, .inl c0)), (k2, .inl (cI, 60, .inl c2)), (k6, .inl (cI, 40, .inl c6)), (k7, .inl (cI, 40, .inl c7)), (k8, .inl (cI, 40, .inl (upd c8 r_1.toNatClampNeg v_41))), (k1, .inl (cI, 60, .inl c1)), (k, .inr (8, [.ref k0, .ref k1, .ref k2, .ref k3, .ref k4, .ref k5, .ref k6, .ref k7, .ref k8, .int c9]))] := hD
              obtain ⟨f_42, ef_42⟩ : ∃ g : Nat → Int32, g = upd c8 r_1.toNatClampNeg v_41 := ⟨_, rfl⟩
              rw [← ef_42] at hP hD
              exact hRet (c6, c7, f_42) [6, 0, 5, 1, 2, 3, 4] ⟨(by (try dsimp only); unfold tlP; (repeat (first | rw [if_pos (by omega)] | rw [if_neg (by omega)]))), (by (try dsimp only); unfold tlQ; (repeat (first | rw [if_pos (by omega)] | rw [if_neg (by omega)]))), (by (try dsimp only); unfold tlQ; rw [if_pos (by omega), ef_42, ev_41, ev_40, h_7])⟩ hP hD (by decide +kernel) rfl hS dX8_tally_93
          · refine lv_aload_n hx hb dX8_tally_57 rfl (lv_at hl 2 rfl) ?_
            refine va_get (D := D) (ci := 8) (v := .ref k7) (C := RX8) (T := TX8) (N := 10) hx hb hT giX8 hown hK hP 6 rfl rfl 7 (by decide +kernel) (hT (Cond.fieldLink RX8 33 "DesertWire$Works" "drinks" "[I") mw_47) (fun _ h9 => h9) rfl dX8_tally_58 ?_
            refine lv_iload_n hx hb dX8_tally_61 rfl (lv_at hl 1 rfl) ?_
            refine lv_dup2_11 hx hb dX8_tally_62 rfl rfl ?_
            refine k_iald (v := (c7 r_1.toNatClampNeg)) hx hb hK hP 3 0 rfl rfl (k_in (by omega) (by omega)) rfl dX8_tally_63 ?_
            refine lv_topi (fun v_43 ev_43 => ?_)
            have lo_v_43 := k_lo v_43
            have hi_v_43 := k_hi v_43
            have tv_43 : v_43.toInt = (c7 r_1.toNatClampNeg).toInt := by rw [ev_43]
            refine lv_iload_n hx hb dX8_tally_64 rfl (lv_at hl 4 rfl) ?_
            refine lv_aload_n hx hb dX8_tally_65 rfl (lv_at hl 2 rfl) ?_
            refine va_get (D := D) (ci := 8) (v := .ref k2) (C := RX8) (T := TX8) (N := 10) hx hb hT giX8 hown hK hP 6 rfl rfl 2 (by decide +kernel) (hT (Cond.fieldLink RX8 18 "DesertWire$Works" "sizes" "[I") mw_42) (fun _ h9 => h9) rfl dX8_tally_66 ?_
            refine lv_iload_n hx hb dX8_tally_69 rfl (lv_at hl 3 rfl) ?_
            refine k_iald (v := (c2 a0.toNatClampNeg)) hx hb hK hP 1 0 rfl rfl (k_in (by omega) (by omega)) rfl dX8_tally_70 ?_
            refine lv_topi (fun v_44 ev_44 => ?_)
            have lo_v_44 := k_lo v_44
            have hi_v_44 := k_hi v_44
            have tv_44 : v_44.toInt = (c2 a0.toNatClampNeg).toInt := by rw [ev_44]
            refine lv_imul hx hb dX8_tally_71 ?_
            refine lv_topi (fun v_45 ev_45 => ?_)
            have lo_v_45 := k_lo v_45
            have hi_v_45 := k_hi v_45
            refine lv_iadd hx hb dX8_tally_72 ?_
            refine lv_topi (fun v_46 ev_46 => ?_)
            have lo_v_46 := k_lo v_46
            have hi_v_46 := k_hi v_46
            refine va_iast hx hb hK hP hD hS 3 0 rfl rfl (k_in (by omega) (by omega)) dX8_tally_73 ?_
            clear hP hD hS
            intro H locs hP hD hS
            replace hP : va_P D vwCl [(k0, .inl (cI, 60, .inl c0)), (k2, .inl (cI, 60, .inl c2)), (k6, .inl (cI, 40, .inl c6)), (k7, .inl (cI, 40, .inl (upd c7 r_1.toNatClampNeg v_46))), (k8, .inl (cI, 40, .inl c8)), (k1, .inl (cI, 60, .inl c1)), (k, .inr (8, [.ref k0, .ref k1, .ref k2, .ref k3, .ref k4, .ref k5, .ref k6, .ref k7, .ref k8, .int c9]))] H := hP
            replace hD : va_D A [(k0, .inl (cI, 60, .inl c0)), (k2, .inl (cI, 60, .inl c2)), (k6, .inl (cI, 40, .inl c6)), (k7, .inl (cI, 40, .inl (upd c7 r_1.toNatClampNeg v_46))), (k8, .inl (cI, 40, .inl c8)), (k1, .inl (cI, 60, .inl c1)), (k, .inr (8, [.ref k0, .ref k1, .ref k2, .ref k3, .ref k4, .ref k5, .ref k6, .ref k7, .ref k8, .int c9]))] := hD
            obtain ⟨f_47, ef_47⟩ : ∃ g : Nat → Int32, g = upd c7 r_1.toNatClampNeg v_46 := ⟨_, rfl⟩
            rw [← ef_47] at hP hD
            refine lv_goto (tgt := 93) hx hb dX8_tally_74 (by decide +kernel) ?_
            exact hRet (c6, f_47, c8) [6, 0, 5, 1, 2, 3, 4] ⟨(by (try dsimp only); unfold tlP; (repeat (first | rw [if_pos (by omega)] | rw [if_neg (by omega)]))), (by (try dsimp only); unfold tlQ; rw [if_pos (by omega), ef_47, ev_46, ev_43, ev_45, ev_44, h_7]), (by (try dsimp only); unfold tlQ; (repeat (first | rw [if_pos (by omega)] | rw [if_neg (by omega)])))⟩ hP hD (by decide +kernel) rfl hS dX8_tally_93
      · exfalso; omega
    · exfalso; omega
  · exfalso; omega

set_option maxHeartbeats 4000000 in
set_option maxRecDepth 100000 in
theorem c_X8_addD (l : Launch) (D : va_G) (cI : ClassId) (aK aV : Nat → Nat) (k k0 k1 k2 k3 k4 k5 k6 k7 k8 : Nat) (sz : Nat) (c9 : Int32) (c0 : Nat → Int32) (c1 : Nat → Int32) (c2 : Nat → Int32) (c3 : Nat → Int32) (c4 : Nat → Int32) (c5 : Nat → Int32) (c6 : Nat → Int32) (c7 : Nat → Int32) (c8 : Nat → Int32) (gx : Nat → Int32) (a0 : Int32) (a1 : Int32) (a2 : Int32) (a3 : Int32) (pre0 : WKR c0 c1 c2 c3 c4 c5 c6 c7 c8 c9 gx) (pre1 : c9.toInt < 60) (pre2 : 0 ≤ a0.toInt) (pre3 : a0.toInt ≤ 5) (pre4 : 0 ≤ a1.toInt) (pre5 : a1.toInt ≤ 39) : Met l yX8_add (gW yX8_add cX8_add 5 (some .int)) ({ frames := 3, cells := 0, slots := 0, locals := 66 } : Room) (kPreX D cI aK aV [.ref k, .int a0, .int a1, .int a2, .int a3] [(k, .inr (8, [.ref k0, .ref k1, .ref k2, .ref k3, .ref k4, .ref k5, .ref k6, .ref k7, .ref k8, .int c9])), (k0, .inl (cI, 60, .inl c0)), (k1, .inl (cI, 60, .inl c1)), (k2, .inl (cI, 60, .inl c2)), (k3, .inl (cI, 60, .inl c3)), (k4, .inl (cI, 60, .inl c4)), (k5, .inl (cI, 60, .inl c5)), (k6, .inl (cI, 40, .inl c6)), (k7, .inl (cI, 40, .inl c7)), (k8, .inl (cI, 40, .inl c8))] sz) (va_Qi (fun (r : Int32) (u : Int32 × (Nat → Int32) × (Nat → Int32) × (Nat → Int32) × (Nat → Int32) × (Nat → Int32) × (Nat → Int32) × (Nat → Int32) × (Nat → Int32) × (Nat → Int32)) => r = c9 ∧ r.toInt = c9.toInt ∧ u.1.toInt = c9.toInt + 1 ∧ WKR u.2.1 u.2.2.1 u.2.2.2.1 u.2.2.2.2.1 u.2.2.2.2.2.1 u.2.2.2.2.2.2.1 u.2.2.2.2.2.2.2.1 u.2.2.2.2.2.2.2.2.1 u.2.2.2.2.2.2.2.2.2 u.1 (comS gx a0 a1 a2 a3)) (fun u t => kWd D cI (va_A [(k, .inr (8, [.ref k0, .ref k1, .ref k2, .ref k3, .ref k4, .ref k5, .ref k6, .ref k7, .ref k8, .int c9])), (k0, .inl (cI, 60, .inl c0)), (k1, .inl (cI, 60, .inl c1)), (k2, .inl (cI, 60, .inl c2)), (k3, .inl (cI, 60, .inl c3)), (k4, .inl (cI, 60, .inl c4)), (k5, .inl (cI, 60, .inl c5)), (k6, .inl (cI, 40, .inl c6)), (k7, .inl (cI, 40, .inl c7)), (k8, .inl (cI, 40, .inl c8))] sz) [(k, .inr (8, [.ref k0, .ref k1, .ref k2, .ref k3, .ref k4, .ref k5, .ref k6, .ref k7, .ref k8, .int u.1])), (k0, .inl (cI, 60, .inl u.2.1)), (k1, .inl (cI, 60, .inl u.2.2.1)), (k2, .inl (cI, 60, .inl u.2.2.2.1)), (k3, .inl (cI, 60, .inl u.2.2.2.2.1)), (k4, .inl (cI, 60, .inl u.2.2.2.2.2.1)), (k5, .inl (cI, 60, .inl u.2.2.2.2.2.2.1)), (k6, .inl (cI, 40, .inl u.2.2.2.2.2.2.2.1)), (k7, .inl (cI, 40, .inl u.2.2.2.2.2.2.2.2.1)), (k8, .inl (cI, 40, .inl u.2.2.2.2.2.2.2.2.2))] t) (va_A [(k, .inr (8, [.ref k0, .ref k1, .ref k2, .ref k3, .ref k4, .ref k5, .ref k6, .ref k7, .ref k8, .int c9])), (k0, .inl (cI, 60, .inl c0)), (k1, .inl (cI, 60, .inl c1)), (k2, .inl (cI, 60, .inl c2)), (k3, .inl (cI, 60, .inl c3)), (k4, .inl (cI, 60, .inl c4)), (k5, .inl (cI, 60, .inl c5)), (k6, .inl (cI, 40, .inl c6)), (k7, .inl (cI, 40, .inl c7)), (k8, .inl (cI, 40, .inl c8))] sz)) 0 0 (va_A [(k, .inr (8, [.ref k0, .ref k1, .ref k2, .ref k3, .ref k4, .ref k5, .ref k6, .ref k7, .ref k8, .int c9])), (k0, .inl (cI, 60, .inl c0)), (k1, .inl (cI, 60, .inl c1)), (k2, .inl (cI, 60, .inl c2)), (k3, .inl (cI, 60, .inl c3)), (k4, .inl (cI, 60, .inl c4)), (k5, .inl (cI, 60, .inl c5)), (k6, .inl (cI, 40, .inl c6)), (k7, .inl (cI, 40, .inl c7)), (k8, .inl (cI, 40, .inl c8))] sz) := by
  refine kMetIX (own := RX8) (by decide +kernel) rfl (Nat.le_of_ble_eq_true rfl) ?_
  intro p e s m args below meth c hx hb hT hown hname hml A Q hK hP hD hS hA hN hXS hRet ls hl
  have hl : lv_has ls 5 [(0, .ref k), (1, .int a0), (2, .int a1), (3, .int a2), (4, .int a3)] := hl
  have lo_c9 := k_lo c9
  have hi_c9 := k_hi c9
  have pre0 : WKR c0 c1 c2 c3 c4 c5 c6 c7 c8 c9 gx := pre0
  have b_1 : 0 ≤ c9.toInt ∧ c9.toInt ≤ 60 := WKR.n0 pre0
  have t_2 : c9.toInt = (gx 1).toInt := WKR.nt pre0
  refine lv_aload_n hx hb dX8_add_0 rfl (lv_at hl 0 rfl) ?_
  refine kJi (wr := [(k0, .inl (cI, 60, .inl c0)), (k1, .inl (cI, 60, .inl c1)), (k2, .inl (cI, 60, .inl c2)), (k3, .inl (cI, 60, .inl c3)), (k4, .inl (cI, 60, .inl c4)), (k5, .inl (cI, 60, .inl c5)), (k6, .inl (cI, 40, .inl c6)), (k7, .inl (cI, 40, .inl c7)), (k8, .inl (cI, 40, .inl c8))]) (va_runV (As := []) (rest := []) ⟨hx, hb, hml, hown, hT⟩ (c_X8_hasRoomG l D cI aK aV k k0 k1 k2 k3 k4 k5 k6 k7 k8 s.heap.size c9) (cwV 0 hT (gV_in mw_354 mw_359 mw_352 mw_353 mw_3) rfl rfl rfl (by decide +kernel) ⟨Nat.le_of_ble_eq_true rfl, Nat.le_of_ble_eq_true rfl⟩) (kRecvX (q0 := 0) (ci := 8) hK hP hD hN hXS hS hA rfl rfl [0] rfl (by decide +kernel)) rfl rfl hl.1 rfl (lv_room (Nat.le_of_ble_eq_true rfl)) dX8_add_1 ⟨Nat.le_of_ble_eq_true rfl, Nat.le_of_ble_eq_true rfl⟩) hP hD hS hA [0] [1, 2, 3, 4, 5, 6, 7, 8, 9] rfl rfl (by decide +kernel) (by decide +kernel) ?_
  clear hP hD hS
  intro r_3 u_5 H locs w_4 hP hD hS
  replace hP : va_P D vwCl [(k0, .inl (cI, 60, .inl c0)), (k1, .inl (cI, 60, .inl c1)), (k2, .inl (cI, 60, .inl c2)), (k3, .inl (cI, 60, .inl c3)), (k4, .inl (cI, 60, .inl c4)), (k5, .inl (cI, 60, .inl c5)), (k6, .inl (cI, 40, .inl c6)), (k7, .inl (cI, 40, .inl c7)), (k8, .inl (cI, 40, .inl c8)), (k, .inr (8, [.ref k0, .ref k1, .ref k2, .ref k3, .ref k4, .ref k5, .ref k6, .ref k7, .ref k8, .int c9]))] H := hP
  replace hD : va_D A [(k0, .inl (cI, 60, .inl c0)), (k1, .inl (cI, 60, .inl c1)), (k2, .inl (cI, 60, .inl c2)), (k3, .inl (cI, 60, .inl c3)), (k4, .inl (cI, 60, .inl c4)), (k5, .inl (cI, 60, .inl c5)), (k6, .inl (cI, 40, .inl c6)), (k7, .inl (cI, 40, .inl c7)), (k8, .inl (cI, 40, .inl c8)), (k, .inr (8, [.ref k0, .ref k1, .ref k2, .ref k3, .ref k4, .ref k5, .ref k6, .ref k7, .ref k8, .int c9]))] := hD
  rcases w_4 with ⟨hr_3, h_6, h_7⟩ | ⟨hr_3, h_8⟩
  · have h_6 : 0 ≤ c9.toInt := h_6
    have h_7 : c9.toInt < 60 := h_7
    obtain rfl : r_3 = 1 := hr_3.trans (by decide +kernel)
    refine b_if_ne hx hb zl_1 (tgt := 9) dX8_add_4 (by decide +kernel) (fun c_9 => ?_) (fun c_9 => by exfalso; omega)
    refine lv_aload_n hx hb dX8_add_9 rfl (lv_at hl 0 rfl) ?_
    refine va_get (D := D) (ci := 8) (v := .ref k0) (C := RX8) (T := TX8) (N := 10) hx hb hT giX8 hown hK hP 9 rfl rfl 0 (by decide +kernel) (hT (Cond.fieldLink RX8 9 "DesertWire$Works" "kinds" "[I") mw_40) (fun _ h9 => h9) rfl dX8_add_10 ?_
    refine lv_aload_n hx hb dX8_add_13 rfl (lv_at hl 0 rfl) ?_
    refine va_get (D := D) (ci := 8) (v := .int c9) (C := RX8) (T := TX8) (N := 10) hx hb hT giX8 hown hK hP 9 rfl rfl 9 (by decide +kernel) (hT (Cond.fieldLink RX8 39 "DesertWire$Works" "number" "I") mw_49) (fun _ h9 => h9) rfl dX8_add_14 ?_
    refine lv_iload_n hx hb dX8_add_17 rfl (lv_at hl 1 rfl) ?_
    refine va_iast hx hb hK hP hD hS 0 0 rfl rfl (k_in (by omega) (by omega)) dX8_add_18 ?_
    clear hP hD hS
    intro H locs hP hD hS
    replace hP : va_P D vwCl [(k0, .inl (cI, 60, .inl (upd c0 c9.toNatClampNeg a0))), (k1, .inl (cI, 60, .inl c1)), (k2, .inl (cI, 60, .inl c2)), (k3, .inl (cI, 60, .inl c3)), (k4, .inl (cI, 60, .inl c4)), (k5, .inl (cI, 60, .inl c5)), (k6, .inl (cI, 40, .inl c6)), (k7, .inl (cI, 40, .inl c7)), (k8, .inl (cI, 40, .inl c8)), (k, .inr (8, [.ref k0, .ref k1, .ref k2, .ref k3, .ref k4, .ref k5, .ref k6, .ref k7, .ref k8, .int c9]))] H := hP
    replace hD : va_D A [(k0, .inl (cI, 60, .inl (upd c0 c9.toNatClampNeg a0))), (k1, .inl (cI, 60, .inl c1)), (k2, .inl (cI, 60, .inl c2)), (k3, .inl (cI, 60, .inl c3)), (k4, .inl (cI, 60, .inl c4)), (k5, .inl (cI, 60, .inl c5)), (k6, .inl (cI, 40, .inl c6)), (k7, .inl (cI, 40, .inl c7)), (k8, .inl (cI, 40, .inl c8)), (k, .inr (8, [.ref k0, .ref k1, .ref k2, .ref k3, .ref k4, .ref k5, .ref k6, .ref k7, .ref k8, .int c9]))] := hD
    obtain ⟨f_10, ef_10⟩ : ∃ g : Nat → Int32, g = upd c0 c9.toNatClampNeg a0 := ⟨_, rfl⟩
    rw [← ef_10] at hP hD
    refine lv_aload_n hx hb dX8_add_19 rfl (lv_at hl 0 rfl) ?_
    refine va_get (D := D) (ci := 8) (v := .ref k1) (C := RX8) (T := TX8) (N := 10) hx hb hT giX8 hown hK hP 9 rfl rfl 1 (by decide +kernel) (hT (Cond.fieldLink RX8 15 "DesertWire$Works" "miles" "[I") mw_41) (fun _ h9 => h9) rfl dX8_add_20 ?_
    refine lv_aload_n hx hb dX8_add_23 rfl (lv_at hl 0 rfl) ?_
    refine va_get (D := D) (ci := 8) (v := .int c9) (C := RX8) (T := TX8) (N := 10) hx hb hT giX8 hown hK hP 9 rfl rfl 9 (by decide +kernel) (hT (Cond.fieldLink RX8 39 "DesertWire$Works" "number" "I") mw_49) (fun _ h9 => h9) rfl dX8_add_24 ?_
    refine lv_iload_n hx hb dX8_add_27 rfl (lv_at hl 2 rfl) ?_
    refine va_iast hx hb hK hP hD hS 1 0 rfl rfl (k_in (by omega) (by omega)) dX8_add_28 ?_
    clear hP hD hS
    intro H locs hP hD hS
    replace hP : va_P D vwCl [(k0, .inl (cI, 60, .inl f_10)), (k1, .inl (cI, 60, .inl (upd c1 c9.toNatClampNeg a1))), (k2, .inl (cI, 60, .inl c2)), (k3, .inl (cI, 60, .inl c3)), (k4, .inl (cI, 60, .inl c4)), (k5, .inl (cI, 60, .inl c5)), (k6, .inl (cI, 40, .inl c6)), (k7, .inl (cI, 40, .inl c7)), (k8, .inl (cI, 40, .inl c8)), (k, .inr (8, [.ref k0, .ref k1, .ref k2, .ref k3, .ref k4, .ref k5, .ref k6, .ref k7, .ref k8, .int c9]))] H := hP
    replace hD : va_D A [(k0, .inl (cI, 60, .inl f_10)), (k1, .inl (cI, 60, .inl (upd c1 c9.toNatClampNeg a1))), (k2, .inl (cI, 60, .inl c2)), (k3, .inl (cI, 60, .inl c3)), (k4, .inl (cI, 60, .inl c4)), (k5, .inl (cI, 60, .inl c5)), (k6, .inl (cI, 40, .inl c6)), (k7, .inl (cI, 40, .inl c7)), (k8, .inl (cI, 40, .inl c8)), (k, .inr (8, [.ref k0, .ref k1, .ref k2, .ref k3, .ref k4, .ref k5, .ref k6, .ref k7, .ref k8, .int c9]))] := hD
    obtain ⟨f_11, ef_11⟩ : ∃ g : Nat → Int32, g = upd c1 c9.toNatClampNeg a1 := ⟨_, rfl⟩
    rw [← ef_11] at hP hD
    refine lv_aload_n hx hb dX8_add_29 rfl (lv_at hl 0 rfl) ?_
    refine va_get (D := D) (ci := 8) (v := .ref k2) (C := RX8) (T := TX8) (N := 10) hx hb hT giX8 hown hK hP 9 rfl rfl 2 (by decide +kernel) (hT (Cond.fieldLink RX8 18 "DesertWire$Works" "sizes" "[I") mw_42) (fun _ h9 => h9) rfl dX8_add_30 ?_
    refine lv_aload_n hx hb dX8_add_33 rfl (lv_at hl 0 rfl) ?_
    refine va_get (D := D) (ci := 8) (v := .int c9) (C := RX8) (T := TX8) (N := 10) hx hb hT giX8 hown hK hP 9 rfl rfl 9 (by decide +kernel) (hT (Cond.fieldLink RX8 39 "DesertWire$Works" "number" "I") mw_49) (fun _ h9 => h9) rfl dX8_add_34 ?_
    refine lv_iload_n hx hb dX8_add_37 rfl (lv_at hl 3 rfl) ?_
    refine va_iast hx hb hK hP hD hS 2 0 rfl rfl (k_in (by omega) (by omega)) dX8_add_38 ?_
    clear hP hD hS
    intro H locs hP hD hS
    replace hP : va_P D vwCl [(k0, .inl (cI, 60, .inl f_10)), (k1, .inl (cI, 60, .inl f_11)), (k2, .inl (cI, 60, .inl (upd c2 c9.toNatClampNeg a2))), (k3, .inl (cI, 60, .inl c3)), (k4, .inl (cI, 60, .inl c4)), (k5, .inl (cI, 60, .inl c5)), (k6, .inl (cI, 40, .inl c6)), (k7, .inl (cI, 40, .inl c7)), (k8, .inl (cI, 40, .inl c8)), (k, .inr (8, [.ref k0, .ref k1, .ref k2, .ref k3, .ref k4, .ref k5, .ref k6, .ref k7, .ref k8, .int c9]))] H := hP
    replace hD : va_D A [(k0, .inl (cI, 60, .inl f_10)), (k1, .inl (cI, 60, .inl f_11)), (k2, .inl (cI, 60, .inl (upd c2 c9.toNatClampNeg a2))), (k3, .inl (cI, 60, .inl c3)), (k4, .inl (cI, 60, .inl c4)), (k5, .inl (cI, 60, .inl c5)), (k6, .inl (cI, 40, .inl c6)), (k7, .inl (cI, 40, .inl c7)), (k8, .inl (cI, 40, .inl c8)), (k, .inr (8, [.ref k0, .ref k1, .ref k2, .ref k3, .ref k4, .ref k5, .ref k6, .ref k7, .ref k8, .int c9]))] := hD
    obtain ⟨f_12, ef_12⟩ : ∃ g : Nat → Int32, g = upd c2 c9.toNatClampNeg a2 := ⟨_, rfl⟩
    rw [← ef_12] at hP hD
    refine lv_aload_n hx hb dX8_add_39 rfl (lv_at hl 0 rfl) ?_
    refine va_get (D := D) (ci := 8) (v := .ref k3) (C := RX8) (T := TX8) (N := 10) hx hb hT giX8 hown hK hP 9 rfl rfl 3 (by decide +kernel) (hT (Cond.fieldLink RX8 21 "DesertWire$Works" "sinces" "[I") mw_43) (fun _ h9 => h9) rfl dX8_add_40 ?_
    refine lv_aload_n hx hb dX8_add_43 rfl (lv_at hl 0 rfl) ?_
    refine va_get (D := D) (ci := 8) (v := .int c9) (C := RX8) (T := TX8) (N := 10) hx hb hT giX8 hown hK hP 9 rfl rfl 9 (by decide +kernel) (hT (Cond.fieldLink RX8 39 "DesertWire$Works" "number" "I") mw_49) (fun _ h9 => h9) rfl dX8_add_44 ?_
    refine lv_iload hx hb dX8_add_47 (lv_at hl 4 rfl) ?_
    refine va_iast hx hb hK hP hD hS 3 0 rfl rfl (k_in (by omega) (by omega)) dX8_add_49 ?_
    clear hP hD hS
    intro H locs hP hD hS
    replace hP : va_P D vwCl [(k0, .inl (cI, 60, .inl f_10)), (k1, .inl (cI, 60, .inl f_11)), (k2, .inl (cI, 60, .inl f_12)), (k3, .inl (cI, 60, .inl (upd c3 c9.toNatClampNeg a3))), (k4, .inl (cI, 60, .inl c4)), (k5, .inl (cI, 60, .inl c5)), (k6, .inl (cI, 40, .inl c6)), (k7, .inl (cI, 40, .inl c7)), (k8, .inl (cI, 40, .inl c8)), (k, .inr (8, [.ref k0, .ref k1, .ref k2, .ref k3, .ref k4, .ref k5, .ref k6, .ref k7, .ref k8, .int c9]))] H := hP
    replace hD : va_D A [(k0, .inl (cI, 60, .inl f_10)), (k1, .inl (cI, 60, .inl f_11)), (k2, .inl (cI, 60, .inl f_12)), (k3, .inl (cI, 60, .inl (upd c3 c9.toNatClampNeg a3))), (k4, .inl (cI, 60, .inl c4)), (k5, .inl (cI, 60, .inl c5)), (k6, .inl (cI, 40, .inl c6)), (k7, .inl (cI, 40, .inl c7)), (k8, .inl (cI, 40, .inl c8)), (k, .inr (8, [.ref k0, .ref k1, .ref k2, .ref k3, .ref k4, .ref k5, .ref k6, .ref k7, .ref k8, .int c9]))] := hD
    obtain ⟨f_13, ef_13⟩ : ∃ g : Nat → Int32, g = upd c3 c9.toNatClampNeg a3 := ⟨_, rfl⟩
    rw [← ef_13] at hP hD
    refine lv_aload_n hx hb dX8_add_50 rfl (lv_at hl 0 rfl) ?_
    refine va_get (D := D) (ci := 8) (v := .ref k4) (C := RX8) (T := TX8) (N := 10) hx hb hT giX8 hown hK hP 9 rfl rfl 4 (by decide +kernel) (hT (Cond.fieldLink RX8 24 "DesertWire$Works" "foods" "[I") mw_44) (fun _ h9 => h9) rfl dX8_add_51 ?_
    refine lv_aload_n hx hb dX8_add_54 rfl (lv_at hl 0 rfl) ?_
    refine va_get (D := D) (ci := 8) (v := .int c9) (C := RX8) (T := TX8) (N := 10) hx hb hT giX8 hown hK hP 9 rfl rfl 9 (by decide +kernel) (hT (Cond.fieldLink RX8 39 "DesertWire$Works" "number" "I") mw_49) (fun _ h9 => h9) rfl dX8_add_55 ?_
    refine lv_iconst (v := 0) hx hb dX8_add_58 (by decide +kernel) ?_
    refine va_iast hx hb hK hP hD hS 4 0 rfl rfl (k_in (by omega) (by omega)) dX8_add_59 ?_
    clear hP hD hS
    intro H locs hP hD hS
    replace hP : va_P D vwCl [(k0, .inl (cI, 60, .inl f_10)), (k1, .inl (cI, 60, .inl f_11)), (k2, .inl (cI, 60, .inl f_12)), (k3, .inl (cI, 60, .inl f_13)), (k4, .inl (cI, 60, .inl (upd c4 c9.toNatClampNeg 0))), (k5, .inl (cI, 60, .inl c5)), (k6, .inl (cI, 40, .inl c6)), (k7, .inl (cI, 40, .inl c7)), (k8, .inl (cI, 40, .inl c8)), (k, .inr (8, [.ref k0, .ref k1, .ref k2, .ref k3, .ref k4, .ref k5, .ref k6, .ref k7, .ref k8, .int c9]))] H := hP
    replace hD : va_D A [(k0, .inl (cI, 60, .inl f_10)), (k1, .inl (cI, 60, .inl f_11)), (k2, .inl (cI, 60, .inl f_12)), (k3, .inl (cI, 60, .inl f_13)), (k4, .inl (cI, 60, .inl (upd c4 c9.toNatClampNeg 0))), (k5, .inl (cI, 60, .inl c5)), (k6, .inl (cI, 40, .inl c6)), (k7, .inl (cI, 40, .inl c7)), (k8, .inl (cI, 40, .inl c8)), (k, .inr (8, [.ref k0, .ref k1, .ref k2, .ref k3, .ref k4, .ref k5, .ref k6, .ref k7, .ref k8, .int c9]))] := hD
    obtain ⟨f_14, ef_14⟩ : ∃ g : Nat → Int32, g = upd c4 c9.toNatClampNeg 0 := ⟨_, rfl⟩
    rw [← ef_14] at hP hD
    refine lv_aload_n hx hb dX8_add_60 rfl (lv_at hl 0 rfl) ?_
    refine va_get (D := D) (ci := 8) (v := .ref k5) (C := RX8) (T := TX8) (N := 10) hx hb hT giX8 hown hK hP 9 rfl rfl 5 (by decide +kernel) (hT (Cond.fieldLink RX8 27 "DesertWire$Works" "downs" "[I") mw_45) (fun _ h9 => h9) rfl dX8_add_61 ?_
    refine lv_aload_n hx hb dX8_add_64 rfl (lv_at hl 0 rfl) ?_
    refine va_get (D := D) (ci := 8) (v := .int c9) (C := RX8) (T := TX8) (N := 10) hx hb hT giX8 hown hK hP 9 rfl rfl 9 (by decide +kernel) (hT (Cond.fieldLink RX8 39 "DesertWire$Works" "number" "I") mw_49) (fun _ h9 => h9) rfl dX8_add_65 ?_
    refine lv_iconst (v := 0) hx hb dX8_add_68 (by decide +kernel) ?_
    refine va_iast hx hb hK hP hD hS 5 0 rfl rfl (k_in (by omega) (by omega)) dX8_add_69 ?_
    clear hP hD hS
    intro H locs hP hD hS
    replace hP : va_P D vwCl [(k0, .inl (cI, 60, .inl f_10)), (k1, .inl (cI, 60, .inl f_11)), (k2, .inl (cI, 60, .inl f_12)), (k3, .inl (cI, 60, .inl f_13)), (k4, .inl (cI, 60, .inl f_14)), (k5, .inl (cI, 60, .inl (upd c5 c9.toNatClampNeg 0))), (k6, .inl (cI, 40, .inl c6)), (k7, .inl (cI, 40, .inl c7)), (k8, .inl (cI, 40, .inl c8)), (k, .inr (8, [.ref k0, .ref k1, .ref k2, .ref k3, .ref k4, .ref k5, .ref k6, .ref k7, .ref k8, .int c9]))] H := hP
    replace hD : va_D A [(k0, .inl (cI, 60, .inl f_10)), (k1, .inl (cI, 60, .inl f_11)), (k2, .inl (cI, 60, .inl f_12)), (k3, .inl (cI, 60, .inl f_13)), (k4, .inl (cI, 60, .inl f_14)), (k5, .inl (cI, 60, .inl (upd c5 c9.toNatClampNeg 0))), (k6, .inl (cI, 40, .inl c6)), (k7, .inl (cI, 40, .inl c7)), (k8, .inl (cI, 40, .inl c8)), (k, .inr (8, [.ref k0, .ref k1, .ref k2, .ref k3, .ref k4, .ref k5, .ref k6, .ref k7, .ref k8, .int c9]))] := hD
    obtain ⟨f_15, ef_15⟩ : ∃ g : Nat → Int32, g = upd c5 c9.toNatClampNeg 0 := ⟨_, rfl⟩
    rw [← ef_15] at hP hD
    refine lv_aload_n hx hb dX8_add_70 rfl (lv_at hl 0 rfl) ?_
    refine lv_dup hx hb dX8_add_71 rfl ?_
    refine va_get (D := D) (ci := 8) (v := .int c9) (C := RX8) (T := TX8) (N := 10) hx hb hT giX8 hown hK hP 9 rfl rfl 9 (by decide +kernel) (hT (Cond.fieldLink RX8 39 "DesertWire$Works" "number" "I") mw_49) (fun _ h9 => h9) rfl dX8_add_72 ?_
    refine lv_iconst (v := 1) hx hb dX8_add_75 (by decide +kernel) ?_
    refine lv_iadd hx hb dX8_add_76 ?_
    refine lv_topi (fun v_16 ev_16 => ?_)
    have tv_16 : v_16.toInt = c9.toInt + 1 := by rw [ev_16]; exact k_addv rfl zl_1 (by omega) (by omega)
    refine va_put (D := D) (ci := 8) (v := .int v_16) (ty := .int) (C := RX8) (T := TX8) (N := 10) hx hb hT giX8 tyX8 tyX8_ok nmX8 hown hK hP hD hS 9 rfl rfl 9 (by decide +kernel) (hT (Cond.fieldLink RX8 39 "DesertWire$Works" "number" "I") mw_49) (fun _ h9 => h9) rfl (by decide +kernel) rfl rfl (Nat.le_of_ble_eq_true rfl) dX8_add_77 ?_
    clear hP hD hS
    intro H locs hP hD hS
    replace hP : va_P D vwCl [(k0, .inl (cI, 60, .inl f_10)), (k1, .inl (cI, 60, .inl f_11)), (k2, .inl (cI, 60, .inl f_12)), (k3, .inl (cI, 60, .inl f_13)), (k4, .inl (cI, 60, .inl f_14)), (k5, .inl (cI, 60, .inl f_15)), (k6, .inl (cI, 40, .inl c6)), (k7, .inl (cI, 40, .inl c7)), (k8, .inl (cI, 40, .inl c8)), (k, .inr (8, [.ref k0, .ref k1, .ref k2, .ref k3, .ref k4, .ref k5, .ref k6, .ref k7, .ref k8, .int v_16]))] H := hP
    replace hD : va_D A [(k0, .inl (cI, 60, .inl f_10)), (k1, .inl (cI, 60, .inl f_11)), (k2, .inl (cI, 60, .inl f_12)), (k3, .inl (cI, 60, .inl f_13)), (k4, .inl (cI, 60, .inl f_14)), (k5, .inl (cI, 60, .inl f_15)), (k6, .inl (cI, 40, .inl c6)), (k7, .inl (cI, 40, .inl c7)), (k8, .inl (cI, 40, .inl c8)), (k, .inr (8, [.ref k0, .ref k1, .ref k2, .ref k3, .ref k4, .ref k5, .ref k6, .ref k7, .ref k8, .int v_16]))] := hD
    refine lv_aload_n hx hb dX8_add_80 rfl (lv_at hl 0 rfl) ?_
    refine lv_aload_n hx hb dX8_add_81 rfl (lv_at hl 0 rfl) ?_
    refine va_get (D := D) (ci := 8) (v := .int v_16) (C := RX8) (T := TX8) (N := 10) hx hb hT giX8 hown hK hP 9 rfl rfl 9 (by decide +kernel) (hT (Cond.fieldLink RX8 39 "DesertWire$Works" "number" "I") mw_49) (fun _ h9 => h9) rfl dX8_add_82 ?_
    refine lv_iconst (v := 1) hx hb dX8_add_85 (by decide +kernel) ?_
    refine lv_isub hx hb dX8_add_86 ?_
    refine lv_topi (fun v_17 ev_17 => ?_)
    have tv_17 : v_17.toInt = v_16.toInt - 1 := by rw [ev_17]; exact k_subv rfl zl_1 (by omega) (by omega)
    refine lv_iconst (v := 1) hx hb dX8_add_87 (by decide +kernel) ?_
    refine kJv (wr := [(k3, .inl (cI, 60, .inl f_13)), (k4, .inl (cI, 60, .inl f_14)), (k5, .inl (cI, 60, .inl f_15))]) (va_runV (As := [.int v_17, .int 1]) (rest := []) ⟨hx, hb, hml, hown, hT⟩ (c_X8_tallyD l D cI aK aV k k0 k1 k2 k3 k4 k5 k6 k7 k8 H.size v_16 f_10 f_11 f_12 c6 c7 c8 v_17 1 (by first | omega | (simp only [zl_1]; first | done | omega) | decide | assumption | rfl) (by first | omega | (simp only [zl_1]; first | done | omega) | decide | assumption | rfl) (by first | omega | (simp only [zl_1]; first | done | omega) | decide | assumption | rfl) (by rw [up_rd ef_11 (by omega)]; omega) (by rw [up_rd ef_11 (by omega)]; omega)) (cwV 2 hT (gV_in mw_363 mw_360 mw_362 mw_p1_1 mw_3) rfl rfl rfl (by decide +kernel) ⟨Nat.le_of_ble_eq_true rfl, Nat.le_of_ble_eq_true rfl⟩) (kRecvX (q0 := 9) (ci := 8) hK hP hD hN hXS hS hA rfl rfl [9, 0, 1, 2, 6, 7, 8] rfl (by decide +kernel)) rfl rfl hl.1 rfl (lv_room (Nat.le_of_ble_eq_true rfl)) dX8_add_88 ⟨Nat.le_of_ble_eq_true rfl, Nat.le_of_ble_eq_true rfl⟩) hP hD hS hA [9, 0, 1, 2, 6, 7, 8] [3, 4, 5] rfl rfl (by decide +kernel) (by decide +kernel) ?_
    clear hP hD hS
    intro u_23 H locs w_19 hP hD hS
    obtain ⟨sc6_20, sc7_21, sc8_22⟩ := u_23
    replace hP : va_P D vwCl [(k3, .inl (cI, 60, .inl f_13)), (k4, .inl (cI, 60, .inl f_14)), (k5, .inl (cI, 60, .inl f_15)), (k, .inr (8, [.ref k0, .ref k1, .ref k2, .ref k3, .ref k4, .ref k5, .ref k6, .ref k7, .ref k8, .int v_16])), (k0, .inl (cI, 60, .inl f_10)), (k1, .inl (cI, 60, .inl f_11)), (k2, .inl (cI, 60, .inl f_12)), (k6, .inl (cI, 40, .inl sc6_20)), (k7, .inl (cI, 40, .inl sc7_21)), (k8, .inl (cI, 40, .inl sc8_22))] H := hP
    replace hD : va_D A [(k3, .inl (cI, 60, .inl f_13)), (k4, .inl (cI, 60, .inl f_14)), (k5, .inl (cI, 60, .inl f_15)), (k, .inr (8, [.ref k0, .ref k1, .ref k2, .ref k3, .ref k4, .ref k5, .ref k6, .ref k7, .ref k8, .int v_16])), (k0, .inl (cI, 60, .inl f_10)), (k1, .inl (cI, 60, .inl f_11)), (k2, .inl (cI, 60, .inl f_12)), (k6, .inl (cI, 40, .inl sc6_20)), (k7, .inl (cI, 40, .inl sc7_21)), (k8, .inl (cI, 40, .inl sc8_22))] := hD
    obtain ⟨h_24, h_25, h_26⟩ := w_19
    have h_24 : sc6_20 = tlP (f_10 v_17.toNatClampNeg) c6 (f_11 v_17.toNatClampNeg) 1 := h_24
    have h_25 : sc7_21 = tlQ 4 (f_10 v_17.toNatClampNeg) c7 (f_11 v_17.toNatClampNeg) (1 * f_12 v_17.toNatClampNeg) := h_25
    have h_26 : sc8_22 = tlQ 5 (f_10 v_17.toNatClampNeg) c8 (f_11 v_17.toNatClampNeg) 1 := h_26
    refine lv_aload_n hx hb dX8_add_91 rfl (lv_at hl 0 rfl) ?_
    refine va_get (D := D) (ci := 8) (v := .int v_16) (C := RX8) (T := TX8) (N := 10) hx hb hT giX8 hown hK hP 3 rfl rfl 9 (by decide +kernel) (hT (Cond.fieldLink RX8 39 "DesertWire$Works" "number" "I") mw_49) (fun _ h9 => h9) rfl dX8_add_92 ?_
    refine lv_iconst (v := 1) hx hb dX8_add_95 (by decide +kernel) ?_
    refine lv_isub hx hb dX8_add_96 ?_
    refine lv_topi (fun v_27 ev_27 => ?_)
    have tv_27 : v_27.toInt = v_16.toInt - 1 := by rw [ev_27]; exact k_subv rfl zl_1 (by omega) (by omega)
    exact hRet (v_16, f_10, f_11, f_12, f_13, f_14, f_15, sc6_20, sc7_21, sc8_22) [3, 4, 5, 6, 0, 1, 2, 7, 8, 9] ⟨(k_inj (by omega)), (by first | omega | decide | assumption | rfl | (dsimp only; first | omega)), (by first | omega | decide | assumption | rfl | (dsimp only; first | omega)), (WKR.add pre0 (by omega) ⟨by omega, by omega⟩ ⟨by omega, by omega⟩ ef_10 ef_11 ef_12 ef_13 ef_14 ef_15 (Eq.trans h_24 (by rw [up_rd ef_10 (by omega), up_rd ef_11 (by omega)])) (Eq.trans h_25 (by rw [up_rd ef_10 (by omega), up_rd ef_11 (by omega), up_rd ef_12 (by omega)])) (Eq.trans h_26 (by rw [up_rd ef_10 (by omega), up_rd ef_11 (by omega)])) ev_16)⟩ hP hD (by decide +kernel) rfl hS rfl dX8_add_97
  · exfalso; omega

set_option maxHeartbeats 4000000 in
set_option maxRecDepth 100000 in
theorem c_X8_bringDownD (l : Launch) (D : va_G) (cI : ClassId) (aK aV : Nat → Nat) (k k0 k1 k2 k3 k4 k5 k6 k7 k8 : Nat) (sz : Nat) (c9 : Int32) (c0 : Nat → Int32) (c1 : Nat → Int32) (c2 : Nat → Int32) (c5 : Nat → Int32) (c6 : Nat → Int32) (c7 : Nat → Int32) (c8 : Nat → Int32) (c3 : Nat → Int32) (c4 : Nat → Int32) (gx : Nat → Int32) (a0 : Int32) (pre0 : WKR c0 c1 c2 c3 c4 c5 c6 c7 c8 c9 gx) (pre1 : SB gx) (pre2 : 0 ≤ a0.toInt) (pre3 : a0.toInt < c9.toInt) : Met l yX8_bringDown (gW yX8_bringDown cX8_bringDown 2 none) ({ frames := 3, cells := 0, slots := 0, locals := 66 } : Room) (kPreX D cI aK aV [.ref k, .int a0] [(k, .inr (8, [.ref k0, .ref k1, .ref k2, .ref k3, .ref k4, .ref k5, .ref k6, .ref k7, .ref k8, .int c9])), (k0, .inl (cI, 60, .inl c0)), (k1, .inl (cI, 60, .inl c1)), (k2, .inl (cI, 60, .inl c2)), (k5, .inl (cI, 60, .inl c5)), (k6, .inl (cI, 40, .inl c6)), (k7, .inl (cI, 40, .inl c7)), (k8, .inl (cI, 40, .inl c8))] sz) (va_Qv (fun (u : (Nat → Int32) × (Nat → Int32) × (Nat → Int32) × (Nat → Int32)) => WKR c0 c1 c2 c3 c4 u.1 u.2.1 u.2.2.1 u.2.2.2 c9 (dnS gx a0)) (fun u t => kWd D cI (va_A [(k, .inr (8, [.ref k0, .ref k1, .ref k2, .ref k3, .ref k4, .ref k5, .ref k6, .ref k7, .ref k8, .int c9])), (k0, .inl (cI, 60, .inl c0)), (k1, .inl (cI, 60, .inl c1)), (k2, .inl (cI, 60, .inl c2)), (k5, .inl (cI, 60, .inl c5)), (k6, .inl (cI, 40, .inl c6)), (k7, .inl (cI, 40, .inl c7)), (k8, .inl (cI, 40, .inl c8))] sz) [(k, .inr (8, [.ref k0, .ref k1, .ref k2, .ref k3, .ref k4, .ref k5, .ref k6, .ref k7, .ref k8, .int c9])), (k0, .inl (cI, 60, .inl c0)), (k1, .inl (cI, 60, .inl c1)), (k2, .inl (cI, 60, .inl c2)), (k5, .inl (cI, 60, .inl u.1)), (k6, .inl (cI, 40, .inl u.2.1)), (k7, .inl (cI, 40, .inl u.2.2.1)), (k8, .inl (cI, 40, .inl u.2.2.2))] t) (va_A [(k, .inr (8, [.ref k0, .ref k1, .ref k2, .ref k3, .ref k4, .ref k5, .ref k6, .ref k7, .ref k8, .int c9])), (k0, .inl (cI, 60, .inl c0)), (k1, .inl (cI, 60, .inl c1)), (k2, .inl (cI, 60, .inl c2)), (k5, .inl (cI, 60, .inl c5)), (k6, .inl (cI, 40, .inl c6)), (k7, .inl (cI, 40, .inl c7)), (k8, .inl (cI, 40, .inl c8))] sz)) 0 0 (va_A [(k, .inr (8, [.ref k0, .ref k1, .ref k2, .ref k3, .ref k4, .ref k5, .ref k6, .ref k7, .ref k8, .int c9])), (k0, .inl (cI, 60, .inl c0)), (k1, .inl (cI, 60, .inl c1)), (k2, .inl (cI, 60, .inl c2)), (k5, .inl (cI, 60, .inl c5)), (k6, .inl (cI, 40, .inl c6)), (k7, .inl (cI, 40, .inl c7)), (k8, .inl (cI, 40, .inl c8))] sz) := by
  refine kMetVX (own := RX8) (by decide +kernel) rfl (Nat.le_of_ble_eq_true rfl) ?_
  intro p e s m args below meth c hx hb hT hown hname hml A Q hK hP hD hS hA hN hXS hRet ls hl
  have hl : lv_has ls 2 [(0, .ref k), (1, .int a0)] := hl
  have lo_a0 := k_lo a0
  have hi_a0 := k_hi a0
  have lo_c9 := k_lo c9
  have hi_c9 := k_hi c9
  have hn9 := WKR.n0 pre0
  have hm1 : 0 ≤ (c1 a0.toNatClampNeg).toInt ∧ (c1 a0.toNatClampNeg).toInt ≤ 39 := by rw [WKR.r1 pre0 (by omega) (by omega)]; exact SB.w1 pre1 (by omega) (by omega)
  have pre0 : WKR c0 c1 c2 c3 c4 c5 c6 c7 c8 c9 gx := pre0
  have b_1 : 0 ≤ c9.toInt ∧ c9.toInt ≤ 60 := WKR.n0 pre0
  have t_2 : c9.toInt = (gx 1).toInt := WKR.nt pre0
  have pre1 : SB gx := pre1
  refine lv_aload_n hx hb dX8_bringDown_0 rfl (lv_at hl 0 rfl) ?_
  refine lv_iload_n hx hb dX8_bringDown_1 rfl (lv_at hl 1 rfl) ?_
  refine kJi (wr := [(k0, .inl (cI, 60, .inl c0)), (k1, .inl (cI, 60, .inl c1)), (k2, .inl (cI, 60, .inl c2)), (k5, .inl (cI, 60, .inl c5)), (k6, .inl (cI, 40, .inl c6)), (k7, .inl (cI, 40, .inl c7)), (k8, .inl (cI, 40, .inl c8))]) (va_runV (As := [.int a0]) (rest := []) ⟨hx, hb, hml, hown, hT⟩ (c_X8_hasG l D cI aK aV k k0 k1 k2 k3 k4 k5 k6 k7 k8 s.heap.size c9 a0) (cwV 1 hT (gV_in mw_371 mw_368 mw_369 mw_370 mw_3) rfl rfl rfl (by decide +kernel) ⟨Nat.le_of_ble_eq_true rfl, Nat.le_of_ble_eq_true rfl⟩) (kRecvX (q0 := 0) (ci := 8) hK hP hD hN hXS hS hA rfl rfl [0] rfl (by decide +kernel)) rfl rfl hl.1 rfl (lv_room (Nat.le_of_ble_eq_true rfl)) dX8_bringDown_2 ⟨Nat.le_of_ble_eq_true rfl, Nat.le_of_ble_eq_true rfl⟩) hP hD hS hA [0] [1, 2, 3, 4, 5, 6, 7] rfl rfl (by decide +kernel) (by decide +kernel) ?_
  clear hP hD hS
  intro r_3 u_5 H locs w_4 hP hD hS
  replace hP : va_P D vwCl [(k0, .inl (cI, 60, .inl c0)), (k1, .inl (cI, 60, .inl c1)), (k2, .inl (cI, 60, .inl c2)), (k5, .inl (cI, 60, .inl c5)), (k6, .inl (cI, 40, .inl c6)), (k7, .inl (cI, 40, .inl c7)), (k8, .inl (cI, 40, .inl c8)), (k, .inr (8, [.ref k0, .ref k1, .ref k2, .ref k3, .ref k4, .ref k5, .ref k6, .ref k7, .ref k8, .int c9]))] H := hP
  replace hD : va_D A [(k0, .inl (cI, 60, .inl c0)), (k1, .inl (cI, 60, .inl c1)), (k2, .inl (cI, 60, .inl c2)), (k5, .inl (cI, 60, .inl c5)), (k6, .inl (cI, 40, .inl c6)), (k7, .inl (cI, 40, .inl c7)), (k8, .inl (cI, 40, .inl c8)), (k, .inr (8, [.ref k0, .ref k1, .ref k2, .ref k3, .ref k4, .ref k5, .ref k6, .ref k7, .ref k8, .int c9]))] := hD
  rcases w_4 with ⟨hr_3, h_6, h_7, h_8⟩ | ⟨hr_3, h_9⟩
  · have h_6 : 0 ≤ a0.toInt := h_6
    have h_7 : a0.toInt < c9.toInt := h_7
    have h_8 : a0.toInt < 60 := h_8
    obtain rfl : r_3 = 1 := hr_3.trans (by decide +kernel)
    refine b_if_eq hx hb zl_1 (tgt := 30) dX8_bringDown_5 (by decide +kernel) (fun c_10 => by exfalso; omega) (fun c_10 => ?_)
    refine lv_aload_n hx hb dX8_bringDown_8 rfl (lv_at hl 0 rfl) ?_
    refine va_get (D := D) (ci := 8) (v := .ref k5) (C := RX8) (T := TX8) (N := 10) hx hb hT giX8 hown hK hP 7 rfl rfl 5 (by decide +kernel) (hT (Cond.fieldLink RX8 27 "DesertWire$Works" "downs" "[I") mw_45) (fun _ h9 => h9) rfl dX8_bringDown_9 ?_
    refine lv_iload_n hx hb dX8_bringDown_12 rfl (lv_at hl 1 rfl) ?_
    refine k_iald (v := (c5 a0.toNatClampNeg)) hx hb hK hP 3 0 rfl rfl (k_in (by omega) (by omega)) rfl dX8_bringDown_13 ?_
    refine lv_topi (fun v_11 ev_11 => ?_)
    have lo_v_11 := k_lo v_11
    have hi_v_11 := k_hi v_11
    have tv_11 : v_11.toInt = (c5 a0.toNatClampNeg).toInt := by rw [ev_11]
    have h_12 : v_11 = wW gx a0 4 := Eq.trans ev_11 (WKR.r4 pre0 (by omega) (by omega))
    have t_13 : v_11.toInt = (wW gx a0 4).toInt := by rw [h_12]
    have b_14 : 0 ≤ v_11.toInt ∧ v_11.toInt ≤ 1 := by rw [h_12]; exact SB.w4 pre1 (by omega) (by omega)
    refine b_if_ne hx hb rfl (tgt := 30) dX8_bringDown_14 (by decide +kernel) (fun c_15 => ?_) (fun c_15 => ?_)
    · exact hRet (c5, c6, c7, c8) [7, 0, 1, 2, 3, 4, 5, 6] (WKR.gt pre0 (dnS_n (by rw [← WKR.r4 pre0 (by omega) (by omega)]; omega))) hP hD (by decide +kernel) rfl hS dX8_bringDown_30
    · refine lv_aload_n hx hb dX8_bringDown_17 rfl (lv_at hl 0 rfl) ?_
      refine va_get (D := D) (ci := 8) (v := .ref k5) (C := RX8) (T := TX8) (N := 10) hx hb hT giX8 hown hK hP 7 rfl rfl 5 (by decide +kernel) (hT (Cond.fieldLink RX8 27 "DesertWire$Works" "downs" "[I") mw_45) (fun _ h9 => h9) rfl dX8_bringDown_18 ?_
      refine lv_iload_n hx hb dX8_bringDown_21 rfl (lv_at hl 1 rfl) ?_
      refine lv_iconst (v := 1) hx hb dX8_bringDown_22 (by decide +kernel) ?_
      refine va_iast hx hb hK hP hD hS 3 0 rfl rfl (k_in (by omega) (by omega)) dX8_bringDown_23 ?_
      clear hP hD hS
      intro H locs hP hD hS
      replace hP : va_P D vwCl [(k0, .inl (cI, 60, .inl c0)), (k1, .inl (cI, 60, .inl c1)), (k2, .inl (cI, 60, .inl c2)), (k5, .inl (cI, 60, .inl (upd c5 a0.toNatClampNeg 1))), (k6, .inl (cI, 40, .inl c6)), (k7, .inl (cI, 40, .inl c7)), (k8, .inl (cI, 40, .inl c8)), (k, .inr (8, [.ref k0, .ref k1, .ref k2, .ref k3, .ref k4, .ref k5, .ref k6, .ref k7, .ref k8, .int c9]))] H := hP
      replace hD : va_D A [(k0, .inl (cI, 60, .inl c0)), (k1, .inl (cI, 60, .inl c1)), (k2, .inl (cI, 60, .inl c2)), (k5, .inl (cI, 60, .inl (upd c5 a0.toNatClampNeg 1))), (k6, .inl (cI, 40, .inl c6)), (k7, .inl (cI, 40, .inl c7)), (k8, .inl (cI, 40, .inl c8)), (k, .inr (8, [.ref k0, .ref k1, .ref k2, .ref k3, .ref k4, .ref k5, .ref k6, .ref k7, .ref k8, .int c9]))] := hD
      obtain ⟨f_16, ef_16⟩ : ∃ g : Nat → Int32, g = upd c5 a0.toNatClampNeg 1 := ⟨_, rfl⟩
      rw [← ef_16] at hP hD
      refine lv_aload_n hx hb dX8_bringDown_24 rfl (lv_at hl 0 rfl) ?_
      refine lv_iload_n hx hb dX8_bringDown_25 rfl (lv_at hl 1 rfl) ?_
      refine lv_iconst (v := (-1)) hx hb dX8_bringDown_26 (by decide +kernel) ?_
      refine kJv (wr := [(k5, .inl (cI, 60, .inl f_16))]) (va_runV (As := [.int a0, .int (-1)]) (rest := []) ⟨hx, hb, hml, hown, hT⟩ (c_X8_tallyD l D cI aK aV k k0 k1 k2 k3 k4 k5 k6 k7 k8 H.size c9 c0 c1 c2 c6 c7 c8 a0 (-1) (by first | omega | (simp only [zl_m1]; first | done | omega) | decide | assumption | rfl) (by first | omega | (simp only [zl_m1]; first | done | omega) | decide | assumption | rfl) (by first | omega | (simp only [zl_m1]; first | done | omega) | decide | assumption | rfl) (by first | omega | (simp only [zl_m1]; first | done | omega) | decide | assumption | rfl) (by first | omega | (simp only [zl_m1]; first | done | omega) | decide | assumption | rfl)) (cwV 2 hT (gV_in mw_363 mw_360 mw_362 mw_p1_1 mw_3) rfl rfl rfl (by decide +kernel) ⟨Nat.le_of_ble_eq_true rfl, Nat.le_of_ble_eq_true rfl⟩) (kRecvX (q0 := 7) (ci := 8) hK hP hD hN hXS hS hA rfl rfl [7, 0, 1, 2, 4, 5, 6] rfl (by decide +kernel)) rfl rfl hl.1 rfl (lv_room (Nat.le_of_ble_eq_true rfl)) dX8_bringDown_27 ⟨Nat.le_of_ble_eq_true rfl, Nat.le_of_ble_eq_true rfl⟩) hP hD hS hA [7, 0, 1, 2, 4, 5, 6] [3] rfl rfl (by decide +kernel) (by decide +kernel) ?_
      clear hP hD hS
      intro u_22 H locs w_18 hP hD hS
      obtain ⟨sc6_19, sc7_20, sc8_21⟩ := u_22
      replace hP : va_P D vwCl [(k5, .inl (cI, 60, .inl f_16)), (k, .inr (8, [.ref k0, .ref k1, .ref k2, .ref k3, .ref k4, .ref k5, .ref k6, .ref k7, .ref k8, .int c9])), (k0, .inl (cI, 60, .inl c0)), (k1, .inl (cI, 60, .inl c1)), (k2, .inl (cI, 60, .inl c2)), (k6, .inl (cI, 40, .inl sc6_19)), (k7, .inl (cI, 40, .inl sc7_20)), (k8, .inl (cI, 40, .inl sc8_21))] H := hP
      replace hD : va_D A [(k5, .inl (cI, 60, .inl f_16)), (k, .inr (8, [.ref k0, .ref k1, .ref k2, .ref k3, .ref k4, .ref k5, .ref k6, .ref k7, .ref k8, .int c9])), (k0, .inl (cI, 60, .inl c0)), (k1, .inl (cI, 60, .inl c1)), (k2, .inl (cI, 60, .inl c2)), (k6, .inl (cI, 40, .inl sc6_19)), (k7, .inl (cI, 40, .inl sc7_20)), (k8, .inl (cI, 40, .inl sc8_21))] := hD
      obtain ⟨h_23, h_24, h_25⟩ := w_18
      have h_23 : sc6_19 = tlP (c0 a0.toNatClampNeg) c6 (c1 a0.toNatClampNeg) (-1) := h_23
      have h_24 : sc7_20 = tlQ 4 (c0 a0.toNatClampNeg) c7 (c1 a0.toNatClampNeg) ((-1) * c2 a0.toNatClampNeg) := h_24
      have h_25 : sc8_21 = tlQ 5 (c0 a0.toNatClampNeg) c8 (c1 a0.toNatClampNeg) (-1) := h_25
      exact hRet (f_16, sc6_19, sc7_20, sc8_21) [1, 2, 3, 4, 0, 5, 6, 7] (WKR.gt (WKR.down pre0 pre1 (by omega) (by omega) (by rw [← WKR.r4 pre0 (by omega) (by omega)]; omega) ef_16 h_23 h_24 h_25) (dnS_y (by rw [← WKR.r4 pre0 (by omega) (by omega)]; omega))) hP hD (by decide +kernel) rfl hS dX8_bringDown_30
  · exfalso; omega

set_option maxHeartbeats 4000000 in
set_option maxRecDepth 100000 in
theorem c_X8_holdFoodD (l : Launch) (D : va_G) (cI : ClassId) (aK aV : Nat → Nat) (k k0 k1 k2 k3 k4 k5 k6 k7 k8 : Nat) (sz : Nat) (c9 : Int32) (c4 : Nat → Int32) (c0 : Nat → Int32) (c1 : Nat → Int32) (c2 : Nat → Int32) (c3 : Nat → Int32) (c5 : Nat → Int32) (c6 : Nat → Int32) (c7 : Nat → Int32) (c8 : Nat → Int32) (gx : Nat → Int32) (a0 : Int32) (a1 : Int32) (pre0 : WKR c0 c1 c2 c3 c4 c5 c6 c7 c8 c9 gx) (pre1 : 0 ≤ a0.toInt) (pre2 : a0.toInt < c9.toInt) : Met l yX8_holdFood (gW yX8_holdFood cX8_holdFood 3 none) ({ frames := 1, cells := 0, slots := 0, locals := 21 } : Room) (kPreX D cI aK aV [.ref k, .int a0, .int a1] [(k, .inr (8, [.ref k0, .ref k1, .ref k2, .ref k3, .ref k4, .ref k5, .ref k6, .ref k7, .ref k8, .int c9])), (k4, .inl (cI, 60, .inl c4))] sz) (va_Qv (fun (u : (Nat → Int32)) => WKR c0 c1 c2 c3 u c5 c6 c7 c8 c9 (upd gx (99 + 6 * a0.toInt.toNat + 5) a1)) (fun u t => kWd D cI (va_A [(k, .inr (8, [.ref k0, .ref k1, .ref k2, .ref k3, .ref k4, .ref k5, .ref k6, .ref k7, .ref k8, .int c9])), (k4, .inl (cI, 60, .inl c4))] sz) [(k, .inr (8, [.ref k0, .ref k1, .ref k2, .ref k3, .ref k4, .ref k5, .ref k6, .ref k7, .ref k8, .int c9])), (k4, .inl (cI, 60, .inl u))] t) (va_A [(k, .inr (8, [.ref k0, .ref k1, .ref k2, .ref k3, .ref k4, .ref k5, .ref k6, .ref k7, .ref k8, .int c9])), (k4, .inl (cI, 60, .inl c4))] sz)) 0 0 (va_A [(k, .inr (8, [.ref k0, .ref k1, .ref k2, .ref k3, .ref k4, .ref k5, .ref k6, .ref k7, .ref k8, .int c9])), (k4, .inl (cI, 60, .inl c4))] sz) := by
  refine kMetVX (own := RX8) (by decide +kernel) rfl (Nat.le_of_ble_eq_true rfl) ?_
  intro p e s m args below meth c hx hb hT hown hname hml A Q hK hP hD hS hA hN hXS hRet ls hl
  have hl : lv_has ls 3 [(0, .ref k), (1, .int a0), (2, .int a1)] := hl
  have lo_a0 := k_lo a0
  have hi_a0 := k_hi a0
  have lo_c9 := k_lo c9
  have hi_c9 := k_hi c9
  have pre0 : WKR c0 c1 c2 c3 c4 c5 c6 c7 c8 c9 gx := pre0
  have b_1 : 0 ≤ c9.toInt ∧ c9.toInt ≤ 60 := WKR.n0 pre0
  have t_2 : c9.toInt = (gx 1).toInt := WKR.nt pre0
  refine lv_aload_n hx hb dX8_holdFood_0 rfl (lv_at hl 0 rfl) ?_
  refine lv_iload_n hx hb dX8_holdFood_1 rfl (lv_at hl 1 rfl) ?_
  refine kJi (wr := [(k4, .inl (cI, 60, .inl c4))]) (va_runV (As := [.int a0]) (rest := []) ⟨hx, hb, hml, hown, hT⟩ (c_X8_hasG l D cI aK aV k k0 k1 k2 k3 k4 k5 k6 k7 k8 s.heap.size c9 a0) (cwV 1 hT (gV_in mw_371 mw_368 mw_369 mw_370 mw_3) rfl rfl rfl (by decide +kernel) ⟨Nat.le_of_ble_eq_true rfl, Nat.le_of_ble_eq_true rfl⟩) (kRecvX (q0 := 0) (ci := 8) hK hP hD hN hXS hS hA rfl rfl [0] rfl (by decide +kernel)) rfl rfl hl.1 rfl (lv_room (Nat.le_of_ble_eq_true rfl)) dX8_holdFood_2 ⟨Nat.le_of_ble_eq_true rfl, Nat.le_of_ble_eq_true rfl⟩) hP hD hS hA [0] [1] rfl rfl (by decide +kernel) (by decide +kernel) ?_
  clear hP hD hS
  intro r_3 u_5 H locs w_4 hP hD hS
  replace hP : va_P D vwCl [(k4, .inl (cI, 60, .inl c4)), (k, .inr (8, [.ref k0, .ref k1, .ref k2, .ref k3, .ref k4, .ref k5, .ref k6, .ref k7, .ref k8, .int c9]))] H := hP
  replace hD : va_D A [(k4, .inl (cI, 60, .inl c4)), (k, .inr (8, [.ref k0, .ref k1, .ref k2, .ref k3, .ref k4, .ref k5, .ref k6, .ref k7, .ref k8, .int c9]))] := hD
  rcases w_4 with ⟨hr_3, h_6, h_7, h_8⟩ | ⟨hr_3, h_9⟩
  · have h_6 : 0 ≤ a0.toInt := h_6
    have h_7 : a0.toInt < c9.toInt := h_7
    have h_8 : a0.toInt < 60 := h_8
    obtain rfl : r_3 = 1 := hr_3.trans (by decide +kernel)
    refine b_if_eq hx hb zl_1 (tgt := 15) dX8_holdFood_5 (by decide +kernel) (fun c_10 => by exfalso; omega) (fun c_10 => ?_)
    refine lv_aload_n hx hb dX8_holdFood_8 rfl (lv_at hl 0 rfl) ?_
    refine va_get (D := D) (ci := 8) (v := .ref k4) (C := RX8) (T := TX8) (N := 10) hx hb hT giX8 hown hK hP 1 rfl rfl 4 (by decide +kernel) (hT (Cond.fieldLink RX8 24 "DesertWire$Works" "foods" "[I") mw_44) (fun _ h9 => h9) rfl dX8_holdFood_9 ?_
    refine lv_iload_n hx hb dX8_holdFood_12 rfl (lv_at hl 1 rfl) ?_
    refine lv_iload_n hx hb dX8_holdFood_13 rfl (lv_at hl 2 rfl) ?_
    refine va_iast hx hb hK hP hD hS 0 0 rfl rfl (k_in (by omega) (by omega)) dX8_holdFood_14 ?_
    clear hP hD hS
    intro H locs hP hD hS
    replace hP : va_P D vwCl [(k4, .inl (cI, 60, .inl (upd c4 a0.toNatClampNeg a1))), (k, .inr (8, [.ref k0, .ref k1, .ref k2, .ref k3, .ref k4, .ref k5, .ref k6, .ref k7, .ref k8, .int c9]))] H := hP
    replace hD : va_D A [(k4, .inl (cI, 60, .inl (upd c4 a0.toNatClampNeg a1))), (k, .inr (8, [.ref k0, .ref k1, .ref k2, .ref k3, .ref k4, .ref k5, .ref k6, .ref k7, .ref k8, .int c9]))] := hD
    obtain ⟨f_11, ef_11⟩ : ∃ g : Nat → Int32, g = upd c4 a0.toNatClampNeg a1 := ⟨_, rfl⟩
    rw [← ef_11] at hP hD
    exact hRet f_11 [1, 0] (WKR.food pre0 ef_11) hP hD (by decide +kernel) rfl hS dX8_holdFood_15
  · exfalso; omega

set_option maxHeartbeats 4000000 in
set_option maxRecDepth 100000 in
theorem c_X8_isWiredD (l : Launch) (D : va_G) (cI : ClassId) (aK aV : Nat → Nat) (k k0 k1 k2 k3 k4 k5 k6 k7 k8 : Nat) (sz : Nat) (c9 : Int32) (c6 : Nat → Int32) (c0 : Nat → Int32) (c1 : Nat → Int32) (c2 : Nat → Int32) (c3 : Nat → Int32) (c4 : Nat → Int32) (c5 : Nat → Int32) (c7 : Nat → Int32) (c8 : Nat → Int32) (gx : Nat → Int32) (a0 : Int32) (pre0 : WKR c0 c1 c2 c3 c4 c5 c6 c7 c8 c9 gx) : Met l yX8_isWired (gW yX8_isWired cX8_isWired 2 (some .boolean)) ({ frames := 1, cells := 0, slots := 0, locals := 20 } : Room) (kPreX D cI aK aV [.ref k, .int a0] [(k, .inr (8, [.ref k0, .ref k1, .ref k2, .ref k3, .ref k4, .ref k5, .ref k6, .ref k7, .ref k8, .int c9])), (k6, .inl (cI, 40, .inl c6))] sz) (va_Qi (fun (r : Int32) (u : Unit) => (r = 1 ∧ 0 ≤ a0.toInt ∧ a0.toInt ≤ 39 ∧ wdF gx a0.toInt = 1) ∨ (r = 0 ∧ 0 ≤ a0.toInt ∧ a0.toInt ≤ 39 ∧ wdF gx a0.toInt = 0) ∨ (r = 0 ∧ (a0.toInt < 0 ∨ 39 < a0.toInt))) (fun u t => kWd D cI (va_A [(k, .inr (8, [.ref k0, .ref k1, .ref k2, .ref k3, .ref k4, .ref k5, .ref k6, .ref k7, .ref k8, .int c9])), (k6, .inl (cI, 40, .inl c6))] sz) [(k, .inr (8, [.ref k0, .ref k1, .ref k2, .ref k3, .ref k4, .ref k5, .ref k6, .ref k7, .ref k8, .int c9])), (k6, .inl (cI, 40, .inl c6))] t) (va_A [(k, .inr (8, [.ref k0, .ref k1, .ref k2, .ref k3, .ref k4, .ref k5, .ref k6, .ref k7, .ref k8, .int c9])), (k6, .inl (cI, 40, .inl c6))] sz)) 0 0 (va_A [(k, .inr (8, [.ref k0, .ref k1, .ref k2, .ref k3, .ref k4, .ref k5, .ref k6, .ref k7, .ref k8, .int c9])), (k6, .inl (cI, 40, .inl c6))] sz) := by
  refine kMetIX (own := RX8) (by decide +kernel) rfl (Nat.le_of_ble_eq_true rfl) ?_
  intro p e s m args below meth c hx hb hT hown hname hml A Q hK hP hD hS hA hN hXS hRet ls hl
  have hl : lv_has ls 2 [(0, .ref k), (1, .int a0)] := hl
  have lo_a0 := k_lo a0
  have hi_a0 := k_hi a0
  have lo_c9 := k_lo c9
  have hi_c9 := k_hi c9
  have pre0 : WKR c0 c1 c2 c3 c4 c5 c6 c7 c8 c9 gx := pre0
  have b_1 : 0 ≤ c9.toInt ∧ c9.toInt ≤ 60 := WKR.n0 pre0
  have t_2 : c9.toInt = (gx 1).toInt := WKR.nt pre0
  refine lv_iload_n hx hb dX8_isWired_0 rfl (lv_at hl 1 rfl) ?_
  refine kJi (wr := [(k, .inr (8, [.ref k0, .ref k1, .ref k2, .ref k3, .ref k4, .ref k5, .ref k6, .ref k7, .ref k8, .int c9])), (k6, .inl (cI, 40, .inl c6))]) (va_runSN (As := [.int a0]) (rest := []) ⟨hx, hb, hml, hown, hT⟩ (c_X10_isMileG l D cI aK aV s.heap.size a0) ⟨va_cnB 1 hT (gW_in mw_346) rfl rfl rfl (hN _ mw_372) (hT _ mw_1) (by decide +kernel) ⟨Nat.le_of_ble_eq_true rfl, Nat.le_of_ble_eq_true rfl⟩, hT _ mw_345, trivial⟩ (kStatX hK hP hD hN hXS hS hA [] rfl (by decide +kernel)) rfl rfl hl.1 rfl (lv_room (Nat.le_of_ble_eq_true rfl)) dX8_isWired_1 ⟨Nat.le_of_ble_eq_true rfl, Nat.le_of_ble_eq_true rfl⟩) hP hD hS hA [] [0, 1] rfl rfl (by decide +kernel) (by decide +kernel) ?_
  clear hP hD hS
  intro r_3 u_5 H locs w_4 hP hD hS
  replace hP : va_P D vwCl [(k, .inr (8, [.ref k0, .ref k1, .ref k2, .ref k3, .ref k4, .ref k5, .ref k6, .ref k7, .ref k8, .int c9])), (k6, .inl (cI, 40, .inl c6))] H := hP
  replace hD : va_D A [(k, .inr (8, [.ref k0, .ref k1, .ref k2, .ref k3, .ref k4, .ref k5, .ref k6, .ref k7, .ref k8, .int c9])), (k6, .inl (cI, 40, .inl c6))] := hD
  rcases w_4 with ⟨hr_3, h_6, h_7⟩ | ⟨hr_3, h_8⟩
  · have h_6 : 0 ≤ a0.toInt := h_6
    have h_7 : a0.toInt ≤ 39 := h_7
    obtain rfl : r_3 = 1 := hr_3.trans (by decide +kernel)
    refine b_if_eq hx hb zl_1 (tgt := 20) dX8_isWired_4 (by decide +kernel) (fun c_9 => by exfalso; omega) (fun c_9 => ?_)
    refine lv_aload_n hx hb dX8_isWired_7 rfl (lv_at hl 0 rfl) ?_
    refine va_get (D := D) (ci := 8) (v := .ref k6) (C := RX8) (T := TX8) (N := 10) hx hb hT giX8 hown hK hP 0 rfl rfl 6 (by decide +kernel) (hT (Cond.fieldLink RX8 30 "DesertWire$Works" "poles" "[I") mw_46) (fun _ h9 => h9) rfl dX8_isWired_8 ?_
    refine lv_iload_n hx hb dX8_isWired_11 rfl (lv_at hl 1 rfl) ?_
    refine k_iald (v := (c6 a0.toNatClampNeg)) hx hb hK hP 1 0 rfl rfl (k_in (by omega) (by omega)) rfl dX8_isWired_12 ?_
    refine lv_topi (fun v_10 ev_10 => ?_)
    have lo_v_10 := k_lo v_10
    have hi_v_10 := k_hi v_10
    have tv_10 : v_10.toInt = (c6 a0.toNatClampNeg).toInt := by rw [ev_10]
    refine b_if_le hx hb rfl (tgt := 20) dX8_isWired_13 (by decide +kernel) (fun c_11 => ?_) (fun c_11 => ?_)
    · refine lv_iconst (v := 0) hx hb dX8_isWired_20 (by decide +kernel) ?_
      exact hRet () [0, 1] (by first | exact Or.inr (Or.inl ⟨rfl, (by omega), (by omega), (WKR.wd0 pre0 (by omega) (by omega) (by omega))⟩) | exact Or.inr (Or.inr (⟨rfl, (by omega)⟩))) hP hD (by decide +kernel) rfl hS rfl dX8_isWired_21
    · refine lv_iconst (v := 1) hx hb dX8_isWired_16 (by decide +kernel) ?_
      refine lv_goto (tgt := 21) hx hb dX8_isWired_17 (by decide +kernel) ?_
      exact hRet () [0, 1] (Or.inl ⟨rfl, (by omega), (by omega), (WKR.wd1 pre0 (by omega) (by omega) (by omega))⟩) hP hD (by decide +kernel) rfl hS rfl dX8_isWired_21
  · have h_8 : a0.toInt < 0 ∨ 39 < a0.toInt := h_8
    obtain rfl : r_3 = 0 := hr_3.trans (by decide +kernel)
    refine b_if_eq hx hb zl_0 (tgt := 20) dX8_isWired_4 (by decide +kernel) (fun c_12 => ?_) (fun c_12 => by exfalso; omega)
    refine lv_iconst (v := 0) hx hb dX8_isWired_20 (by decide +kernel) ?_
    exact hRet () [0, 1] (by first | exact Or.inr (Or.inl ⟨rfl, (by omega), (by omega), (WKR.wd0 pre0 (by omega) (by omega) (by omega))⟩) | exact Or.inr (Or.inr (⟨rfl, (by omega)⟩))) hP hD (by decide +kernel) rfl hS rfl dX8_isWired_21

set_option maxHeartbeats 4000000 in
set_option maxRecDepth 100000 in
theorem c_X8_isWiredFromD (l : Launch) (D : va_G) (cI : ClassId) (aK aV : Nat → Nat) (k k0 k1 k2 k3 k4 k5 k6 k7 k8 : Nat) (sz : Nat) (c9 : Int32) (c6 : Nat → Int32) (c0 : Nat → Int32) (c1 : Nat → Int32) (c2 : Nat → Int32) (c3 : Nat → Int32) (c4 : Nat → Int32) (c5 : Nat → Int32) (c7 : Nat → Int32) (c8 : Nat → Int32) (gx : Nat → Int32) (a0 : Int32) (a1 : Int32) (pre0 : WKR c0 c1 c2 c3 c4 c5 c6 c7 c8 c9 gx) (pre1 : 0 ≤ a0.toInt) (pre2 : a0.toInt ≤ a1.toInt) (pre3 : a1.toInt ≤ 39) : Met l yX8_isWiredFrom (gW yX8_isWiredFrom cX8_isWiredFrom 4 (some .boolean)) ({ frames := 2, cells := 0, slots := 0, locals := 41 } : Room) (kPreX D cI aK aV [.ref k, .int a0, .int a1] [(k, .inr (8, [.ref k0, .ref k1, .ref k2, .ref k3, .ref k4, .ref k5, .ref k6, .ref k7, .ref k8, .int c9])), (k6, .inl (cI, 40, .inl c6))] sz) (va_Qi (fun (r : Int32) (u : Unit) => (r = 1 ∧ awF gx a0.toInt a1.toInt = true) ∨ (r = 0 ∧ awF gx a0.toInt a1.toInt = false)) (fun u t => kWd D cI (va_A [(k, .inr (8, [.ref k0, .ref k1, .ref k2, .ref k3, .ref k4, .ref k5, .ref k6, .ref k7, .ref k8, .int c9])), (k6, .inl (cI, 40, .inl c6))] sz) [(k, .inr (8, [.ref k0, .ref k1, .ref k2, .ref k3, .ref k4, .ref k5, .ref k6, .ref k7, .ref k8, .int c9])), (k6, .inl (cI, 40, .inl c6))] t) (va_A [(k, .inr (8, [.ref k0, .ref k1, .ref k2, .ref k3, .ref k4, .ref k5, .ref k6, .ref k7, .ref k8, .int c9])), (k6, .inl (cI, 40, .inl c6))] sz)) 0 0 (va_A [(k, .inr (8, [.ref k0, .ref k1, .ref k2, .ref k3, .ref k4, .ref k5, .ref k6, .ref k7, .ref k8, .int c9])), (k6, .inl (cI, 40, .inl c6))] sz) := by
  refine kMetIX (own := RX8) (by decide +kernel) rfl (Nat.le_of_ble_eq_true rfl) ?_
  intro p e s m args below meth c hx hb hT hown hname hml A Q hK hP hD hS hA hN hXS hRet ls hl
  have hl : lv_has ls 4 [(0, .ref k), (1, .int a0), (2, .int a1)] := hl
  have lo_a0 := k_lo a0
  have hi_a0 := k_hi a0
  have lo_a1 := k_lo a1
  have hi_a1 := k_hi a1
  have lo_c9 := k_lo c9
  have hi_c9 := k_hi c9
  have pre0 : WKR c0 c1 c2 c3 c4 c5 c6 c7 c8 c9 gx := pre0
  have b_1 : 0 ≤ c9.toInt ∧ c9.toInt ≤ 60 := WKR.n0 pre0
  have t_2 : c9.toInt = (gx 1).toInt := WKR.nt pre0
  refine lv_iload_n hx hb dX8_isWiredFrom_0 rfl (lv_at hl 1 rfl) ?_
  refine lv_istore_n (lv' := [(3, .int a0), (0, .ref k), (1, .int a0), (2, .int a1)]) hx hb dX8_isWiredFrom_1 rfl hl (by decide +kernel) rfl ?_
  clear hl
  intro ls hl
  have hloop_2 : ∀ (fu_ : Nat) (l2_3 : Int32), a0.toInt ≤ l2_3.toInt → a0.toInt ≤ l2_3.toInt → l2_3.toInt ≤ a1.toInt + 1 → awN gx a0.toInt (l2_3.toInt - a0.toInt).toNat = true → (40 - l2_3.toInt).toNat < fu_ → ∀ (ls : Array Slot) (H : Heap) (locs : List Loc), lv_has ls 4 [(3, .int l2_3), (0, .ref k), (1, .int a0), (2, .int a1)] → va_P D vwCl [(k, .inr (8, [.ref k0, .ref k1, .ref k2, .ref k3, .ref k4, .ref k5, .ref k6, .ref k7, .ref k8, .int c9])), (k6, .inl (cI, 40, .inl c6))] H → va_D A [(k, .inr (8, [.ref k0, .ref k1, .ref k2, .ref k3, .ref k4, .ref k5, .ref k6, .ref k7, .ref k8, .int c9])), (k6, .inl (cI, 40, .inl c6))] → va_S A s.heap H locs → W p l e ({ frames := 2, cells := 0, slots := 0, locals := 41 } : Room) s m args below meth c H locs 0 0 Q (F0 m 2 ls []) := by
    intro fu_; induction fu_ with
    | zero => intro l2_3 i2_0 i2_1 i2_2 i2_3 hm; exact absurd hm (by omega)
    | succ fu_ ih2 =>
        intro l2_3 i2_0 i2_1 i2_2 i2_3 hm ls H locs hl hP hD hS
        have lo_l2_3 := k_lo l2_3
        have hi_l2_3 := k_hi l2_3
        refine lv_iload_n hx hb dX8_isWiredFrom_2 rfl (lv_at hl 0 rfl) ?_
        refine lv_iload_n hx hb dX8_isWiredFrom_3 rfl (lv_at hl 3 rfl) ?_
        refine b_icmp_gt hx hb rfl rfl (tgt := 29) dX8_isWiredFrom_4 (by decide +kernel) (fun c_3 => ?_) (fun c_3 => ?_)
        · refine lv_iconst (v := 1) hx hb dX8_isWiredFrom_29 (by decide +kernel) ?_
          exact hRet () [0, 1] (Or.inl ⟨rfl, (by unfold awF; rw [show a1.toInt + 1 - a0.toInt = l2_3.toInt - a0.toInt from by omega]; exact i2_3)⟩) hP hD (by decide +kernel) rfl hS rfl dX8_isWiredFrom_30
        · refine lv_iload_n hx hb dX8_isWiredFrom_7 rfl (lv_at hl 0 rfl) ?_
          refine lv_bipush (v := 40) hx hb dX8_isWiredFrom_8 (by decide +kernel) ?_
          refine b_icmp_ge hx hb rfl zl_40 (tgt := 29) dX8_isWiredFrom_10 (by decide +kernel) (fun c_4 => by exfalso; omega) (fun c_4 => ?_)
          refine lv_aload_n hx hb dX8_isWiredFrom_13 rfl (lv_at hl 1 rfl) ?_
          refine lv_iload_n hx hb dX8_isWiredFrom_14 rfl (lv_at hl 0 rfl) ?_
          refine kJi (wr := []) (va_runV (As := [.int l2_3]) (rest := []) ⟨hx, hb, hml, hown, hT⟩ (c_X8_isWiredD l D cI aK aV k k0 k1 k2 k3 k4 k5 k6 k7 k8 H.size c9 c6 c0 c1 c2 c3 c4 c5 c7 c8 gx l2_3 pre0) (cwV 1 hT (gV_in mw_624 mw_1038 mw_622 mw_623 mw_3) rfl rfl rfl (by decide +kernel) ⟨Nat.le_of_ble_eq_true rfl, Nat.le_of_ble_eq_true rfl⟩) (kRecvX (q0 := 0) (ci := 8) hK hP hD hN hXS hS hA rfl rfl [0, 1] rfl (by decide +kernel)) rfl rfl hl.1 rfl (lv_room (Nat.le_of_ble_eq_true rfl)) dX8_isWiredFrom_15 ⟨Nat.le_of_ble_eq_true rfl, Nat.le_of_ble_eq_true rfl⟩) hP hD hS hA [0, 1] [] rfl rfl (by decide +kernel) (by decide +kernel) ?_
          clear hP hD hS
          intro r_5 u_7 H locs w_6 hP hD hS
          replace hP : va_P D vwCl [(k, .inr (8, [.ref k0, .ref k1, .ref k2, .ref k3, .ref k4, .ref k5, .ref k6, .ref k7, .ref k8, .int c9])), (k6, .inl (cI, 40, .inl c6))] H := hP
          replace hD : va_D A [(k, .inr (8, [.ref k0, .ref k1, .ref k2, .ref k3, .ref k4, .ref k5, .ref k6, .ref k7, .ref k8, .int c9])), (k6, .inl (cI, 40, .inl c6))] := hD
          rcases w_6 with ⟨hr_5, h_8, h_9, h_10⟩ | ⟨hr_5, h_11, h_12, h_13⟩ | ⟨hr_5, h_14⟩
          · have h_8 : 0 ≤ l2_3.toInt := h_8
            have h_9 : l2_3.toInt ≤ 39 := h_9
            have h_10 : wdF gx l2_3.toInt = 1 := h_10
            have h_10 : wdF gx l2_3.toInt = 1 := h_10
            obtain rfl : r_5 = 1 := hr_5.trans (by decide +kernel)
            refine b_if_ne hx hb zl_1 (tgt := 23) dX8_isWiredFrom_18 (by decide +kernel) (fun c_15 => ?_) (fun c_15 => by exfalso; omega)
            obtain ⟨v_16, ev_16⟩ : ∃ y : Int32, y = l2_3 + 1 := ⟨_, rfl⟩
            have tv_16 : v_16.toInt = l2_3.toInt + 1 := by rw [ev_16]; exact k_addv rfl zl_1 (by omega) (by omega)
            refine lv_iinc (v := v_16) (lv' := [(3, .int v_16), (0, .ref k), (1, .int a0), (2, .int a1)]) hx hb dX8_isWiredFrom_23 hl (k := 0) rfl (by rw [ev_16]; rfl) (by decide +kernel) rfl ?_
            clear hl
            intro ls hl
            refine lv_goto (tgt := 2) hx hb dX8_isWiredFrom_26 (by decide +kernel) ?_
            exact ih2 v_16 (by first | omega | decide | assumption | rfl) (by first | omega | decide | assumption | rfl) (by first | omega | decide | assumption | rfl) (awN_y i2_3 (by omega) (by omega) h_10) (by omega) ls _ _ (lv_sub hl [0, 1, 2, 3] rfl) (hP.sub [0, 1] rfl) (hD.sub [0, 1] (by decide +kernel) rfl) hS
          · have h_11 : 0 ≤ l2_3.toInt := h_11
            have h_12 : l2_3.toInt ≤ 39 := h_12
            have h_13 : wdF gx l2_3.toInt = 0 := h_13
            have h_13 : wdF gx l2_3.toInt = 0 := h_13
            obtain rfl : r_5 = 0 := hr_5.trans (by decide +kernel)
            refine b_if_ne hx hb zl_0 (tgt := 23) dX8_isWiredFrom_18 (by decide +kernel) (fun c_17 => by exfalso; omega) (fun c_17 => ?_)
            refine lv_iconst (v := 0) hx hb dX8_isWiredFrom_21 (by decide +kernel) ?_
            exact hRet () [0, 1] (Or.inr (⟨rfl, (awN_n (by omega) h_13 _ (by omega))⟩)) hP hD (by decide +kernel) rfl hS rfl dX8_isWiredFrom_22
          · exfalso; omega
  exact hloop_2 _ a0 (by first | omega | decide | assumption | rfl) (by first | omega | decide | assumption | rfl) (by first | omega | decide | assumption | rfl) (awN_0 rfl) (Nat.lt_succ_self _) ls _ _ (lv_sub hl [0, 1, 2, 3] rfl) hP hD hS

set_option maxHeartbeats 4000000 in
set_option maxRecDepth 100000 in
theorem c_X8_wiredMilesD (l : Launch) (D : va_G) (cI : ClassId) (aK aV : Nat → Nat) (k k0 k1 k2 k3 k4 k5 k6 k7 k8 : Nat) (sz : Nat) (c9 : Int32) (c6 : Nat → Int32) (c0 : Nat → Int32) (c1 : Nat → Int32) (c2 : Nat → Int32) (c3 : Nat → Int32) (c4 : Nat → Int32) (c5 : Nat → Int32) (c7 : Nat → Int32) (c8 : Nat → Int32) (gx : Nat → Int32) (pre0 : WKR c0 c1 c2 c3 c4 c5 c6 c7 c8 c9 gx) : Met l yX8_wiredMiles (gW yX8_wiredMiles cX8_wiredMiles 3 (some .int)) ({ frames := 0, cells := 0, slots := 0, locals := 0 } : Room) (kPreX D cI aK aV [.ref k] [(k, .inr (8, [.ref k0, .ref k1, .ref k2, .ref k3, .ref k4, .ref k5, .ref k6, .ref k7, .ref k8, .int c9])), (k6, .inl (cI, 40, .inl c6))] sz) (va_Qi (fun (r : Int32) (u : Unit) => r = wmN gx 40) (fun u t => kWd D cI (va_A [(k, .inr (8, [.ref k0, .ref k1, .ref k2, .ref k3, .ref k4, .ref k5, .ref k6, .ref k7, .ref k8, .int c9])), (k6, .inl (cI, 40, .inl c6))] sz) [(k, .inr (8, [.ref k0, .ref k1, .ref k2, .ref k3, .ref k4, .ref k5, .ref k6, .ref k7, .ref k8, .int c9])), (k6, .inl (cI, 40, .inl c6))] t) (va_A [(k, .inr (8, [.ref k0, .ref k1, .ref k2, .ref k3, .ref k4, .ref k5, .ref k6, .ref k7, .ref k8, .int c9])), (k6, .inl (cI, 40, .inl c6))] sz)) 0 0 (va_A [(k, .inr (8, [.ref k0, .ref k1, .ref k2, .ref k3, .ref k4, .ref k5, .ref k6, .ref k7, .ref k8, .int c9])), (k6, .inl (cI, 40, .inl c6))] sz) := by
  refine kMetIX (own := RX8) (by decide +kernel) rfl (Nat.le_of_ble_eq_true rfl) ?_
  intro p e s m args below meth c hx hb hT hown hname hml A Q hK hP hD hS hA hN hXS hRet ls hl
  have hl : lv_has ls 3 [(0, .ref k)] := hl
  have lo_c9 := k_lo c9
  have hi_c9 := k_hi c9
  have pre0 : WKR c0 c1 c2 c3 c4 c5 c6 c7 c8 c9 gx := pre0
  have b_1 : 0 ≤ c9.toInt ∧ c9.toInt ≤ 60 := WKR.n0 pre0
  have t_2 : c9.toInt = (gx 1).toInt := WKR.nt pre0
  refine lv_iconst (v := 0) hx hb dX8_wiredMiles_0 (by decide +kernel) ?_
  refine lv_istore_n (lv' := [(1, .int 0), (0, .ref k)]) hx hb dX8_wiredMiles_1 rfl hl (by decide +kernel) rfl ?_
  clear hl
  intro ls hl
  refine lv_iconst (v := 0) hx hb dX8_wiredMiles_2 (by decide +kernel) ?_
  refine lv_istore_n (lv' := [(2, .int 0), (1, .int 0), (0, .ref k)]) hx hb dX8_wiredMiles_3 rfl hl (by decide +kernel) rfl ?_
  clear hl
  intro ls hl
  have hloop_4 : ∀ (fu_ : Nat) (l4_1 : Int32) (l4_2 : Int32), 0 ≤ l4_2.toInt → l4_2.toInt ≤ 40 → 0 ≤ l4_2.toInt → l4_1 = wmN gx l4_2.toInt.toNat → (40 - l4_2.toInt).toNat < fu_ → ∀ (ls : Array Slot) (H : Heap) (locs : List Loc), lv_has ls 3 [(2, .int l4_2), (1, .int l4_1), (0, .ref k)] → va_P D vwCl [(k, .inr (8, [.ref k0, .ref k1, .ref k2, .ref k3, .ref k4, .ref k5, .ref k6, .ref k7, .ref k8, .int c9])), (k6, .inl (cI, 40, .inl c6))] H → va_D A [(k, .inr (8, [.ref k0, .ref k1, .ref k2, .ref k3, .ref k4, .ref k5, .ref k6, .ref k7, .ref k8, .int c9])), (k6, .inl (cI, 40, .inl c6))] → va_S A s.heap H locs → W p l e ({ frames := 0, cells := 0, slots := 0, locals := 0 } : Room) s m args below meth c H locs 0 0 Q (F0 m 4 ls []) := by
    intro fu_; induction fu_ with
    | zero => intro l4_1 l4_2 i4_0 i4_1 i4_2 i4_3 hm; exact absurd hm (by omega)
    | succ fu_ ih4 =>
        intro l4_1 l4_2 i4_0 i4_1 i4_2 i4_3 hm ls H locs hl hP hD hS
        have lo_l4_1 := k_lo l4_1
        have hi_l4_1 := k_hi l4_1
        have lo_l4_2 := k_lo l4_2
        have hi_l4_2 := k_hi l4_2
        have i4_3 : l4_1 = wmN gx l4_2.toInt.toNat := i4_3
        refine lv_iload_n hx hb dX8_wiredMiles_4 rfl (lv_at hl 0 rfl) ?_
        refine lv_bipush (v := 40) hx hb dX8_wiredMiles_5 (by decide +kernel) ?_
        refine b_icmp_ge hx hb rfl zl_40 (tgt := 28) dX8_wiredMiles_7 (by decide +kernel) (fun c_3 => ?_) (fun c_3 => ?_)
        · refine lv_iload_n hx hb dX8_wiredMiles_28 rfl (lv_at hl 1 rfl) ?_
          exact hRet () [0, 1] (by rw [i4_3, show l4_2.toInt.toNat = 40 from by omega]) hP hD (by decide +kernel) rfl hS rfl dX8_wiredMiles_29
        · refine lv_aload_n hx hb dX8_wiredMiles_10 rfl (lv_at hl 2 rfl) ?_
          refine va_get (D := D) (ci := 8) (v := .ref k6) (C := RX8) (T := TX8) (N := 10) hx hb hT giX8 hown hK hP 0 rfl rfl 6 (by decide +kernel) (hT (Cond.fieldLink RX8 30 "DesertWire$Works" "poles" "[I") mw_46) (fun _ h9 => h9) rfl dX8_wiredMiles_11 ?_
          refine lv_iload_n hx hb dX8_wiredMiles_14 rfl (lv_at hl 0 rfl) ?_
          refine k_iald (v := (c6 l4_2.toNatClampNeg)) hx hb hK hP 1 0 rfl rfl (k_in (by omega) (by omega)) rfl dX8_wiredMiles_15 ?_
          refine lv_topi (fun v_4 ev_4 => ?_)
          have lo_v_4 := k_lo v_4
          have hi_v_4 := k_hi v_4
          have tv_4 : v_4.toInt = (c6 l4_2.toNatClampNeg).toInt := by rw [ev_4]
          refine b_if_le hx hb rfl (tgt := 22) dX8_wiredMiles_16 (by decide +kernel) (fun c_5 => ?_) (fun c_5 => ?_)
          · obtain ⟨v_6, ev_6⟩ : ∃ y : Int32, y = l4_2 + 1 := ⟨_, rfl⟩
            have tv_6 : v_6.toInt = l4_2.toInt + 1 := by rw [ev_6]; exact k_addv rfl zl_1 (by omega) (by omega)
            refine lv_iinc (v := v_6) (lv' := [(2, .int v_6), (1, .int l4_1), (0, .ref k)]) hx hb dX8_wiredMiles_22 hl (k := 0) rfl (by rw [ev_6]; rfl) (by decide +kernel) rfl ?_
            clear hl
            intro ls hl
            refine lv_goto (tgt := 4) hx hb dX8_wiredMiles_25 (by decide +kernel) ?_
            exact ih4 l4_1 v_6 (by first | omega | decide | assumption | rfl) (by first | omega | decide | assumption | rfl) (by first | omega | decide | assumption | rfl) (wmN_n i4_3 (by omega) (by omega) (WKR.wd0 pre0 (m := l4_2) (by omega) (by omega) (by omega))) (by omega) ls _ _ (lv_sub hl [0, 1, 2] rfl) (hP.sub [0, 1] rfl) (hD.sub [0, 1] (by decide +kernel) rfl) hS
          · obtain ⟨v_7, ev_7⟩ : ∃ y : Int32, y = l4_1 + 1 := ⟨_, rfl⟩
            have lo_v_7 := k_lo v_7
            have hi_v_7 := k_hi v_7
            refine lv_iinc (v := v_7) (lv' := [(1, .int v_7), (2, .int l4_2), (0, .ref k)]) hx hb dX8_wiredMiles_19 hl (k := 1) rfl (by rw [ev_7]; rfl) (by decide +kernel) rfl ?_
            clear hl
            intro ls hl
            obtain ⟨v_8, ev_8⟩ : ∃ y : Int32, y = l4_2 + 1 := ⟨_, rfl⟩
            have tv_8 : v_8.toInt = l4_2.toInt + 1 := by rw [ev_8]; exact k_addv rfl zl_1 (by omega) (by omega)
            refine lv_iinc (v := v_8) (lv' := [(2, .int v_8), (1, .int v_7), (0, .ref k)]) hx hb dX8_wiredMiles_22 hl (k := 1) rfl (by rw [ev_8]; rfl) (by decide +kernel) rfl ?_
            clear hl
            intro ls hl
            refine lv_goto (tgt := 4) hx hb dX8_wiredMiles_25 (by decide +kernel) ?_
            exact ih4 v_7 v_8 (by first | omega | decide | assumption | rfl) (by first | omega | decide | assumption | rfl) (by first | omega | decide | assumption | rfl) (wmN_y i4_3 (by omega) (by omega) (WKR.wd1 pre0 (m := l4_2) (by omega) (by omega) (by omega)) ev_7) (by omega) ls _ _ (lv_sub hl [0, 1, 2] rfl) (hP.sub [0, 1] rfl) (hD.sub [0, 1] (by decide +kernel) rfl) hS
  exact hloop_4 _ 0 0 (by first | omega | (simp only [zl_0]; first | done | omega) | decide | assumption | rfl) (by first | omega | (simp only [zl_0]; first | done | omega) | decide | assumption | rfl) (by first | omega | (simp only [zl_0]; first | done | omega) | decide | assumption | rfl) (by rw [zl_0]; rfl) (Nat.lt_succ_self _) ls _ _ (lv_sub hl [0, 1, 2] rfl) hP hD hS

set_option maxHeartbeats 4000000 in
set_option maxRecDepth 100000 in
theorem c_X8_drinkInD (l : Launch) (D : va_G) (cI : ClassId) (aK aV : Nat → Nat) (k k0 k1 k2 k3 k4 k5 k6 k7 k8 : Nat) (sz : Nat) (c9 : Int32) (c7 : Nat → Int32) (c0 : Nat → Int32) (c1 : Nat → Int32) (c2 : Nat → Int32) (c3 : Nat → Int32) (c4 : Nat → Int32) (c5 : Nat → Int32) (c6 : Nat → Int32) (c8 : Nat → Int32) (gx : Nat → Int32) (a0 : Int32) (pre0 : WKR c0 c1 c2 c3 c4 c5 c6 c7 c8 c9 gx) : Met l yX8_drinkIn (gW yX8_drinkIn cX8_drinkIn 2 (some .int)) ({ frames := 1, cells := 0, slots := 0, locals := 20 } : Room) (kPreX D cI aK aV [.ref k, .int a0] [(k, .inr (8, [.ref k0, .ref k1, .ref k2, .ref k3, .ref k4, .ref k5, .ref k6, .ref k7, .ref k8, .int c9])), (k7, .inl (cI, 40, .inl c7))] sz) (va_Qi (fun (r : Int32) (u : Unit) => (0 ≤ a0.toInt ∧ a0.toInt ≤ 39 ∧ r = wlF gx a0.toInt) ∨ (r = 0 ∧ (a0.toInt < 0 ∨ 39 < a0.toInt))) (fun u t => kWd D cI (va_A [(k, .inr (8, [.ref k0, .ref k1, .ref k2, .ref k3, .ref k4, .ref k5, .ref k6, .ref k7, .ref k8, .int c9])), (k7, .inl (cI, 40, .inl c7))] sz) [(k, .inr (8, [.ref k0, .ref k1, .ref k2, .ref k3, .ref k4, .ref k5, .ref k6, .ref k7, .ref k8, .int c9])), (k7, .inl (cI, 40, .inl c7))] t) (va_A [(k, .inr (8, [.ref k0, .ref k1, .ref k2, .ref k3, .ref k4, .ref k5, .ref k6, .ref k7, .ref k8, .int c9])), (k7, .inl (cI, 40, .inl c7))] sz)) 0 0 (va_A [(k, .inr (8, [.ref k0, .ref k1, .ref k2, .ref k3, .ref k4, .ref k5, .ref k6, .ref k7, .ref k8, .int c9])), (k7, .inl (cI, 40, .inl c7))] sz) := by
  refine kMetIX (own := RX8) (by decide +kernel) rfl (Nat.le_of_ble_eq_true rfl) ?_
  intro p e s m args below meth c hx hb hT hown hname hml A Q hK hP hD hS hA hN hXS hRet ls hl
  have hl : lv_has ls 2 [(0, .ref k), (1, .int a0)] := hl
  have lo_a0 := k_lo a0
  have hi_a0 := k_hi a0
  have lo_c9 := k_lo c9
  have hi_c9 := k_hi c9
  have pre0 : WKR c0 c1 c2 c3 c4 c5 c6 c7 c8 c9 gx := pre0
  have b_1 : 0 ≤ c9.toInt ∧ c9.toInt ≤ 60 := WKR.n0 pre0
  have t_2 : c9.toInt = (gx 1).toInt := WKR.nt pre0
  refine lv_iload_n hx hb dX8_drinkIn_0 rfl (lv_at hl 1 rfl) ?_
  refine kJi (wr := [(k, .inr (8, [.ref k0, .ref k1, .ref k2, .ref k3, .ref k4, .ref k5, .ref k6, .ref k7, .ref k8, .int c9])), (k7, .inl (cI, 40, .inl c7))]) (va_runSN (As := [.int a0]) (rest := []) ⟨hx, hb, hml, hown, hT⟩ (c_X10_isMileG l D cI aK aV s.heap.size a0) ⟨va_cnB 1 hT (gW_in mw_346) rfl rfl rfl (hN _ mw_372) (hT _ mw_1) (by decide +kernel) ⟨Nat.le_of_ble_eq_true rfl, Nat.le_of_ble_eq_true rfl⟩, hT _ mw_345, trivial⟩ (kStatX hK hP hD hN hXS hS hA [] rfl (by decide +kernel)) rfl rfl hl.1 rfl (lv_room (Nat.le_of_ble_eq_true rfl)) dX8_drinkIn_1 ⟨Nat.le_of_ble_eq_true rfl, Nat.le_of_ble_eq_true rfl⟩) hP hD hS hA [] [0, 1] rfl rfl (by decide +kernel) (by decide +kernel) ?_
  clear hP hD hS
  intro r_3 u_5 H locs w_4 hP hD hS
  replace hP : va_P D vwCl [(k, .inr (8, [.ref k0, .ref k1, .ref k2, .ref k3, .ref k4, .ref k5, .ref k6, .ref k7, .ref k8, .int c9])), (k7, .inl (cI, 40, .inl c7))] H := hP
  replace hD : va_D A [(k, .inr (8, [.ref k0, .ref k1, .ref k2, .ref k3, .ref k4, .ref k5, .ref k6, .ref k7, .ref k8, .int c9])), (k7, .inl (cI, 40, .inl c7))] := hD
  rcases w_4 with ⟨hr_3, h_6, h_7⟩ | ⟨hr_3, h_8⟩
  · have h_6 : 0 ≤ a0.toInt := h_6
    have h_7 : a0.toInt ≤ 39 := h_7
    obtain rfl : r_3 = 1 := hr_3.trans (by decide +kernel)
    refine b_if_eq hx hb zl_1 (tgt := 16) dX8_drinkIn_4 (by decide +kernel) (fun c_9 => by exfalso; omega) (fun c_9 => ?_)
    refine lv_aload_n hx hb dX8_drinkIn_7 rfl (lv_at hl 0 rfl) ?_
    refine va_get (D := D) (ci := 8) (v := .ref k7) (C := RX8) (T := TX8) (N := 10) hx hb hT giX8 hown hK hP 0 rfl rfl 7 (by decide +kernel) (hT (Cond.fieldLink RX8 33 "DesertWire$Works" "drinks" "[I") mw_47) (fun _ h9 => h9) rfl dX8_drinkIn_8 ?_
    refine lv_iload_n hx hb dX8_drinkIn_11 rfl (lv_at hl 1 rfl) ?_
    refine k_iald (v := (c7 a0.toNatClampNeg)) hx hb hK hP 1 0 rfl rfl (k_in (by omega) (by omega)) rfl dX8_drinkIn_12 ?_
    refine lv_topi (fun v_10 ev_10 => ?_)
    have lo_v_10 := k_lo v_10
    have hi_v_10 := k_hi v_10
    have tv_10 : v_10.toInt = (c7 a0.toNatClampNeg).toInt := by rw [ev_10]
    refine lv_goto (tgt := 17) hx hb dX8_drinkIn_13 (by decide +kernel) ?_
    exact hRet () [0, 1] (by first | exact Or.inl ⟨(by omega), (by omega), (Eq.trans ev_10 (WKR.qdr pre0 (by omega) (by omega)))⟩ | exact Or.inr (⟨ev_10, (by omega)⟩)) hP hD (by decide +kernel) rfl hS rfl dX8_drinkIn_17
  · have h_8 : a0.toInt < 0 ∨ 39 < a0.toInt := h_8
    obtain rfl : r_3 = 0 := hr_3.trans (by decide +kernel)
    refine b_if_eq hx hb zl_0 (tgt := 16) dX8_drinkIn_4 (by decide +kernel) (fun c_11 => ?_) (fun c_11 => by exfalso; omega)
    refine lv_iconst (v := 0) hx hb dX8_drinkIn_16 (by decide +kernel) ?_
    exact hRet () [0, 1] (by first | exact Or.inl ⟨(by omega), (by omega), (Eq.trans e0 (WKR.qdr pre0 (by omega) (by omega)))⟩ | exact Or.inr (⟨rfl, (by omega)⟩)) hP hD (by decide +kernel) rfl hS rfl dX8_drinkIn_17

set_option maxHeartbeats 4000000 in
set_option maxRecDepth 100000 in
theorem c_X8_takeFoodD (l : Launch) (D : va_G) (cI : ClassId) (aK aV : Nat → Nat) (k k0 k1 k2 k3 k4 k5 k6 k7 k8 : Nat) (sz : Nat) (c9 : Int32) (c0 : Nat → Int32) (c1 : Nat → Int32) (c4 : Nat → Int32) (c5 : Nat → Int32) (c8 : Nat → Int32) (c2 : Nat → Int32) (c3 : Nat → Int32) (c6 : Nat → Int32) (c7 : Nat → Int32) (gx : Nat → Int32) (gq : Int) (a0 : Int32) (a1 : Int32) (pre0 : WKR c0 c1 c2 c3 c4 c5 c6 c7 c8 c9 gx) (pre1 : SIX gx gq) (pre2 : 0 ≤ a0.toInt) (pre3 : a0.toInt ≤ 39) (pre4 : -9999 ≤ a1.toInt) (pre5 : a1.toInt ≤ 1000) : Met l yX8_takeFood (gW yX8_takeFood cX8_takeFood 6 (some .int)) ({ frames := 1, cells := 0, slots := 0, locals := 40 } : Room) (kPreX D cI aK aV [.ref k, .int a0, .int a1] [(k, .inr (8, [.ref k0, .ref k1, .ref k2, .ref k3, .ref k4, .ref k5, .ref k6, .ref k7, .ref k8, .int c9])), (k0, .inl (cI, 60, .inl c0)), (k1, .inl (cI, 60, .inl c1)), (k4, .inl (cI, 60, .inl c4)), (k5, .inl (cI, 60, .inl c5)), (k8, .inl (cI, 40, .inl c8))] sz) (va_Qi (fun (r : Int32) (u : (Nat → Int32)) => r = (eaT gx a0.toInt a1 (gx 1).toInt.toNat).1 ∧ WKR c0 c1 c2 c3 u c5 c6 c7 c8 c9 (eaT gx a0.toInt a1 (gx 1).toInt.toNat).2) (fun u t => kWd D cI (va_A [(k, .inr (8, [.ref k0, .ref k1, .ref k2, .ref k3, .ref k4, .ref k5, .ref k6, .ref k7, .ref k8, .int c9])), (k0, .inl (cI, 60, .inl c0)), (k1, .inl (cI, 60, .inl c1)), (k4, .inl (cI, 60, .inl c4)), (k5, .inl (cI, 60, .inl c5)), (k8, .inl (cI, 40, .inl c8))] sz) [(k, .inr (8, [.ref k0, .ref k1, .ref k2, .ref k3, .ref k4, .ref k5, .ref k6, .ref k7, .ref k8, .int c9])), (k0, .inl (cI, 60, .inl c0)), (k1, .inl (cI, 60, .inl c1)), (k4, .inl (cI, 60, .inl u)), (k5, .inl (cI, 60, .inl c5)), (k8, .inl (cI, 40, .inl c8))] t) (va_A [(k, .inr (8, [.ref k0, .ref k1, .ref k2, .ref k3, .ref k4, .ref k5, .ref k6, .ref k7, .ref k8, .int c9])), (k0, .inl (cI, 60, .inl c0)), (k1, .inl (cI, 60, .inl c1)), (k4, .inl (cI, 60, .inl c4)), (k5, .inl (cI, 60, .inl c5)), (k8, .inl (cI, 40, .inl c8))] sz)) 0 0 (va_A [(k, .inr (8, [.ref k0, .ref k1, .ref k2, .ref k3, .ref k4, .ref k5, .ref k6, .ref k7, .ref k8, .int c9])), (k0, .inl (cI, 60, .inl c0)), (k1, .inl (cI, 60, .inl c1)), (k4, .inl (cI, 60, .inl c4)), (k5, .inl (cI, 60, .inl c5)), (k8, .inl (cI, 40, .inl c8))] sz) := by
  refine kMetIX (own := RX8) (by decide +kernel) rfl (Nat.le_of_ble_eq_true rfl) ?_
  intro p e s m args below meth c hx hb hT hown hname hml A Q hK hP hD hS hA hN hXS hRet ls hl
  have hl : lv_has ls 6 [(0, .ref k), (1, .int a0), (2, .int a1)] := hl
  have lo_a0 := k_lo a0
  have hi_a0 := k_hi a0
  have lo_a1 := k_lo a1
  have hi_a1 := k_hi a1
  have lo_c9 := k_lo c9
  have hi_c9 := k_hi c9
  have pre0 : WKR c0 c1 c2 c3 c4 c5 c6 c7 c8 c9 gx := pre0
  have b_1 : 0 ≤ c9.toInt ∧ c9.toInt ≤ 60 := WKR.n0 pre0
  have t_2 : c9.toInt = (gx 1).toInt := WKR.nt pre0
  have pre1 : SIX gx gq := pre1
  refine lv_iconst (v := 0) hx hb dX8_takeFood_0 (by decide +kernel) ?_
  refine lv_istore_n (lv' := [(3, .int 0), (0, .ref k), (1, .int a0), (2, .int a1)]) hx hb dX8_takeFood_1 rfl hl (by decide +kernel) rfl ?_
  clear hl
  intro ls hl
  refine lv_iload_n hx hb dX8_takeFood_2 rfl (lv_at hl 2 rfl) ?_
  refine kJi (wr := [(k, .inr (8, [.ref k0, .ref k1, .ref k2, .ref k3, .ref k4, .ref k5, .ref k6, .ref k7, .ref k8, .int c9])), (k0, .inl (cI, 60, .inl c0)), (k1, .inl (cI, 60, .inl c1)), (k4, .inl (cI, 60, .inl c4)), (k5, .inl (cI, 60, .inl c5)), (k8, .inl (cI, 40, .inl c8))]) (va_runSN (As := [.int a0]) (rest := []) ⟨hx, hb, hml, hown, hT⟩ (c_X10_isMileG l D cI aK aV s.heap.size a0) ⟨va_cnB 1 hT (gW_in mw_346) rfl rfl rfl (hN _ mw_372) (hT _ mw_1) (by decide +kernel) ⟨Nat.le_of_ble_eq_true rfl, Nat.le_of_ble_eq_true rfl⟩, hT _ mw_345, trivial⟩ (kStatX hK hP hD hN hXS hS hA [] rfl (by decide +kernel)) rfl rfl hl.1 rfl (lv_room (Nat.le_of_ble_eq_true rfl)) dX8_takeFood_3 ⟨Nat.le_of_ble_eq_true rfl, Nat.le_of_ble_eq_true rfl⟩) hP hD hS hA [] [0, 1, 2, 3, 4, 5] rfl rfl (by decide +kernel) (by decide +kernel) ?_
  clear hP hD hS
  intro r_3 u_5 H locs w_4 hP hD hS
  replace hP : va_P D vwCl [(k, .inr (8, [.ref k0, .ref k1, .ref k2, .ref k3, .ref k4, .ref k5, .ref k6, .ref k7, .ref k8, .int c9])), (k0, .inl (cI, 60, .inl c0)), (k1, .inl (cI, 60, .inl c1)), (k4, .inl (cI, 60, .inl c4)), (k5, .inl (cI, 60, .inl c5)), (k8, .inl (cI, 40, .inl c8))] H := hP
  replace hD : va_D A [(k, .inr (8, [.ref k0, .ref k1, .ref k2, .ref k3, .ref k4, .ref k5, .ref k6, .ref k7, .ref k8, .int c9])), (k0, .inl (cI, 60, .inl c0)), (k1, .inl (cI, 60, .inl c1)), (k4, .inl (cI, 60, .inl c4)), (k5, .inl (cI, 60, .inl c5)), (k8, .inl (cI, 40, .inl c8))] := hD
  rcases w_4 with ⟨hr_3, h_6, h_7⟩ | ⟨hr_3, h_8⟩
  · have h_6 : 0 ≤ a0.toInt := h_6
    have h_7 : a0.toInt ≤ 39 := h_7
    obtain rfl : r_3 = 1 := hr_3.trans (by decide +kernel)
    refine b_if_eq hx hb zl_1 (tgt := 18) dX8_takeFood_6 (by decide +kernel) (fun c_9 => by exfalso; omega) (fun c_9 => ?_)
    refine lv_aload_n hx hb dX8_takeFood_9 rfl (lv_at hl 1 rfl) ?_
    refine va_get (D := D) (ci := 8) (v := .ref k8) (C := RX8) (T := TX8) (N := 10) hx hb hT giX8 hown hK hP 0 rfl rfl 8 (by decide +kernel) (hT (Cond.fieldLink RX8 36 "DesertWire$Works" "depots" "[I") mw_48) (fun _ h9 => h9) rfl dX8_takeFood_10 ?_
    refine lv_iload_n hx hb dX8_takeFood_13 rfl (lv_at hl 2 rfl) ?_
    refine k_iald (v := (c8 a0.toNatClampNeg)) hx hb hK hP 5 0 rfl rfl (k_in (by omega) (by omega)) rfl dX8_takeFood_14 ?_
    refine lv_topi (fun v_10 ev_10 => ?_)
    have lo_v_10 := k_lo v_10
    have hi_v_10 := k_hi v_10
    have tv_10 : v_10.toInt = (c8 a0.toNatClampNeg).toInt := by rw [ev_10]
    refine b_if_ne hx hb rfl (tgt := 20) dX8_takeFood_15 (by decide +kernel) (fun c_11 => ?_) (fun c_11 => ?_)
    · refine lv_iconst (v := 0) hx hb dX8_takeFood_20 (by decide +kernel) ?_
      refine lv_istore (lv' := [(4, .int 0), (3, .int 0), (0, .ref k), (1, .int a0), (2, .int a1)]) hx hb dX8_takeFood_21 hl (by decide +kernel) rfl ?_
      clear hl
      intro ls hl
      have hloop_23 : ∀ (fu_ : Nat) (l23_3 : Int32) (l23_4 : Int32) (g23_k4 : Nat → Int32) (g23_gx : Nat → Int32), 0 ≤ l23_3.toInt → 0 ≤ l23_4.toInt → WKR c0 c1 c2 c3 g23_k4 c5 c6 c7 c8 c9 g23_gx → SIX g23_gx gq → l23_3 = (eaT gx a0.toInt a1 l23_4.toInt.toNat).1 → g23_gx = (eaT gx a0.toInt a1 l23_4.toInt.toNat).2 → 0 ≤ l23_3.toInt → (l23_3.toInt = 0 ∨ l23_3.toInt ≤ a1.toInt) → l23_4.toInt ≤ c9.toInt → 0 ≤ l23_4.toInt → (c9.toInt - l23_4.toInt).toNat < fu_ → ∀ (ls : Array Slot) (H : Heap) (locs : List Loc), lv_has ls 6 [(4, .int l23_4), (3, .int l23_3), (0, .ref k), (1, .int a0), (2, .int a1)] → va_P D vwCl [(k, .inr (8, [.ref k0, .ref k1, .ref k2, .ref k3, .ref k4, .ref k5, .ref k6, .ref k7, .ref k8, .int c9])), (k0, .inl (cI, 60, .inl c0)), (k1, .inl (cI, 60, .inl c1)), (k4, .inl (cI, 60, .inl g23_k4)), (k5, .inl (cI, 60, .inl c5)), (k8, .inl (cI, 40, .inl c8))] H → va_D A [(k, .inr (8, [.ref k0, .ref k1, .ref k2, .ref k3, .ref k4, .ref k5, .ref k6, .ref k7, .ref k8, .int c9])), (k0, .inl (cI, 60, .inl c0)), (k1, .inl (cI, 60, .inl c1)), (k4, .inl (cI, 60, .inl g23_k4)), (k5, .inl (cI, 60, .inl c5)), (k8, .inl (cI, 40, .inl c8))] → va_S A s.heap H locs → W p l e ({ frames := 1, cells := 0, slots := 0, locals := 40 } : Room) s m args below meth c H locs 0 0 Q (F0 m 23 ls []) := by
        intro fu_; induction fu_ with
        | zero => intro l23_3 l23_4 g23_k4 g23_gx i23_0 i23_1 i23_2 i23_3 i23_4 i23_5 i23_6 i23_7 i23_8 i23_9 hm; exact absurd hm (by omega)
        | succ fu_ ih23 =>
            intro l23_3 l23_4 g23_k4 g23_gx i23_0 i23_1 i23_2 i23_3 i23_4 i23_5 i23_6 i23_7 i23_8 i23_9 hm ls H locs hl hP hD hS
            have lo_l23_3 := k_lo l23_3
            have hi_l23_3 := k_hi l23_3
            have lo_l23_4 := k_lo l23_4
            have hi_l23_4 := k_hi l23_4
            have i23_2 : WKR c0 c1 c2 c3 g23_k4 c5 c6 c7 c8 c9 g23_gx := i23_2
            have t_12 : c9.toInt = (g23_gx 1).toInt := WKR.nt i23_2
            have i23_3 : SIX g23_gx gq := i23_3
            have i23_4 : l23_3 = (eaT gx a0.toInt a1 l23_4.toInt.toNat).1 := i23_4
            have i23_5 : g23_gx = (eaT gx a0.toInt a1 l23_4.toInt.toNat).2 := i23_5
            refine lv_iload hx hb dX8_takeFood_23 (lv_at hl 0 rfl) ?_
            refine lv_aload_n hx hb dX8_takeFood_25 rfl (lv_at hl 2 rfl) ?_
            refine va_get (D := D) (ci := 8) (v := .int c9) (C := RX8) (T := TX8) (N := 10) hx hb hT giX8 hown hK hP 0 rfl rfl 9 (by decide +kernel) (hT (Cond.fieldLink RX8 39 "DesertWire$Works" "number" "I") mw_49) (fun _ h9 => h9) rfl dX8_takeFood_26 ?_
            refine b_icmp_ge hx hb rfl rfl (tgt := 114) dX8_takeFood_29 (by decide +kernel) (fun c_13 => ?_) (fun c_13 => ?_)
            · refine lv_iload_n hx hb dX8_takeFood_114 rfl (lv_at hl 1 rfl) ?_
              exact hRet g23_k4 [0, 1, 2, 3, 4, 5] ⟨(by rw [show (gx 1).toInt.toNat = l23_4.toInt.toNat from by omega]; exact i23_4), (WKR.gt i23_2 (by rw [show (gx 1).toInt.toNat = l23_4.toInt.toNat from by omega]; exact i23_5.symm))⟩ hP hD (by decide +kernel) rfl hS rfl dX8_takeFood_115
            · refine lv_iload hx hb dX8_takeFood_32 (lv_at hl 0 rfl) ?_
              refine lv_bipush (v := 60) hx hb dX8_takeFood_34 (by decide +kernel) ?_
              refine b_icmp_ge hx hb rfl zl_60 (tgt := 114) dX8_takeFood_36 (by decide +kernel) (fun c_14 => by exfalso; omega) (fun c_14 => ?_)
              refine lv_iload_n hx hb dX8_takeFood_39 rfl (lv_at hl 1 rfl) ?_
              refine lv_iload_n hx hb dX8_takeFood_40 rfl (lv_at hl 4 rfl) ?_
              refine b_icmp_ge hx hb rfl rfl (tgt := 114) dX8_takeFood_41 (by decide +kernel) (fun c_15 => ?_) (fun c_15 => ?_)
              · refine lv_iload_n hx hb dX8_takeFood_114 rfl (lv_at hl 1 rfl) ?_
                exact hRet g23_k4 [0, 1, 2, 3, 4, 5] ⟨(i23_4.trans (eaT_end pre1 ⟨by omega, by omega⟩ (a := l23_4.toInt.toNat) (by rw [← i23_4]; omega) (gx 1).toInt.toNat (by omega) (by omega)).1.symm), (WKR.gt i23_2 ((eaT_end pre1 ⟨by omega, by omega⟩ (a := l23_4.toInt.toNat) (by rw [← i23_4]; omega) (gx 1).toInt.toNat (by omega) (by omega)).2.trans i23_5.symm))⟩ hP hD (by decide +kernel) rfl hS rfl dX8_takeFood_115
              · refine lv_aload_n hx hb dX8_takeFood_44 rfl (lv_at hl 2 rfl) ?_
                refine va_get (D := D) (ci := 8) (v := .ref k0) (C := RX8) (T := TX8) (N := 10) hx hb hT giX8 hown hK hP 0 rfl rfl 0 (by decide +kernel) (hT (Cond.fieldLink RX8 9 "DesertWire$Works" "kinds" "[I") mw_40) (fun _ h9 => h9) rfl dX8_takeFood_45 ?_
                refine lv_iload hx hb dX8_takeFood_48 (lv_at hl 0 rfl) ?_
                refine k_iald (v := (c0 l23_4.toNatClampNeg)) hx hb hK hP 1 0 rfl rfl (k_in (by omega) (by omega)) rfl dX8_takeFood_50 ?_
                refine lv_topi (fun v_16 ev_16 => ?_)
                have lo_v_16 := k_lo v_16
                have hi_v_16 := k_hi v_16
                have tv_16 : v_16.toInt = (c0 l23_4.toNatClampNeg).toInt := by rw [ev_16]
                have h_17 : v_16 = wW g23_gx l23_4 0 := Eq.trans ev_16 (WKR.r0 i23_2 (by omega) (by omega))
                have t_18 : v_16.toInt = (wW g23_gx l23_4 0).toInt := by rw [h_17]
                have b_19 : 0 ≤ v_16.toInt ∧ v_16.toInt ≤ 5 := by rw [h_17]; exact SB.w0 (And.left i23_3) (by omega) (by omega)
                refine lv_iconst (v := 5) hx hb dX8_takeFood_51 (by decide +kernel) ?_
                refine b_icmp_ne hx hb rfl zl_5 (tgt := 108) dX8_takeFood_52 (by decide +kernel) (fun c_20 => ?_) (fun c_20 => ?_)
                · obtain ⟨v_21, ev_21⟩ : ∃ y : Int32, y = l23_4 + 1 := ⟨_, rfl⟩
                  have tv_21 : v_21.toInt = l23_4.toInt + 1 := by rw [ev_21]; exact k_addv rfl zl_1 (by omega) (by omega)
                  refine lv_iinc (v := v_21) (lv' := [(4, .int v_21), (3, .int l23_3), (0, .ref k), (1, .int a0), (2, .int a1)]) hx hb dX8_takeFood_108 hl (k := 0) rfl (by rw [ev_21]; rfl) (by decide +kernel) rfl ?_
                  clear hl
                  intro ls hl
                  refine lv_goto (tgt := 23) hx hb dX8_takeFood_111 (by decide +kernel) ?_
                  exact ih23 l23_3 v_21 g23_k4 g23_gx (by first | omega | decide | assumption | rfl) (by first | omega | decide | assumption | rfl) i23_2 i23_3 (eaT_s0 (by omega) (by omega) i23_4 i23_5 (eaV_no (Or.inr (Or.inl (by show stF g23_gx l23_4 5 = 0; exact tf_k (by rw [← h_17]; omega)))))).1 (eaT_s0 (by omega) (by omega) i23_4 i23_5 (eaV_no (Or.inr (Or.inl (by show stF g23_gx l23_4 5 = 0; exact tf_k (by rw [← h_17]; omega)))))).2 (by first | omega | decide | assumption | rfl) (by first | omega | exact Or.inl zl_0) (by first | omega | decide | assumption | rfl) (by first | omega | decide | assumption | rfl) (by omega) ls _ _ (lv_sub hl [0, 1, 2, 3, 4] rfl) (hP.sub [0, 1, 2, 3, 4, 5] rfl) (hD.sub [0, 1, 2, 3, 4, 5] (by decide +kernel) rfl) hS
                · refine lv_aload_n hx hb dX8_takeFood_55 rfl (lv_at hl 2 rfl) ?_
                  refine va_get (D := D) (ci := 8) (v := .ref k5) (C := RX8) (T := TX8) (N := 10) hx hb hT giX8 hown hK hP 0 rfl rfl 5 (by decide +kernel) (hT (Cond.fieldLink RX8 27 "DesertWire$Works" "downs" "[I") mw_45) (fun _ h9 => h9) rfl dX8_takeFood_56 ?_
                  refine lv_iload hx hb dX8_takeFood_59 (lv_at hl 0 rfl) ?_
                  refine k_iald (v := (c5 l23_4.toNatClampNeg)) hx hb hK hP 4 0 rfl rfl (k_in (by omega) (by omega)) rfl dX8_takeFood_61 ?_
                  refine lv_topi (fun v_22 ev_22 => ?_)
                  have lo_v_22 := k_lo v_22
                  have hi_v_22 := k_hi v_22
                  have tv_22 : v_22.toInt = (c5 l23_4.toNatClampNeg).toInt := by rw [ev_22]
                  have h_23 : v_22 = wW g23_gx l23_4 4 := Eq.trans ev_22 (WKR.r4 i23_2 (by omega) (by omega))
                  have t_24 : v_22.toInt = (wW g23_gx l23_4 4).toInt := by rw [h_23]
                  have b_25 : 0 ≤ v_22.toInt ∧ v_22.toInt ≤ 1 := by rw [h_23]; exact SB.w4 (And.left i23_3) (by omega) (by omega)
                  refine b_if_ne hx hb rfl (tgt := 108) dX8_takeFood_62 (by decide +kernel) (fun c_26 => ?_) (fun c_26 => ?_)
                  · obtain ⟨v_27, ev_27⟩ : ∃ y : Int32, y = l23_4 + 1 := ⟨_, rfl⟩
                    have tv_27 : v_27.toInt = l23_4.toInt + 1 := by rw [ev_27]; exact k_addv rfl zl_1 (by omega) (by omega)
                    refine lv_iinc (v := v_27) (lv' := [(4, .int v_27), (3, .int l23_3), (0, .ref k), (1, .int a0), (2, .int a1)]) hx hb dX8_takeFood_108 hl (k := 0) rfl (by rw [ev_27]; rfl) (by decide +kernel) rfl ?_
                    clear hl
                    intro ls hl
                    refine lv_goto (tgt := 23) hx hb dX8_takeFood_111 (by decide +kernel) ?_
                    exact ih23 l23_3 v_27 g23_k4 g23_gx (by first | omega | decide | assumption | rfl) (by first | omega | decide | assumption | rfl) i23_2 i23_3 (eaT_s0 (by omega) (by omega) i23_4 i23_5 (eaV_no (Or.inr (Or.inl (by show stF g23_gx l23_4 5 = 0; exact stF_n h_23 (by omega)))))).1 (eaT_s0 (by omega) (by omega) i23_4 i23_5 (eaV_no (Or.inr (Or.inl (by show stF g23_gx l23_4 5 = 0; exact stF_n h_23 (by omega)))))).2 (by first | omega | decide | assumption | rfl) (by first | omega | exact Or.inl zl_0) (by first | omega | decide | assumption | rfl) (by first | omega | decide | assumption | rfl) (by omega) ls _ _ (lv_sub hl [0, 1, 2, 3, 4] rfl) (hP.sub [0, 1, 2, 3, 4, 5] rfl) (hD.sub [0, 1, 2, 3, 4, 5] (by decide +kernel) rfl) hS
                  · refine lv_aload_n hx hb dX8_takeFood_65 rfl (lv_at hl 2 rfl) ?_
                    refine va_get (D := D) (ci := 8) (v := .ref k1) (C := RX8) (T := TX8) (N := 10) hx hb hT giX8 hown hK hP 0 rfl rfl 1 (by decide +kernel) (hT (Cond.fieldLink RX8 15 "DesertWire$Works" "miles" "[I") mw_41) (fun _ h9 => h9) rfl dX8_takeFood_66 ?_
                    refine lv_iload hx hb dX8_takeFood_69 (lv_at hl 0 rfl) ?_
                    refine k_iald (v := (c1 l23_4.toNatClampNeg)) hx hb hK hP 2 0 rfl rfl (k_in (by omega) (by omega)) rfl dX8_takeFood_71 ?_
                    refine lv_topi (fun v_28 ev_28 => ?_)
                    have lo_v_28 := k_lo v_28
                    have hi_v_28 := k_hi v_28
                    have tv_28 : v_28.toInt = (c1 l23_4.toNatClampNeg).toInt := by rw [ev_28]
                    have h_29 : v_28 = wW g23_gx l23_4 1 := Eq.trans ev_28 (WKR.r1 i23_2 (by omega) (by omega))
                    have t_30 : v_28.toInt = (wW g23_gx l23_4 1).toInt := by rw [h_29]
                    have b_31 : 0 ≤ v_28.toInt ∧ v_28.toInt ≤ 39 := by rw [h_29]; exact SB.w1 (And.left i23_3) (by omega) (by omega)
                    refine lv_iload_n hx hb dX8_takeFood_72 rfl (lv_at hl 3 rfl) ?_
                    refine b_icmp_ne hx hb rfl rfl (tgt := 108) dX8_takeFood_73 (by decide +kernel) (fun c_32 => ?_) (fun c_32 => ?_)
                    · obtain ⟨v_33, ev_33⟩ : ∃ y : Int32, y = l23_4 + 1 := ⟨_, rfl⟩
                      have tv_33 : v_33.toInt = l23_4.toInt + 1 := by rw [ev_33]; exact k_addv rfl zl_1 (by omega) (by omega)
                      refine lv_iinc (v := v_33) (lv' := [(4, .int v_33), (3, .int l23_3), (0, .ref k), (1, .int a0), (2, .int a1)]) hx hb dX8_takeFood_108 hl (k := 0) rfl (by rw [ev_33]; rfl) (by decide +kernel) rfl ?_
                      clear hl
                      intro ls hl
                      refine lv_goto (tgt := 23) hx hb dX8_takeFood_111 (by decide +kernel) ?_
                      exact ih23 l23_3 v_33 g23_k4 g23_gx (by first | omega | decide | assumption | rfl) (by first | omega | decide | assumption | rfl) i23_2 i23_3 (eaT_s0 (by omega) (by omega) i23_4 i23_5 (eaV_no (Or.inl (by show (wW g23_gx l23_4 1).toInt ≠ a0.toInt; rw [← h_29]; omega)))).1 (eaT_s0 (by omega) (by omega) i23_4 i23_5 (eaV_no (Or.inl (by show (wW g23_gx l23_4 1).toInt ≠ a0.toInt; rw [← h_29]; omega)))).2 (by first | omega | decide | assumption | rfl) (by first | omega | exact Or.inl zl_0) (by first | omega | decide | assumption | rfl) (by first | omega | decide | assumption | rfl) (by omega) ls _ _ (lv_sub hl [0, 1, 2, 3, 4] rfl) (hP.sub [0, 1, 2, 3, 4, 5] rfl) (hD.sub [0, 1, 2, 3, 4, 5] (by decide +kernel) rfl) hS
                    · refine lv_aload_n hx hb dX8_takeFood_76 rfl (lv_at hl 2 rfl) ?_
                      refine va_get (D := D) (ci := 8) (v := .ref k4) (C := RX8) (T := TX8) (N := 10) hx hb hT giX8 hown hK hP 0 rfl rfl 4 (by decide +kernel) (hT (Cond.fieldLink RX8 24 "DesertWire$Works" "foods" "[I") mw_44) (fun _ h9 => h9) rfl dX8_takeFood_77 ?_
                      refine lv_iload hx hb dX8_takeFood_80 (lv_at hl 0 rfl) ?_
                      refine k_iald (v := (g23_k4 l23_4.toNatClampNeg)) hx hb hK hP 3 0 rfl rfl (k_in (by omega) (by omega)) rfl dX8_takeFood_82 ?_
                      refine lv_topi (fun v_34 ev_34 => ?_)
                      have lo_v_34 := k_lo v_34
                      have hi_v_34 := k_hi v_34
                      have tv_34 : v_34.toInt = (g23_k4 l23_4.toNatClampNeg).toInt := by rw [ev_34]
                      have h_35 : v_34 = wW g23_gx l23_4 5 := Eq.trans ev_34 (WKR.r5 i23_2 (by omega) (by omega))
                      have t_36 : v_34.toInt = (wW g23_gx l23_4 5).toInt := by rw [h_35]
                      have b_37 : 0 ≤ v_34.toInt ∧ v_34.toInt ≤ 9999 := by rw [h_35]; exact SB.w5 (And.left i23_3) (by omega) (by omega)
                      refine lv_iload_n hx hb dX8_takeFood_83 rfl (lv_at hl 4 rfl) ?_
                      refine lv_iload_n hx hb dX8_takeFood_84 rfl (lv_at hl 1 rfl) ?_
                      refine lv_isub hx hb dX8_takeFood_85 ?_
                      refine lv_topi (fun v_38 ev_38 => ?_)
                      have tv_38 : v_38.toInt = a1.toInt - l23_3.toInt := by rw [ev_38]; exact k_subv rfl rfl (by omega) (by omega)
                      refine va_mmin hx hb (hml.trans hl.1.symm) hown (hT _ mw_991) (hT _ mw_538) (hT _ mw_13) (hT _ mw_539) (Nat.le_of_ble_eq_true rfl) (Nat.le_of_ble_eq_true rfl) (Nat.le_of_ble_eq_true rfl) (Nat.le_of_ble_eq_true rfl) dX8_takeFood_86 ?_
                      refine lv_topi (fun v_39 ev_39 => ?_)
                      have lo_v_39 := k_lo v_39
                      have hi_v_39 := k_hi v_39
                      have tv_39 : v_39.toInt = k_min v_34.toInt v_38.toInt := by rw [ev_39]; exact k_mmin rfl rfl
                      try rw [tv_34] at tv_39
                      try rw [tv_38] at tv_39
                      have sv_39 := k_min_spec (v_34.toInt) (v_38.toInt)
                      try rw [tv_34] at sv_39
                      try rw [tv_38] at sv_39
                      have nv_39 : 0 ≤ v_39.toInt := by omega
                      refine lv_istore (lv' := [(5, .int v_39), (4, .int l23_4), (3, .int l23_3), (0, .ref k), (1, .int a0), (2, .int a1)]) hx hb dX8_takeFood_89 hl (by decide +kernel) rfl ?_
                      clear hl
                      intro ls hl
                      refine lv_aload_n hx hb dX8_takeFood_91 rfl (lv_at hl 3 rfl) ?_
                      refine va_get (D := D) (ci := 8) (v := .ref k4) (C := RX8) (T := TX8) (N := 10) hx hb hT giX8 hown hK hP 0 rfl rfl 4 (by decide +kernel) (hT (Cond.fieldLink RX8 24 "DesertWire$Works" "foods" "[I") mw_44) (fun _ h9 => h9) rfl dX8_takeFood_92 ?_
                      refine lv_iload hx hb dX8_takeFood_95 (lv_at hl 1 rfl) ?_
                      refine lv_dup2_11 hx hb dX8_takeFood_97 rfl rfl ?_
                      refine k_iald (v := (g23_k4 l23_4.toNatClampNeg)) hx hb hK hP 3 0 rfl rfl (k_in (by omega) (by omega)) rfl dX8_takeFood_98 ?_
                      refine lv_topi (fun v_40 ev_40 => ?_)
                      have lo_v_40 := k_lo v_40
                      have hi_v_40 := k_hi v_40
                      have tv_40 : v_40.toInt = (g23_k4 l23_4.toNatClampNeg).toInt := by rw [ev_40]
                      have h_41 : v_40 = wW g23_gx l23_4 5 := Eq.trans ev_40 (WKR.r5 i23_2 (by omega) (by omega))
                      have t_42 : v_40.toInt = (wW g23_gx l23_4 5).toInt := by rw [h_41]
                      have b_43 : 0 ≤ v_40.toInt ∧ v_40.toInt ≤ 9999 := by rw [h_41]; exact SB.w5 (And.left i23_3) (by omega) (by omega)
                      refine lv_iload hx hb dX8_takeFood_99 (lv_at hl 0 rfl) ?_
                      refine lv_isub hx hb dX8_takeFood_101 ?_
                      refine lv_topi (fun v_44 ev_44 => ?_)
                      have tv_44 : v_44.toInt = v_40.toInt - v_39.toInt := by rw [ev_44]; exact k_subv rfl rfl (by omega) (by omega)
                      refine va_iast hx hb hK hP hD hS 3 0 rfl rfl (k_in (by omega) (by omega)) dX8_takeFood_102 ?_
                      clear hP hD hS
                      intro H locs hP hD hS
                      replace hP : va_P D vwCl [(k, .inr (8, [.ref k0, .ref k1, .ref k2, .ref k3, .ref k4, .ref k5, .ref k6, .ref k7, .ref k8, .int c9])), (k0, .inl (cI, 60, .inl c0)), (k1, .inl (cI, 60, .inl c1)), (k4, .inl (cI, 60, .inl (upd g23_k4 l23_4.toNatClampNeg v_44))), (k5, .inl (cI, 60, .inl c5)), (k8, .inl (cI, 40, .inl c8))] H := hP
                      replace hD : va_D A [(k, .inr (8, [.ref k0, .ref k1, .ref k2, .ref k3, .ref k4, .ref k5, .ref k6, .ref k7, .ref k8, .int c9])), (k0, .inl (cI, 60, .inl c0)), (k1, .inl (cI, 60, .inl c1)), (k4, .inl (cI, 60, .inl (upd g23_k4 l23_4.toNatClampNeg v_44))), (k5, .inl (cI, 60, .inl c5)), (k8, .inl (cI, 40, .inl c8))] := hD
                      obtain ⟨f_45, ef_45⟩ : ∃ g : Nat → Int32, g = upd g23_k4 l23_4.toNatClampNeg v_44 := ⟨_, rfl⟩
                      rw [← ef_45] at hP hD
                      have hk_46 : WKR c0 c1 c2 c3 f_45 c5 c6 c7 c8 c9 (upd g23_gx (99 + 6 * l23_4.toInt.toNat + 5) v_44) := WKR.food i23_2 ef_45
                      have hk_46 : WKR c0 c1 c2 c3 f_45 c5 c6 c7 c8 c9 (upd g23_gx (99 + 6 * l23_4.toInt.toNat + 5) v_44) := hk_46
                      obtain ⟨gg_47, egg_47⟩ : ∃ g_ : Nat → Int32, g_ = (upd g23_gx (99 + 6 * l23_4.toInt.toNat + 5) v_44) := ⟨_, rfl⟩
                      rw [← egg_47] at hk_46
                      have t_48 : c9.toInt = (gg_47 1).toInt := WKR.nt hk_46
                      refine lv_iload_n hx hb dX8_takeFood_103 rfl (lv_at hl 2 rfl) ?_
                      refine lv_iload hx hb dX8_takeFood_104 (lv_at hl 0 rfl) ?_
                      refine lv_iadd hx hb dX8_takeFood_106 ?_
                      refine lv_topi (fun v_49 ev_49 => ?_)
                      have tv_49 : v_49.toInt = l23_3.toInt + v_39.toInt := by rw [ev_49]; exact k_addv rfl rfl (by omega) (by omega)
                      refine lv_istore_n (lv' := [(3, .int v_49), (5, .int v_39), (4, .int l23_4), (0, .ref k), (1, .int a0), (2, .int a1)]) hx hb dX8_takeFood_107 rfl hl (by decide +kernel) rfl ?_
                      clear hl
                      intro ls hl
                      obtain ⟨v_50, ev_50⟩ : ∃ y : Int32, y = l23_4 + 1 := ⟨_, rfl⟩
                      have tv_50 : v_50.toInt = l23_4.toInt + 1 := by rw [ev_50]; exact k_addv rfl zl_1 (by omega) (by omega)
                      refine lv_iinc (v := v_50) (lv' := [(4, .int v_50), (3, .int v_49), (5, .int v_39), (0, .ref k), (1, .int a0), (2, .int a1)]) hx hb dX8_takeFood_108 hl (k := 2) rfl (by rw [ev_50]; rfl) (by decide +kernel) rfl ?_
                      clear hl
                      intro ls hl
                      refine lv_goto (tgt := 23) hx hb dX8_takeFood_111 (by decide +kernel) ?_
                      exact ih23 v_49 v_50 f_45 gg_47 (by first | omega | decide | assumption | rfl) (by first | omega | decide | assumption | rfl) hk_46 (SIX.w (w := l23_4) i23_3 egg_47 rfl (by omega) (by omega) (by omega)) (eaT_s (v := v_39) (x := v_44) (by omega) (by omega) i23_4 i23_5 (eaV_in (d := v_38) (fd := v_40) (by show (wW g23_gx l23_4 1).toInt = a0.toInt; rw [← h_29]; omega) (by show stF g23_gx l23_4 5 = 1; exact tf_y h_23 h_17 (by omega) (by omega)) ev_38 (by omega) h_41 (by have z := sv_39; omega)) ev_49 (by rw [ev_44, h_41]) egg_47).1 (eaT_s (v := v_39) (x := v_44) (by omega) (by omega) i23_4 i23_5 (eaV_in (d := v_38) (fd := v_40) (by show (wW g23_gx l23_4 1).toInt = a0.toInt; rw [← h_29]; omega) (by show stF g23_gx l23_4 5 = 1; exact tf_y h_23 h_17 (by omega) (by omega)) ev_38 (by omega) h_41 (by have z := sv_39; omega)) ev_49 (by rw [ev_44, h_41]) egg_47).2 (by first | omega | decide | assumption | rfl) (by first | omega | exact Or.inl zl_0) (by first | omega | decide | assumption | rfl) (by first | omega | decide | assumption | rfl) (by omega) ls _ _ (lv_sub hl [0, 1, 3, 4, 5] rfl) (hP.sub [0, 1, 2, 3, 4, 5] rfl) (hD.sub [0, 1, 2, 3, 4, 5] (by decide +kernel) rfl) hS
      exact hloop_23 _ 0 0 c4 gx (by first | omega | (simp only [zl_0]; first | done | omega) | decide | assumption | rfl) (by first | omega | (simp only [zl_0]; first | done | omega) | decide | assumption | rfl) pre0 pre1 (by rw [zl_0]; rfl) (by rw [zl_0]; rfl) (by first | omega | (simp only [zl_0]; first | done | omega) | decide | assumption | rfl) (by first | omega | exact Or.inl zl_0) (by first | omega | (simp only [zl_0]; first | done | omega) | decide | assumption | rfl) (by first | omega | (simp only [zl_0]; first | done | omega) | decide | assumption | rfl) (Nat.lt_succ_self _) ls _ _ (lv_sub hl [0, 1, 2, 3, 4] rfl) hP hD hS
    · refine lv_iload_n hx hb dX8_takeFood_18 rfl (lv_at hl 0 rfl) ?_
      exact hRet c4 [0, 1, 2, 3, 4, 5] ⟨(eaT_no _ (WKR.none pre0 (m := a0) (by omega) (by omega) (by omega))).1.symm, (WKR.gt pre0 (eaT_no _ (WKR.none pre0 (m := a0) (by omega) (by omega) (by omega))).2)⟩ hP hD (by decide +kernel) rfl hS rfl dX8_takeFood_19
  · exfalso; omega

set_option maxHeartbeats 4000000 in
set_option maxRecDepth 100000 in
theorem c_X8_copyFromD (l : Launch) (D : va_G) (cI : ClassId) (aK aV : Nat → Nat) (k o k0 k1 k2 k3 k4 k5 k6 k7 k8 o0 o1 o2 o3 o4 o5 o6 o7 o8 : Nat) (sz : Nat) (c9 : Int32) (c0 : Nat → Int32) (c1 : Nat → Int32) (c2 : Nat → Int32) (c3 : Nat → Int32) (c4 : Nat → Int32) (c5 : Nat → Int32) (c6 : Nat → Int32) (c7 : Nat → Int32) (c8 : Nat → Int32) (d9 : Int32) (d0 : Nat → Int32) (d1 : Nat → Int32) (d2 : Nat → Int32) (d3 : Nat → Int32) (d4 : Nat → Int32) (d5 : Nat → Int32) (d6 : Nat → Int32) (d7 : Nat → Int32) (d8 : Nat → Int32) : Met l yX8_copyFrom (gW yX8_copyFrom cX8_copyFrom 2 none) ({ frames := 1, cells := 0, slots := 0, locals := 64 } : Room) (kPreX D cI aK aV [.ref k, .ref o] [(k, .inr (8, [.ref k0, .ref k1, .ref k2, .ref k3, .ref k4, .ref k5, .ref k6, .ref k7, .ref k8, .int c9])), (k0, .inl (cI, 60, .inl c0)), (k1, .inl (cI, 60, .inl c1)), (k2, .inl (cI, 60, .inl c2)), (k3, .inl (cI, 60, .inl c3)), (k4, .inl (cI, 60, .inl c4)), (k5, .inl (cI, 60, .inl c5)), (k6, .inl (cI, 40, .inl c6)), (k7, .inl (cI, 40, .inl c7)), (k8, .inl (cI, 40, .inl c8)), (o, .inr (8, [.ref o0, .ref o1, .ref o2, .ref o3, .ref o4, .ref o5, .ref o6, .ref o7, .ref o8, .int d9])), (o0, .inl (cI, 60, .inl d0)), (o1, .inl (cI, 60, .inl d1)), (o2, .inl (cI, 60, .inl d2)), (o3, .inl (cI, 60, .inl d3)), (o4, .inl (cI, 60, .inl d4)), (o5, .inl (cI, 60, .inl d5)), (o6, .inl (cI, 40, .inl d6)), (o7, .inl (cI, 40, .inl d7)), (o8, .inl (cI, 40, .inl d8))] sz) (va_Qv (fun (u : Int32 × (Nat → Int32) × (Nat → Int32) × (Nat → Int32) × (Nat → Int32) × (Nat → Int32) × (Nat → Int32) × (Nat → Int32) × (Nat → Int32) × (Nat → Int32)) => u.2.1 = d0 ∧ u.2.2.1 = d1 ∧ u.2.2.2.1 = d2 ∧ u.2.2.2.2.1 = d3 ∧ u.2.2.2.2.2.1 = d4 ∧ u.2.2.2.2.2.2.1 = d5 ∧ u.2.2.2.2.2.2.2.1 = d6 ∧ u.2.2.2.2.2.2.2.2.1 = d7 ∧ u.2.2.2.2.2.2.2.2.2 = d8 ∧ u.1 = d9) (fun u t => kWd D cI (va_A [(k, .inr (8, [.ref k0, .ref k1, .ref k2, .ref k3, .ref k4, .ref k5, .ref k6, .ref k7, .ref k8, .int c9])), (k0, .inl (cI, 60, .inl c0)), (k1, .inl (cI, 60, .inl c1)), (k2, .inl (cI, 60, .inl c2)), (k3, .inl (cI, 60, .inl c3)), (k4, .inl (cI, 60, .inl c4)), (k5, .inl (cI, 60, .inl c5)), (k6, .inl (cI, 40, .inl c6)), (k7, .inl (cI, 40, .inl c7)), (k8, .inl (cI, 40, .inl c8)), (o, .inr (8, [.ref o0, .ref o1, .ref o2, .ref o3, .ref o4, .ref o5, .ref o6, .ref o7, .ref o8, .int d9])), (o0, .inl (cI, 60, .inl d0)), (o1, .inl (cI, 60, .inl d1)), (o2, .inl (cI, 60, .inl d2)), (o3, .inl (cI, 60, .inl d3)), (o4, .inl (cI, 60, .inl d4)), (o5, .inl (cI, 60, .inl d5)), (o6, .inl (cI, 40, .inl d6)), (o7, .inl (cI, 40, .inl d7)), (o8, .inl (cI, 40, .inl d8))] sz) [(k, .inr (8, [.ref k0, .ref k1, .ref k2, .ref k3, .ref k4, .ref k5, .ref k6, .ref k7, .ref k8, .int u.1])), (k0, .inl (cI, 60, .inl u.2.1)), (k1, .inl (cI, 60, .inl u.2.2.1)), (k2, .inl (cI, 60, .inl u.2.2.2.1)), (k3, .inl (cI, 60, .inl u.2.2.2.2.1)), (k4, .inl (cI, 60, .inl u.2.2.2.2.2.1)), (k5, .inl (cI, 60, .inl u.2.2.2.2.2.2.1)), (k6, .inl (cI, 40, .inl u.2.2.2.2.2.2.2.1)), (k7, .inl (cI, 40, .inl u.2.2.2.2.2.2.2.2.1)), (k8, .inl (cI, 40, .inl u.2.2.2.2.2.2.2.2.2)), (o, .inr (8, [.ref o0, .ref o1, .ref o2, .ref o3, .ref o4, .ref o5, .ref o6, .ref o7, .ref o8, .int d9])), (o0, .inl (cI, 60, .inl d0)), (o1, .inl (cI, 60, .inl d1)), (o2, .inl (cI, 60, .inl d2)), (o3, .inl (cI, 60, .inl d3)), (o4, .inl (cI, 60, .inl d4)), (o5, .inl (cI, 60, .inl d5)), (o6, .inl (cI, 40, .inl d6)), (o7, .inl (cI, 40, .inl d7)), (o8, .inl (cI, 40, .inl d8))] t) (va_A [(k, .inr (8, [.ref k0, .ref k1, .ref k2, .ref k3, .ref k4, .ref k5, .ref k6, .ref k7, .ref k8, .int c9])), (k0, .inl (cI, 60, .inl c0)), (k1, .inl (cI, 60, .inl c1)), (k2, .inl (cI, 60, .inl c2)), (k3, .inl (cI, 60, .inl c3)), (k4, .inl (cI, 60, .inl c4)), (k5, .inl (cI, 60, .inl c5)), (k6, .inl (cI, 40, .inl c6)), (k7, .inl (cI, 40, .inl c7)), (k8, .inl (cI, 40, .inl c8)), (o, .inr (8, [.ref o0, .ref o1, .ref o2, .ref o3, .ref o4, .ref o5, .ref o6, .ref o7, .ref o8, .int d9])), (o0, .inl (cI, 60, .inl d0)), (o1, .inl (cI, 60, .inl d1)), (o2, .inl (cI, 60, .inl d2)), (o3, .inl (cI, 60, .inl d3)), (o4, .inl (cI, 60, .inl d4)), (o5, .inl (cI, 60, .inl d5)), (o6, .inl (cI, 40, .inl d6)), (o7, .inl (cI, 40, .inl d7)), (o8, .inl (cI, 40, .inl d8))] sz)) 0 0 (va_A [(k, .inr (8, [.ref k0, .ref k1, .ref k2, .ref k3, .ref k4, .ref k5, .ref k6, .ref k7, .ref k8, .int c9])), (k0, .inl (cI, 60, .inl c0)), (k1, .inl (cI, 60, .inl c1)), (k2, .inl (cI, 60, .inl c2)), (k3, .inl (cI, 60, .inl c3)), (k4, .inl (cI, 60, .inl c4)), (k5, .inl (cI, 60, .inl c5)), (k6, .inl (cI, 40, .inl c6)), (k7, .inl (cI, 40, .inl c7)), (k8, .inl (cI, 40, .inl c8)), (o, .inr (8, [.ref o0, .ref o1, .ref o2, .ref o3, .ref o4, .ref o5, .ref o6, .ref o7, .ref o8, .int d9])), (o0, .inl (cI, 60, .inl d0)), (o1, .inl (cI, 60, .inl d1)), (o2, .inl (cI, 60, .inl d2)), (o3, .inl (cI, 60, .inl d3)), (o4, .inl (cI, 60, .inl d4)), (o5, .inl (cI, 60, .inl d5)), (o6, .inl (cI, 40, .inl d6)), (o7, .inl (cI, 40, .inl d7)), (o8, .inl (cI, 40, .inl d8))] sz) := by
  refine kMetVX (own := RX8) (by decide +kernel) rfl (Nat.le_of_ble_eq_true rfl) ?_
  intro p e s m args below meth c hx hb hT hown hname hml A Q hK hP hD hS hA hN hXS hRet ls hl
  have hl : lv_has ls 2 [(0, .ref k), (1, .ref o)] := hl
  have lo_d9 := k_lo d9
  have hi_d9 := k_hi d9
  refine lv_aload_n hx hb dX8_copyFrom_0 rfl (lv_at hl 1 rfl) ?_
  refine va_get (D := D) (ci := 8) (v := .ref o0) (C := RX8) (T := TX8) (N := 10) hx hb hT giX8 hown hK hP 10 rfl rfl 0 (by decide +kernel) (hT (Cond.fieldLink RX8 9 "DesertWire$Works" "kinds" "[I") mw_40) (fun _ h9 => h9) rfl dX8_copyFrom_1 ?_
  refine lv_iconst (v := 0) hx hb dX8_copyFrom_4 (by decide +kernel) ?_
  refine lv_aload_n hx hb dX8_copyFrom_5 rfl (lv_at hl 0 rfl) ?_
  refine va_get (D := D) (ci := 8) (v := .ref k0) (C := RX8) (T := TX8) (N := 10) hx hb hT giX8 hown hK hP 0 rfl rfl 0 (by decide +kernel) (hT (Cond.fieldLink RX8 9 "DesertWire$Works" "kinds" "[I") mw_40) (fun _ h9 => h9) rfl dX8_copyFrom_6 ?_
  refine lv_iconst (v := 0) hx hb dX8_copyFrom_9 (by decide +kernel) ?_
  refine lv_bipush (v := 60) hx hb dX8_copyFrom_10 (by decide +kernel) ?_
  refine k_copy (c0 := cI) (c1 := cI) hx hb (hml.trans hl.1.symm) hown (hT _ mw_1020) (hT _ mw_865) (hT _ mw_864) (hT _ mw_19) hK hP hD hS 11 1 rfl rfl (by decide +kernel) (by decide +kernel) (Nat.le_of_ble_eq_true rfl) (by decide +kernel) dX8_copyFrom_12 ?_
  clear hP hD hS
  intro H locs hP hD hS
  replace hP : va_P D vwCl [(k, .inr (8, [.ref k0, .ref k1, .ref k2, .ref k3, .ref k4, .ref k5, .ref k6, .ref k7, .ref k8, .int c9])), (k0, .inl (cI, 60, .inl d0)), (k1, .inl (cI, 60, .inl c1)), (k2, .inl (cI, 60, .inl c2)), (k3, .inl (cI, 60, .inl c3)), (k4, .inl (cI, 60, .inl c4)), (k5, .inl (cI, 60, .inl c5)), (k6, .inl (cI, 40, .inl c6)), (k7, .inl (cI, 40, .inl c7)), (k8, .inl (cI, 40, .inl c8)), (o, .inr (8, [.ref o0, .ref o1, .ref o2, .ref o3, .ref o4, .ref o5, .ref o6, .ref o7, .ref o8, .int d9])), (o0, .inl (cI, 60, .inl d0)), (o1, .inl (cI, 60, .inl d1)), (o2, .inl (cI, 60, .inl d2)), (o3, .inl (cI, 60, .inl d3)), (o4, .inl (cI, 60, .inl d4)), (o5, .inl (cI, 60, .inl d5)), (o6, .inl (cI, 40, .inl d6)), (o7, .inl (cI, 40, .inl d7)), (o8, .inl (cI, 40, .inl d8))] H := hP
  replace hD : va_D A [(k, .inr (8, [.ref k0, .ref k1, .ref k2, .ref k3, .ref k4, .ref k5, .ref k6, .ref k7, .ref k8, .int c9])), (k0, .inl (cI, 60, .inl d0)), (k1, .inl (cI, 60, .inl c1)), (k2, .inl (cI, 60, .inl c2)), (k3, .inl (cI, 60, .inl c3)), (k4, .inl (cI, 60, .inl c4)), (k5, .inl (cI, 60, .inl c5)), (k6, .inl (cI, 40, .inl c6)), (k7, .inl (cI, 40, .inl c7)), (k8, .inl (cI, 40, .inl c8)), (o, .inr (8, [.ref o0, .ref o1, .ref o2, .ref o3, .ref o4, .ref o5, .ref o6, .ref o7, .ref o8, .int d9])), (o0, .inl (cI, 60, .inl d0)), (o1, .inl (cI, 60, .inl d1)), (o2, .inl (cI, 60, .inl d2)), (o3, .inl (cI, 60, .inl d3)), (o4, .inl (cI, 60, .inl d4)), (o5, .inl (cI, 60, .inl d5)), (o6, .inl (cI, 40, .inl d6)), (o7, .inl (cI, 40, .inl d7)), (o8, .inl (cI, 40, .inl d8))] := hD
  refine lv_aload_n hx hb dX8_copyFrom_15 rfl (lv_at hl 1 rfl) ?_
  refine va_get (D := D) (ci := 8) (v := .ref o1) (C := RX8) (T := TX8) (N := 10) hx hb hT giX8 hown hK hP 10 rfl rfl 1 (by decide +kernel) (hT (Cond.fieldLink RX8 15 "DesertWire$Works" "miles" "[I") mw_41) (fun _ h9 => h9) rfl dX8_copyFrom_16 ?_
  refine lv_iconst (v := 0) hx hb dX8_copyFrom_19 (by decide +kernel) ?_
  refine lv_aload_n hx hb dX8_copyFrom_20 rfl (lv_at hl 0 rfl) ?_
  refine va_get (D := D) (ci := 8) (v := .ref k1) (C := RX8) (T := TX8) (N := 10) hx hb hT giX8 hown hK hP 0 rfl rfl 1 (by decide +kernel) (hT (Cond.fieldLink RX8 15 "DesertWire$Works" "miles" "[I") mw_41) (fun _ h9 => h9) rfl dX8_copyFrom_21 ?_
  refine lv_iconst (v := 0) hx hb dX8_copyFrom_24 (by decide +kernel) ?_
  refine lv_bipush (v := 60) hx hb dX8_copyFrom_25 (by decide +kernel) ?_
  refine k_copy (c0 := cI) (c1 := cI) hx hb (hml.trans hl.1.symm) hown (hT _ mw_1020) (hT _ mw_865) (hT _ mw_864) (hT _ mw_19) hK hP hD hS 12 2 rfl rfl (by decide +kernel) (by decide +kernel) (Nat.le_of_ble_eq_true rfl) (by decide +kernel) dX8_copyFrom_27 ?_
  clear hP hD hS
  intro H locs hP hD hS
  replace hP : va_P D vwCl [(k, .inr (8, [.ref k0, .ref k1, .ref k2, .ref k3, .ref k4, .ref k5, .ref k6, .ref k7, .ref k8, .int c9])), (k0, .inl (cI, 60, .inl d0)), (k1, .inl (cI, 60, .inl d1)), (k2, .inl (cI, 60, .inl c2)), (k3, .inl (cI, 60, .inl c3)), (k4, .inl (cI, 60, .inl c4)), (k5, .inl (cI, 60, .inl c5)), (k6, .inl (cI, 40, .inl c6)), (k7, .inl (cI, 40, .inl c7)), (k8, .inl (cI, 40, .inl c8)), (o, .inr (8, [.ref o0, .ref o1, .ref o2, .ref o3, .ref o4, .ref o5, .ref o6, .ref o7, .ref o8, .int d9])), (o0, .inl (cI, 60, .inl d0)), (o1, .inl (cI, 60, .inl d1)), (o2, .inl (cI, 60, .inl d2)), (o3, .inl (cI, 60, .inl d3)), (o4, .inl (cI, 60, .inl d4)), (o5, .inl (cI, 60, .inl d5)), (o6, .inl (cI, 40, .inl d6)), (o7, .inl (cI, 40, .inl d7)), (o8, .inl (cI, 40, .inl d8))] H := hP
  replace hD : va_D A [(k, .inr (8, [.ref k0, .ref k1, .ref k2, .ref k3, .ref k4, .ref k5, .ref k6, .ref k7, .ref k8, .int c9])), (k0, .inl (cI, 60, .inl d0)), (k1, .inl (cI, 60, .inl d1)), (k2, .inl (cI, 60, .inl c2)), (k3, .inl (cI, 60, .inl c3)), (k4, .inl (cI, 60, .inl c4)), (k5, .inl (cI, 60, .inl c5)), (k6, .inl (cI, 40, .inl c6)), (k7, .inl (cI, 40, .inl c7)), (k8, .inl (cI, 40, .inl c8)), (o, .inr (8, [.ref o0, .ref o1, .ref o2, .ref o3, .ref o4, .ref o5, .ref o6, .ref o7, .ref o8, .int d9])), (o0, .inl (cI, 60, .inl d0)), (o1, .inl (cI, 60, .inl d1)), (o2, .inl (cI, 60, .inl d2)), (o3, .inl (cI, 60, .inl d3)), (o4, .inl (cI, 60, .inl d4)), (o5, .inl (cI, 60, .inl d5)), (o6, .inl (cI, 40, .inl d6)), (o7, .inl (cI, 40, .inl d7)), (o8, .inl (cI, 40, .inl d8))] := hD
  refine lv_aload_n hx hb dX8_copyFrom_30 rfl (lv_at hl 1 rfl) ?_
  refine va_get (D := D) (ci := 8) (v := .ref o2) (C := RX8) (T := TX8) (N := 10) hx hb hT giX8 hown hK hP 10 rfl rfl 2 (by decide +kernel) (hT (Cond.fieldLink RX8 18 "DesertWire$Works" "sizes" "[I") mw_42) (fun _ h9 => h9) rfl dX8_copyFrom_31 ?_
  refine lv_iconst (v := 0) hx hb dX8_copyFrom_34 (by decide +kernel) ?_
  refine lv_aload_n hx hb dX8_copyFrom_35 rfl (lv_at hl 0 rfl) ?_
  refine va_get (D := D) (ci := 8) (v := .ref k2) (C := RX8) (T := TX8) (N := 10) hx hb hT giX8 hown hK hP 0 rfl rfl 2 (by decide +kernel) (hT (Cond.fieldLink RX8 18 "DesertWire$Works" "sizes" "[I") mw_42) (fun _ h9 => h9) rfl dX8_copyFrom_36 ?_
  refine lv_iconst (v := 0) hx hb dX8_copyFrom_39 (by decide +kernel) ?_
  refine lv_bipush (v := 60) hx hb dX8_copyFrom_40 (by decide +kernel) ?_
  refine k_copy (c0 := cI) (c1 := cI) hx hb (hml.trans hl.1.symm) hown (hT _ mw_1020) (hT _ mw_865) (hT _ mw_864) (hT _ mw_19) hK hP hD hS 13 3 rfl rfl (by decide +kernel) (by decide +kernel) (Nat.le_of_ble_eq_true rfl) (by decide +kernel) dX8_copyFrom_42 ?_
  clear hP hD hS
  intro H locs hP hD hS
  replace hP : va_P D vwCl [(k, .inr (8, [.ref k0, .ref k1, .ref k2, .ref k3, .ref k4, .ref k5, .ref k6, .ref k7, .ref k8, .int c9])), (k0, .inl (cI, 60, .inl d0)), (k1, .inl (cI, 60, .inl d1)), (k2, .inl (cI, 60, .inl d2)), (k3, .inl (cI, 60, .inl c3)), (k4, .inl (cI, 60, .inl c4)), (k5, .inl (cI, 60, .inl c5)), (k6, .inl (cI, 40, .inl c6)), (k7, .inl (cI, 40, .inl c7)), (k8, .inl (cI, 40, .inl c8)), (o, .inr (8, [.ref o0, .ref o1, .ref o2, .ref o3, .ref o4, .ref o5, .ref o6, .ref o7, .ref o8, .int d9])), (o0, .inl (cI, 60, .inl d0)), (o1, .inl (cI, 60, .inl d1)), (o2, .inl (cI, 60, .inl d2)), (o3, .inl (cI, 60, .inl d3)), (o4, .inl (cI, 60, .inl d4)), (o5, .inl (cI, 60, .inl d5)), (o6, .inl (cI, 40, .inl d6)), (o7, .inl (cI, 40, .inl d7)), (o8, .inl (cI, 40, .inl d8))] H := hP
  replace hD : va_D A [(k, .inr (8, [.ref k0, .ref k1, .ref k2, .ref k3, .ref k4, .ref k5, .ref k6, .ref k7, .ref k8, .int c9])), (k0, .inl (cI, 60, .inl d0)), (k1, .inl (cI, 60, .inl d1)), (k2, .inl (cI, 60, .inl d2)), (k3, .inl (cI, 60, .inl c3)), (k4, .inl (cI, 60, .inl c4)), (k5, .inl (cI, 60, .inl c5)), (k6, .inl (cI, 40, .inl c6)), (k7, .inl (cI, 40, .inl c7)), (k8, .inl (cI, 40, .inl c8)), (o, .inr (8, [.ref o0, .ref o1, .ref o2, .ref o3, .ref o4, .ref o5, .ref o6, .ref o7, .ref o8, .int d9])), (o0, .inl (cI, 60, .inl d0)), (o1, .inl (cI, 60, .inl d1)), (o2, .inl (cI, 60, .inl d2)), (o3, .inl (cI, 60, .inl d3)), (o4, .inl (cI, 60, .inl d4)), (o5, .inl (cI, 60, .inl d5)), (o6, .inl (cI, 40, .inl d6)), (o7, .inl (cI, 40, .inl d7)), (o8, .inl (cI, 40, .inl d8))] := hD
  refine lv_aload_n hx hb dX8_copyFrom_45 rfl (lv_at hl 1 rfl) ?_
  refine va_get (D := D) (ci := 8) (v := .ref o3) (C := RX8) (T := TX8) (N := 10) hx hb hT giX8 hown hK hP 10 rfl rfl 3 (by decide +kernel) (hT (Cond.fieldLink RX8 21 "DesertWire$Works" "sinces" "[I") mw_43) (fun _ h9 => h9) rfl dX8_copyFrom_46 ?_
  refine lv_iconst (v := 0) hx hb dX8_copyFrom_49 (by decide +kernel) ?_
  refine lv_aload_n hx hb dX8_copyFrom_50 rfl (lv_at hl 0 rfl) ?_
  refine va_get (D := D) (ci := 8) (v := .ref k3) (C := RX8) (T := TX8) (N := 10) hx hb hT giX8 hown hK hP 0 rfl rfl 3 (by decide +kernel) (hT (Cond.fieldLink RX8 21 "DesertWire$Works" "sinces" "[I") mw_43) (fun _ h9 => h9) rfl dX8_copyFrom_51 ?_
  refine lv_iconst (v := 0) hx hb dX8_copyFrom_54 (by decide +kernel) ?_
  refine lv_bipush (v := 60) hx hb dX8_copyFrom_55 (by decide +kernel) ?_
  refine k_copy (c0 := cI) (c1 := cI) hx hb (hml.trans hl.1.symm) hown (hT _ mw_1020) (hT _ mw_865) (hT _ mw_864) (hT _ mw_19) hK hP hD hS 14 4 rfl rfl (by decide +kernel) (by decide +kernel) (Nat.le_of_ble_eq_true rfl) (by decide +kernel) dX8_copyFrom_57 ?_
  clear hP hD hS
  intro H locs hP hD hS
  replace hP : va_P D vwCl [(k, .inr (8, [.ref k0, .ref k1, .ref k2, .ref k3, .ref k4, .ref k5, .ref k6, .ref k7, .ref k8, .int c9])), (k0, .inl (cI, 60, .inl d0)), (k1, .inl (cI, 60, .inl d1)), (k2, .inl (cI, 60, .inl d2)), (k3, .inl (cI, 60, .inl d3)), (k4, .inl (cI, 60, .inl c4)), (k5, .inl (cI, 60, .inl c5)), (k6, .inl (cI, 40, .inl c6)), (k7, .inl (cI, 40, .inl c7)), (k8, .inl (cI, 40, .inl c8)), (o, .inr (8, [.ref o0, .ref o1, .ref o2, .ref o3, .ref o4, .ref o5, .ref o6, .ref o7, .ref o8, .int d9])), (o0, .inl (cI, 60, .inl d0)), (o1, .inl (cI, 60, .inl d1)), (o2, .inl (cI, 60, .inl d2)), (o3, .inl (cI, 60, .inl d3)), (o4, .inl (cI, 60, .inl d4)), (o5, .inl (cI, 60, .inl d5)), (o6, .inl (cI, 40, .inl d6)), (o7, .inl (cI, 40, .inl d7)), (o8, .inl (cI, 40, .inl d8))] H := hP
  replace hD : va_D A [(k, .inr (8, [.ref k0, .ref k1, .ref k2, .ref k3, .ref k4, .ref k5, .ref k6, .ref k7, .ref k8, .int c9])), (k0, .inl (cI, 60, .inl d0)), (k1, .inl (cI, 60, .inl d1)), (k2, .inl (cI, 60, .inl d2)), (k3, .inl (cI, 60, .inl d3)), (k4, .inl (cI, 60, .inl c4)), (k5, .inl (cI, 60, .inl c5)), (k6, .inl (cI, 40, .inl c6)), (k7, .inl (cI, 40, .inl c7)), (k8, .inl (cI, 40, .inl c8)), (o, .inr (8, [.ref o0, .ref o1, .ref o2, .ref o3, .ref o4, .ref o5, .ref o6, .ref o7, .ref o8, .int d9])), (o0, .inl (cI, 60, .inl d0)), (o1, .inl (cI, 60, .inl d1)), (o2, .inl (cI, 60, .inl d2)), (o3, .inl (cI, 60, .inl d3)), (o4, .inl (cI, 60, .inl d4)), (o5, .inl (cI, 60, .inl d5)), (o6, .inl (cI, 40, .inl d6)), (o7, .inl (cI, 40, .inl d7)), (o8, .inl (cI, 40, .inl d8))] := hD
  refine lv_aload_n hx hb dX8_copyFrom_60 rfl (lv_at hl 1 rfl) ?_
  refine va_get (D := D) (ci := 8) (v := .ref o4) (C := RX8) (T := TX8) (N := 10) hx hb hT giX8 hown hK hP 10 rfl rfl 4 (by decide +kernel) (hT (Cond.fieldLink RX8 24 "DesertWire$Works" "foods" "[I") mw_44) (fun _ h9 => h9) rfl dX8_copyFrom_61 ?_
  refine lv_iconst (v := 0) hx hb dX8_copyFrom_64 (by decide +kernel) ?_
  refine lv_aload_n hx hb dX8_copyFrom_65 rfl (lv_at hl 0 rfl) ?_
  refine va_get (D := D) (ci := 8) (v := .ref k4) (C := RX8) (T := TX8) (N := 10) hx hb hT giX8 hown hK hP 0 rfl rfl 4 (by decide +kernel) (hT (Cond.fieldLink RX8 24 "DesertWire$Works" "foods" "[I") mw_44) (fun _ h9 => h9) rfl dX8_copyFrom_66 ?_
  refine lv_iconst (v := 0) hx hb dX8_copyFrom_69 (by decide +kernel) ?_
  refine lv_bipush (v := 60) hx hb dX8_copyFrom_70 (by decide +kernel) ?_
  refine k_copy (c0 := cI) (c1 := cI) hx hb (hml.trans hl.1.symm) hown (hT _ mw_1020) (hT _ mw_865) (hT _ mw_864) (hT _ mw_19) hK hP hD hS 15 5 rfl rfl (by decide +kernel) (by decide +kernel) (Nat.le_of_ble_eq_true rfl) (by decide +kernel) dX8_copyFrom_72 ?_
  clear hP hD hS
  intro H locs hP hD hS
  replace hP : va_P D vwCl [(k, .inr (8, [.ref k0, .ref k1, .ref k2, .ref k3, .ref k4, .ref k5, .ref k6, .ref k7, .ref k8, .int c9])), (k0, .inl (cI, 60, .inl d0)), (k1, .inl (cI, 60, .inl d1)), (k2, .inl (cI, 60, .inl d2)), (k3, .inl (cI, 60, .inl d3)), (k4, .inl (cI, 60, .inl d4)), (k5, .inl (cI, 60, .inl c5)), (k6, .inl (cI, 40, .inl c6)), (k7, .inl (cI, 40, .inl c7)), (k8, .inl (cI, 40, .inl c8)), (o, .inr (8, [.ref o0, .ref o1, .ref o2, .ref o3, .ref o4, .ref o5, .ref o6, .ref o7, .ref o8, .int d9])), (o0, .inl (cI, 60, .inl d0)), (o1, .inl (cI, 60, .inl d1)), (o2, .inl (cI, 60, .inl d2)), (o3, .inl (cI, 60, .inl d3)), (o4, .inl (cI, 60, .inl d4)), (o5, .inl (cI, 60, .inl d5)), (o6, .inl (cI, 40, .inl d6)), (o7, .inl (cI, 40, .inl d7)), (o8, .inl (cI, 40, .inl d8))] H := hP
  replace hD : va_D A [(k, .inr (8, [.ref k0, .ref k1, .ref k2, .ref k3, .ref k4, .ref k5, .ref k6, .ref k7, .ref k8, .int c9])), (k0, .inl (cI, 60, .inl d0)), (k1, .inl (cI, 60, .inl d1)), (k2, .inl (cI, 60, .inl d2)), (k3, .inl (cI, 60, .inl d3)), (k4, .inl (cI, 60, .inl d4)), (k5, .inl (cI, 60, .inl c5)), (k6, .inl (cI, 40, .inl c6)), (k7, .inl (cI, 40, .inl c7)), (k8, .inl (cI, 40, .inl c8)), (o, .inr (8, [.ref o0, .ref o1, .ref o2, .ref o3, .ref o4, .ref o5, .ref o6, .ref o7, .ref o8, .int d9])), (o0, .inl (cI, 60, .inl d0)), (o1, .inl (cI, 60, .inl d1)), (o2, .inl (cI, 60, .inl d2)), (o3, .inl (cI, 60, .inl d3)), (o4, .inl (cI, 60, .inl d4)), (o5, .inl (cI, 60, .inl d5)), (o6, .inl (cI, 40, .inl d6)), (o7, .inl (cI, 40, .inl d7)), (o8, .inl (cI, 40, .inl d8))] := hD
  refine lv_aload_n hx hb dX8_copyFrom_75 rfl (lv_at hl 1 rfl) ?_
  refine va_get (D := D) (ci := 8) (v := .ref o5) (C := RX8) (T := TX8) (N := 10) hx hb hT giX8 hown hK hP 10 rfl rfl 5 (by decide +kernel) (hT (Cond.fieldLink RX8 27 "DesertWire$Works" "downs" "[I") mw_45) (fun _ h9 => h9) rfl dX8_copyFrom_76 ?_
  refine lv_iconst (v := 0) hx hb dX8_copyFrom_79 (by decide +kernel) ?_
  refine lv_aload_n hx hb dX8_copyFrom_80 rfl (lv_at hl 0 rfl) ?_
  refine va_get (D := D) (ci := 8) (v := .ref k5) (C := RX8) (T := TX8) (N := 10) hx hb hT giX8 hown hK hP 0 rfl rfl 5 (by decide +kernel) (hT (Cond.fieldLink RX8 27 "DesertWire$Works" "downs" "[I") mw_45) (fun _ h9 => h9) rfl dX8_copyFrom_81 ?_
  refine lv_iconst (v := 0) hx hb dX8_copyFrom_84 (by decide +kernel) ?_
  refine lv_bipush (v := 60) hx hb dX8_copyFrom_85 (by decide +kernel) ?_
  refine k_copy (c0 := cI) (c1 := cI) hx hb (hml.trans hl.1.symm) hown (hT _ mw_1020) (hT _ mw_865) (hT _ mw_864) (hT _ mw_19) hK hP hD hS 16 6 rfl rfl (by decide +kernel) (by decide +kernel) (Nat.le_of_ble_eq_true rfl) (by decide +kernel) dX8_copyFrom_87 ?_
  clear hP hD hS
  intro H locs hP hD hS
  replace hP : va_P D vwCl [(k, .inr (8, [.ref k0, .ref k1, .ref k2, .ref k3, .ref k4, .ref k5, .ref k6, .ref k7, .ref k8, .int c9])), (k0, .inl (cI, 60, .inl d0)), (k1, .inl (cI, 60, .inl d1)), (k2, .inl (cI, 60, .inl d2)), (k3, .inl (cI, 60, .inl d3)), (k4, .inl (cI, 60, .inl d4)), (k5, .inl (cI, 60, .inl d5)), (k6, .inl (cI, 40, .inl c6)), (k7, .inl (cI, 40, .inl c7)), (k8, .inl (cI, 40, .inl c8)), (o, .inr (8, [.ref o0, .ref o1, .ref o2, .ref o3, .ref o4, .ref o5, .ref o6, .ref o7, .ref o8, .int d9])), (o0, .inl (cI, 60, .inl d0)), (o1, .inl (cI, 60, .inl d1)), (o2, .inl (cI, 60, .inl d2)), (o3, .inl (cI, 60, .inl d3)), (o4, .inl (cI, 60, .inl d4)), (o5, .inl (cI, 60, .inl d5)), (o6, .inl (cI, 40, .inl d6)), (o7, .inl (cI, 40, .inl d7)), (o8, .inl (cI, 40, .inl d8))] H := hP
  replace hD : va_D A [(k, .inr (8, [.ref k0, .ref k1, .ref k2, .ref k3, .ref k4, .ref k5, .ref k6, .ref k7, .ref k8, .int c9])), (k0, .inl (cI, 60, .inl d0)), (k1, .inl (cI, 60, .inl d1)), (k2, .inl (cI, 60, .inl d2)), (k3, .inl (cI, 60, .inl d3)), (k4, .inl (cI, 60, .inl d4)), (k5, .inl (cI, 60, .inl d5)), (k6, .inl (cI, 40, .inl c6)), (k7, .inl (cI, 40, .inl c7)), (k8, .inl (cI, 40, .inl c8)), (o, .inr (8, [.ref o0, .ref o1, .ref o2, .ref o3, .ref o4, .ref o5, .ref o6, .ref o7, .ref o8, .int d9])), (o0, .inl (cI, 60, .inl d0)), (o1, .inl (cI, 60, .inl d1)), (o2, .inl (cI, 60, .inl d2)), (o3, .inl (cI, 60, .inl d3)), (o4, .inl (cI, 60, .inl d4)), (o5, .inl (cI, 60, .inl d5)), (o6, .inl (cI, 40, .inl d6)), (o7, .inl (cI, 40, .inl d7)), (o8, .inl (cI, 40, .inl d8))] := hD
  refine lv_aload_n hx hb dX8_copyFrom_90 rfl (lv_at hl 1 rfl) ?_
  refine va_get (D := D) (ci := 8) (v := .ref o6) (C := RX8) (T := TX8) (N := 10) hx hb hT giX8 hown hK hP 10 rfl rfl 6 (by decide +kernel) (hT (Cond.fieldLink RX8 30 "DesertWire$Works" "poles" "[I") mw_46) (fun _ h9 => h9) rfl dX8_copyFrom_91 ?_
  refine lv_iconst (v := 0) hx hb dX8_copyFrom_94 (by decide +kernel) ?_
  refine lv_aload_n hx hb dX8_copyFrom_95 rfl (lv_at hl 0 rfl) ?_
  refine va_get (D := D) (ci := 8) (v := .ref k6) (C := RX8) (T := TX8) (N := 10) hx hb hT giX8 hown hK hP 0 rfl rfl 6 (by decide +kernel) (hT (Cond.fieldLink RX8 30 "DesertWire$Works" "poles" "[I") mw_46) (fun _ h9 => h9) rfl dX8_copyFrom_96 ?_
  refine lv_iconst (v := 0) hx hb dX8_copyFrom_99 (by decide +kernel) ?_
  refine lv_bipush (v := 40) hx hb dX8_copyFrom_100 (by decide +kernel) ?_
  refine k_copy (c0 := cI) (c1 := cI) hx hb (hml.trans hl.1.symm) hown (hT _ mw_1020) (hT _ mw_865) (hT _ mw_864) (hT _ mw_19) hK hP hD hS 17 7 rfl rfl (by decide +kernel) (by decide +kernel) (Nat.le_of_ble_eq_true rfl) (by decide +kernel) dX8_copyFrom_102 ?_
  clear hP hD hS
  intro H locs hP hD hS
  replace hP : va_P D vwCl [(k, .inr (8, [.ref k0, .ref k1, .ref k2, .ref k3, .ref k4, .ref k5, .ref k6, .ref k7, .ref k8, .int c9])), (k0, .inl (cI, 60, .inl d0)), (k1, .inl (cI, 60, .inl d1)), (k2, .inl (cI, 60, .inl d2)), (k3, .inl (cI, 60, .inl d3)), (k4, .inl (cI, 60, .inl d4)), (k5, .inl (cI, 60, .inl d5)), (k6, .inl (cI, 40, .inl d6)), (k7, .inl (cI, 40, .inl c7)), (k8, .inl (cI, 40, .inl c8)), (o, .inr (8, [.ref o0, .ref o1, .ref o2, .ref o3, .ref o4, .ref o5, .ref o6, .ref o7, .ref o8, .int d9])), (o0, .inl (cI, 60, .inl d0)), (o1, .inl (cI, 60, .inl d1)), (o2, .inl (cI, 60, .inl d2)), (o3, .inl (cI, 60, .inl d3)), (o4, .inl (cI, 60, .inl d4)), (o5, .inl (cI, 60, .inl d5)), (o6, .inl (cI, 40, .inl d6)), (o7, .inl (cI, 40, .inl d7)), (o8, .inl (cI, 40, .inl d8))] H := hP
  replace hD : va_D A [(k, .inr (8, [.ref k0, .ref k1, .ref k2, .ref k3, .ref k4, .ref k5, .ref k6, .ref k7, .ref k8, .int c9])), (k0, .inl (cI, 60, .inl d0)), (k1, .inl (cI, 60, .inl d1)), (k2, .inl (cI, 60, .inl d2)), (k3, .inl (cI, 60, .inl d3)), (k4, .inl (cI, 60, .inl d4)), (k5, .inl (cI, 60, .inl d5)), (k6, .inl (cI, 40, .inl d6)), (k7, .inl (cI, 40, .inl c7)), (k8, .inl (cI, 40, .inl c8)), (o, .inr (8, [.ref o0, .ref o1, .ref o2, .ref o3, .ref o4, .ref o5, .ref o6, .ref o7, .ref o8, .int d9])), (o0, .inl (cI, 60, .inl d0)), (o1, .inl (cI, 60, .inl d1)), (o2, .inl (cI, 60, .inl d2)), (o3, .inl (cI, 60, .inl d3)), (o4, .inl (cI, 60, .inl d4)), (o5, .inl (cI, 60, .inl d5)), (o6, .inl (cI, 40, .inl d6)), (o7, .inl (cI, 40, .inl d7)), (o8, .inl (cI, 40, .inl d8))] := hD
  refine lv_aload_n hx hb dX8_copyFrom_105 rfl (lv_at hl 1 rfl) ?_
  refine va_get (D := D) (ci := 8) (v := .ref o7) (C := RX8) (T := TX8) (N := 10) hx hb hT giX8 hown hK hP 10 rfl rfl 7 (by decide +kernel) (hT (Cond.fieldLink RX8 33 "DesertWire$Works" "drinks" "[I") mw_47) (fun _ h9 => h9) rfl dX8_copyFrom_106 ?_
  refine lv_iconst (v := 0) hx hb dX8_copyFrom_109 (by decide +kernel) ?_
  refine lv_aload_n hx hb dX8_copyFrom_110 rfl (lv_at hl 0 rfl) ?_
  refine va_get (D := D) (ci := 8) (v := .ref k7) (C := RX8) (T := TX8) (N := 10) hx hb hT giX8 hown hK hP 0 rfl rfl 7 (by decide +kernel) (hT (Cond.fieldLink RX8 33 "DesertWire$Works" "drinks" "[I") mw_47) (fun _ h9 => h9) rfl dX8_copyFrom_111 ?_
  refine lv_iconst (v := 0) hx hb dX8_copyFrom_114 (by decide +kernel) ?_
  refine lv_bipush (v := 40) hx hb dX8_copyFrom_115 (by decide +kernel) ?_
  refine k_copy (c0 := cI) (c1 := cI) hx hb (hml.trans hl.1.symm) hown (hT _ mw_1020) (hT _ mw_865) (hT _ mw_864) (hT _ mw_19) hK hP hD hS 18 8 rfl rfl (by decide +kernel) (by decide +kernel) (Nat.le_of_ble_eq_true rfl) (by decide +kernel) dX8_copyFrom_117 ?_
  clear hP hD hS
  intro H locs hP hD hS
  replace hP : va_P D vwCl [(k, .inr (8, [.ref k0, .ref k1, .ref k2, .ref k3, .ref k4, .ref k5, .ref k6, .ref k7, .ref k8, .int c9])), (k0, .inl (cI, 60, .inl d0)), (k1, .inl (cI, 60, .inl d1)), (k2, .inl (cI, 60, .inl d2)), (k3, .inl (cI, 60, .inl d3)), (k4, .inl (cI, 60, .inl d4)), (k5, .inl (cI, 60, .inl d5)), (k6, .inl (cI, 40, .inl d6)), (k7, .inl (cI, 40, .inl d7)), (k8, .inl (cI, 40, .inl c8)), (o, .inr (8, [.ref o0, .ref o1, .ref o2, .ref o3, .ref o4, .ref o5, .ref o6, .ref o7, .ref o8, .int d9])), (o0, .inl (cI, 60, .inl d0)), (o1, .inl (cI, 60, .inl d1)), (o2, .inl (cI, 60, .inl d2)), (o3, .inl (cI, 60, .inl d3)), (o4, .inl (cI, 60, .inl d4)), (o5, .inl (cI, 60, .inl d5)), (o6, .inl (cI, 40, .inl d6)), (o7, .inl (cI, 40, .inl d7)), (o8, .inl (cI, 40, .inl d8))] H := hP
  replace hD : va_D A [(k, .inr (8, [.ref k0, .ref k1, .ref k2, .ref k3, .ref k4, .ref k5, .ref k6, .ref k7, .ref k8, .int c9])), (k0, .inl (cI, 60, .inl d0)), (k1, .inl (cI, 60, .inl d1)), (k2, .inl (cI, 60, .inl d2)), (k3, .inl (cI, 60, .inl d3)), (k4, .inl (cI, 60, .inl d4)), (k5, .inl (cI, 60, .inl d5)), (k6, .inl (cI, 40, .inl d6)), (k7, .inl (cI, 40, .inl d7)), (k8, .inl (cI, 40, .inl c8)), (o, .inr (8, [.ref o0, .ref o1, .ref o2, .ref o3, .ref o4, .ref o5, .ref o6, .ref o7, .ref o8, .int d9])), (o0, .inl (cI, 60, .inl d0)), (o1, .inl (cI, 60, .inl d1)), (o2, .inl (cI, 60, .inl d2)), (o3, .inl (cI, 60, .inl d3)), (o4, .inl (cI, 60, .inl d4)), (o5, .inl (cI, 60, .inl d5)), (o6, .inl (cI, 40, .inl d6)), (o7, .inl (cI, 40, .inl d7)), (o8, .inl (cI, 40, .inl d8))] := hD
  refine lv_aload_n hx hb dX8_copyFrom_120 rfl (lv_at hl 1 rfl) ?_
  refine va_get (D := D) (ci := 8) (v := .ref o8) (C := RX8) (T := TX8) (N := 10) hx hb hT giX8 hown hK hP 10 rfl rfl 8 (by decide +kernel) (hT (Cond.fieldLink RX8 36 "DesertWire$Works" "depots" "[I") mw_48) (fun _ h9 => h9) rfl dX8_copyFrom_121 ?_
  refine lv_iconst (v := 0) hx hb dX8_copyFrom_124 (by decide +kernel) ?_
  refine lv_aload_n hx hb dX8_copyFrom_125 rfl (lv_at hl 0 rfl) ?_
  refine va_get (D := D) (ci := 8) (v := .ref k8) (C := RX8) (T := TX8) (N := 10) hx hb hT giX8 hown hK hP 0 rfl rfl 8 (by decide +kernel) (hT (Cond.fieldLink RX8 36 "DesertWire$Works" "depots" "[I") mw_48) (fun _ h9 => h9) rfl dX8_copyFrom_126 ?_
  refine lv_iconst (v := 0) hx hb dX8_copyFrom_129 (by decide +kernel) ?_
  refine lv_bipush (v := 40) hx hb dX8_copyFrom_130 (by decide +kernel) ?_
  refine k_copy (c0 := cI) (c1 := cI) hx hb (hml.trans hl.1.symm) hown (hT _ mw_1020) (hT _ mw_865) (hT _ mw_864) (hT _ mw_19) hK hP hD hS 19 9 rfl rfl (by decide +kernel) (by decide +kernel) (Nat.le_of_ble_eq_true rfl) (by decide +kernel) dX8_copyFrom_132 ?_
  clear hP hD hS
  intro H locs hP hD hS
  replace hP : va_P D vwCl [(k, .inr (8, [.ref k0, .ref k1, .ref k2, .ref k3, .ref k4, .ref k5, .ref k6, .ref k7, .ref k8, .int c9])), (k0, .inl (cI, 60, .inl d0)), (k1, .inl (cI, 60, .inl d1)), (k2, .inl (cI, 60, .inl d2)), (k3, .inl (cI, 60, .inl d3)), (k4, .inl (cI, 60, .inl d4)), (k5, .inl (cI, 60, .inl d5)), (k6, .inl (cI, 40, .inl d6)), (k7, .inl (cI, 40, .inl d7)), (k8, .inl (cI, 40, .inl d8)), (o, .inr (8, [.ref o0, .ref o1, .ref o2, .ref o3, .ref o4, .ref o5, .ref o6, .ref o7, .ref o8, .int d9])), (o0, .inl (cI, 60, .inl d0)), (o1, .inl (cI, 60, .inl d1)), (o2, .inl (cI, 60, .inl d2)), (o3, .inl (cI, 60, .inl d3)), (o4, .inl (cI, 60, .inl d4)), (o5, .inl (cI, 60, .inl d5)), (o6, .inl (cI, 40, .inl d6)), (o7, .inl (cI, 40, .inl d7)), (o8, .inl (cI, 40, .inl d8))] H := hP
  replace hD : va_D A [(k, .inr (8, [.ref k0, .ref k1, .ref k2, .ref k3, .ref k4, .ref k5, .ref k6, .ref k7, .ref k8, .int c9])), (k0, .inl (cI, 60, .inl d0)), (k1, .inl (cI, 60, .inl d1)), (k2, .inl (cI, 60, .inl d2)), (k3, .inl (cI, 60, .inl d3)), (k4, .inl (cI, 60, .inl d4)), (k5, .inl (cI, 60, .inl d5)), (k6, .inl (cI, 40, .inl d6)), (k7, .inl (cI, 40, .inl d7)), (k8, .inl (cI, 40, .inl d8)), (o, .inr (8, [.ref o0, .ref o1, .ref o2, .ref o3, .ref o4, .ref o5, .ref o6, .ref o7, .ref o8, .int d9])), (o0, .inl (cI, 60, .inl d0)), (o1, .inl (cI, 60, .inl d1)), (o2, .inl (cI, 60, .inl d2)), (o3, .inl (cI, 60, .inl d3)), (o4, .inl (cI, 60, .inl d4)), (o5, .inl (cI, 60, .inl d5)), (o6, .inl (cI, 40, .inl d6)), (o7, .inl (cI, 40, .inl d7)), (o8, .inl (cI, 40, .inl d8))] := hD
  refine lv_aload_n hx hb dX8_copyFrom_135 rfl (lv_at hl 0 rfl) ?_
  refine lv_aload_n hx hb dX8_copyFrom_136 rfl (lv_at hl 1 rfl) ?_
  refine va_get (D := D) (ci := 8) (v := .int d9) (C := RX8) (T := TX8) (N := 10) hx hb hT giX8 hown hK hP 10 rfl rfl 9 (by decide +kernel) (hT (Cond.fieldLink RX8 39 "DesertWire$Works" "number" "I") mw_49) (fun _ h9 => h9) rfl dX8_copyFrom_137 ?_
  refine va_put (D := D) (ci := 8) (v := .int d9) (ty := .int) (C := RX8) (T := TX8) (N := 10) hx hb hT giX8 tyX8 tyX8_ok nmX8 hown hK hP hD hS 0 rfl rfl 9 (by decide +kernel) (hT (Cond.fieldLink RX8 39 "DesertWire$Works" "number" "I") mw_49) (fun _ h9 => h9) rfl (by decide +kernel) rfl rfl (Nat.le_of_ble_eq_true rfl) dX8_copyFrom_140 ?_
  clear hP hD hS
  intro H locs hP hD hS
  replace hP : va_P D vwCl [(k, .inr (8, [.ref k0, .ref k1, .ref k2, .ref k3, .ref k4, .ref k5, .ref k6, .ref k7, .ref k8, .int d9])), (k0, .inl (cI, 60, .inl d0)), (k1, .inl (cI, 60, .inl d1)), (k2, .inl (cI, 60, .inl d2)), (k3, .inl (cI, 60, .inl d3)), (k4, .inl (cI, 60, .inl d4)), (k5, .inl (cI, 60, .inl d5)), (k6, .inl (cI, 40, .inl d6)), (k7, .inl (cI, 40, .inl d7)), (k8, .inl (cI, 40, .inl d8)), (o, .inr (8, [.ref o0, .ref o1, .ref o2, .ref o3, .ref o4, .ref o5, .ref o6, .ref o7, .ref o8, .int d9])), (o0, .inl (cI, 60, .inl d0)), (o1, .inl (cI, 60, .inl d1)), (o2, .inl (cI, 60, .inl d2)), (o3, .inl (cI, 60, .inl d3)), (o4, .inl (cI, 60, .inl d4)), (o5, .inl (cI, 60, .inl d5)), (o6, .inl (cI, 40, .inl d6)), (o7, .inl (cI, 40, .inl d7)), (o8, .inl (cI, 40, .inl d8))] H := hP
  replace hD : va_D A [(k, .inr (8, [.ref k0, .ref k1, .ref k2, .ref k3, .ref k4, .ref k5, .ref k6, .ref k7, .ref k8, .int d9])), (k0, .inl (cI, 60, .inl d0)), (k1, .inl (cI, 60, .inl d1)), (k2, .inl (cI, 60, .inl d2)), (k3, .inl (cI, 60, .inl d3)), (k4, .inl (cI, 60, .inl d4)), (k5, .inl (cI, 60, .inl d5)), (k6, .inl (cI, 40, .inl d6)), (k7, .inl (cI, 40, .inl d7)), (k8, .inl (cI, 40, .inl d8)), (o, .inr (8, [.ref o0, .ref o1, .ref o2, .ref o3, .ref o4, .ref o5, .ref o6, .ref o7, .ref o8, .int d9])), (o0, .inl (cI, 60, .inl d0)), (o1, .inl (cI, 60, .inl d1)), (o2, .inl (cI, 60, .inl d2)), (o3, .inl (cI, 60, .inl d3)), (o4, .inl (cI, 60, .inl d4)), (o5, .inl (cI, 60, .inl d5)), (o6, .inl (cI, 40, .inl d6)), (o7, .inl (cI, 40, .inl d7)), (o8, .inl (cI, 40, .inl d8))] := hD
  exact hRet (d9, d0, d1, d2, d3, d4, d5, d6, d7, d8) [0, 1, 2, 3, 4, 5, 6, 7, 8, 9, 10, 11, 12, 13, 14, 15, 16, 17, 18, 19] ⟨rfl, rfl, rfl, rfl, rfl, rfl, rfl, rfl, rfl, rfl⟩ hP hD (by decide +kernel) rfl hS dX8_copyFrom_143

set_option maxHeartbeats 4000000 in
set_option maxRecDepth 100000 in
theorem c_X3_getD0 (l : Launch) (D : va_G) (cI : ClassId) (aK aV : Nat → Nat) (k k0 : Nat) (sz : Nat) (c1 : Int32) (c0 : Nat → Int32) (gx : Nat → Int32) (a0 : Int32) (a1 : Int32) (pre0 : PTR c0 c1 gx) (pre1 : 0 ≤ a0.toInt) (pre2 : a0.toInt < c1.toInt) (pre3 : a1 = 0) : Met l yX3_get (gW yX3_get cX3_get 3 (some .int)) ({ frames := 1, cells := 0, slots := 0, locals := 21 } : Room) (kPreX D cI aK aV [.ref k, .int a0, .int 0] [(k, .inr (3, [.ref k0, .int c1])), (k0, .inl (cI, 36, .inl c0))] sz) (va_Qi (fun (r : Int32) (u : Unit) => r = pW gx a0 0) (fun u t => kWd D cI (va_A [(k, .inr (3, [.ref k0, .int c1])), (k0, .inl (cI, 36, .inl c0))] sz) [(k, .inr (3, [.ref k0, .int c1])), (k0, .inl (cI, 36, .inl c0))] t) (va_A [(k, .inr (3, [.ref k0, .int c1])), (k0, .inl (cI, 36, .inl c0))] sz)) 0 0 (va_A [(k, .inr (3, [.ref k0, .int c1])), (k0, .inl (cI, 36, .inl c0))] sz) := by
  refine kMetIX (own := RX3) (by decide +kernel) rfl (Nat.le_of_ble_eq_true rfl) ?_
  intro p e s m args below meth c hx hb hT hown hname hml A Q hK hP hD hS hA hN hXS hRet ls hl
  subst pre3
  have hl : lv_has ls 3 [(0, .ref k), (1, .int a0), (2, .int 0)] := hl
  have lo_a0 := k_lo a0
  have hi_a0 := k_hi a0
  have lo_c1 := k_lo c1
  have hi_c1 := k_hi c1
  have pre0 : PTR c0 c1 gx := pre0
  have b_1 : 0 ≤ c1.toInt ∧ c1.toInt ≤ 4 := (pre0).2.1
  have t_2 : c1.toInt = (gx 2).toInt := PTR.nt pre0
  refine lv_aload_n hx hb dX3_get_0 rfl (lv_at hl 0 rfl) ?_
  refine lv_iload_n hx hb dX3_get_1 rfl (lv_at hl 1 rfl) ?_
  refine kJi (wr := [(k0, .inl (cI, 36, .inl c0))]) (va_runV (As := [.int a0]) (rest := []) ⟨hx, hb, hml, hown, hT⟩ (c_X3_hasG l D cI aK aV k k0 s.heap.size c1 a0) (cwV 1 hT (gV_in mw_717 mw_714 mw_715 mw_716 mw_4) rfl rfl rfl (by decide +kernel) ⟨Nat.le_of_ble_eq_true rfl, Nat.le_of_ble_eq_true rfl⟩) (kRecvX (q0 := 0) (ci := 3) hK hP hD hN hXS hS hA rfl rfl [0] rfl (by decide +kernel)) rfl rfl hl.1 rfl (lv_room (Nat.le_of_ble_eq_true rfl)) dX3_get_2 ⟨Nat.le_of_ble_eq_true rfl, Nat.le_of_ble_eq_true rfl⟩) hP hD hS hA [0] [1] rfl rfl (by decide +kernel) (by decide +kernel) ?_
  clear hP hD hS
  intro r_3 u_5 H locs w_4 hP hD hS
  replace hP : va_P D vwCl [(k0, .inl (cI, 36, .inl c0)), (k, .inr (3, [.ref k0, .int c1]))] H := hP
  replace hD : va_D A [(k0, .inl (cI, 36, .inl c0)), (k, .inr (3, [.ref k0, .int c1]))] := hD
  rcases w_4 with ⟨hr_3, h_6, h_7, h_8⟩ | ⟨hr_3, h_9⟩
  · have h_6 : 0 ≤ a0.toInt := h_6
    have h_7 : a0.toInt < c1.toInt := h_7
    have h_8 : a0.toInt < 4 := h_8
    obtain rfl : r_3 = 1 := hr_3.trans (by decide +kernel)
    refine b_if_eq hx hb zl_1 (tgt := 32) dX3_get_5 (by decide +kernel) (fun c_10 => by exfalso; omega) (fun c_10 => ?_)
    refine lv_iload_n hx hb dX3_get_8 rfl (lv_at hl 2 rfl) ?_
    refine b_if_lt hx hb zl_0 (tgt := 32) dX3_get_9 (by decide +kernel) (fun c_11 => by exfalso; omega) (fun c_11 => ?_)
    refine lv_iload_n hx hb dX3_get_12 rfl (lv_at hl 2 rfl) ?_
    refine lv_bipush (v := 9) hx hb dX3_get_13 (by decide +kernel) ?_
    refine b_icmp_ge hx hb zl_0 zl_9 (tgt := 32) dX3_get_15 (by decide +kernel) (fun c_12 => by exfalso; omega) (fun c_12 => ?_)
    refine lv_aload_n hx hb dX3_get_18 rfl (lv_at hl 0 rfl) ?_
    refine va_get (D := D) (ci := 3) (v := .ref k0) (C := RX3) (T := TX3) (N := 2) hx hb hT giX3 hown hK hP 1 rfl rfl 0 (by decide +kernel) (hT (Cond.fieldLink RX3 9 "DesertWire$Parties" "facts" "[I") mw_80) (fun _ h9 => h9) rfl dX3_get_19 ?_
    refine lv_iload_n hx hb dX3_get_22 rfl (lv_at hl 1 rfl) ?_
    refine lv_bipush (v := 9) hx hb dX3_get_23 (by decide +kernel) ?_
    refine lv_imul hx hb dX3_get_25 ?_
    refine lv_topi (fun v_13 ev_13 => ?_)
    have tv_13 : v_13.toInt = a0.toInt * 9 := by rw [ev_13]; exact k_mulv rfl zl_9 (by omega) (by omega)
    refine lv_iload_n hx hb dX3_get_26 rfl (lv_at hl 2 rfl) ?_
    refine lv_iadd hx hb dX3_get_27 ?_
    refine lv_topi (fun v_14 ev_14 => ?_)
    have tv_14 : v_14.toInt = v_13.toInt + 0 := by rw [ev_14]; exact k_addv rfl zl_0 (by omega) (by omega)
    refine k_iald (v := (c0 v_14.toNatClampNeg)) hx hb hK hP 0 0 rfl rfl (k_in (by omega) (by omega)) rfl dX3_get_28 ?_
    refine lv_topi (fun v_15 ev_15 => ?_)
    have lo_v_15 := k_lo v_15
    have hi_v_15 := k_hi v_15
    have tv_15 : v_15.toInt = (c0 v_14.toNatClampNeg).toInt := by rw [ev_15]
    refine lv_goto (tgt := 33) hx hb dX3_get_29 (by decide +kernel) ?_
    exact hRet () [1, 0] (PTR.rd pre0 (by omega) (by omega) (by omega) ev_15 (by omega)) hP hD (by decide +kernel) rfl hS rfl dX3_get_33
  · exfalso; omega
