theorem bn_cX5_nameOf_0 : BN cX5_nameOf 0 0x5695402b749870b8135695402b749870b4135695402b749870a6131180402010100402010d804020100804020101804020115804020100ab036015a8ad5a03030053a1c := by
  unfold BN; decide +kernel
theorem dX5_nameOf_0 : decode cX5_nameOf 0 = .ok (.iload_n 1, 1) := dR0 (k := 0) (i := 0) bn_cX5_nameOf_0 dop_27 (by decide +kernel)
theorem dX5_nameOf_1 : decode cX5_nameOf 1 = .ok (.ifCond .ge 5, 3) := dR2s (f := Instr.ifCond .ge) (k := 0) (i := 1) bn_cX5_nameOf_0 dop_156 5 5 (by decide +kernel)
theorem dX5_nameOf_4 : decode cX5_nameOf 4 = .ok (.iconst (-1), 1) := dR0 (k := 0) (i := 4) bn_cX5_nameOf_0 dop_2 (by decide +kernel)
theorem dX5_nameOf_5 : decode cX5_nameOf 5 = .ok (.ireturn, 1) := dR0 (k := 0) (i := 5) bn_cX5_nameOf_0 dop_172 (by decide +kernel)
theorem dX5_nameOf_6 : decode cX5_nameOf 6 = .ok (.aload_n 0, 1) := dR0 (k := 0) (i := 6) bn_cX5_nameOf_0 dop_42 (by decide +kernel)
theorem dX5_nameOf_7 : decode cX5_nameOf 7 = .ok (.getfield 26, 3) := dR2 (f := Instr.getfield) (k := 0) (i := 7) bn_cX5_nameOf_0 dop_180 26 (by decide +kernel)
theorem dX5_nameOf_10 : decode cX5_nameOf 10 = .ok (.lookupswitch 42 #[(0, 26), (1, 34)], 26) := by decide +kernel
theorem dX5_nameOf_36 : decode cX5_nameOf 36 = .ok (.ldc 82, 2) := dR1 (f := Instr.ldc) (k := 0) (i := 36) bn_cX5_nameOf_0 dop_18 82 (by decide +kernel)
theorem dX5_nameOf_38 : decode cX5_nameOf 38 = .ok (.iload_n 1, 1) := dR0 (k := 0) (i := 38) bn_cX5_nameOf_0 dop_27 (by decide +kernel)
theorem dX5_nameOf_39 : decode cX5_nameOf 39 = .ok (.i2c, 1) := dR0 (k := 0) (i := 39) bn_cX5_nameOf_0 dop_146 (by decide +kernel)
theorem dX5_nameOf_40 : decode cX5_nameOf 40 = .ok (.invokevirtual 84, 3) := dR2 (f := Instr.invokevirtual) (k := 0) (i := 40) bn_cX5_nameOf_0 dop_182 84 (by decide +kernel)
theorem dX5_nameOf_43 : decode cX5_nameOf 43 = .ok (.ireturn, 1) := dR0 (k := 0) (i := 43) bn_cX5_nameOf_0 dop_172 (by decide +kernel)
theorem dX5_nameOf_44 : decode cX5_nameOf 44 = .ok (.ldc 89, 2) := dR1 (f := Instr.ldc) (k := 0) (i := 44) bn_cX5_nameOf_0 dop_18 89 (by decide +kernel)
theorem dX5_nameOf_46 : decode cX5_nameOf 46 = .ok (.iload_n 1, 1) := dR0 (k := 0) (i := 46) bn_cX5_nameOf_0 dop_27 (by decide +kernel)
theorem dX5_nameOf_47 : decode cX5_nameOf 47 = .ok (.i2c, 1) := dR0 (k := 0) (i := 47) bn_cX5_nameOf_0 dop_146 (by decide +kernel)
theorem dX5_nameOf_48 : decode cX5_nameOf 48 = .ok (.invokevirtual 84, 3) := dR2 (f := Instr.invokevirtual) (k := 0) (i := 48) bn_cX5_nameOf_0 dop_182 84 (by decide +kernel)
theorem dX5_nameOf_51 : decode cX5_nameOf 51 = .ok (.ireturn, 1) := dR0 (k := 0) (i := 51) bn_cX5_nameOf_0 dop_172 (by decide +kernel)
theorem dX5_nameOf_52 : decode cX5_nameOf 52 = .ok (.ldc 91, 2) := dR1 (f := Instr.ldc) (k := 0) (i := 52) bn_cX5_nameOf_0 dop_18 91 (by decide +kernel)
theorem dX5_nameOf_54 : decode cX5_nameOf 54 = .ok (.iload_n 1, 1) := dR0 (k := 0) (i := 54) bn_cX5_nameOf_0 dop_27 (by decide +kernel)
theorem dX5_nameOf_55 : decode cX5_nameOf 55 = .ok (.i2c, 1) := dR0 (k := 0) (i := 55) bn_cX5_nameOf_0 dop_146 (by decide +kernel)
theorem dX5_nameOf_56 : decode cX5_nameOf 56 = .ok (.invokevirtual 84, 3) := dR2 (f := Instr.invokevirtual) (k := 0) (i := 56) bn_cX5_nameOf_0 dop_182 84 (by decide +kernel)
theorem dX5_nameOf_59 : decode cX5_nameOf 59 = .ok (.ireturn, 1) := dR0 (k := 0) (i := 59) bn_cX5_nameOf_0 dop_172 (by decide +kernel)
set_option maxHeartbeats 4000000 in
set_option maxRecDepth 100000 in
theorem c_X5_nameOfG (l : Launch) (D : va_G) (cI : ClassId) (aK aV : Nat → Nat) (k k0 : Nat) (sz : Nat) (c1 : Int32) (c2 : Int32) (c3 : Int32) (c4 : Int32) (c5 : Int32) (c6 : Int32) (c7 : Int32) (a0 : Int32) (pre0 : a0.toInt ≤ 255) : Met l yX5_nameOf (gW yX5_nameOf cX5_nameOf 2 (some .int)) ({ frames := 4, cells := 0, slots := 0, locals := 106 } : Room) (kPreX D cI aK aV [.ref k, .int a0] [(k, .inr (5, [.ref k0, .int c1, .int c2, .int c3, .int c4, .int c5, .int c6, .int c7]))] sz) (va_Qi (fun (r : Int32) (u : Unit) => (r = (-1) ∧ a0.toInt < 0) ∨ (0 ≤ a0.toInt ∧ r.toInt = tx_nm c4 a0)) (fun u t => kWd D cI (va_A [(k, .inr (5, [.ref k0, .int c1, .int c2, .int c3, .int c4, .int c5, .int c6, .int c7]))] sz) [(k, .inr (5, [.ref k0, .int c1, .int c2, .int c3, .int c4, .int c5, .int c6, .int c7]))] t) (va_A [(k, .inr (5, [.ref k0, .int c1, .int c2, .int c3, .int c4, .int c5, .int c6, .int c7]))] sz)) 0 0 (va_A [(k, .inr (5, [.ref k0, .int c1, .int c2, .int c3, .int c4, .int c5, .int c6, .int c7]))] sz) := by
  refine kMetIX (own := RX5) (by decide +kernel) rfl (Nat.le_of_ble_eq_true rfl) ?_
  intro p e s m args below meth c hx hb hT hown hname hml A Q hK hP hD hS hA hN hXS hRet ls hl
  have hl : lv_has ls 2 [(0, .ref k), (1, .int a0)] := hl
  have lo_a0 := k_lo a0
  have hi_a0 := k_hi a0
  have lo_c4 := k_lo c4
  have hi_c4 := k_hi c4
  refine lv_iload_n hx hb dX5_nameOf_0 rfl (lv_at hl 1 rfl) ?_
  refine b_if_ge hx hb rfl (tgt := 6) dX5_nameOf_1 (by decide +kernel) (fun c_1 => ?_) (fun c_1 => ?_)
  · refine lv_aload_n hx hb dX5_nameOf_6 rfl (lv_at hl 0 rfl) ?_
    refine va_get (D := D) (ci := 5) (v := .int c4) (C := RX5) (T := TX5) (N := 8) hx hb hT giX5 hown hK hP 0 rfl rfl 4 (by decide +kernel) (hT (Cond.fieldLink RX5 26 "DesertWire$Reader" "use" "I") mw_172) (fun _ h9 => h9) rfl dX5_nameOf_7 ?_
    by_cases c_2 : c4.toInt = 0
    · refine lv_lookup (off := 26) (tgt := 36) hx hb dX5_nameOf_10 (by decide +kernel) (by rw [c_2]; decide) (by decide +kernel) ?_
      refine va_ldcS hx hb hown hXS.2.2.2.1 dX5_nameOf_36 ?_
      refine lv_iload_n hx hb dX5_nameOf_38 rfl (lv_at hl 1 rfl) ?_
      refine lv_i2c (v := (a0.toUInt32 % 65536).toInt32) hx hb dX5_nameOf_39 rfl ?_
      refine lv_topi (fun v_3 ev_3 => ?_)
      have lo_v_3 := k_lo v_3
      have hi_v_3 := k_hi v_3
      have t_4 : v_3.toInt = a0.toInt := i2c_id ev_3 (by omega) (by omega)
      refine kJi (wr := [(k, .inr (5, [.ref k0, .int c1, .int c2, .int c3, .int c4, .int c5, .int c6, .int c7]))]) (va_runV (As := [.int v_3]) (rest := []) ⟨hx, hb, hml, hown, hT⟩ (c_J0_indexOf_0f7a4G l D cI aK aV s.heap.size 0 v_3 (by first | omega | decide | assumption | rfl) (by first | omega | decide | assumption | rfl) (by first | omega | decide | assumption | rfl)) (cwV 1 hT (gV_in mw_511 mw_508 mw_509 mw_510 mw_14) rfl rfl rfl (by decide +kernel) ⟨Nat.le_of_ble_eq_true rfl, Nat.le_of_ble_eq_true rfl⟩) (kRecvS hK hP hD hN hXS hS hA (by decide +kernel) [] rfl (by decide +kernel)) rfl rfl hl.1 rfl (lv_room (Nat.le_of_ble_eq_true rfl)) dX5_nameOf_40 ⟨Nat.le_of_ble_eq_true rfl, Nat.le_of_ble_eq_true rfl⟩) hP hD hS hA [] [0] rfl rfl (by decide +kernel) (by decide +kernel) ?_
      clear hP hD hS
      intro r_5 u_7 H locs w_6 hP hD hS
      replace hP : va_P D vwCl [(k, .inr (5, [.ref k0, .int c1, .int c2, .int c3, .int c4, .int c5, .int c6, .int c7]))] H := hP
      replace hD : va_D A [(k, .inr (5, [.ref k0, .int c1, .int c2, .int c3, .int c4, .int c5, .int c6, .int c7]))] := hD
      have h_8 := w_6
      have h_8 : JSX 0 v_3.toInt r_5.toInt := h_8
      have h_8 : JSX 0 v_3.toInt r_5.toInt := h_8
      have lo_r_5 := k_lo r_5
      have hi_r_5 := k_hi r_5
      exact hRet () [0] (by first | exact Or.inl ⟨hr_5, (by omega)⟩ | exact Or.inr (⟨(by omega), (nm_js (c := v_3) (Or.inl ⟨rfl, by omega⟩) (by omega) (by omega) h_8)⟩)) hP hD (by decide +kernel) rfl hS rfl dX5_nameOf_43
    by_cases c_9 : c4.toInt = 1
    · refine lv_lookup (off := 34) (tgt := 44) hx hb dX5_nameOf_10 (by decide +kernel) (by rw [c_9]; decide) (by decide +kernel) ?_
      refine va_ldcS hx hb hown hXS.2.2.2.2.1 dX5_nameOf_44 ?_
      refine lv_iload_n hx hb dX5_nameOf_46 rfl (lv_at hl 1 rfl) ?_
      refine lv_i2c (v := (a0.toUInt32 % 65536).toInt32) hx hb dX5_nameOf_47 rfl ?_
      refine lv_topi (fun v_10 ev_10 => ?_)
      have lo_v_10 := k_lo v_10
      have hi_v_10 := k_hi v_10
      have t_11 : v_10.toInt = a0.toInt := i2c_id ev_10 (by omega) (by omega)
      refine kJi (wr := [(k, .inr (5, [.ref k0, .int c1, .int c2, .int c3, .int c4, .int c5, .int c6, .int c7]))]) (va_runV (As := [.int v_10]) (rest := []) ⟨hx, hb, hml, hown, hT⟩ (c_J0_indexOf_0f7a4G l D cI aK aV s.heap.size 1 v_10 (by first | omega | decide | assumption | rfl) (by first | omega | decide | assumption | rfl) (by first | omega | decide | assumption | rfl)) (cwV 1 hT (gV_in mw_511 mw_508 mw_509 mw_510 mw_14) rfl rfl rfl (by decide +kernel) ⟨Nat.le_of_ble_eq_true rfl, Nat.le_of_ble_eq_true rfl⟩) (kRecvS hK hP hD hN hXS hS hA (by decide +kernel) [] rfl (by decide +kernel)) rfl rfl hl.1 rfl (lv_room (Nat.le_of_ble_eq_true rfl)) dX5_nameOf_48 ⟨Nat.le_of_ble_eq_true rfl, Nat.le_of_ble_eq_true rfl⟩) hP hD hS hA [] [0] rfl rfl (by decide +kernel) (by decide +kernel) ?_
      clear hP hD hS
      intro r_12 u_14 H locs w_13 hP hD hS
      replace hP : va_P D vwCl [(k, .inr (5, [.ref k0, .int c1, .int c2, .int c3, .int c4, .int c5, .int c6, .int c7]))] H := hP
      replace hD : va_D A [(k, .inr (5, [.ref k0, .int c1, .int c2, .int c3, .int c4, .int c5, .int c6, .int c7]))] := hD
      have h_15 := w_13
      have h_15 : JSX 1 v_10.toInt r_12.toInt := h_15
      have h_15 : JSX 1 v_10.toInt r_12.toInt := h_15
      have lo_r_12 := k_lo r_12
      have hi_r_12 := k_hi r_12
      exact hRet () [0] (by first | exact Or.inl ⟨hr_12, (by omega)⟩ | exact Or.inr (⟨(by omega), (nm_js (c := v_10) (Or.inr (Or.inl ⟨rfl, by omega⟩)) (by omega) (by omega) h_15)⟩)) hP hD (by decide +kernel) rfl hS rfl dX5_nameOf_51
    refine lv_lookup (off := 42) (tgt := 52) hx hb dX5_nameOf_10 (by decide +kernel) (k_osw2 (by omega) (by omega)) (by decide +kernel) ?_
    refine va_ldcS hx hb hown hXS.2.2.2.2.2 dX5_nameOf_52 ?_
    refine lv_iload_n hx hb dX5_nameOf_54 rfl (lv_at hl 1 rfl) ?_
    refine lv_i2c (v := (a0.toUInt32 % 65536).toInt32) hx hb dX5_nameOf_55 rfl ?_
    refine lv_topi (fun v_16 ev_16 => ?_)
    have lo_v_16 := k_lo v_16
    have hi_v_16 := k_hi v_16
    have t_17 : v_16.toInt = a0.toInt := i2c_id ev_16 (by omega) (by omega)
    refine kJi (wr := [(k, .inr (5, [.ref k0, .int c1, .int c2, .int c3, .int c4, .int c5, .int c6, .int c7]))]) (va_runV (As := [.int v_16]) (rest := []) ⟨hx, hb, hml, hown, hT⟩ (c_J0_indexOf_0f7a4G l D cI aK aV s.heap.size 2 v_16 (by first | omega | decide | assumption | rfl) (by first | omega | decide | assumption | rfl) (by first | omega | decide | assumption | rfl)) (cwV 1 hT (gV_in mw_511 mw_508 mw_509 mw_510 mw_14) rfl rfl rfl (by decide +kernel) ⟨Nat.le_of_ble_eq_true rfl, Nat.le_of_ble_eq_true rfl⟩) (kRecvS hK hP hD hN hXS hS hA (by decide +kernel) [] rfl (by decide +kernel)) rfl rfl hl.1 rfl (lv_room (Nat.le_of_ble_eq_true rfl)) dX5_nameOf_56 ⟨Nat.le_of_ble_eq_true rfl, Nat.le_of_ble_eq_true rfl⟩) hP hD hS hA [] [0] rfl rfl (by decide +kernel) (by decide +kernel) ?_
    clear hP hD hS
    intro r_18 u_20 H locs w_19 hP hD hS
    replace hP : va_P D vwCl [(k, .inr (5, [.ref k0, .int c1, .int c2, .int c3, .int c4, .int c5, .int c6, .int c7]))] H := hP
    replace hD : va_D A [(k, .inr (5, [.ref k0, .int c1, .int c2, .int c3, .int c4, .int c5, .int c6, .int c7]))] := hD
    have h_21 := w_19
    have h_21 : JSX 2 v_16.toInt r_18.toInt := h_21
    have h_21 : JSX 2 v_16.toInt r_18.toInt := h_21
    have lo_r_18 := k_lo r_18
    have hi_r_18 := k_hi r_18
    exact hRet () [0] (by first | exact Or.inl ⟨hr_18, (by omega)⟩ | exact Or.inr (⟨(by omega), (nm_js (c := v_16) (Or.inr (Or.inr ⟨rfl, by omega, by omega⟩)) (by omega) (by omega) h_21)⟩)) hP hD (by decide +kernel) rfl hS rfl dX5_nameOf_59
  · refine lv_iconst (v := (-1)) hx hb dX5_nameOf_4 (by decide +kernel) ?_
    exact hRet () [0] (by first | exact Or.inl ⟨rfl, (by omega)⟩ | exact Or.inr (⟨(by omega), (by rw [zl_m1]; exact (nm_neg (by omega)).symm)⟩)) hP hD (by decide +kernel) rfl hS rfl dX5_nameOf_5
theorem bn_cX5_next_0 : BN cX5_next 0 0x5680c0a01540bc28015a8ac14015a8ac2001518cc221400ad4561900a8c20015a8ac28015a8ac48014e05002b5158ac029b0b8056a2b := by
  unfold BN; decide +kernel
theorem dX5_next_0 : decode cX5_next 0 = .ok (.aload_n 0, 1) := dR0 (k := 0) (i := 0) bn_cX5_next_0 dop_42 (by decide +kernel)
theorem dX5_next_1 : decode cX5_next 1 = .ok (.getfield 22, 3) := dR2 (f := Instr.getfield) (k := 0) (i := 1) bn_cX5_next_0 dop_180 22 (by decide +kernel)
theorem dX5_next_4 : decode cX5_next 4 = .ok (.ifCond .ne 42, 3) := dR2s (f := Instr.ifCond .ne) (k := 0) (i := 4) bn_cX5_next_0 dop_154 42 42 (by decide +kernel)
theorem dX5_next_7 : decode cX5_next 7 = .ok (.aload_n 0, 1) := dR0 (k := 0) (i := 7) bn_cX5_next_0 dop_42 (by decide +kernel)
theorem dX5_next_8 : decode cX5_next 8 = .ok (.getfield 19, 3) := dR2 (f := Instr.getfield) (k := 0) (i := 8) bn_cX5_next_0 dop_180 19 (by decide +kernel)
theorem dX5_next_11 : decode cX5_next 11 = .ok (.ifCond .lt 35, 3) := dR2s (f := Instr.ifCond .lt) (k := 0) (i := 11) bn_cX5_next_0 dop_155 35 35 (by decide +kernel)
theorem dX5_next_14 : decode cX5_next 14 = .ok (.aload_n 0, 1) := dR0 (k := 0) (i := 14) bn_cX5_next_0 dop_42 (by decide +kernel)
theorem dX5_next_15 : decode cX5_next 15 = .ok (.getfield 19, 3) := dR2 (f := Instr.getfield) (k := 0) (i := 15) bn_cX5_next_0 dop_180 19 (by decide +kernel)
theorem dX5_next_18 : decode cX5_next 18 = .ok (.aload_n 0, 1) := dR0 (k := 0) (i := 18) bn_cX5_next_0 dop_42 (by decide +kernel)
theorem dX5_next_19 : decode cX5_next 19 = .ok (.getfield 15, 3) := dR2 (f := Instr.getfield) (k := 0) (i := 19) bn_cX5_next_0 dop_180 15 (by decide +kernel)
theorem dX5_next_22 : decode cX5_next 22 = .ok (.if_icmp .ge 24, 3) := dR2s (f := Instr.if_icmp .ge) (k := 0) (i := 22) bn_cX5_next_0 dop_162 24 24 (by decide +kernel)
theorem dX5_next_25 : decode cX5_next 25 = .ok (.aload_n 0, 1) := dR0 (k := 0) (i := 25) bn_cX5_next_0 dop_42 (by decide +kernel)
theorem dX5_next_26 : decode cX5_next 26 = .ok (.getfield 19, 3) := dR2 (f := Instr.getfield) (k := 0) (i := 26) bn_cX5_next_0 dop_180 19 (by decide +kernel)
theorem dX5_next_29 : decode cX5_next 29 = .ok (.bipush 50, 2) := dR1s (f := Instr.bipush) (k := 0) (i := 29) bn_cX5_next_0 dop_16 50 50 (by decide +kernel)
theorem dX5_next_31 : decode cX5_next 31 = .ok (.if_icmp .ge 15, 3) := dR2s (f := Instr.if_icmp .ge) (k := 0) (i := 31) bn_cX5_next_0 dop_162 15 15 (by decide +kernel)
theorem dX5_next_34 : decode cX5_next 34 = .ok (.aload_n 0, 1) := dR0 (k := 0) (i := 34) bn_cX5_next_0 dop_42 (by decide +kernel)
theorem dX5_next_35 : decode cX5_next 35 = .ok (.getfield 9, 3) := dR2 (f := Instr.getfield) (k := 0) (i := 35) bn_cX5_next_0 dop_180 9 (by decide +kernel)
theorem dX5_next_38 : decode cX5_next 38 = .ok (.aload_n 0, 1) := dR0 (k := 0) (i := 38) bn_cX5_next_0 dop_42 (by decide +kernel)
theorem dX5_next_39 : decode cX5_next 39 = .ok (.getfield 19, 3) := dR2 (f := Instr.getfield) (k := 0) (i := 39) bn_cX5_next_0 dop_180 19 (by decide +kernel)
theorem dX5_next_42 : decode cX5_next 42 = .ok (.iaload, 1) := dR0 (k := 0) (i := 42) bn_cX5_next_0 dop_46 (by decide +kernel)
theorem dX5_next_43 : decode cX5_next 43 = .ok (.goto 4, 3) := dR2s (f := Instr.goto) (k := 0) (i := 43) bn_cX5_next_0 dop_167 4 4 (by decide +kernel)
theorem dX5_next_46 : decode cX5_next 46 = .ok (.iconst (-1), 1) := dR0 (k := 0) (i := 46) bn_cX5_next_0 dop_2 (by decide +kernel)
theorem dX5_next_47 : decode cX5_next 47 = .ok (.ireturn, 1) := dR0 (k := 0) (i := 47) bn_cX5_next_0 dop_172 (by decide +kernel)
set_option maxHeartbeats 4000000 in
set_option maxRecDepth 100000 in
theorem c_X5_nextG (l : Launch) (D : va_G) (cI : ClassId) (aK aV : Nat → Nat) (k k0 : Nat) (sz : Nat) (c1 : Int32) (c2 : Int32) (c3 : Int32) (c4 : Int32) (c5 : Int32) (c6 : Int32) (c7 : Int32) (c0 : Nat → Int32) (pre0 : BYT c0 0) (pre1 : c1.toInt ≤ 50) (pre2 : 0 ≤ c2.toInt) (pre3 : c2.toInt ≤ c1.toInt) : Met l yX5_next (gW yX5_next cX5_next 1 (some .int)) ({ frames := 0, cells := 0, slots := 0, locals := 0 } : Room) (kPreX D cI aK aV [.ref k] [(k, .inr (5, [.ref k0, .int c1, .int c2, .int c3, .int c4, .int c5, .int c6, .int c7])), (k0, .inl (cI, 50, .inl c0))] sz) (va_Qi (fun (r : Int32) (u : Unit) => (c3.toInt = 0 ∧ r = tG c0 0 c1 c2.toInt ∧ -1 ≤ r.toInt ∧ r.toInt ≤ 255 ∧ (r.toInt = (-1) ∨ c2.toInt < c1.toInt)) ∨ (r = (-1) ∧ c3.toInt ≠ 0)) (fun u t => kWd D cI (va_A [(k, .inr (5, [.ref k0, .int c1, .int c2, .int c3, .int c4, .int c5, .int c6, .int c7])), (k0, .inl (cI, 50, .inl c0))] sz) [(k, .inr (5, [.ref k0, .int c1, .int c2, .int c3, .int c4, .int c5, .int c6, .int c7])), (k0, .inl (cI, 50, .inl c0))] t) (va_A [(k, .inr (5, [.ref k0, .int c1, .int c2, .int c3, .int c4, .int c5, .int c6, .int c7])), (k0, .inl (cI, 50, .inl c0))] sz)) 0 0 (va_A [(k, .inr (5, [.ref k0, .int c1, .int c2, .int c3, .int c4, .int c5, .int c6, .int c7])), (k0, .inl (cI, 50, .inl c0))] sz) := by
  refine kMetIX (own := RX5) (by decide +kernel) rfl (Nat.le_of_ble_eq_true rfl) ?_
  intro p e s m args below meth c hx hb hT hown hname hml A Q hK hP hD hS hA hN hXS hRet ls hl
  have hl : lv_has ls 1 [(0, .ref k)] := hl
  have lo_c1 := k_lo c1
  have hi_c1 := k_hi c1
  have lo_c2 := k_lo c2
  have hi_c2 := k_hi c2
  have lo_c3 := k_lo c3
  have hi_c3 := k_hi c3
  refine lv_aload_n hx hb dX5_next_0 rfl (lv_at hl 0 rfl) ?_
  refine va_get (D := D) (ci := 5) (v := .int c3) (C := RX5) (T := TX5) (N := 8) hx hb hT giX5 hown hK hP 0 rfl rfl 3 (by decide +kernel) (hT (Cond.fieldLink RX5 22 "DesertWire$Reader" "bad" "Z") mw_171) (fun _ h9 => h9) rfl dX5_next_1 ?_
  refine b_if_ne hx hb rfl (tgt := 46) dX5_next_4 (by decide +kernel) (fun c_1 => ?_) (fun c_1 => ?_)
  · refine lv_iconst (v := (-1)) hx hb dX5_next_46 (by decide +kernel) ?_
    exact hRet () [0, 1] (by first | exact Or.inl ⟨(by omega), (tG_out (by omega)), (by rw [zl_m1]; omega), (by rw [zl_m1]; omega), (Or.inl zl_m1)⟩ | exact Or.inr (⟨rfl, (by omega)⟩)) hP hD (by decide +kernel) rfl hS rfl dX5_next_47
  · refine lv_aload_n hx hb dX5_next_7 rfl (lv_at hl 0 rfl) ?_
    refine va_get (D := D) (ci := 5) (v := .int c2) (C := RX5) (T := TX5) (N := 8) hx hb hT giX5 hown hK hP 0 rfl rfl 2 (by decide +kernel) (hT (Cond.fieldLink RX5 19 "DesertWire$Reader" "at" "I") mw_170) (fun _ h9 => h9) rfl dX5_next_8 ?_
    refine b_if_lt hx hb rfl (tgt := 46) dX5_next_11 (by decide +kernel) (fun c_2 => by exfalso; omega) (fun c_2 => ?_)
    refine lv_aload_n hx hb dX5_next_14 rfl (lv_at hl 0 rfl) ?_
    refine va_get (D := D) (ci := 5) (v := .int c2) (C := RX5) (T := TX5) (N := 8) hx hb hT giX5 hown hK hP 0 rfl rfl 2 (by decide +kernel) (hT (Cond.fieldLink RX5 19 "DesertWire$Reader" "at" "I") mw_170) (fun _ h9 => h9) rfl dX5_next_15 ?_
    refine lv_aload_n hx hb dX5_next_18 rfl (lv_at hl 0 rfl) ?_
    refine va_get (D := D) (ci := 5) (v := .int c1) (C := RX5) (T := TX5) (N := 8) hx hb hT giX5 hown hK hP 0 rfl rfl 1 (by decide +kernel) (hT (Cond.fieldLink RX5 15 "DesertWire$Reader" "length" "I") mw_169) (fun _ h9 => h9) rfl dX5_next_19 ?_
    refine b_icmp_ge hx hb rfl rfl (tgt := 46) dX5_next_22 (by decide +kernel) (fun c_3 => ?_) (fun c_3 => ?_)
    · refine lv_iconst (v := (-1)) hx hb dX5_next_46 (by decide +kernel) ?_
      exact hRet () [0, 1] (by first | exact Or.inl ⟨(by omega), (tG_out (by omega)), (by rw [zl_m1]; omega), (by rw [zl_m1]; omega), (Or.inl zl_m1)⟩ | exact Or.inr (⟨rfl, (by omega)⟩)) hP hD (by decide +kernel) rfl hS rfl dX5_next_47
    · refine lv_aload_n hx hb dX5_next_25 rfl (lv_at hl 0 rfl) ?_
      refine va_get (D := D) (ci := 5) (v := .int c2) (C := RX5) (T := TX5) (N := 8) hx hb hT giX5 hown hK hP 0 rfl rfl 2 (by decide +kernel) (hT (Cond.fieldLink RX5 19 "DesertWire$Reader" "at" "I") mw_170) (fun _ h9 => h9) rfl dX5_next_26 ?_
      refine lv_bipush (v := 50) hx hb dX5_next_29 (by decide +kernel) ?_
      refine b_icmp_ge hx hb rfl zl_50 (tgt := 46) dX5_next_31 (by decide +kernel) (fun c_4 => by exfalso; omega) (fun c_4 => ?_)
      refine lv_aload_n hx hb dX5_next_34 rfl (lv_at hl 0 rfl) ?_
      refine va_get (D := D) (ci := 5) (v := .ref k0) (C := RX5) (T := TX5) (N := 8) hx hb hT giX5 hown hK hP 0 rfl rfl 0 (by decide +kernel) (hT (Cond.fieldLink RX5 9 "DesertWire$Reader" "text" "[I") mw_168) (fun _ h9 => h9) rfl dX5_next_35 ?_
      refine lv_aload_n hx hb dX5_next_38 rfl (lv_at hl 0 rfl) ?_
      refine va_get (D := D) (ci := 5) (v := .int c2) (C := RX5) (T := TX5) (N := 8) hx hb hT giX5 hown hK hP 0 rfl rfl 2 (by decide +kernel) (hT (Cond.fieldLink RX5 19 "DesertWire$Reader" "at" "I") mw_170) (fun _ h9 => h9) rfl dX5_next_39 ?_
      refine k_iald (v := (c0 c2.toNatClampNeg)) hx hb hK hP 1 0 rfl rfl (k_in (by omega) (by omega)) rfl dX5_next_42 ?_
      refine lv_topi (fun v_5 ev_5 => ?_)
      have lo_v_5 := k_lo v_5
      have hi_v_5 := k_hi v_5
      have tv_5 : v_5.toInt = (c0 c2.toNatClampNeg).toInt := by rw [ev_5]
      refine lv_goto (tgt := 47) hx hb dX5_next_43 (by decide +kernel) ?_
      exact hRet () [0, 1] (by first | exact Or.inl ⟨(by omega), (tG_in ev_5 (by omega) (by omega)), (by have z := tG_by (n := c1) (p := c2.toInt) pre0 pre1; rw [← tG_in ev_5 (by omega) (by omega)] at z; exact z.1), (by have z := tG_by (n := c1) (p := c2.toInt) pre0 pre1; rw [← tG_in ev_5 (by omega) (by omega)] at z; exact z.2), (Or.inr (by omega))⟩ | exact Or.inr (⟨ev_5, (by omega)⟩)) hP hD (by decide +kernel) rfl hS rfl dX5_next_47
theorem bn_cX5_fail_0 : BN cX5_fail 0 0x2b4081700ad80a2b := by
  unfold BN; decide +kernel
theorem dX5_fail_0 : decode cX5_fail 0 = .ok (.aload_n 0, 1) := dR0 (k := 0) (i := 0) bn_cX5_fail_0 dop_42 (by decide +kernel)
theorem dX5_fail_1 : decode cX5_fail 1 = .ok (.iconst 1, 1) := dR0 (k := 0) (i := 1) bn_cX5_fail_0 dop_4 (by decide +kernel)
theorem dX5_fail_2 : decode cX5_fail 2 = .ok (.putfield 22, 3) := dR2 (f := Instr.putfield) (k := 0) (i := 2) bn_cX5_fail_0 dop_181 22 (by decide +kernel)
theorem dX5_fail_5 : decode cX5_fail 5 = .ok (.iconst 0, 1) := dR0 (k := 0) (i := 5) bn_cX5_fail_0 dop_3 (by decide +kernel)
theorem dX5_fail_6 : decode cX5_fail 6 = .ok (.ireturn, 1) := dR0 (k := 0) (i := 6) bn_cX5_fail_0 dop_172 (by decide +kernel)
set_option maxHeartbeats 4000000 in
set_option maxRecDepth 100000 in
theorem c_X5_failG (l : Launch) (D : va_G) (cI : ClassId) (aK aV : Nat → Nat) (k k0 : Nat) (sz : Nat) (c1 : Int32) (c2 : Int32) (c3 : Int32) (c4 : Int32) (c5 : Int32) (c6 : Int32) (c7 : Int32) : Met l yX5_fail (gW yX5_fail cX5_fail 1 (some .int)) ({ frames := 0, cells := 0, slots := 0, locals := 0 } : Room) (kPreX D cI aK aV [.ref k] [(k, .inr (5, [.ref k0, .int c1, .int c2, .int c3, .int c4, .int c5, .int c6, .int c7]))] sz) (va_Qi (fun (r : Int32) (u : Int32) => r = 0 ∧ u.toInt = 1) (fun u t => kWd D cI (va_A [(k, .inr (5, [.ref k0, .int c1, .int c2, .int c3, .int c4, .int c5, .int c6, .int c7]))] sz) [(k, .inr (5, [.ref k0, .int c1, .int c2, .int u, .int c4, .int c5, .int c6, .int c7]))] t) (va_A [(k, .inr (5, [.ref k0, .int c1, .int c2, .int c3, .int c4, .int c5, .int c6, .int c7]))] sz)) 0 0 (va_A [(k, .inr (5, [.ref k0, .int c1, .int c2, .int c3, .int c4, .int c5, .int c6, .int c7]))] sz) := by
  refine kMetIX (own := RX5) (by decide +kernel) rfl (Nat.le_of_ble_eq_true rfl) ?_
  intro p e s m args below meth c hx hb hT hown hname hml A Q hK hP hD hS hA hN hXS hRet ls hl
  have hl : lv_has ls 1 [(0, .ref k)] := hl
  refine lv_aload_n hx hb dX5_fail_0 rfl (lv_at hl 0 rfl) ?_
  refine lv_iconst (v := 1) hx hb dX5_fail_1 (by decide +kernel) ?_
  refine va_put (D := D) (ci := 5) (v := .int 1) (ty := .boolean) (C := RX5) (T := TX5) (N := 8) hx hb hT giX5 tyX5 tyX5_ok nmX5 hown hK hP hD hS 0 rfl rfl 3 (by decide +kernel) (hT (Cond.fieldLink RX5 22 "DesertWire$Reader" "bad" "Z") mw_171) (fun _ h9 => h9) rfl (by decide +kernel) rfl rfl (Nat.le_of_ble_eq_true rfl) dX5_fail_2 ?_
  clear hP hD hS
  intro H locs hP hD hS
  replace hP : va_P D vwCl [(k, .inr (5, [.ref k0, .int c1, .int c2, .int 1, .int c4, .int c5, .int c6, .int c7]))] H := hP
  replace hD : va_D A [(k, .inr (5, [.ref k0, .int c1, .int c2, .int 1, .int c4, .int c5, .int c6, .int c7]))] := hD
  refine lv_iconst (v := 0) hx hb dX5_fail_5 (by decide +kernel) ?_
  exact hRet 1 [0] ⟨rfl, (by decide +kernel)⟩ hP hD (by decide +kernel) rfl hS rfl dX5_fail_6
theorem bn_cX5_truth_0 : BN cX5_truth 0 0x15a0402805500504005341b := by
  unfold BN; decide +kernel
theorem dX5_truth_0 : decode cX5_truth 0 = .ok (.iload_n 0, 1) := dR0 (k := 0) (i := 0) bn_cX5_truth_0 dop_26 (by decide +kernel)
theorem dX5_truth_1 : decode cX5_truth 1 = .ok (.ifCond .eq 7, 3) := dR2s (f := Instr.ifCond .eq) (k := 0) (i := 1) bn_cX5_truth_0 dop_153 7 7 (by decide +kernel)
theorem dX5_truth_4 : decode cX5_truth 4 = .ok (.iconst 1, 1) := dR0 (k := 0) (i := 4) bn_cX5_truth_0 dop_4 (by decide +kernel)
theorem dX5_truth_5 : decode cX5_truth 5 = .ok (.goto 4, 3) := dR2s (f := Instr.goto) (k := 0) (i := 5) bn_cX5_truth_0 dop_167 4 4 (by decide +kernel)
theorem dX5_truth_8 : decode cX5_truth 8 = .ok (.iconst 0, 1) := dR0 (k := 0) (i := 8) bn_cX5_truth_0 dop_3 (by decide +kernel)
theorem dX5_truth_9 : decode cX5_truth 9 = .ok (.ireturn, 1) := dR0 (k := 0) (i := 9) bn_cX5_truth_0 dop_172 (by decide +kernel)
set_option maxHeartbeats 4000000 in
set_option maxRecDepth 100000 in
theorem c_X5_truthG (l : Launch) (D : va_G) (cI : ClassId) (aK aV : Nat → Nat) (sz : Nat) (a0 : Int32) : Met l yX5_truth (gW yX5_truth cX5_truth 1 (some .int)) ({ frames := 0, cells := 0, slots := 0, locals := 0 } : Room) (kPreX D cI aK aV [.int a0] [] sz) (va_Qi (fun (r : Int32) (u : Unit) => (r = 1 ∧ a0.toInt ≠ 0) ∨ (r = 0 ∧ a0.toInt = 0)) (fun u t => kWd D cI (va_A [] sz) [] t) (va_A [] sz)) 0 0 (va_A [] sz) := by
  refine kMetIX (own := RX5) (by decide +kernel) rfl (Nat.le_of_ble_eq_true rfl) ?_
  intro p e s m args below meth c hx hb hT hown hname hml A Q hK hP hD hS hA hN hXS hRet ls hl
  have hl : lv_has ls 1 [(0, .int a0)] := hl
  refine lv_iload_n hx hb dX5_truth_0 rfl (lv_at hl 0 rfl) ?_
  refine b_if_eq hx hb rfl (tgt := 8) dX5_truth_1 (by decide +kernel) (fun c_1 => ?_) (fun c_1 => ?_)
  · refine lv_iconst (v := 0) hx hb dX5_truth_8 (by decide +kernel) ?_
    exact hRet () [] (Or.inr (⟨rfl, (by omega)⟩)) hP hD (by decide +kernel) rfl hS rfl dX5_truth_9
  · refine lv_iconst (v := 1) hx hb dX5_truth_4 (by decide +kernel) ?_
    refine lv_goto (tgt := 9) hx hb dX5_truth_5 (by decide +kernel) ?_
    exact hRet () [] (Or.inl ⟨rfl, (by omega)⟩) hP hD (by decide +kernel) rfl hS rfl dX5_truth_9
theorem bn_cX5_isDigit_0 : BN cX5_isDigit 0 0x15a0402805500504005483a0886c1c01510c4221b := by
  unfold BN; decide +kernel
theorem dX5_isDigit_0 : decode cX5_isDigit 0 = .ok (.iload_n 0, 1) := dR0 (k := 0) (i := 0) bn_cX5_isDigit_0 dop_26 (by decide +kernel)
theorem dX5_isDigit_1 : decode cX5_isDigit 1 = .ok (.bipush 48, 2) := dR1s (f := Instr.bipush) (k := 0) (i := 1) bn_cX5_isDigit_0 dop_16 48 48 (by decide +kernel)
theorem dX5_isDigit_3 : decode cX5_isDigit 3 = .ok (.if_icmp .lt 13, 3) := dR2s (f := Instr.if_icmp .lt) (k := 0) (i := 3) bn_cX5_isDigit_0 dop_161 13 13 (by decide +kernel)
theorem dX5_isDigit_6 : decode cX5_isDigit 6 = .ok (.iload_n 0, 1) := dR0 (k := 0) (i := 6) bn_cX5_isDigit_0 dop_26 (by decide +kernel)
theorem dX5_isDigit_7 : decode cX5_isDigit 7 = .ok (.bipush 57, 2) := dR1s (f := Instr.bipush) (k := 0) (i := 7) bn_cX5_isDigit_0 dop_16 57 57 (by decide +kernel)
theorem dX5_isDigit_9 : decode cX5_isDigit 9 = .ok (.if_icmp .gt 7, 3) := dR2s (f := Instr.if_icmp .gt) (k := 0) (i := 9) bn_cX5_isDigit_0 dop_163 7 7 (by decide +kernel)
theorem dX5_isDigit_12 : decode cX5_isDigit 12 = .ok (.iconst 1, 1) := dR0 (k := 0) (i := 12) bn_cX5_isDigit_0 dop_4 (by decide +kernel)
theorem dX5_isDigit_13 : decode cX5_isDigit 13 = .ok (.goto 4, 3) := dR2s (f := Instr.goto) (k := 0) (i := 13) bn_cX5_isDigit_0 dop_167 4 4 (by decide +kernel)
theorem dX5_isDigit_16 : decode cX5_isDigit 16 = .ok (.iconst 0, 1) := dR0 (k := 0) (i := 16) bn_cX5_isDigit_0 dop_3 (by decide +kernel)
theorem dX5_isDigit_17 : decode cX5_isDigit 17 = .ok (.ireturn, 1) := dR0 (k := 0) (i := 17) bn_cX5_isDigit_0 dop_172 (by decide +kernel)
set_option maxHeartbeats 4000000 in
set_option maxRecDepth 100000 in
theorem c_X5_isDigitG (l : Launch) (D : va_G) (cI : ClassId) (aK aV : Nat → Nat) (sz : Nat) (a0 : Int32) : Met l yX5_isDigit (gW yX5_isDigit cX5_isDigit 1 (some .boolean)) ({ frames := 0, cells := 0, slots := 0, locals := 0 } : Room) (kPreX D cI aK aV [.int a0] [] sz) (va_Qi (fun (r : Int32) (u : Unit) => (r = 1 ∧ 48 ≤ a0.toInt ∧ a0.toInt ≤ 57) ∨ (r = 0 ∧ (a0.toInt < 48 ∨ 57 < a0.toInt))) (fun u t => kWd D cI (va_A [] sz) [] t) (va_A [] sz)) 0 0 (va_A [] sz) := by
  refine kMetIX (own := RX5) (by decide +kernel) rfl (Nat.le_of_ble_eq_true rfl) ?_
  intro p e s m args below meth c hx hb hT hown hname hml A Q hK hP hD hS hA hN hXS hRet ls hl
  have hl : lv_has ls 1 [(0, .int a0)] := hl
  refine lv_iload_n hx hb dX5_isDigit_0 rfl (lv_at hl 0 rfl) ?_
  refine lv_bipush (v := 48) hx hb dX5_isDigit_1 (by decide +kernel) ?_
  refine b_icmp_lt hx hb rfl zl_48 (tgt := 16) dX5_isDigit_3 (by decide +kernel) (fun c_1 => ?_) (fun c_1 => ?_)
  · refine lv_iconst (v := 0) hx hb dX5_isDigit_16 (by decide +kernel) ?_
    exact hRet () [] (Or.inr (⟨rfl, (by omega)⟩)) hP hD (by decide +kernel) rfl hS rfl dX5_isDigit_17
  · refine lv_iload_n hx hb dX5_isDigit_6 rfl (lv_at hl 0 rfl) ?_
    refine lv_bipush (v := 57) hx hb dX5_isDigit_7 (by decide +kernel) ?_
    refine b_icmp_gt hx hb rfl zl_57 (tgt := 16) dX5_isDigit_9 (by decide +kernel) (fun c_2 => ?_) (fun c_2 => ?_)
    · refine lv_iconst (v := 0) hx hb dX5_isDigit_16 (by decide +kernel) ?_
      exact hRet () [] (Or.inr (⟨rfl, (by omega)⟩)) hP hD (by decide +kernel) rfl hS rfl dX5_isDigit_17
    · refine lv_iconst (v := 1) hx hb dX5_isDigit_12 (by decide +kernel) ?_
      refine lv_goto (tgt := 17) hx hb dX5_isDigit_13 (by decide +kernel) ?_
      exact hRet () [] (Or.inl ⟨rfl, (by omega), (by omega)⟩) hP hD (by decide +kernel) rfl hS rfl dX5_isDigit_17
theorem bn_cX5_numeral_0 : BN cX5_numeral 0 0x15a1c6c401500201a1428015b1840a1400ad4b42b1e9946211308b802b7159a4380b08884029a21005722e00adc562b00a8c101d1f0107a04 := by
  unfold BN; decide +kernel
theorem dX5_numeral_0 : decode cX5_numeral 0 = .ok (.iconst 0, 1) := dR0 (k := 0) (i := 0) bn_cX5_numeral_0 dop_3 (by decide +kernel)
theorem dX5_numeral_1 : decode cX5_numeral 1 = .ok (.istore_n 1, 1) := dR0 (k := 0) (i := 1) bn_cX5_numeral_0 dop_60 (by decide +kernel)
theorem dX5_numeral_2 : decode cX5_numeral 2 = .ok (.iconst 0, 1) := dR0 (k := 0) (i := 2) bn_cX5_numeral_0 dop_3 (by decide +kernel)
theorem dX5_numeral_3 : decode cX5_numeral 3 = .ok (.istore_n 2, 1) := dR0 (k := 0) (i := 3) bn_cX5_numeral_0 dop_61 (by decide +kernel)
theorem dX5_numeral_4 : decode cX5_numeral 4 = .ok (.iload_n 2, 1) := dR0 (k := 0) (i := 4) bn_cX5_numeral_0 dop_28 (by decide +kernel)
theorem dX5_numeral_5 : decode cX5_numeral 5 = .ok (.iconst 4, 1) := dR0 (k := 0) (i := 5) bn_cX5_numeral_0 dop_7 (by decide +kernel)
theorem dX5_numeral_6 : decode cX5_numeral 6 = .ok (.if_icmp .ge 42, 3) := dR2s (f := Instr.if_icmp .ge) (k := 0) (i := 6) bn_cX5_numeral_0 dop_162 42 42 (by decide +kernel)
theorem dX5_numeral_9 : decode cX5_numeral 9 = .ok (.aload_n 0, 1) := dR0 (k := 0) (i := 9) bn_cX5_numeral_0 dop_42 (by decide +kernel)
theorem dX5_numeral_10 : decode cX5_numeral 10 = .ok (.invokevirtual 45, 3) := dR2 (f := Instr.invokevirtual) (k := 0) (i := 10) bn_cX5_numeral_0 dop_182 45 (by decide +kernel)
theorem dX5_numeral_13 : decode cX5_numeral 13 = .ok (.invokestatic 65, 3) := dR2 (f := Instr.invokestatic) (k := 0) (i := 13) bn_cX5_numeral_0 dop_184 65 (by decide +kernel)
theorem dX5_numeral_16 : decode cX5_numeral 16 = .ok (.ifCond .eq 32, 3) := dR2s (f := Instr.ifCond .eq) (k := 0) (i := 16) bn_cX5_numeral_0 dop_153 32 32 (by decide +kernel)
theorem dX5_numeral_19 : decode cX5_numeral 19 = .ok (.bipush 10, 2) := dR1s (f := Instr.bipush) (k := 0) (i := 19) bn_cX5_numeral_0 dop_16 10 10 (by decide +kernel)
theorem dX5_numeral_21 : decode cX5_numeral 21 = .ok (.iload_n 1, 1) := dR0 (k := 0) (i := 21) bn_cX5_numeral_0 dop_27 (by decide +kernel)
theorem dX5_numeral_22 : decode cX5_numeral 22 = .ok (.imul, 1) := dR0 (k := 0) (i := 22) bn_cX5_numeral_0 dop_104 (by decide +kernel)
theorem dX5_numeral_23 : decode cX5_numeral 23 = .ok (.aload_n 0, 1) := dR0 (k := 0) (i := 23) bn_cX5_numeral_0 dop_42 (by decide +kernel)
theorem dX5_numeral_24 : decode cX5_numeral 24 = .ok (.invokevirtual 45, 3) := dR2 (f := Instr.invokevirtual) (k := 0) (i := 24) bn_cX5_numeral_0 dop_182 45 (by decide +kernel)
theorem dX5_numeral_27 : decode cX5_numeral 27 = .ok (.iadd, 1) := dR0 (k := 0) (i := 27) bn_cX5_numeral_0 dop_96 (by decide +kernel)
theorem dX5_numeral_28 : decode cX5_numeral 28 = .ok (.bipush 48, 2) := dR1s (f := Instr.bipush) (k := 0) (i := 28) bn_cX5_numeral_0 dop_16 48 48 (by decide +kernel)
theorem dX5_numeral_30 : decode cX5_numeral 30 = .ok (.isub, 1) := dR0 (k := 0) (i := 30) bn_cX5_numeral_0 dop_100 (by decide +kernel)
theorem dX5_numeral_31 : decode cX5_numeral 31 = .ok (.istore_n 1, 1) := dR0 (k := 0) (i := 31) bn_cX5_numeral_0 dop_60 (by decide +kernel)
theorem dX5_numeral_32 : decode cX5_numeral 32 = .ok (.aload_n 0, 1) := dR0 (k := 0) (i := 32) bn_cX5_numeral_0 dop_42 (by decide +kernel)
theorem dX5_numeral_33 : decode cX5_numeral 33 = .ok (.dup, 1) := dR0 (k := 0) (i := 33) bn_cX5_numeral_0 dop_89 (by decide +kernel)
theorem dX5_numeral_34 : decode cX5_numeral 34 = .ok (.getfield 19, 3) := dR2 (f := Instr.getfield) (k := 0) (i := 34) bn_cX5_numeral_0 dop_180 19 (by decide +kernel)
theorem dX5_numeral_37 : decode cX5_numeral 37 = .ok (.iconst 1, 1) := dR0 (k := 0) (i := 37) bn_cX5_numeral_0 dop_4 (by decide +kernel)
theorem dX5_numeral_38 : decode cX5_numeral 38 = .ok (.iadd, 1) := dR0 (k := 0) (i := 38) bn_cX5_numeral_0 dop_96 (by decide +kernel)
theorem dX5_numeral_39 : decode cX5_numeral 39 = .ok (.putfield 19, 3) := dR2 (f := Instr.putfield) (k := 0) (i := 39) bn_cX5_numeral_0 dop_181 19 (by decide +kernel)
theorem dX5_numeral_42 : decode cX5_numeral 42 = .ok (.iinc 2 1, 3) := dRii (f := Instr.iinc) (k := 0) (i := 42) bn_cX5_numeral_0 dop_132 2 1 1 (by decide +kernel)
theorem dX5_numeral_45 : decode cX5_numeral 45 = .ok (.goto (-41), 3) := dR2s (f := Instr.goto) (k := 0) (i := 45) bn_cX5_numeral_0 dop_167 65495 (-41) (by decide +kernel)
theorem dX5_numeral_48 : decode cX5_numeral 48 = .ok (.iload_n 1, 1) := dR0 (k := 0) (i := 48) bn_cX5_numeral_0 dop_27 (by decide +kernel)
theorem dX5_numeral_49 : decode cX5_numeral 49 = .ok (.ireturn, 1) := dR0 (k := 0) (i := 49) bn_cX5_numeral_0 dop_172 (by decide +kernel)
set_option maxHeartbeats 4000000 in
set_option maxRecDepth 100000 in
theorem c_X5_numeralG (l : Launch) (D : va_G) (cI : ClassId) (aK aV : Nat → Nat) (k k0 : Nat) (sz : Nat) (c1 : Int32) (c2 : Int32) (c3 : Int32) (c4 : Int32) (c5 : Int32) (c6 : Int32) (c7 : Int32) (c0 : Nat → Int32) (pre0 : BYT c0 0) (pre1 : c1.toInt ≤ 50) (pre2 : 0 ≤ c2.toInt) (pre3 : c2.toInt ≤ c1.toInt) (pre4 : c3.toInt = 0) : Met l yX5_numeral (gW yX5_numeral cX5_numeral 3 (some .int)) ({ frames := 1, cells := 0, slots := 0, locals := 20 } : Room) (kPreX D cI aK aV [.ref k] [(k, .inr (5, [.ref k0, .int c1, .int c2, .int c3, .int c4, .int c5, .int c6, .int c7])), (k0, .inl (cI, 50, .inl c0))] sz) (va_Qi (fun (r : Int32) (u : Int32) => tx_num (tG c0 0 c1) 4 0 c2.toInt = (r, u.toInt) ∧ c2.toInt ≤ u.toInt ∧ u.toInt ≤ c1.toInt) (fun u t => kWd D cI (va_A [(k, .inr (5, [.ref k0, .int c1, .int c2, .int c3, .int c4, .int c5, .int c6, .int c7])), (k0, .inl (cI, 50, .inl c0))] sz) [(k, .inr (5, [.ref k0, .int c1, .int u, .int c3, .int c4, .int c5, .int c6, .int c7])), (k0, .inl (cI, 50, .inl c0))] t) (va_A [(k, .inr (5, [.ref k0, .int c1, .int c2, .int c3, .int c4, .int c5, .int c6, .int c7])), (k0, .inl (cI, 50, .inl c0))] sz)) 0 0 (va_A [(k, .inr (5, [.ref k0, .int c1, .int c2, .int c3, .int c4, .int c5, .int c6, .int c7])), (k0, .inl (cI, 50, .inl c0))] sz) := by
  refine kMetIX (own := RX5) (by decide +kernel) rfl (Nat.le_of_ble_eq_true rfl) ?_
  intro p e s m args below meth c hx hb hT hown hname hml A Q hK hP hD hS hA hN hXS hRet ls hl
  have hl : lv_has ls 3 [(0, .ref k)] := hl
  have lo_c1 := k_lo c1
  have hi_c1 := k_hi c1
  have lo_c2 := k_lo c2
  have hi_c2 := k_hi c2
  have lo_c3 := k_lo c3
  have hi_c3 := k_hi c3
  have pre0 : BYT c0 0 := pre0
  refine lv_iconst (v := 0) hx hb dX5_numeral_0 (by decide +kernel) ?_
  refine lv_istore_n (lv' := [(1, .int 0), (0, .ref k)]) hx hb dX5_numeral_1 rfl hl (by decide +kernel) rfl ?_
  clear hl
  intro ls hl
  refine lv_iconst (v := 0) hx hb dX5_numeral_2 (by decide +kernel) ?_
  refine lv_istore_n (lv' := [(2, .int 0), (1, .int 0), (0, .ref k)]) hx hb dX5_numeral_3 rfl hl (by decide +kernel) rfl ?_
  clear hl
  intro ls hl
  have hloop_4 : ∀ (fu_ : Nat) (l4_1 : Int32) (l4_2 : Int32) (f4_k2 : Int32), 0 ≤ l4_2.toInt → c2.toInt ≤ f4_k2.toInt → l4_2.toInt ≤ 4 → f4_k2.toInt ≤ c1.toInt → tx_num (tG c0 0 c1) (4 - l4_2.toInt).toNat l4_1 f4_k2.toInt = tx_num (tG c0 0 c1) 4 0 c2.toInt → (4 - l4_2.toInt).toNat < fu_ → ∀ (ls : Array Slot) (H : Heap) (locs : List Loc), lv_has ls 3 [(2, .int l4_2), (1, .int l4_1), (0, .ref k)] → va_P D vwCl [(k, .inr (5, [.ref k0, .int c1, .int f4_k2, .int c3, .int c4, .int c5, .int c6, .int c7])), (k0, .inl (cI, 50, .inl c0))] H → va_D A [(k, .inr (5, [.ref k0, .int c1, .int f4_k2, .int c3, .int c4, .int c5, .int c6, .int c7])), (k0, .inl (cI, 50, .inl c0))] → va_S A s.heap H locs → W p l e ({ frames := 1, cells := 0, slots := 0, locals := 20 } : Room) s m args below meth c H locs 0 0 Q (F0 m 4 ls []) := by
    intro fu_; induction fu_ with
    | zero => intro l4_1 l4_2 f4_k2 i4_0 i4_1 i4_2 i4_3 i4_4 hm; exact absurd hm (by omega)
    | succ fu_ ih4 =>
        intro l4_1 l4_2 f4_k2 i4_0 i4_1 i4_2 i4_3 i4_4 hm ls H locs hl hP hD hS
        have lo_l4_1 := k_lo l4_1
        have hi_l4_1 := k_hi l4_1
        have lo_l4_2 := k_lo l4_2
        have hi_l4_2 := k_hi l4_2
        have lo_f4_k2 := k_lo f4_k2
        have hi_f4_k2 := k_hi f4_k2
        have i4_4 : tx_num (tG c0 0 c1) (4 - l4_2.toInt).toNat l4_1 f4_k2.toInt = tx_num (tG c0 0 c1) 4 0 c2.toInt := i4_4
        refine lv_iload_n hx hb dX5_numeral_4 rfl (lv_at hl 0 rfl) ?_
        refine lv_iconst (v := 4) hx hb dX5_numeral_5 (by decide +kernel) ?_
        refine b_icmp_ge hx hb rfl zl_4 (tgt := 48) dX5_numeral_6 (by decide +kernel) (fun c_1 => ?_) (fun c_1 => ?_)
        · refine lv_iload_n hx hb dX5_numeral_48 rfl (lv_at hl 1 rfl) ?_
          exact hRet f4_k2 [0, 1] ⟨(i4_4.symm.trans (tx_num_end (Or.inl (by omega)))), (by first | omega | decide | assumption | rfl), (by first | omega | decide | assumption | rfl)⟩ hP hD (by decide +kernel) rfl hS rfl dX5_numeral_49
        · refine lv_aload_n hx hb dX5_numeral_9 rfl (lv_at hl 2 rfl) ?_
          refine kJi (wr := []) (va_runV (As := []) (rest := []) ⟨hx, hb, hml, hown, hT⟩ (c_X5_nextG l D cI aK aV k k0 H.size c1 f4_k2 c3 c4 c5 c6 c7 c0 pre0 (by first | omega | decide | assumption | rfl) (by first | omega | decide | assumption | rfl) (by first | omega | decide | assumption | rfl)) (cwV 0 hT (gV_in mw_484 mw_481 mw_483 mw_p1_11 mw_6) rfl rfl rfl (by decide +kernel) ⟨Nat.le_of_ble_eq_true rfl, Nat.le_of_ble_eq_true rfl⟩) (kRecvX (q0 := 0) (ci := 5) hK hP hD hN hXS hS hA rfl rfl [0, 1] rfl (by decide +kernel)) rfl rfl hl.1 rfl (lv_room (Nat.le_of_ble_eq_true rfl)) dX5_numeral_10 ⟨Nat.le_of_ble_eq_true rfl, Nat.le_of_ble_eq_true rfl⟩) hP hD hS hA [0, 1] [] rfl rfl (by decide +kernel) (by decide +kernel) ?_
          clear hP hD hS
          intro r_2 u_4 H locs w_3 hP hD hS
          replace hP : va_P D vwCl [(k, .inr (5, [.ref k0, .int c1, .int f4_k2, .int c3, .int c4, .int c5, .int c6, .int c7])), (k0, .inl (cI, 50, .inl c0))] H := hP
          replace hD : va_D A [(k, .inr (5, [.ref k0, .int c1, .int f4_k2, .int c3, .int c4, .int c5, .int c6, .int c7])), (k0, .inl (cI, 50, .inl c0))] := hD
          rcases w_3 with ⟨h_5, h_6, h_7, h_8, h_9⟩ | ⟨hr_2, h_10⟩
          · have h_5 : c3.toInt = 0 := h_5
            have h_6 : r_2 = tG c0 0 c1 f4_k2.toInt := h_6
            have h_6 : r_2 = tG c0 0 c1 f4_k2.toInt := h_6
            have h_7 : -1 ≤ r_2.toInt := h_7
            have h_8 : r_2.toInt ≤ 255 := h_8
            have h_9 : r_2.toInt = (-1) ∨ f4_k2.toInt < c1.toInt := h_9
            have lo_r_2 := k_lo r_2
            have hi_r_2 := k_hi r_2
            refine kJi (wr := [(k, .inr (5, [.ref k0, .int c1, .int f4_k2, .int c3, .int c4, .int c5, .int c6, .int c7])), (k0, .inl (cI, 50, .inl c0))]) (va_runS (As := [.int r_2]) (rest := []) ⟨hx, hb, hml, hown, hT⟩ (c_X5_isDigitG l D cI aK aV H.size r_2) (cwS 1 hT (gS_in mw_487 mw_485 mw_486 mw_6) rfl rfl rfl (by decide +kernel) ⟨Nat.le_of_ble_eq_true rfl, Nat.le_of_ble_eq_true rfl⟩) (kStatX hK hP hD hN hXS hS hA [] rfl (by decide +kernel)) rfl rfl hl.1 rfl (lv_room (Nat.le_of_ble_eq_true rfl)) dX5_numeral_13 ⟨Nat.le_of_ble_eq_true rfl, Nat.le_of_ble_eq_true rfl⟩) hP hD hS hA [] [0, 1] rfl rfl (by decide +kernel) (by decide +kernel) ?_
            clear hP hD hS
            intro r_11 u_13 H locs w_12 hP hD hS
            replace hP : va_P D vwCl [(k, .inr (5, [.ref k0, .int c1, .int f4_k2, .int c3, .int c4, .int c5, .int c6, .int c7])), (k0, .inl (cI, 50, .inl c0))] H := hP
            replace hD : va_D A [(k, .inr (5, [.ref k0, .int c1, .int f4_k2, .int c3, .int c4, .int c5, .int c6, .int c7])), (k0, .inl (cI, 50, .inl c0))] := hD
            rcases w_12 with ⟨hr_11, h_14, h_15⟩ | ⟨hr_11, h_16⟩
            · have h_14 : 48 ≤ r_2.toInt := h_14
              have h_15 : r_2.toInt ≤ 57 := h_15
              obtain rfl : r_11 = 1 := hr_11.trans (by decide +kernel)
              refine b_if_eq hx hb zl_1 (tgt := 48) dX5_numeral_16 (by decide +kernel) (fun c_17 => by exfalso; omega) (fun c_17 => ?_)
              refine lv_bipush (v := 10) hx hb dX5_numeral_19 (by decide +kernel) ?_
              refine lv_iload_n hx hb dX5_numeral_21 rfl (lv_at hl 1 rfl) ?_
              refine lv_imul hx hb dX5_numeral_22 ?_
              refine lv_topi (fun v_18 ev_18 => ?_)
              have lo_v_18 := k_lo v_18
              have hi_v_18 := k_hi v_18
              refine lv_aload_n hx hb dX5_numeral_23 rfl (lv_at hl 2 rfl) ?_
              refine kJi (wr := []) (va_runV (As := []) (rest := [.int v_18]) ⟨hx, hb, hml, hown, hT⟩ (c_X5_nextG l D cI aK aV k k0 H.size c1 f4_k2 c3 c4 c5 c6 c7 c0 pre0 (by first | omega | decide | assumption | rfl) (by first | omega | decide | assumption | rfl) (by first | omega | decide | assumption | rfl)) (cwV 0 hT (gV_in mw_484 mw_481 mw_483 mw_p1_11 mw_6) rfl rfl rfl (by decide +kernel) ⟨Nat.le_of_ble_eq_true rfl, Nat.le_of_ble_eq_true rfl⟩) (kRecvX (q0 := 0) (ci := 5) hK hP hD hN hXS hS hA rfl rfl [0, 1] rfl (by decide +kernel)) rfl rfl hl.1 rfl (lv_room (Nat.le_of_ble_eq_true rfl)) dX5_numeral_24 ⟨Nat.le_of_ble_eq_true rfl, Nat.le_of_ble_eq_true rfl⟩) hP hD hS hA [0, 1] [] rfl rfl (by decide +kernel) (by decide +kernel) ?_
              clear hP hD hS
              intro r_19 u_21 H locs w_20 hP hD hS
              replace hP : va_P D vwCl [(k, .inr (5, [.ref k0, .int c1, .int f4_k2, .int c3, .int c4, .int c5, .int c6, .int c7])), (k0, .inl (cI, 50, .inl c0))] H := hP
              replace hD : va_D A [(k, .inr (5, [.ref k0, .int c1, .int f4_k2, .int c3, .int c4, .int c5, .int c6, .int c7])), (k0, .inl (cI, 50, .inl c0))] := hD
              rcases w_20 with ⟨h_22, h_23, h_24, h_25, h_26⟩ | ⟨hr_19, h_27⟩
              · have h_22 : c3.toInt = 0 := h_22
                have h_23 : r_19 = tG c0 0 c1 f4_k2.toInt := h_23
                have h_23 : r_19 = tG c0 0 c1 f4_k2.toInt := h_23
                have q_28 : r_19.toInt = r_2.toInt := by rw [h_23, h_6]
                have h_24 : -1 ≤ r_19.toInt := h_24
                have h_25 : r_19.toInt ≤ 255 := h_25
                have h_26 : r_19.toInt = (-1) ∨ f4_k2.toInt < c1.toInt := h_26
                have lo_r_19 := k_lo r_19
                have hi_r_19 := k_hi r_19
                refine lv_iadd hx hb dX5_numeral_27 ?_
                refine lv_topi (fun v_29 ev_29 => ?_)
                have lo_v_29 := k_lo v_29
                have hi_v_29 := k_hi v_29
                refine lv_bipush (v := 48) hx hb dX5_numeral_28 (by decide +kernel) ?_
                refine lv_isub hx hb dX5_numeral_30 ?_
                refine lv_topi (fun v_30 ev_30 => ?_)
                have lo_v_30 := k_lo v_30
                have hi_v_30 := k_hi v_30
                refine lv_istore_n (lv' := [(1, .int v_30), (2, .int l4_2), (0, .ref k)]) hx hb dX5_numeral_31 rfl hl (by decide +kernel) rfl ?_
                clear hl
                intro ls hl
                refine lv_aload_n hx hb dX5_numeral_32 rfl (lv_at hl 2 rfl) ?_
                refine lv_dup hx hb dX5_numeral_33 rfl ?_
                refine va_get (D := D) (ci := 5) (v := .int f4_k2) (C := RX5) (T := TX5) (N := 8) hx hb hT giX5 hown hK hP 0 rfl rfl 2 (by decide +kernel) (hT (Cond.fieldLink RX5 19 "DesertWire$Reader" "at" "I") mw_170) (fun _ h9 => h9) rfl dX5_numeral_34 ?_
                refine lv_iconst (v := 1) hx hb dX5_numeral_37 (by decide +kernel) ?_
                refine lv_iadd hx hb dX5_numeral_38 ?_
                refine lv_topi (fun v_31 ev_31 => ?_)
                have tv_31 : v_31.toInt = f4_k2.toInt + 1 := by rw [ev_31]; exact k_addv rfl zl_1 (by omega) (by omega)
                refine va_put (D := D) (ci := 5) (v := .int v_31) (ty := .int) (C := RX5) (T := TX5) (N := 8) hx hb hT giX5 tyX5 tyX5_ok nmX5 hown hK hP hD hS 0 rfl rfl 2 (by decide +kernel) (hT (Cond.fieldLink RX5 19 "DesertWire$Reader" "at" "I") mw_170) (fun _ h9 => h9) rfl (by decide +kernel) rfl rfl (Nat.le_of_ble_eq_true rfl) dX5_numeral_39 ?_
                clear hP hD hS
                intro H locs hP hD hS
                replace hP : va_P D vwCl [(k, .inr (5, [.ref k0, .int c1, .int v_31, .int c3, .int c4, .int c5, .int c6, .int c7])), (k0, .inl (cI, 50, .inl c0))] H := hP
                replace hD : va_D A [(k, .inr (5, [.ref k0, .int c1, .int v_31, .int c3, .int c4, .int c5, .int c6, .int c7])), (k0, .inl (cI, 50, .inl c0))] := hD
                obtain ⟨v_32, ev_32⟩ : ∃ y : Int32, y = l4_2 + 1 := ⟨_, rfl⟩
                have tv_32 : v_32.toInt = l4_2.toInt + 1 := by rw [ev_32]; exact k_addv rfl zl_1 (by omega) (by omega)
                refine lv_iinc (v := v_32) (lv' := [(2, .int v_32), (1, .int v_30), (0, .ref k)]) hx hb dX5_numeral_42 hl (k := 1) rfl (by rw [ev_32]; rfl) (by decide +kernel) rfl ?_
                clear hl
                intro ls hl
                refine lv_goto (tgt := 4) hx hb dX5_numeral_45 (by decide +kernel) ?_
                exact ih4 v_30 v_32 v_31 (by first | omega | decide | assumption | rfl) (by first | omega | decide | assumption | rfl) (by first | omega | decide | assumption | rfl) (by first | omega | decide | assumption | rfl) (num_step i4_4 (by omega) h_23 (by omega) (by omega) (by rw [ev_30, ev_29, ev_18]) (by omega)) (by omega) ls _ _ (lv_sub hl [0, 1, 2] rfl) (hP.sub [0, 1] rfl) (hD.sub [0, 1] (by decide +kernel) rfl) hS
              · exfalso; omega
            · have h_16 : r_2.toInt < 48 ∨ 57 < r_2.toInt := h_16
              obtain rfl : r_11 = 0 := hr_11.trans (by decide +kernel)
              refine b_if_eq hx hb zl_0 (tgt := 48) dX5_numeral_16 (by decide +kernel) (fun c_33 => ?_) (fun c_33 => by exfalso; omega)
              refine lv_iload_n hx hb dX5_numeral_48 rfl (lv_at hl 1 rfl) ?_
              exact hRet f4_k2 [0, 1] ⟨(i4_4.symm.trans (tx_num_end (Or.inr (by rw [← h_6]; omega)))), (by first | omega | decide | assumption | rfl), (by first | omega | decide | assumption | rfl)⟩ hP hD (by decide +kernel) rfl hS rfl dX5_numeral_49
          · exfalso; omega
  exact hloop_4 _ 0 0 c2 (by first | omega | (simp only [zl_0]; first | done | omega) | decide | assumption | rfl) (by first | omega | (simp only [zl_0]; first | done | omega) | decide | assumption | rfl) (by first | omega | (simp only [zl_0]; first | done | omega) | decide | assumption | rfl) (by first | omega | (simp only [zl_0]; first | done | omega) | decide | assumption | rfl) (by rw [zl_0]; rfl) (Nat.lt_succ_self _) ls _ _ (lv_sub hl [0, 1, 2] rfl) hP hD hS
theorem bn_cX5_both_0 : BN cX5_both 0 0x15a1d664015002022147c3200ae4080500aa00a0800a680a1606805341d028dc6c015b870561400ad8c2050a0056a5a158b402a1138445c015b8ac6c01518cc221e1f8107c3600adc382b := by
  unfold BN; decide +kernel
theorem dX5_both_0 : decode cX5_both 0 = .ok (.aload_n 0, 1) := dR0 (k := 0) (i := 0) bn_cX5_both_0 dop_42 (by decide +kernel)
theorem dX5_both_1 : decode cX5_both 1 = .ok (.iload_n 1, 1) := dR0 (k := 0) (i := 1) bn_cX5_both_0 dop_27 (by decide +kernel)
theorem dX5_both_2 : decode cX5_both 2 = .ok (.invokevirtual 53, 3) := dR2 (f := Instr.invokevirtual) (k := 0) (i := 2) bn_cX5_both_0 dop_182 53 (by decide +kernel)
theorem dX5_both_5 : decode cX5_both 5 = .ok (.istore_n 2, 1) := dR0 (k := 0) (i := 5) bn_cX5_both_0 dop_61 (by decide +kernel)
theorem dX5_both_6 : decode cX5_both 6 = .ok (.iconst 0, 1) := dR0 (k := 0) (i := 6) bn_cX5_both_0 dop_3 (by decide +kernel)
theorem dX5_both_7 : decode cX5_both 7 = .ok (.istore_n 3, 1) := dR0 (k := 0) (i := 7) bn_cX5_both_0 dop_62 (by decide +kernel)
theorem dX5_both_8 : decode cX5_both 8 = .ok (.iload_n 3, 1) := dR0 (k := 0) (i := 8) bn_cX5_both_0 dop_29 (by decide +kernel)
theorem dX5_both_9 : decode cX5_both 9 = .ok (.bipush 50, 2) := dR1s (f := Instr.bipush) (k := 0) (i := 9) bn_cX5_both_0 dop_16 50 50 (by decide +kernel)
theorem dX5_both_11 : decode cX5_both 11 = .ok (.if_icmp .ge 53, 3) := dR2s (f := Instr.if_icmp .ge) (k := 0) (i := 11) bn_cX5_both_0 dop_162 53 53 (by decide +kernel)
theorem dX5_both_14 : decode cX5_both 14 = .ok (.aload_n 0, 1) := dR0 (k := 0) (i := 14) bn_cX5_both_0 dop_42 (by decide +kernel)
theorem dX5_both_15 : decode cX5_both 15 = .ok (.invokevirtual 45, 3) := dR2 (f := Instr.invokevirtual) (k := 0) (i := 15) bn_cX5_both_0 dop_182 45 (by decide +kernel)
theorem dX5_both_18 : decode cX5_both 18 = .ok (.bipush 38, 2) := dR1s (f := Instr.bipush) (k := 0) (i := 18) bn_cX5_both_0 dop_16 38 38 (by decide +kernel)
theorem dX5_both_20 : decode cX5_both 20 = .ok (.if_icmp .ne 44, 3) := dR2s (f := Instr.if_icmp .ne) (k := 0) (i := 20) bn_cX5_both_0 dop_160 44 44 (by decide +kernel)
theorem dX5_both_23 : decode cX5_both 23 = .ok (.aload_n 0, 1) := dR0 (k := 0) (i := 23) bn_cX5_both_0 dop_42 (by decide +kernel)
theorem dX5_both_24 : decode cX5_both 24 = .ok (.dup, 1) := dR0 (k := 0) (i := 24) bn_cX5_both_0 dop_89 (by decide +kernel)
theorem dX5_both_25 : decode cX5_both 25 = .ok (.getfield 19, 3) := dR2 (f := Instr.getfield) (k := 0) (i := 25) bn_cX5_both_0 dop_180 19 (by decide +kernel)
theorem dX5_both_28 : decode cX5_both 28 = .ok (.iconst 1, 1) := dR0 (k := 0) (i := 28) bn_cX5_both_0 dop_4 (by decide +kernel)
theorem dX5_both_29 : decode cX5_both 29 = .ok (.iadd, 1) := dR0 (k := 0) (i := 29) bn_cX5_both_0 dop_96 (by decide +kernel)
theorem dX5_both_30 : decode cX5_both 30 = .ok (.putfield 19, 3) := dR2 (f := Instr.putfield) (k := 0) (i := 30) bn_cX5_both_0 dop_181 19 (by decide +kernel)
theorem dX5_both_33 : decode cX5_both 33 = .ok (.aload_n 0, 1) := dR0 (k := 0) (i := 33) bn_cX5_both_0 dop_42 (by decide +kernel)
theorem dX5_both_34 : decode cX5_both 34 = .ok (.iload_n 1, 1) := dR0 (k := 0) (i := 34) bn_cX5_both_0 dop_27 (by decide +kernel)
theorem dX5_both_35 : decode cX5_both 35 = .ok (.invokevirtual 53, 3) := dR2 (f := Instr.invokevirtual) (k := 0) (i := 35) bn_cX5_both_0 dop_182 53 (by decide +kernel)
theorem dX5_both_38 : decode cX5_both 38 = .ok (.istore 4, 2) := dR1 (f := Instr.istore) (k := 0) (i := 38) bn_cX5_both_0 dop_54 4 (by decide +kernel)
theorem dX5_both_40 : decode cX5_both 40 = .ok (.iload_n 2, 1) := dR0 (k := 0) (i := 40) bn_cX5_both_0 dop_28 (by decide +kernel)
theorem dX5_both_41 : decode cX5_both 41 = .ok (.ifCond .eq 12, 3) := dR2s (f := Instr.ifCond .eq) (k := 0) (i := 41) bn_cX5_both_0 dop_153 12 12 (by decide +kernel)
theorem dX5_both_44 : decode cX5_both 44 = .ok (.iload 4, 2) := dR1 (f := Instr.iload) (k := 0) (i := 44) bn_cX5_both_0 dop_21 4 (by decide +kernel)
theorem dX5_both_46 : decode cX5_both 46 = .ok (.ifCond .eq 7, 3) := dR2s (f := Instr.ifCond .eq) (k := 0) (i := 46) bn_cX5_both_0 dop_153 7 7 (by decide +kernel)
theorem dX5_both_49 : decode cX5_both 49 = .ok (.iconst 1, 1) := dR0 (k := 0) (i := 49) bn_cX5_both_0 dop_4 (by decide +kernel)
theorem dX5_both_50 : decode cX5_both 50 = .ok (.goto 4, 3) := dR2s (f := Instr.goto) (k := 0) (i := 50) bn_cX5_both_0 dop_167 4 4 (by decide +kernel)
theorem dX5_both_53 : decode cX5_both 53 = .ok (.iconst 0, 1) := dR0 (k := 0) (i := 53) bn_cX5_both_0 dop_3 (by decide +kernel)
theorem dX5_both_54 : decode cX5_both 54 = .ok (.invokestatic 49, 3) := dR2 (f := Instr.invokestatic) (k := 0) (i := 54) bn_cX5_both_0 dop_184 49 (by decide +kernel)
theorem dX5_both_57 : decode cX5_both 57 = .ok (.istore_n 2, 1) := dR0 (k := 0) (i := 57) bn_cX5_both_0 dop_61 (by decide +kernel)
theorem dX5_both_58 : decode cX5_both 58 = .ok (.iinc 3 1, 3) := dRii (f := Instr.iinc) (k := 0) (i := 58) bn_cX5_both_0 dop_132 3 1 1 (by decide +kernel)
theorem dX5_both_61 : decode cX5_both 61 = .ok (.goto (-53), 3) := dR2s (f := Instr.goto) (k := 0) (i := 61) bn_cX5_both_0 dop_167 65483 (-53) (by decide +kernel)
theorem dX5_both_64 : decode cX5_both 64 = .ok (.iload_n 2, 1) := dR0 (k := 0) (i := 64) bn_cX5_both_0 dop_28 (by decide +kernel)
theorem dX5_both_65 : decode cX5_both 65 = .ok (.ireturn, 1) := dR0 (k := 0) (i := 65) bn_cX5_both_0 dop_172 (by decide +kernel)
theorem bn_cX5_compared_0 : BN cX5_compared 0 0x2b464015c8100a01540141001528142c1d0780550040980550050400542050b0742401508f8221e1180550041380550050400546050b0742401508f4221e028dc72015b870561400ad8c2050a0056a5a15ab43a0600a807e110f03002a01f0443c1200a807a110f0fc5c015b8ac7c3900adc382b := by
  unfold BN; decide +kernel
theorem dX5_compared_0 : decode cX5_compared 0 = .ok (.aload_n 0, 1) := dR0 (k := 0) (i := 0) bn_cX5_compared_0 dop_42 (by decide +kernel)
theorem dX5_compared_1 : decode cX5_compared 1 = .ok (.iload_n 1, 1) := dR0 (k := 0) (i := 1) bn_cX5_compared_0 dop_27 (by decide +kernel)
theorem dX5_compared_2 : decode cX5_compared 2 = .ok (.invokevirtual 56, 3) := dR2 (f := Instr.invokevirtual) (k := 0) (i := 2) bn_cX5_compared_0 dop_182 56 (by decide +kernel)
theorem dX5_compared_5 : decode cX5_compared 5 = .ok (.istore_n 2, 1) := dR0 (k := 0) (i := 5) bn_cX5_compared_0 dop_61 (by decide +kernel)
theorem dX5_compared_6 : decode cX5_compared 6 = .ok (.aload_n 0, 1) := dR0 (k := 0) (i := 6) bn_cX5_compared_0 dop_42 (by decide +kernel)
theorem dX5_compared_7 : decode cX5_compared 7 = .ok (.invokevirtual 45, 3) := dR2 (f := Instr.invokevirtual) (k := 0) (i := 7) bn_cX5_compared_0 dop_182 45 (by decide +kernel)
theorem dX5_compared_10 : decode cX5_compared 10 = .ok (.istore_n 3, 1) := dR0 (k := 0) (i := 10) bn_cX5_compared_0 dop_62 (by decide +kernel)
theorem dX5_compared_11 : decode cX5_compared 11 = .ok (.iload_n 3, 1) := dR0 (k := 0) (i := 11) bn_cX5_compared_0 dop_29 (by decide +kernel)
theorem dX5_compared_12 : decode cX5_compared 12 = .ok (.bipush 60, 2) := dR1s (f := Instr.bipush) (k := 0) (i := 12) bn_cX5_compared_0 dop_16 60 60 (by decide +kernel)
theorem dX5_compared_14 : decode cX5_compared 14 = .ok (.if_icmp .eq 17, 3) := dR2s (f := Instr.if_icmp .eq) (k := 0) (i := 14) bn_cX5_compared_0 dop_159 17 17 (by decide +kernel)
theorem dX5_compared_17 : decode cX5_compared 17 = .ok (.iload_n 3, 1) := dR0 (k := 0) (i := 17) bn_cX5_compared_0 dop_29 (by decide +kernel)
theorem dX5_compared_18 : decode cX5_compared 18 = .ok (.bipush 61, 2) := dR1s (f := Instr.bipush) (k := 0) (i := 18) bn_cX5_compared_0 dop_16 61 61 (by decide +kernel)
theorem dX5_compared_20 : decode cX5_compared 20 = .ok (.if_icmp .eq 11, 3) := dR2s (f := Instr.if_icmp .eq) (k := 0) (i := 20) bn_cX5_compared_0 dop_159 11 11 (by decide +kernel)
theorem dX5_compared_23 : decode cX5_compared 23 = .ok (.iload_n 3, 1) := dR0 (k := 0) (i := 23) bn_cX5_compared_0 dop_29 (by decide +kernel)
theorem dX5_compared_24 : decode cX5_compared 24 = .ok (.bipush 62, 2) := dR1s (f := Instr.bipush) (k := 0) (i := 24) bn_cX5_compared_0 dop_16 62 62 (by decide +kernel)
theorem dX5_compared_26 : decode cX5_compared 26 = .ok (.if_icmp .eq 5, 3) := dR2s (f := Instr.if_icmp .eq) (k := 0) (i := 26) bn_cX5_compared_0 dop_159 5 5 (by decide +kernel)
theorem dX5_compared_29 : decode cX5_compared 29 = .ok (.iload_n 2, 1) := dR0 (k := 0) (i := 29) bn_cX5_compared_0 dop_28 (by decide +kernel)
theorem dX5_compared_30 : decode cX5_compared 30 = .ok (.ireturn, 1) := dR0 (k := 0) (i := 30) bn_cX5_compared_0 dop_172 (by decide +kernel)
theorem dX5_compared_31 : decode cX5_compared 31 = .ok (.aload_n 0, 1) := dR0 (k := 0) (i := 31) bn_cX5_compared_0 dop_42 (by decide +kernel)
theorem dX5_compared_32 : decode cX5_compared 32 = .ok (.dup, 1) := dR0 (k := 0) (i := 32) bn_cX5_compared_0 dop_89 (by decide +kernel)
theorem dX5_compared_33 : decode cX5_compared 33 = .ok (.getfield 19, 3) := dR2 (f := Instr.getfield) (k := 0) (i := 33) bn_cX5_compared_0 dop_180 19 (by decide +kernel)
theorem dX5_compared_36 : decode cX5_compared 36 = .ok (.iconst 1, 1) := dR0 (k := 0) (i := 36) bn_cX5_compared_0 dop_4 (by decide +kernel)
theorem dX5_compared_37 : decode cX5_compared 37 = .ok (.iadd, 1) := dR0 (k := 0) (i := 37) bn_cX5_compared_0 dop_96 (by decide +kernel)
theorem dX5_compared_38 : decode cX5_compared 38 = .ok (.putfield 19, 3) := dR2 (f := Instr.putfield) (k := 0) (i := 38) bn_cX5_compared_0 dop_181 19 (by decide +kernel)
theorem dX5_compared_41 : decode cX5_compared 41 = .ok (.aload_n 0, 1) := dR0 (k := 0) (i := 41) bn_cX5_compared_0 dop_42 (by decide +kernel)
theorem dX5_compared_42 : decode cX5_compared 42 = .ok (.iload_n 1, 1) := dR0 (k := 0) (i := 42) bn_cX5_compared_0 dop_27 (by decide +kernel)
theorem dX5_compared_43 : decode cX5_compared 43 = .ok (.invokevirtual 56, 3) := dR2 (f := Instr.invokevirtual) (k := 0) (i := 43) bn_cX5_compared_0 dop_182 56 (by decide +kernel)
theorem dX5_compared_46 : decode cX5_compared 46 = .ok (.istore 4, 2) := dR1 (f := Instr.istore) (k := 0) (i := 46) bn_cX5_compared_0 dop_54 4 (by decide +kernel)
theorem dX5_compared_48 : decode cX5_compared 48 = .ok (.iload_n 3, 1) := dR0 (k := 0) (i := 48) bn_cX5_compared_0 dop_29 (by decide +kernel)
theorem dX5_compared_49 : decode cX5_compared 49 = .ok (.bipush 60, 2) := dR1s (f := Instr.bipush) (k := 0) (i := 49) bn_cX5_compared_0 dop_16 60 60 (by decide +kernel)
theorem dX5_compared_51 : decode cX5_compared 51 = .ok (.if_icmp .ne 17, 3) := dR2s (f := Instr.if_icmp .ne) (k := 0) (i := 51) bn_cX5_compared_0 dop_160 17 17 (by decide +kernel)
theorem dX5_compared_54 : decode cX5_compared 54 = .ok (.iload_n 2, 1) := dR0 (k := 0) (i := 54) bn_cX5_compared_0 dop_28 (by decide +kernel)
theorem dX5_compared_55 : decode cX5_compared 55 = .ok (.iload 4, 2) := dR1 (f := Instr.iload) (k := 0) (i := 55) bn_cX5_compared_0 dop_21 4 (by decide +kernel)
theorem dX5_compared_57 : decode cX5_compared 57 = .ok (.if_icmp .ge 7, 3) := dR2s (f := Instr.if_icmp .ge) (k := 0) (i := 57) bn_cX5_compared_0 dop_162 7 7 (by decide +kernel)
theorem dX5_compared_60 : decode cX5_compared 60 = .ok (.iconst 1, 1) := dR0 (k := 0) (i := 60) bn_cX5_compared_0 dop_4 (by decide +kernel)
theorem dX5_compared_61 : decode cX5_compared 61 = .ok (.goto 38, 3) := dR2s (f := Instr.goto) (k := 0) (i := 61) bn_cX5_compared_0 dop_167 38 38 (by decide +kernel)
theorem dX5_compared_64 : decode cX5_compared 64 = .ok (.iconst 0, 1) := dR0 (k := 0) (i := 64) bn_cX5_compared_0 dop_3 (by decide +kernel)
theorem dX5_compared_65 : decode cX5_compared 65 = .ok (.goto 34, 3) := dR2s (f := Instr.goto) (k := 0) (i := 65) bn_cX5_compared_0 dop_167 34 34 (by decide +kernel)
theorem dX5_compared_68 : decode cX5_compared 68 = .ok (.iload_n 3, 1) := dR0 (k := 0) (i := 68) bn_cX5_compared_0 dop_29 (by decide +kernel)
theorem dX5_compared_69 : decode cX5_compared 69 = .ok (.bipush 61, 2) := dR1s (f := Instr.bipush) (k := 0) (i := 69) bn_cX5_compared_0 dop_16 61 61 (by decide +kernel)
theorem dX5_compared_71 : decode cX5_compared 71 = .ok (.if_icmp .ne 17, 3) := dR2s (f := Instr.if_icmp .ne) (k := 0) (i := 71) bn_cX5_compared_0 dop_160 17 17 (by decide +kernel)
theorem dX5_compared_74 : decode cX5_compared 74 = .ok (.iload_n 2, 1) := dR0 (k := 0) (i := 74) bn_cX5_compared_0 dop_28 (by decide +kernel)
theorem dX5_compared_75 : decode cX5_compared 75 = .ok (.iload 4, 2) := dR1 (f := Instr.iload) (k := 0) (i := 75) bn_cX5_compared_0 dop_21 4 (by decide +kernel)
theorem dX5_compared_77 : decode cX5_compared 77 = .ok (.if_icmp .ne 7, 3) := dR2s (f := Instr.if_icmp .ne) (k := 0) (i := 77) bn_cX5_compared_0 dop_160 7 7 (by decide +kernel)
theorem dX5_compared_80 : decode cX5_compared 80 = .ok (.iconst 1, 1) := dR0 (k := 0) (i := 80) bn_cX5_compared_0 dop_4 (by decide +kernel)
theorem dX5_compared_81 : decode cX5_compared 81 = .ok (.goto 18, 3) := dR2s (f := Instr.goto) (k := 0) (i := 81) bn_cX5_compared_0 dop_167 18 18 (by decide +kernel)
theorem dX5_compared_84 : decode cX5_compared 84 = .ok (.iconst 0, 1) := dR0 (k := 0) (i := 84) bn_cX5_compared_0 dop_3 (by decide +kernel)
theorem dX5_compared_85 : decode cX5_compared 85 = .ok (.goto 14, 3) := dR2s (f := Instr.goto) (k := 0) (i := 85) bn_cX5_compared_0 dop_167 14 14 (by decide +kernel)
theorem dX5_compared_88 : decode cX5_compared 88 = .ok (.iload_n 2, 1) := dR0 (k := 0) (i := 88) bn_cX5_compared_0 dop_28 (by decide +kernel)
theorem dX5_compared_89 : decode cX5_compared 89 = .ok (.iload 4, 2) := dR1 (f := Instr.iload) (k := 0) (i := 89) bn_cX5_compared_0 dop_21 4 (by decide +kernel)
theorem dX5_compared_91 : decode cX5_compared 91 = .ok (.if_icmp .le 7, 3) := dR2s (f := Instr.if_icmp .le) (k := 0) (i := 91) bn_cX5_compared_0 dop_164 7 7 (by decide +kernel)
theorem dX5_compared_94 : decode cX5_compared 94 = .ok (.iconst 1, 1) := dR0 (k := 0) (i := 94) bn_cX5_compared_0 dop_4 (by decide +kernel)
theorem dX5_compared_95 : decode cX5_compared 95 = .ok (.goto 4, 3) := dR2s (f := Instr.goto) (k := 0) (i := 95) bn_cX5_compared_0 dop_167 4 4 (by decide +kernel)
theorem dX5_compared_98 : decode cX5_compared 98 = .ok (.iconst 0, 1) := dR0 (k := 0) (i := 98) bn_cX5_compared_0 dop_3 (by decide +kernel)
theorem dX5_compared_99 : decode cX5_compared 99 = .ok (.invokestatic 49, 3) := dR2 (f := Instr.invokestatic) (k := 0) (i := 99) bn_cX5_compared_0 dop_184 49 (by decide +kernel)
theorem dX5_compared_102 : decode cX5_compared 102 = .ok (.ireturn, 1) := dR0 (k := 0) (i := 102) bn_cX5_compared_0 dop_172 (by decide +kernel)
theorem bn_cX5_either_0 : BN cX5_either 0 0x15a1d664015002022147c3200ae4080500aa00a0800a680a1604805361d028dc56015b870561400ad8c2050a0056a5a158b402a13e8445c015b8ac6c01518cc221e1f8107c2b00adc382b := by
  unfold BN; decide +kernel
theorem dX5_either_0 : decode cX5_either 0 = .ok (.aload_n 0, 1) := dR0 (k := 0) (i := 0) bn_cX5_either_0 dop_42 (by decide +kernel)
theorem dX5_either_1 : decode cX5_either 1 = .ok (.iload_n 1, 1) := dR0 (k := 0) (i := 1) bn_cX5_either_0 dop_27 (by decide +kernel)
theorem dX5_either_2 : decode cX5_either 2 = .ok (.invokevirtual 42, 3) := dR2 (f := Instr.invokevirtual) (k := 0) (i := 2) bn_cX5_either_0 dop_182 42 (by decide +kernel)
theorem dX5_either_5 : decode cX5_either 5 = .ok (.istore_n 2, 1) := dR0 (k := 0) (i := 5) bn_cX5_either_0 dop_61 (by decide +kernel)
theorem dX5_either_6 : decode cX5_either 6 = .ok (.iconst 0, 1) := dR0 (k := 0) (i := 6) bn_cX5_either_0 dop_3 (by decide +kernel)
theorem dX5_either_7 : decode cX5_either 7 = .ok (.istore_n 3, 1) := dR0 (k := 0) (i := 7) bn_cX5_either_0 dop_62 (by decide +kernel)
theorem dX5_either_8 : decode cX5_either 8 = .ok (.iload_n 3, 1) := dR0 (k := 0) (i := 8) bn_cX5_either_0 dop_29 (by decide +kernel)
theorem dX5_either_9 : decode cX5_either 9 = .ok (.bipush 50, 2) := dR1s (f := Instr.bipush) (k := 0) (i := 9) bn_cX5_either_0 dop_16 50 50 (by decide +kernel)
theorem dX5_either_11 : decode cX5_either 11 = .ok (.if_icmp .ge 53, 3) := dR2s (f := Instr.if_icmp .ge) (k := 0) (i := 11) bn_cX5_either_0 dop_162 53 53 (by decide +kernel)
theorem dX5_either_14 : decode cX5_either 14 = .ok (.aload_n 0, 1) := dR0 (k := 0) (i := 14) bn_cX5_either_0 dop_42 (by decide +kernel)
theorem dX5_either_15 : decode cX5_either 15 = .ok (.invokevirtual 45, 3) := dR2 (f := Instr.invokevirtual) (k := 0) (i := 15) bn_cX5_either_0 dop_182 45 (by decide +kernel)
theorem dX5_either_18 : decode cX5_either 18 = .ok (.bipush 124, 2) := dR1s (f := Instr.bipush) (k := 0) (i := 18) bn_cX5_either_0 dop_16 124 124 (by decide +kernel)
theorem dX5_either_20 : decode cX5_either 20 = .ok (.if_icmp .ne 44, 3) := dR2s (f := Instr.if_icmp .ne) (k := 0) (i := 20) bn_cX5_either_0 dop_160 44 44 (by decide +kernel)
theorem dX5_either_23 : decode cX5_either 23 = .ok (.aload_n 0, 1) := dR0 (k := 0) (i := 23) bn_cX5_either_0 dop_42 (by decide +kernel)
theorem dX5_either_24 : decode cX5_either 24 = .ok (.dup, 1) := dR0 (k := 0) (i := 24) bn_cX5_either_0 dop_89 (by decide +kernel)
theorem dX5_either_25 : decode cX5_either 25 = .ok (.getfield 19, 3) := dR2 (f := Instr.getfield) (k := 0) (i := 25) bn_cX5_either_0 dop_180 19 (by decide +kernel)
theorem dX5_either_28 : decode cX5_either 28 = .ok (.iconst 1, 1) := dR0 (k := 0) (i := 28) bn_cX5_either_0 dop_4 (by decide +kernel)
theorem dX5_either_29 : decode cX5_either 29 = .ok (.iadd, 1) := dR0 (k := 0) (i := 29) bn_cX5_either_0 dop_96 (by decide +kernel)
theorem dX5_either_30 : decode cX5_either 30 = .ok (.putfield 19, 3) := dR2 (f := Instr.putfield) (k := 0) (i := 30) bn_cX5_either_0 dop_181 19 (by decide +kernel)
theorem dX5_either_33 : decode cX5_either 33 = .ok (.aload_n 0, 1) := dR0 (k := 0) (i := 33) bn_cX5_either_0 dop_42 (by decide +kernel)
theorem dX5_either_34 : decode cX5_either 34 = .ok (.iload_n 1, 1) := dR0 (k := 0) (i := 34) bn_cX5_either_0 dop_27 (by decide +kernel)
theorem dX5_either_35 : decode cX5_either 35 = .ok (.invokevirtual 42, 3) := dR2 (f := Instr.invokevirtual) (k := 0) (i := 35) bn_cX5_either_0 dop_182 42 (by decide +kernel)
theorem dX5_either_38 : decode cX5_either 38 = .ok (.istore 4, 2) := dR1 (f := Instr.istore) (k := 0) (i := 38) bn_cX5_either_0 dop_54 4 (by decide +kernel)
theorem dX5_either_40 : decode cX5_either 40 = .ok (.iload_n 2, 1) := dR0 (k := 0) (i := 40) bn_cX5_either_0 dop_28 (by decide +kernel)
theorem dX5_either_41 : decode cX5_either 41 = .ok (.ifCond .ne 8, 3) := dR2s (f := Instr.ifCond .ne) (k := 0) (i := 41) bn_cX5_either_0 dop_154 8 8 (by decide +kernel)
theorem dX5_either_44 : decode cX5_either 44 = .ok (.iload 4, 2) := dR1 (f := Instr.iload) (k := 0) (i := 44) bn_cX5_either_0 dop_21 4 (by decide +kernel)
theorem dX5_either_46 : decode cX5_either 46 = .ok (.ifCond .eq 7, 3) := dR2s (f := Instr.ifCond .eq) (k := 0) (i := 46) bn_cX5_either_0 dop_153 7 7 (by decide +kernel)
theorem dX5_either_49 : decode cX5_either 49 = .ok (.iconst 1, 1) := dR0 (k := 0) (i := 49) bn_cX5_either_0 dop_4 (by decide +kernel)
theorem dX5_either_50 : decode cX5_either 50 = .ok (.goto 4, 3) := dR2s (f := Instr.goto) (k := 0) (i := 50) bn_cX5_either_0 dop_167 4 4 (by decide +kernel)
theorem dX5_either_53 : decode cX5_either 53 = .ok (.iconst 0, 1) := dR0 (k := 0) (i := 53) bn_cX5_either_0 dop_3 (by decide +kernel)
theorem dX5_either_54 : decode cX5_either 54 = .ok (.invokestatic 49, 3) := dR2 (f := Instr.invokestatic) (k := 0) (i := 54) bn_cX5_either_0 dop_184 49 (by decide +kernel)
theorem dX5_either_57 : decode cX5_either 57 = .ok (.istore_n 2, 1) := dR0 (k := 0) (i := 57) bn_cX5_either_0 dop_61 (by decide +kernel)
theorem dX5_either_58 : decode cX5_either 58 = .ok (.iinc 3 1, 3) := dRii (f := Instr.iinc) (k := 0) (i := 58) bn_cX5_either_0 dop_132 3 1 1 (by decide +kernel)
theorem dX5_either_61 : decode cX5_either 61 = .ok (.goto (-53), 3) := dR2s (f := Instr.goto) (k := 0) (i := 61) bn_cX5_either_0 dop_167 65483 (-53) (by decide +kernel)
theorem dX5_either_64 : decode cX5_either 64 = .ok (.iload_n 2, 1) := dR0 (k := 0) (i := 64) bn_cX5_either_0 dop_28 (by decide +kernel)
theorem dX5_either_65 : decode cX5_either 65 = .ok (.ireturn, 1) := dR0 (k := 0) (i := 65) bn_cX5_either_0 dop_172 (by decide +kernel)
theorem bn_cX5_opened_0 : BN cX5_opened 0 0x15a1e0a0056c610285002b52d0ad5a4900adc560900a805411170056e2b1f89c02b70e8ad5a3200ae4080500aa00a0800a6c7e015b874561500a8444110e2b4ea3f00adc3a2b05805422e0887028015b1840a1400ad4b42b := by
  unfold BN; decide +kernel
theorem dX5_opened_0 : decode cX5_opened 0 = .ok (.aload_n 0, 1) := dR0 (k := 0) (i := 0) bn_cX5_opened_0 dop_42 (by decide +kernel)
theorem dX5_opened_1 : decode cX5_opened 1 = .ok (.dup, 1) := dR0 (k := 0) (i := 1) bn_cX5_opened_0 dop_89 (by decide +kernel)
theorem dX5_opened_2 : decode cX5_opened 2 = .ok (.getfield 19, 3) := dR2 (f := Instr.getfield) (k := 0) (i := 2) bn_cX5_opened_0 dop_180 19 (by decide +kernel)
theorem dX5_opened_5 : decode cX5_opened 5 = .ok (.iconst 1, 1) := dR0 (k := 0) (i := 5) bn_cX5_opened_0 dop_4 (by decide +kernel)
theorem dX5_opened_6 : decode cX5_opened 6 = .ok (.iadd, 1) := dR0 (k := 0) (i := 6) bn_cX5_opened_0 dop_96 (by decide +kernel)
theorem dX5_opened_7 : decode cX5_opened 7 = .ok (.putfield 19, 3) := dR2 (f := Instr.putfield) (k := 0) (i := 7) bn_cX5_opened_0 dop_181 19 (by decide +kernel)
theorem dX5_opened_10 : decode cX5_opened 10 = .ok (.iload_n 1, 1) := dR0 (k := 0) (i := 10) bn_cX5_opened_0 dop_27 (by decide +kernel)
theorem dX5_opened_11 : decode cX5_opened 11 = .ok (.bipush 45, 2) := dR1s (f := Instr.bipush) (k := 0) (i := 11) bn_cX5_opened_0 dop_16 45 45 (by decide +kernel)
theorem dX5_opened_13 : decode cX5_opened 13 = .ok (.if_icmp .ne 10, 3) := dR2s (f := Instr.if_icmp .ne) (k := 0) (i := 13) bn_cX5_opened_0 dop_160 10 10 (by decide +kernel)
theorem dX5_opened_16 : decode cX5_opened 16 = .ok (.aload_n 0, 1) := dR0 (k := 0) (i := 16) bn_cX5_opened_0 dop_42 (by decide +kernel)
theorem dX5_opened_17 : decode cX5_opened 17 = .ok (.iload_n 2, 1) := dR0 (k := 0) (i := 17) bn_cX5_opened_0 dop_28 (by decide +kernel)
theorem dX5_opened_18 : decode cX5_opened 18 = .ok (.invokevirtual 62, 3) := dR2 (f := Instr.invokevirtual) (k := 0) (i := 18) bn_cX5_opened_0 dop_182 62 (by decide +kernel)
theorem dX5_opened_21 : decode cX5_opened 21 = .ok (.ineg, 1) := dR0 (k := 0) (i := 21) bn_cX5_opened_0 dop_116 (by decide +kernel)
theorem dX5_opened_22 : decode cX5_opened 22 = .ok (.ireturn, 1) := dR0 (k := 0) (i := 22) bn_cX5_opened_0 dop_172 (by decide +kernel)
theorem dX5_opened_23 : decode cX5_opened 23 = .ok (.iload_n 1, 1) := dR0 (k := 0) (i := 23) bn_cX5_opened_0 dop_27 (by decide +kernel)
theorem dX5_opened_24 : decode cX5_opened 24 = .ok (.bipush 33, 2) := dR1s (f := Instr.bipush) (k := 0) (i := 24) bn_cX5_opened_0 dop_16 33 33 (by decide +kernel)
theorem dX5_opened_26 : decode cX5_opened 26 = .ok (.if_icmp .ne 20, 3) := dR2s (f := Instr.if_icmp .ne) (k := 0) (i := 26) bn_cX5_opened_0 dop_160 20 20 (by decide +kernel)
theorem dX5_opened_29 : decode cX5_opened 29 = .ok (.aload_n 0, 1) := dR0 (k := 0) (i := 29) bn_cX5_opened_0 dop_42 (by decide +kernel)
theorem dX5_opened_30 : decode cX5_opened 30 = .ok (.iload_n 2, 1) := dR0 (k := 0) (i := 30) bn_cX5_opened_0 dop_28 (by decide +kernel)
theorem dX5_opened_31 : decode cX5_opened 31 = .ok (.invokevirtual 62, 3) := dR2 (f := Instr.invokevirtual) (k := 0) (i := 31) bn_cX5_opened_0 dop_182 62 (by decide +kernel)
theorem dX5_opened_34 : decode cX5_opened 34 = .ok (.ifCond .ne 7, 3) := dR2s (f := Instr.ifCond .ne) (k := 0) (i := 34) bn_cX5_opened_0 dop_154 7 7 (by decide +kernel)
theorem dX5_opened_37 : decode cX5_opened 37 = .ok (.iconst 1, 1) := dR0 (k := 0) (i := 37) bn_cX5_opened_0 dop_4 (by decide +kernel)
theorem dX5_opened_38 : decode cX5_opened 38 = .ok (.goto 4, 3) := dR2s (f := Instr.goto) (k := 0) (i := 38) bn_cX5_opened_0 dop_167 4 4 (by decide +kernel)
theorem dX5_opened_41 : decode cX5_opened 41 = .ok (.iconst 0, 1) := dR0 (k := 0) (i := 41) bn_cX5_opened_0 dop_3 (by decide +kernel)
theorem dX5_opened_42 : decode cX5_opened 42 = .ok (.invokestatic 49, 3) := dR2 (f := Instr.invokestatic) (k := 0) (i := 42) bn_cX5_opened_0 dop_184 49 (by decide +kernel)
theorem dX5_opened_45 : decode cX5_opened 45 = .ok (.ireturn, 1) := dR0 (k := 0) (i := 45) bn_cX5_opened_0 dop_172 (by decide +kernel)
theorem dX5_opened_46 : decode cX5_opened 46 = .ok (.aload_n 0, 1) := dR0 (k := 0) (i := 46) bn_cX5_opened_0 dop_42 (by decide +kernel)
theorem dX5_opened_47 : decode cX5_opened 47 = .ok (.iload_n 2, 1) := dR0 (k := 0) (i := 47) bn_cX5_opened_0 dop_28 (by decide +kernel)
theorem dX5_opened_48 : decode cX5_opened 48 = .ok (.invokevirtual 38, 3) := dR2 (f := Instr.invokevirtual) (k := 0) (i := 48) bn_cX5_opened_0 dop_182 38 (by decide +kernel)
theorem dX5_opened_51 : decode cX5_opened 51 = .ok (.istore_n 3, 1) := dR0 (k := 0) (i := 51) bn_cX5_opened_0 dop_62 (by decide +kernel)
theorem dX5_opened_52 : decode cX5_opened 52 = .ok (.aload_n 0, 1) := dR0 (k := 0) (i := 52) bn_cX5_opened_0 dop_42 (by decide +kernel)
theorem dX5_opened_53 : decode cX5_opened 53 = .ok (.invokevirtual 45, 3) := dR2 (f := Instr.invokevirtual) (k := 0) (i := 53) bn_cX5_opened_0 dop_182 45 (by decide +kernel)
theorem dX5_opened_56 : decode cX5_opened 56 = .ok (.bipush 41, 2) := dR1s (f := Instr.bipush) (k := 0) (i := 56) bn_cX5_opened_0 dop_16 41 41 (by decide +kernel)
theorem dX5_opened_58 : decode cX5_opened 58 = .ok (.if_icmp .eq 8, 3) := dR2s (f := Instr.if_icmp .eq) (k := 0) (i := 58) bn_cX5_opened_0 dop_159 8 8 (by decide +kernel)
theorem dX5_opened_61 : decode cX5_opened 61 = .ok (.aload_n 0, 1) := dR0 (k := 0) (i := 61) bn_cX5_opened_0 dop_42 (by decide +kernel)
theorem dX5_opened_62 : decode cX5_opened 62 = .ok (.invokevirtual 72, 3) := dR2 (f := Instr.invokevirtual) (k := 0) (i := 62) bn_cX5_opened_0 dop_182 72 (by decide +kernel)
theorem dX5_opened_65 : decode cX5_opened 65 = .ok (.ireturn, 1) := dR0 (k := 0) (i := 65) bn_cX5_opened_0 dop_172 (by decide +kernel)
theorem dX5_opened_66 : decode cX5_opened 66 = .ok (.aload_n 0, 1) := dR0 (k := 0) (i := 66) bn_cX5_opened_0 dop_42 (by decide +kernel)
theorem dX5_opened_67 : decode cX5_opened 67 = .ok (.dup, 1) := dR0 (k := 0) (i := 67) bn_cX5_opened_0 dop_89 (by decide +kernel)
theorem dX5_opened_68 : decode cX5_opened 68 = .ok (.getfield 19, 3) := dR2 (f := Instr.getfield) (k := 0) (i := 68) bn_cX5_opened_0 dop_180 19 (by decide +kernel)
theorem dX5_opened_71 : decode cX5_opened 71 = .ok (.iconst 1, 1) := dR0 (k := 0) (i := 71) bn_cX5_opened_0 dop_4 (by decide +kernel)
theorem dX5_opened_72 : decode cX5_opened 72 = .ok (.iadd, 1) := dR0 (k := 0) (i := 72) bn_cX5_opened_0 dop_96 (by decide +kernel)
theorem dX5_opened_73 : decode cX5_opened 73 = .ok (.putfield 19, 3) := dR2 (f := Instr.putfield) (k := 0) (i := 73) bn_cX5_opened_0 dop_181 19 (by decide +kernel)
theorem dX5_opened_76 : decode cX5_opened 76 = .ok (.iload_n 3, 1) := dR0 (k := 0) (i := 76) bn_cX5_opened_0 dop_29 (by decide +kernel)
theorem dX5_opened_77 : decode cX5_opened 77 = .ok (.ireturn, 1) := dR0 (k := 0) (i := 77) bn_cX5_opened_0 dop_172 (by decide +kernel)
theorem bn_cX5_part_0 : BN cX5_part 0 0xad120056a2b04005502100ad4560b00a840a1e0a005501e00ad4560b00a6c3c1400ad8c2050a0056a5a15ab492015b8ac12014e8787e5000adc3a2b5693002b730814381d1583002a8248056e2b0580544080e06402a1148443a0a00a8044110e84002a0170443aad230056e2b04805344200ae43a3e170056e2b := by
  unfold BN; decide +kernel
theorem dX5_part_0 : decode cX5_part 0 = .ok (.aload_n 0, 1) := dR0 (k := 0) (i := 0) bn_cX5_part_0 dop_42 (by decide +kernel)
theorem dX5_part_1 : decode cX5_part 1 = .ok (.invokevirtual 45, 3) := dR2 (f := Instr.invokevirtual) (k := 0) (i := 1) bn_cX5_part_0 dop_182 45 (by decide +kernel)
theorem dX5_part_4 : decode cX5_part 4 = .ok (.istore_n 2, 1) := dR0 (k := 0) (i := 4) bn_cX5_part_0 dop_61 (by decide +kernel)
theorem dX5_part_5 : decode cX5_part 5 = .ok (.iload_n 2, 1) := dR0 (k := 0) (i := 5) bn_cX5_part_0 dop_28 (by decide +kernel)
theorem dX5_part_6 : decode cX5_part 6 = .ok (.invokestatic 65, 3) := dR2 (f := Instr.invokestatic) (k := 0) (i := 6) bn_cX5_part_0 dop_184 65 (by decide +kernel)
theorem dX5_part_9 : decode cX5_part 9 = .ok (.ifCond .eq 8, 3) := dR2s (f := Instr.ifCond .eq) (k := 0) (i := 9) bn_cX5_part_0 dop_153 8 8 (by decide +kernel)
theorem dX5_part_12 : decode cX5_part 12 = .ok (.aload_n 0, 1) := dR0 (k := 0) (i := 12) bn_cX5_part_0 dop_42 (by decide +kernel)
theorem dX5_part_13 : decode cX5_part 13 = .ok (.invokevirtual 69, 3) := dR2 (f := Instr.invokevirtual) (k := 0) (i := 13) bn_cX5_part_0 dop_182 69 (by decide +kernel)
theorem dX5_part_16 : decode cX5_part 16 = .ok (.ireturn, 1) := dR0 (k := 0) (i := 16) bn_cX5_part_0 dop_172 (by decide +kernel)
theorem dX5_part_17 : decode cX5_part 17 = .ok (.iload_n 2, 1) := dR0 (k := 0) (i := 17) bn_cX5_part_0 dop_28 (by decide +kernel)
theorem dX5_part_18 : decode cX5_part 18 = .ok (.bipush 45, 2) := dR1s (f := Instr.bipush) (k := 0) (i := 18) bn_cX5_part_0 dop_16 45 45 (by decide +kernel)
theorem dX5_part_20 : decode cX5_part 20 = .ok (.if_icmp .eq 15, 3) := dR2s (f := Instr.if_icmp .eq) (k := 0) (i := 20) bn_cX5_part_0 dop_159 15 15 (by decide +kernel)
theorem dX5_part_23 : decode cX5_part 23 = .ok (.iload_n 2, 1) := dR0 (k := 0) (i := 23) bn_cX5_part_0 dop_28 (by decide +kernel)
theorem dX5_part_24 : decode cX5_part 24 = .ok (.bipush 33, 2) := dR1s (f := Instr.bipush) (k := 0) (i := 24) bn_cX5_part_0 dop_16 33 33 (by decide +kernel)
theorem dX5_part_26 : decode cX5_part 26 = .ok (.if_icmp .eq 9, 3) := dR2s (f := Instr.if_icmp .eq) (k := 0) (i := 26) bn_cX5_part_0 dop_159 9 9 (by decide +kernel)
theorem dX5_part_29 : decode cX5_part 29 = .ok (.iload_n 2, 1) := dR0 (k := 0) (i := 29) bn_cX5_part_0 dop_28 (by decide +kernel)
theorem dX5_part_30 : decode cX5_part 30 = .ok (.bipush 40, 2) := dR1s (f := Instr.bipush) (k := 0) (i := 30) bn_cX5_part_0 dop_16 40 40 (by decide +kernel)
theorem dX5_part_32 : decode cX5_part 32 = .ok (.if_icmp .ne 24, 3) := dR2s (f := Instr.if_icmp .ne) (k := 0) (i := 32) bn_cX5_part_0 dop_160 24 24 (by decide +kernel)
theorem dX5_part_35 : decode cX5_part 35 = .ok (.iload_n 1, 1) := dR0 (k := 0) (i := 35) bn_cX5_part_0 dop_27 (by decide +kernel)
theorem dX5_part_36 : decode cX5_part 36 = .ok (.iconst 4, 1) := dR0 (k := 0) (i := 36) bn_cX5_part_0 dop_7 (by decide +kernel)
theorem dX5_part_37 : decode cX5_part 37 = .ok (.if_icmp .lt 10, 3) := dR2s (f := Instr.if_icmp .lt) (k := 0) (i := 37) bn_cX5_part_0 dop_161 10 10 (by decide +kernel)
theorem dX5_part_40 : decode cX5_part 40 = .ok (.aload_n 0, 1) := dR0 (k := 0) (i := 40) bn_cX5_part_0 dop_42 (by decide +kernel)
theorem dX5_part_41 : decode cX5_part 41 = .ok (.invokevirtual 72, 3) := dR2 (f := Instr.invokevirtual) (k := 0) (i := 41) bn_cX5_part_0 dop_182 72 (by decide +kernel)
theorem dX5_part_44 : decode cX5_part 44 = .ok (.goto 11, 3) := dR2s (f := Instr.goto) (k := 0) (i := 44) bn_cX5_part_0 dop_167 11 11 (by decide +kernel)
theorem dX5_part_47 : decode cX5_part 47 = .ok (.aload_n 0, 1) := dR0 (k := 0) (i := 47) bn_cX5_part_0 dop_42 (by decide +kernel)
theorem dX5_part_48 : decode cX5_part 48 = .ok (.iload_n 2, 1) := dR0 (k := 0) (i := 48) bn_cX5_part_0 dop_28 (by decide +kernel)
theorem dX5_part_49 : decode cX5_part 49 = .ok (.iload_n 1, 1) := dR0 (k := 0) (i := 49) bn_cX5_part_0 dop_27 (by decide +kernel)
theorem dX5_part_50 : decode cX5_part 50 = .ok (.iconst 1, 1) := dR0 (k := 0) (i := 50) bn_cX5_part_0 dop_4 (by decide +kernel)
theorem dX5_part_51 : decode cX5_part 51 = .ok (.iadd, 1) := dR0 (k := 0) (i := 51) bn_cX5_part_0 dop_96 (by decide +kernel)
theorem dX5_part_52 : decode cX5_part 52 = .ok (.invokevirtual 75, 3) := dR2 (f := Instr.invokevirtual) (k := 0) (i := 52) bn_cX5_part_0 dop_182 75 (by decide +kernel)
theorem dX5_part_55 : decode cX5_part 55 = .ok (.ireturn, 1) := dR0 (k := 0) (i := 55) bn_cX5_part_0 dop_172 (by decide +kernel)
theorem dX5_part_56 : decode cX5_part 56 = .ok (.aload_n 0, 1) := dR0 (k := 0) (i := 56) bn_cX5_part_0 dop_42 (by decide +kernel)
theorem dX5_part_57 : decode cX5_part 57 = .ok (.iload_n 2, 1) := dR0 (k := 0) (i := 57) bn_cX5_part_0 dop_28 (by decide +kernel)
theorem dX5_part_58 : decode cX5_part 58 = .ok (.invokevirtual 79, 3) := dR2 (f := Instr.invokevirtual) (k := 0) (i := 58) bn_cX5_part_0 dop_182 79 (by decide +kernel)
theorem dX5_part_61 : decode cX5_part 61 = .ok (.istore_n 3, 1) := dR0 (k := 0) (i := 61) bn_cX5_part_0 dop_62 (by decide +kernel)
theorem dX5_part_62 : decode cX5_part 62 = .ok (.iload_n 3, 1) := dR0 (k := 0) (i := 62) bn_cX5_part_0 dop_29 (by decide +kernel)
theorem dX5_part_63 : decode cX5_part 63 = .ok (.ifCond .ge 8, 3) := dR2s (f := Instr.ifCond .ge) (k := 0) (i := 63) bn_cX5_part_0 dop_156 8 8 (by decide +kernel)
theorem dX5_part_66 : decode cX5_part 66 = .ok (.aload_n 0, 1) := dR0 (k := 0) (i := 66) bn_cX5_part_0 dop_42 (by decide +kernel)
theorem dX5_part_67 : decode cX5_part 67 = .ok (.invokevirtual 72, 3) := dR2 (f := Instr.invokevirtual) (k := 0) (i := 67) bn_cX5_part_0 dop_182 72 (by decide +kernel)
theorem dX5_part_70 : decode cX5_part 70 = .ok (.ireturn, 1) := dR0 (k := 0) (i := 70) bn_cX5_part_0 dop_172 (by decide +kernel)
theorem dX5_part_71 : decode cX5_part 71 = .ok (.aload_n 0, 1) := dR0 (k := 0) (i := 71) bn_cX5_part_0 dop_42 (by decide +kernel)
theorem dX5_part_72 : decode cX5_part 72 = .ok (.dup, 1) := dR0 (k := 0) (i := 72) bn_cX5_part_0 dop_89 (by decide +kernel)
theorem dX5_part_73 : decode cX5_part 73 = .ok (.getfield 19, 3) := dR2 (f := Instr.getfield) (k := 0) (i := 73) bn_cX5_part_0 dop_180 19 (by decide +kernel)
theorem dX5_part_76 : decode cX5_part 76 = .ok (.iconst 1, 1) := dR0 (k := 0) (i := 76) bn_cX5_part_0 dop_4 (by decide +kernel)
theorem dX5_part_77 : decode cX5_part 77 = .ok (.iadd, 1) := dR0 (k := 0) (i := 77) bn_cX5_part_0 dop_96 (by decide +kernel)
theorem dX5_part_78 : decode cX5_part 78 = .ok (.putfield 19, 3) := dR2 (f := Instr.putfield) (k := 0) (i := 78) bn_cX5_part_0 dop_181 19 (by decide +kernel)
theorem dX5_part_81 : decode cX5_part 81 = .ok (.iload_n 3, 1) := dR0 (k := 0) (i := 81) bn_cX5_part_0 dop_29 (by decide +kernel)
theorem dX5_part_82 : decode cX5_part 82 = .ok (.ifCond .ne 10, 3) := dR2s (f := Instr.ifCond .ne) (k := 0) (i := 82) bn_cX5_part_0 dop_154 10 10 (by decide +kernel)
theorem dX5_part_85 : decode cX5_part 85 = .ok (.aload_n 0, 1) := dR0 (k := 0) (i := 85) bn_cX5_part_0 dop_42 (by decide +kernel)
theorem dX5_part_86 : decode cX5_part 86 = .ok (.getfield 29, 3) := dR2 (f := Instr.getfield) (k := 0) (i := 86) bn_cX5_part_0 dop_180 29 (by decide +kernel)
theorem dX5_part_89 : decode cX5_part 89 = .ok (.goto 19, 3) := dR2s (f := Instr.goto) (k := 0) (i := 89) bn_cX5_part_0 dop_167 19 19 (by decide +kernel)
theorem dX5_part_92 : decode cX5_part 92 = .ok (.iload_n 3, 1) := dR0 (k := 0) (i := 92) bn_cX5_part_0 dop_29 (by decide +kernel)
theorem dX5_part_93 : decode cX5_part 93 = .ok (.iconst 1, 1) := dR0 (k := 0) (i := 93) bn_cX5_part_0 dop_4 (by decide +kernel)
theorem dX5_part_94 : decode cX5_part 94 = .ok (.if_icmp .ne 10, 3) := dR2s (f := Instr.if_icmp .ne) (k := 0) (i := 94) bn_cX5_part_0 dop_160 10 10 (by decide +kernel)
theorem dX5_part_97 : decode cX5_part 97 = .ok (.aload_n 0, 1) := dR0 (k := 0) (i := 97) bn_cX5_part_0 dop_42 (by decide +kernel)
theorem dX5_part_98 : decode cX5_part 98 = .ok (.getfield 32, 3) := dR2 (f := Instr.getfield) (k := 0) (i := 98) bn_cX5_part_0 dop_180 32 (by decide +kernel)
theorem dX5_part_101 : decode cX5_part 101 = .ok (.goto 7, 3) := dR2s (f := Instr.goto) (k := 0) (i := 101) bn_cX5_part_0 dop_167 7 7 (by decide +kernel)
theorem dX5_part_104 : decode cX5_part 104 = .ok (.aload_n 0, 1) := dR0 (k := 0) (i := 104) bn_cX5_part_0 dop_42 (by decide +kernel)
theorem dX5_part_105 : decode cX5_part 105 = .ok (.getfield 35, 3) := dR2 (f := Instr.getfield) (k := 0) (i := 105) bn_cX5_part_0 dop_180 35 (by decide +kernel)
theorem dX5_part_108 : decode cX5_part 108 = .ok (.ireturn, 1) := dR0 (k := 0) (i := 108) bn_cX5_part_0 dop_172 (by decide +kernel)
theorem bn_cX5_product_0 : BN cX5_product 0 0x2b43ab3802a00404428f8e2060b07410015401010014d8182c1100aa0d2060b0741601508ac22050b0186e3f00adc382b0a0056c610285002b52d0ac0a37170056e2b1e8054226088b802b71583402a0158445c015b8ac9e01518cc221e1f8107c3f00adc382b := by
  unfold BN; decide +kernel
theorem dX5_product_0 : decode cX5_product 0 = .ok (.aload_n 0, 1) := dR0 (k := 0) (i := 0) bn_cX5_product_0 dop_42 (by decide +kernel)
theorem dX5_product_1 : decode cX5_product 1 = .ok (.iload_n 1, 1) := dR0 (k := 0) (i := 1) bn_cX5_product_0 dop_27 (by decide +kernel)
theorem dX5_product_2 : decode cX5_product 2 = .ok (.invokevirtual 62, 3) := dR2 (f := Instr.invokevirtual) (k := 0) (i := 2) bn_cX5_product_0 dop_182 62 (by decide +kernel)
theorem dX5_product_5 : decode cX5_product 5 = .ok (.istore_n 2, 1) := dR0 (k := 0) (i := 5) bn_cX5_product_0 dop_61 (by decide +kernel)
theorem dX5_product_6 : decode cX5_product 6 = .ok (.iconst 0, 1) := dR0 (k := 0) (i := 6) bn_cX5_product_0 dop_3 (by decide +kernel)
theorem dX5_product_7 : decode cX5_product 7 = .ok (.istore_n 3, 1) := dR0 (k := 0) (i := 7) bn_cX5_product_0 dop_62 (by decide +kernel)
theorem dX5_product_8 : decode cX5_product 8 = .ok (.iload_n 3, 1) := dR0 (k := 0) (i := 8) bn_cX5_product_0 dop_29 (by decide +kernel)
theorem dX5_product_9 : decode cX5_product 9 = .ok (.bipush 50, 2) := dR1s (f := Instr.bipush) (k := 0) (i := 9) bn_cX5_product_0 dop_16 50 50 (by decide +kernel)
theorem dX5_product_11 : decode cX5_product 11 = .ok (.if_icmp .ge 78, 3) := dR2s (f := Instr.if_icmp .ge) (k := 0) (i := 11) bn_cX5_product_0 dop_162 78 78 (by decide +kernel)
theorem dX5_product_14 : decode cX5_product 14 = .ok (.aload_n 0, 1) := dR0 (k := 0) (i := 14) bn_cX5_product_0 dop_42 (by decide +kernel)
theorem dX5_product_15 : decode cX5_product 15 = .ok (.invokevirtual 45, 3) := dR2 (f := Instr.invokevirtual) (k := 0) (i := 15) bn_cX5_product_0 dop_182 45 (by decide +kernel)
theorem dX5_product_18 : decode cX5_product 18 = .ok (.bipush 42, 2) := dR1s (f := Instr.bipush) (k := 0) (i := 18) bn_cX5_product_0 dop_16 42 42 (by decide +kernel)
theorem dX5_product_20 : decode cX5_product 20 = .ok (.if_icmp .eq 12, 3) := dR2s (f := Instr.if_icmp .eq) (k := 0) (i := 20) bn_cX5_product_0 dop_159 12 12 (by decide +kernel)
theorem dX5_product_23 : decode cX5_product 23 = .ok (.aload_n 0, 1) := dR0 (k := 0) (i := 23) bn_cX5_product_0 dop_42 (by decide +kernel)
theorem dX5_product_24 : decode cX5_product 24 = .ok (.invokevirtual 45, 3) := dR2 (f := Instr.invokevirtual) (k := 0) (i := 24) bn_cX5_product_0 dop_182 45 (by decide +kernel)
theorem dX5_product_27 : decode cX5_product 27 = .ok (.bipush 37, 2) := dR1s (f := Instr.bipush) (k := 0) (i := 27) bn_cX5_product_0 dop_16 37 37 (by decide +kernel)
theorem dX5_product_29 : decode cX5_product 29 = .ok (.if_icmp .ne 60, 3) := dR2s (f := Instr.if_icmp .ne) (k := 0) (i := 29) bn_cX5_product_0 dop_160 60 60 (by decide +kernel)
theorem dX5_product_32 : decode cX5_product 32 = .ok (.aload_n 0, 1) := dR0 (k := 0) (i := 32) bn_cX5_product_0 dop_42 (by decide +kernel)
theorem dX5_product_33 : decode cX5_product 33 = .ok (.invokevirtual 45, 3) := dR2 (f := Instr.invokevirtual) (k := 0) (i := 33) bn_cX5_product_0 dop_182 45 (by decide +kernel)
theorem dX5_product_36 : decode cX5_product 36 = .ok (.istore 4, 2) := dR1 (f := Instr.istore) (k := 0) (i := 36) bn_cX5_product_0 dop_54 4 (by decide +kernel)
theorem dX5_product_38 : decode cX5_product 38 = .ok (.aload_n 0, 1) := dR0 (k := 0) (i := 38) bn_cX5_product_0 dop_42 (by decide +kernel)
theorem dX5_product_39 : decode cX5_product 39 = .ok (.dup, 1) := dR0 (k := 0) (i := 39) bn_cX5_product_0 dop_89 (by decide +kernel)
theorem dX5_product_40 : decode cX5_product 40 = .ok (.getfield 19, 3) := dR2 (f := Instr.getfield) (k := 0) (i := 40) bn_cX5_product_0 dop_180 19 (by decide +kernel)
theorem dX5_product_43 : decode cX5_product 43 = .ok (.iconst 1, 1) := dR0 (k := 0) (i := 43) bn_cX5_product_0 dop_4 (by decide +kernel)
theorem dX5_product_44 : decode cX5_product 44 = .ok (.iadd, 1) := dR0 (k := 0) (i := 44) bn_cX5_product_0 dop_96 (by decide +kernel)
theorem dX5_product_45 : decode cX5_product 45 = .ok (.putfield 19, 3) := dR2 (f := Instr.putfield) (k := 0) (i := 45) bn_cX5_product_0 dop_181 19 (by decide +kernel)
theorem dX5_product_48 : decode cX5_product 48 = .ok (.aload_n 0, 1) := dR0 (k := 0) (i := 48) bn_cX5_product_0 dop_42 (by decide +kernel)
theorem dX5_product_49 : decode cX5_product 49 = .ok (.iload_n 1, 1) := dR0 (k := 0) (i := 49) bn_cX5_product_0 dop_27 (by decide +kernel)
theorem dX5_product_50 : decode cX5_product 50 = .ok (.invokevirtual 62, 3) := dR2 (f := Instr.invokevirtual) (k := 0) (i := 50) bn_cX5_product_0 dop_182 62 (by decide +kernel)
theorem dX5_product_53 : decode cX5_product 53 = .ok (.istore 5, 2) := dR1 (f := Instr.istore) (k := 0) (i := 53) bn_cX5_product_0 dop_54 5 (by decide +kernel)
theorem dX5_product_55 : decode cX5_product 55 = .ok (.iload 4, 2) := dR1 (f := Instr.iload) (k := 0) (i := 55) bn_cX5_product_0 dop_21 4 (by decide +kernel)
theorem dX5_product_57 : decode cX5_product 57 = .ok (.bipush 42, 2) := dR1s (f := Instr.bipush) (k := 0) (i := 57) bn_cX5_product_0 dop_16 42 42 (by decide +kernel)
theorem dX5_product_59 : decode cX5_product 59 = .ok (.if_icmp .ne 10, 3) := dR2s (f := Instr.if_icmp .ne) (k := 0) (i := 59) bn_cX5_product_0 dop_160 10 10 (by decide +kernel)
theorem dX5_product_62 : decode cX5_product 62 = .ok (.iload_n 2, 1) := dR0 (k := 0) (i := 62) bn_cX5_product_0 dop_28 (by decide +kernel)
theorem dX5_product_63 : decode cX5_product 63 = .ok (.iload 5, 2) := dR1 (f := Instr.iload) (k := 0) (i := 63) bn_cX5_product_0 dop_21 5 (by decide +kernel)
theorem dX5_product_65 : decode cX5_product 65 = .ok (.imul, 1) := dR0 (k := 0) (i := 65) bn_cX5_product_0 dop_104 (by decide +kernel)
theorem dX5_product_66 : decode cX5_product 66 = .ok (.goto 16, 3) := dR2s (f := Instr.goto) (k := 0) (i := 66) bn_cX5_product_0 dop_167 16 16 (by decide +kernel)
theorem dX5_product_69 : decode cX5_product 69 = .ok (.iload 5, 2) := dR1 (f := Instr.iload) (k := 0) (i := 69) bn_cX5_product_0 dop_21 5 (by decide +kernel)
theorem dX5_product_71 : decode cX5_product 71 = .ok (.ifCond .ne 7, 3) := dR2s (f := Instr.ifCond .ne) (k := 0) (i := 71) bn_cX5_product_0 dop_154 7 7 (by decide +kernel)
theorem dX5_product_74 : decode cX5_product 74 = .ok (.iconst 0, 1) := dR0 (k := 0) (i := 74) bn_cX5_product_0 dop_3 (by decide +kernel)
theorem dX5_product_75 : decode cX5_product 75 = .ok (.goto 7, 3) := dR2s (f := Instr.goto) (k := 0) (i := 75) bn_cX5_product_0 dop_167 7 7 (by decide +kernel)
theorem dX5_product_78 : decode cX5_product 78 = .ok (.iload_n 2, 1) := dR0 (k := 0) (i := 78) bn_cX5_product_0 dop_28 (by decide +kernel)
theorem dX5_product_79 : decode cX5_product 79 = .ok (.iload 5, 2) := dR1 (f := Instr.iload) (k := 0) (i := 79) bn_cX5_product_0 dop_21 5 (by decide +kernel)
theorem dX5_product_81 : decode cX5_product 81 = .ok (.irem, 1) := dR0 (k := 0) (i := 81) bn_cX5_product_0 dop_112 (by decide +kernel)
theorem dX5_product_82 : decode cX5_product 82 = .ok (.istore_n 2, 1) := dR0 (k := 0) (i := 82) bn_cX5_product_0 dop_61 (by decide +kernel)
theorem dX5_product_83 : decode cX5_product 83 = .ok (.iinc 3 1, 3) := dRii (f := Instr.iinc) (k := 0) (i := 83) bn_cX5_product_0 dop_132 3 1 1 (by decide +kernel)
theorem dX5_product_86 : decode cX5_product 86 = .ok (.goto (-78), 3) := dR2s (f := Instr.goto) (k := 0) (i := 86) bn_cX5_product_0 dop_167 65458 (-78) (by decide +kernel)
theorem dX5_product_89 : decode cX5_product 89 = .ok (.iload_n 2, 1) := dR0 (k := 0) (i := 89) bn_cX5_product_0 dop_28 (by decide +kernel)
theorem dX5_product_90 : decode cX5_product 90 = .ok (.ireturn, 1) := dR0 (k := 0) (i := 90) bn_cX5_product_0 dop_172 (by decide +kernel)
theorem bn_cX5_sum_0 : BN cX5_sum 0 0x15a1d5e4015002022147c65030583a0800aa0c2060b0741601508b022050b0186e3c00adc382b0a0056c610285002b52d0ac0a37170056e2b1a005422e088b802b71583402a0160445c015b8ac8c01518cc221e1f8107c3c00adc382b := by
  unfold BN; decide +kernel
theorem dX5_sum_0 : decode cX5_sum 0 = .ok (.aload_n 0, 1) := dR0 (k := 0) (i := 0) bn_cX5_sum_0 dop_42 (by decide +kernel)
theorem dX5_sum_1 : decode cX5_sum 1 = .ok (.iload_n 1, 1) := dR0 (k := 0) (i := 1) bn_cX5_sum_0 dop_27 (by decide +kernel)
theorem dX5_sum_2 : decode cX5_sum 2 = .ok (.invokevirtual 59, 3) := dR2 (f := Instr.invokevirtual) (k := 0) (i := 2) bn_cX5_sum_0 dop_182 59 (by decide +kernel)
theorem dX5_sum_5 : decode cX5_sum 5 = .ok (.istore_n 2, 1) := dR0 (k := 0) (i := 5) bn_cX5_sum_0 dop_61 (by decide +kernel)
theorem dX5_sum_6 : decode cX5_sum 6 = .ok (.iconst 0, 1) := dR0 (k := 0) (i := 6) bn_cX5_sum_0 dop_3 (by decide +kernel)
theorem dX5_sum_7 : decode cX5_sum 7 = .ok (.istore_n 3, 1) := dR0 (k := 0) (i := 7) bn_cX5_sum_0 dop_62 (by decide +kernel)
theorem dX5_sum_8 : decode cX5_sum 8 = .ok (.iload_n 3, 1) := dR0 (k := 0) (i := 8) bn_cX5_sum_0 dop_29 (by decide +kernel)
theorem dX5_sum_9 : decode cX5_sum 9 = .ok (.bipush 50, 2) := dR1s (f := Instr.bipush) (k := 0) (i := 9) bn_cX5_sum_0 dop_16 50 50 (by decide +kernel)
theorem dX5_sum_11 : decode cX5_sum 11 = .ok (.if_icmp .ge 69, 3) := dR2s (f := Instr.if_icmp .ge) (k := 0) (i := 11) bn_cX5_sum_0 dop_162 69 69 (by decide +kernel)
theorem dX5_sum_14 : decode cX5_sum 14 = .ok (.aload_n 0, 1) := dR0 (k := 0) (i := 14) bn_cX5_sum_0 dop_42 (by decide +kernel)
theorem dX5_sum_15 : decode cX5_sum 15 = .ok (.invokevirtual 45, 3) := dR2 (f := Instr.invokevirtual) (k := 0) (i := 15) bn_cX5_sum_0 dop_182 45 (by decide +kernel)
theorem dX5_sum_18 : decode cX5_sum 18 = .ok (.bipush 43, 2) := dR1s (f := Instr.bipush) (k := 0) (i := 18) bn_cX5_sum_0 dop_16 43 43 (by decide +kernel)
theorem dX5_sum_20 : decode cX5_sum 20 = .ok (.if_icmp .eq 12, 3) := dR2s (f := Instr.if_icmp .eq) (k := 0) (i := 20) bn_cX5_sum_0 dop_159 12 12 (by decide +kernel)
theorem dX5_sum_23 : decode cX5_sum 23 = .ok (.aload_n 0, 1) := dR0 (k := 0) (i := 23) bn_cX5_sum_0 dop_42 (by decide +kernel)
theorem dX5_sum_24 : decode cX5_sum 24 = .ok (.invokevirtual 45, 3) := dR2 (f := Instr.invokevirtual) (k := 0) (i := 24) bn_cX5_sum_0 dop_182 45 (by decide +kernel)
theorem dX5_sum_27 : decode cX5_sum 27 = .ok (.bipush 45, 2) := dR1s (f := Instr.bipush) (k := 0) (i := 27) bn_cX5_sum_0 dop_16 45 45 (by decide +kernel)
theorem dX5_sum_29 : decode cX5_sum 29 = .ok (.if_icmp .ne 51, 3) := dR2s (f := Instr.if_icmp .ne) (k := 0) (i := 29) bn_cX5_sum_0 dop_160 51 51 (by decide +kernel)
theorem dX5_sum_32 : decode cX5_sum 32 = .ok (.aload_n 0, 1) := dR0 (k := 0) (i := 32) bn_cX5_sum_0 dop_42 (by decide +kernel)
theorem dX5_sum_33 : decode cX5_sum 33 = .ok (.invokevirtual 45, 3) := dR2 (f := Instr.invokevirtual) (k := 0) (i := 33) bn_cX5_sum_0 dop_182 45 (by decide +kernel)
theorem dX5_sum_36 : decode cX5_sum 36 = .ok (.istore 4, 2) := dR1 (f := Instr.istore) (k := 0) (i := 36) bn_cX5_sum_0 dop_54 4 (by decide +kernel)
theorem dX5_sum_38 : decode cX5_sum 38 = .ok (.aload_n 0, 1) := dR0 (k := 0) (i := 38) bn_cX5_sum_0 dop_42 (by decide +kernel)
theorem dX5_sum_39 : decode cX5_sum 39 = .ok (.dup, 1) := dR0 (k := 0) (i := 39) bn_cX5_sum_0 dop_89 (by decide +kernel)
theorem dX5_sum_40 : decode cX5_sum 40 = .ok (.getfield 19, 3) := dR2 (f := Instr.getfield) (k := 0) (i := 40) bn_cX5_sum_0 dop_180 19 (by decide +kernel)
theorem dX5_sum_43 : decode cX5_sum 43 = .ok (.iconst 1, 1) := dR0 (k := 0) (i := 43) bn_cX5_sum_0 dop_4 (by decide +kernel)
theorem dX5_sum_44 : decode cX5_sum 44 = .ok (.iadd, 1) := dR0 (k := 0) (i := 44) bn_cX5_sum_0 dop_96 (by decide +kernel)
theorem dX5_sum_45 : decode cX5_sum 45 = .ok (.putfield 19, 3) := dR2 (f := Instr.putfield) (k := 0) (i := 45) bn_cX5_sum_0 dop_181 19 (by decide +kernel)
theorem dX5_sum_48 : decode cX5_sum 48 = .ok (.aload_n 0, 1) := dR0 (k := 0) (i := 48) bn_cX5_sum_0 dop_42 (by decide +kernel)
theorem dX5_sum_49 : decode cX5_sum 49 = .ok (.iload_n 1, 1) := dR0 (k := 0) (i := 49) bn_cX5_sum_0 dop_27 (by decide +kernel)
theorem dX5_sum_50 : decode cX5_sum 50 = .ok (.invokevirtual 59, 3) := dR2 (f := Instr.invokevirtual) (k := 0) (i := 50) bn_cX5_sum_0 dop_182 59 (by decide +kernel)
theorem dX5_sum_53 : decode cX5_sum 53 = .ok (.istore 5, 2) := dR1 (f := Instr.istore) (k := 0) (i := 53) bn_cX5_sum_0 dop_54 5 (by decide +kernel)
theorem dX5_sum_55 : decode cX5_sum 55 = .ok (.iload 4, 2) := dR1 (f := Instr.iload) (k := 0) (i := 55) bn_cX5_sum_0 dop_21 4 (by decide +kernel)
theorem dX5_sum_57 : decode cX5_sum 57 = .ok (.bipush 43, 2) := dR1s (f := Instr.bipush) (k := 0) (i := 57) bn_cX5_sum_0 dop_16 43 43 (by decide +kernel)
theorem dX5_sum_59 : decode cX5_sum 59 = .ok (.if_icmp .ne 10, 3) := dR2s (f := Instr.if_icmp .ne) (k := 0) (i := 59) bn_cX5_sum_0 dop_160 10 10 (by decide +kernel)
theorem dX5_sum_62 : decode cX5_sum 62 = .ok (.iload_n 2, 1) := dR0 (k := 0) (i := 62) bn_cX5_sum_0 dop_28 (by decide +kernel)
theorem dX5_sum_63 : decode cX5_sum 63 = .ok (.iload 5, 2) := dR1 (f := Instr.iload) (k := 0) (i := 63) bn_cX5_sum_0 dop_21 5 (by decide +kernel)
theorem dX5_sum_65 : decode cX5_sum 65 = .ok (.iadd, 1) := dR0 (k := 0) (i := 65) bn_cX5_sum_0 dop_96 (by decide +kernel)
theorem dX5_sum_66 : decode cX5_sum 66 = .ok (.goto 7, 3) := dR2s (f := Instr.goto) (k := 0) (i := 66) bn_cX5_sum_0 dop_167 7 7 (by decide +kernel)
theorem dX5_sum_69 : decode cX5_sum 69 = .ok (.iload_n 2, 1) := dR0 (k := 0) (i := 69) bn_cX5_sum_0 dop_28 (by decide +kernel)
theorem dX5_sum_70 : decode cX5_sum 70 = .ok (.iload 5, 2) := dR1 (f := Instr.iload) (k := 0) (i := 70) bn_cX5_sum_0 dop_21 5 (by decide +kernel)
theorem dX5_sum_72 : decode cX5_sum 72 = .ok (.isub, 1) := dR0 (k := 0) (i := 72) bn_cX5_sum_0 dop_100 (by decide +kernel)
theorem dX5_sum_73 : decode cX5_sum 73 = .ok (.istore_n 2, 1) := dR0 (k := 0) (i := 73) bn_cX5_sum_0 dop_61 (by decide +kernel)
theorem dX5_sum_74 : decode cX5_sum 74 = .ok (.iinc 3 1, 3) := dRii (f := Instr.iinc) (k := 0) (i := 74) bn_cX5_sum_0 dop_132 3 1 1 (by decide +kernel)
theorem dX5_sum_77 : decode cX5_sum 77 = .ok (.goto (-69), 3) := dR2s (f := Instr.goto) (k := 0) (i := 77) bn_cX5_sum_0 dop_167 65467 (-69) (by decide +kernel)
theorem dX5_sum_80 : decode cX5_sum 80 = .ok (.iload_n 2, 1) := dR0 (k := 0) (i := 80) bn_cX5_sum_0 dop_28 (by decide +kernel)
theorem dX5_sum_81 : decode cX5_sum 81 = .ok (.ireturn, 1) := dR0 (k := 0) (i := 81) bn_cX5_sum_0 dop_172 (by decide +kernel)
def RDP (dd : Nat) : Prop := (∀ (l : Launch) (D : va_G) (cI : ClassId) (aK aV : Nat → Nat) (k k0 : Nat) (sz : Nat) (c1 : Int32) (c2 : Int32) (c3 : Int32) (c4 : Int32) (c5 : Int32) (c6 : Int32) (c7 : Int32) (c0 : Nat → Int32) (a0 : Int32) (pre0 : BYT c0 0) (pre1 : c1.toInt ≤ 50) (pre2 : 0 ≤ c2.toInt) (pre3 : c2.toInt ≤ c1.toInt) (pre4 : 0 ≤ a0.toInt) (pre5 : a0.toInt ≤ 4) (pre6 : (4 - a0.toInt).toNat < dd) , Met l yX5_part (gW yX5_part cX5_part 4 (some .int)) ({ frames := 16 * dd + 6, cells := 0, slots := 0, locals := 1024 * dd + 384 } : Room) (kPreX D cI aK aV [.ref k, .int a0] [(k, .inr (5, [.ref k0, .int c1, .int c2, .int c3, .int c4, .int c5, .int c6, .int c7])), (k0, .inl (cI, 50, .inl c0))] sz) (va_Qi (fun (r : Int32) (u : Int32 × Int32) => c2.toInt ≤ u.1.toInt ∧ u.1.toInt ≤ c1.toInt ∧ TXQ (tG c0 0 c1) c4 c5 c6 c7 5 a0.toInt c3 0 c2.toInt r u.1.toInt u.2) (fun u t => kWd D cI (va_A [(k, .inr (5, [.ref k0, .int c1, .int c2, .int c3, .int c4, .int c5, .int c6, .int c7])), (k0, .inl (cI, 50, .inl c0))] sz) [(k, .inr (5, [.ref k0, .int c1, .int u.1, .int u.2, .int c4, .int c5, .int c6, .int c7])), (k0, .inl (cI, 50, .inl c0))] t) (va_A [(k, .inr (5, [.ref k0, .int c1, .int c2, .int c3, .int c4, .int c5, .int c6, .int c7])), (k0, .inl (cI, 50, .inl c0))] sz)) 0 0 (va_A [(k, .inr (5, [.ref k0, .int c1, .int c2, .int c3, .int c4, .int c5, .int c6, .int c7])), (k0, .inl (cI, 50, .inl c0))] sz)) ∧ (∀ (l : Launch) (D : va_G) (cI : ClassId) (aK aV : Nat → Nat) (k k0 : Nat) (sz : Nat) (c1 : Int32) (c2 : Int32) (c3 : Int32) (c4 : Int32) (c5 : Int32) (c6 : Int32) (c7 : Int32) (c0 : Nat → Int32) (a0 : Int32) (pre0 : BYT c0 0) (pre1 : c1.toInt ≤ 50) (pre2 : 0 ≤ c2.toInt) (pre3 : c2.toInt ≤ c1.toInt) (pre4 : 0 ≤ a0.toInt) (pre5 : a0.toInt ≤ 4) (pre6 : (4 - a0.toInt).toNat < dd) , Met l yX5_either (gW yX5_either cX5_either 5 (some .int)) ({ frames := 16 * dd + 12, cells := 0, slots := 0, locals := 1024 * dd + 768 } : Room) (kPreX D cI aK aV [.ref k, .int a0] [(k, .inr (5, [.ref k0, .int c1, .int c2, .int c3, .int c4, .int c5, .int c6, .int c7])), (k0, .inl (cI, 50, .inl c0))] sz) (va_Qi (fun (r : Int32) (u : Int32 × Int32) => c2.toInt ≤ u.1.toInt ∧ u.1.toInt ≤ c1.toInt ∧ TXQ (tG c0 0 c1) c4 c5 c6 c7 0 a0.toInt c3 0 c2.toInt r u.1.toInt u.2) (fun u t => kWd D cI (va_A [(k, .inr (5, [.ref k0, .int c1, .int c2, .int c3, .int c4, .int c5, .int c6, .int c7])), (k0, .inl (cI, 50, .inl c0))] sz) [(k, .inr (5, [.ref k0, .int c1, .int u.1, .int u.2, .int c4, .int c5, .int c6, .int c7])), (k0, .inl (cI, 50, .inl c0))] t) (va_A [(k, .inr (5, [.ref k0, .int c1, .int c2, .int c3, .int c4, .int c5, .int c6, .int c7])), (k0, .inl (cI, 50, .inl c0))] sz)) 0 0 (va_A [(k, .inr (5, [.ref k0, .int c1, .int c2, .int c3, .int c4, .int c5, .int c6, .int c7])), (k0, .inl (cI, 50, .inl c0))] sz))
set_option maxHeartbeats 4000000 in
set_option maxRecDepth 100000 in
theorem c_X5_opened_of (dd : Nat) (ih : RDP dd) (l : Launch) (D : va_G) (cI : ClassId) (aK aV : Nat → Nat) (k k0 : Nat) (sz : Nat) (c1 : Int32) (c2 : Int32) (c3 : Int32) (c4 : Int32) (c5 : Int32) (c6 : Int32) (c7 : Int32) (c0 : Nat → Int32) (a0 : Int32) (a1 : Int32) (pre0 : BYT c0 0) (pre1 : c1.toInt ≤ 50) (pre2 : 0 ≤ c2.toInt) (pre3 : c2.toInt ≤ c1.toInt) (pre4 : c3.toInt = 0) (pre5 : 1 ≤ a1.toInt) (pre6 : a1.toInt ≤ 4) (pre7 : a0 = tG c0 0 c1 c2.toInt) (pre8 : a0.toInt = 45 ∨ a0.toInt = 33 ∨ a0.toInt = 40) (pre9 : c2.toInt < c1.toInt) (pre10 : (4 - a1.toInt).toNat < dd)  : Met l yX5_opened (gW yX5_opened cX5_opened 4 (some .int)) ({ frames := 16 * dd + 13, cells := 0, slots := 0, locals := 1024 * dd + 832 } : Room) (kPreX D cI aK aV [.ref k, .int a0, .int a1] [(k, .inr (5, [.ref k0, .int c1, .int c2, .int c3, .int c4, .int c5, .int c6, .int c7])), (k0, .inl (cI, 50, .inl c0))] sz) (va_Qi (fun (r : Int32) (u : Int32 × Int32) => c2.toInt ≤ u.1.toInt ∧ u.1.toInt ≤ c1.toInt ∧ TXQ (tG c0 0 c1) c4 c5 c6 c7 5 (a1.toInt - 1) c3 0 c2.toInt r u.1.toInt u.2) (fun u t => kWd D cI (va_A [(k, .inr (5, [.ref k0, .int c1, .int c2, .int c3, .int c4, .int c5, .int c6, .int c7])), (k0, .inl (cI, 50, .inl c0))] sz) [(k, .inr (5, [.ref k0, .int c1, .int u.1, .int u.2, .int c4, .int c5, .int c6, .int c7])), (k0, .inl (cI, 50, .inl c0))] t) (va_A [(k, .inr (5, [.ref k0, .int c1, .int c2, .int c3, .int c4, .int c5, .int c6, .int c7])), (k0, .inl (cI, 50, .inl c0))] sz)) 0 0 (va_A [(k, .inr (5, [.ref k0, .int c1, .int c2, .int c3, .int c4, .int c5, .int c6, .int c7])), (k0, .inl (cI, 50, .inl c0))] sz) := by
  refine kMetIX (own := RX5) (by decide +kernel) rfl (Nat.le_of_ble_eq_true rfl) ?_
  intro p e s m args below meth c hx hb hT hown hname hml A Q hK hP hD hS hA hN hXS hRet ls hl
  have hl : lv_has ls 4 [(0, .ref k), (1, .int a0), (2, .int a1)] := hl
  have lo_a0 := k_lo a0
  have hi_a0 := k_hi a0
  have lo_a1 := k_lo a1
  have hi_a1 := k_hi a1
  have lo_c1 := k_lo c1
  have hi_c1 := k_hi c1
  have lo_c2 := k_lo c2
  have hi_c2 := k_hi c2
  have lo_c3 := k_lo c3
  have hi_c3 := k_hi c3
  have lo_c4 := k_lo c4
  have hi_c4 := k_hi c4
  have lo_c5 := k_lo c5
  have hi_c5 := k_hi c5
  have lo_c6 := k_lo c6
  have hi_c6 := k_hi c6
  have lo_c7 := k_lo c7
  have hi_c7 := k_hi c7
  have pre0 : BYT c0 0 := pre0
  have pre7 : a0 = tG c0 0 c1 c2.toInt := pre7
  refine lv_aload_n hx hb dX5_opened_0 rfl (lv_at hl 0 rfl) ?_
  refine lv_dup hx hb dX5_opened_1 rfl ?_
  refine va_get (D := D) (ci := 5) (v := .int c2) (C := RX5) (T := TX5) (N := 8) hx hb hT giX5 hown hK hP 0 rfl rfl 2 (by decide +kernel) (hT (Cond.fieldLink RX5 19 "DesertWire$Reader" "at" "I") mw_170) (fun _ h9 => h9) rfl dX5_opened_2 ?_
  refine lv_iconst (v := 1) hx hb dX5_opened_5 (by decide +kernel) ?_
  refine lv_iadd hx hb dX5_opened_6 ?_
  refine lv_topi (fun v_1 ev_1 => ?_)
  have tv_1 : v_1.toInt = c2.toInt + 1 := by rw [ev_1]; exact k_addv rfl zl_1 (by omega) (by omega)
  refine va_put (D := D) (ci := 5) (v := .int v_1) (ty := .int) (C := RX5) (T := TX5) (N := 8) hx hb hT giX5 tyX5 tyX5_ok nmX5 hown hK hP hD hS 0 rfl rfl 2 (by decide +kernel) (hT (Cond.fieldLink RX5 19 "DesertWire$Reader" "at" "I") mw_170) (fun _ h9 => h9) rfl (by decide +kernel) rfl rfl (Nat.le_of_ble_eq_true rfl) dX5_opened_7 ?_
  clear hP hD hS
  intro H locs hP hD hS
  replace hP : va_P D vwCl [(k, .inr (5, [.ref k0, .int c1, .int v_1, .int c3, .int c4, .int c5, .int c6, .int c7])), (k0, .inl (cI, 50, .inl c0))] H := hP
  replace hD : va_D A [(k, .inr (5, [.ref k0, .int c1, .int v_1, .int c3, .int c4, .int c5, .int c6, .int c7])), (k0, .inl (cI, 50, .inl c0))] := hD
  refine lv_iload_n hx hb dX5_opened_10 rfl (lv_at hl 1 rfl) ?_
  refine lv_bipush (v := 45) hx hb dX5_opened_11 (by decide +kernel) ?_
  refine b_icmp_ne hx hb rfl zl_45 (tgt := 23) dX5_opened_13 (by decide +kernel) (fun c_2 => ?_) (fun c_2 => ?_)
  · refine lv_iload_n hx hb dX5_opened_23 rfl (lv_at hl 1 rfl) ?_
    refine lv_bipush (v := 33) hx hb dX5_opened_24 (by decide +kernel) ?_
    refine b_icmp_ne hx hb rfl zl_33 (tgt := 46) dX5_opened_26 (by decide +kernel) (fun c_3 => ?_) (fun c_3 => ?_)
    · refine lv_aload_n hx hb dX5_opened_46 rfl (lv_at hl 0 rfl) ?_
      refine lv_iload_n hx hb dX5_opened_47 rfl (lv_at hl 2 rfl) ?_
      refine kJi (wr := []) (va_runV (As := [.int a1]) (rest := []) ⟨hx, hb, hml, hown, hT⟩ (ih.2 l D cI aK aV k k0 H.size c1 v_1 c3 c4 c5 c6 c7 c0 a1 pre0 (by first | omega | decide | assumption | rfl) (by first | omega | decide | assumption | rfl) (by first | omega | decide | assumption | rfl) (by first | omega | decide | assumption | rfl) (by first | omega | decide | assumption | rfl) (by first | omega | decide | assumption | rfl)) (cwV 1 hT (gV_in mw_460 mw_457 mw_459 mw_p1_5 mw_6) rfl rfl rfl (by decide +kernel) ⟨(by dsimp only; omega), (by dsimp only; omega)⟩) (kRecvX (q0 := 0) (ci := 5) hK hP hD hN hXS hS hA rfl rfl [0, 1] rfl (by decide +kernel)) rfl rfl hl.1 rfl (lv_room (Nat.le_of_ble_eq_true rfl)) dX5_opened_48 ⟨Nat.le_of_ble_eq_true rfl, Nat.le_of_ble_eq_true rfl⟩) hP hD hS hA [0, 1] [] rfl rfl (by decide +kernel) (by decide +kernel) ?_
      clear hP hD hS
      intro r_4 u_8 H locs w_5 hP hD hS
      obtain ⟨sc2_6, sc3_7⟩ := u_8
      replace hP : va_P D vwCl [(k, .inr (5, [.ref k0, .int c1, .int sc2_6, .int sc3_7, .int c4, .int c5, .int c6, .int c7])), (k0, .inl (cI, 50, .inl c0))] H := hP
      replace hD : va_D A [(k, .inr (5, [.ref k0, .int c1, .int sc2_6, .int sc3_7, .int c4, .int c5, .int c6, .int c7])), (k0, .inl (cI, 50, .inl c0))] := hD
      have lo_sc2_6 := k_lo sc2_6
      have hi_sc2_6 := k_hi sc2_6
      have lo_sc3_7 := k_lo sc3_7
      have hi_sc3_7 := k_hi sc3_7
      obtain ⟨h_9, h_10, h_11⟩ := w_5
      have h_9 : v_1.toInt ≤ sc2_6.toInt := h_9
      have h_10 : sc2_6.toInt ≤ c1.toInt := h_10
      have h_11 : TXQ (tG c0 0 c1) c4 c5 c6 c7 0 a1.toInt c3 0 v_1.toInt r_4 sc2_6.toInt sc3_7 := h_11
      have h_11 : TXQ (tG c0 0 c1) c4 c5 c6 c7 0 a1.toInt c3 0 v_1.toInt r_4 sc2_6.toInt sc3_7 := h_11
      have hq_12 : TXQ (tG c0 0 c1) c4 c5 c6 c7 0 (a1.toInt - 1 + 1) c3 0 (c2.toInt + 1) r_4 sc2_6.toInt sc3_7 := by rw [show a1.toInt - 1 + 1 = a1.toInt from by omega, ← tv_1]; exact h_11
      have lo_r_4 := k_lo r_4
      have hi_r_4 := k_hi r_4
      refine lv_istore_n (lv' := [(3, .int r_4), (0, .ref k), (1, .int a0), (2, .int a1)]) hx hb dX5_opened_51 rfl hl (by decide +kernel) rfl ?_
      clear hl
      intro ls hl
      refine lv_aload_n hx hb dX5_opened_52 rfl (lv_at hl 1 rfl) ?_
      refine kJi (wr := []) (va_runV (As := []) (rest := []) ⟨hx, hb, hml, hown, hT⟩ (c_X5_nextG l D cI aK aV k k0 H.size c1 sc2_6 sc3_7 c4 c5 c6 c7 c0 pre0 (by first | omega | decide | assumption | rfl) (by first | omega | decide | assumption | rfl) (by first | omega | decide | assumption | rfl)) (cwV 0 hT (gV_in mw_484 mw_481 mw_483 mw_p1_11 mw_6) rfl rfl rfl (by decide +kernel) ⟨(by dsimp only; omega), (by dsimp only; omega)⟩) (kRecvX (q0 := 0) (ci := 5) hK hP hD hN hXS hS hA rfl rfl [0, 1] rfl (by decide +kernel)) rfl rfl hl.1 rfl (lv_room (Nat.le_of_ble_eq_true rfl)) dX5_opened_53 ⟨Nat.le_of_ble_eq_true rfl, Nat.le_of_ble_eq_true rfl⟩) hP hD hS hA [0, 1] [] rfl rfl (by decide +kernel) (by decide +kernel) ?_
      clear hP hD hS
      intro r_13 u_15 H locs w_14 hP hD hS
      replace hP : va_P D vwCl [(k, .inr (5, [.ref k0, .int c1, .int sc2_6, .int sc3_7, .int c4, .int c5, .int c6, .int c7])), (k0, .inl (cI, 50, .inl c0))] H := hP
      replace hD : va_D A [(k, .inr (5, [.ref k0, .int c1, .int sc2_6, .int sc3_7, .int c4, .int c5, .int c6, .int c7])), (k0, .inl (cI, 50, .inl c0))] := hD
      rcases w_14 with ⟨h_16, h_17, h_18, h_19, h_20⟩ | ⟨hr_13, h_21⟩
      · have h_16 : sc3_7.toInt = 0 := h_16
        have h_17 : r_13 = tG c0 0 c1 sc2_6.toInt := h_17
        have h_17 : r_13 = tG c0 0 c1 sc2_6.toInt := h_17
        have h_18 : -1 ≤ r_13.toInt := h_18
        have h_19 : r_13.toInt ≤ 255 := h_19
        have h_20 : r_13.toInt = (-1) ∨ sc2_6.toInt < c1.toInt := h_20
        have lo_r_13 := k_lo r_13
        have hi_r_13 := k_hi r_13
        refine lv_bipush (v := 41) hx hb dX5_opened_56 (by decide +kernel) ?_
        refine b_icmp_eq hx hb rfl zl_41 (tgt := 66) dX5_opened_58 (by decide +kernel) (fun c_22 => ?_) (fun c_22 => ?_)
        · refine lv_aload_n hx hb dX5_opened_66 rfl (lv_at hl 1 rfl) ?_
          refine lv_dup hx hb dX5_opened_67 rfl ?_
          refine va_get (D := D) (ci := 5) (v := .int sc2_6) (C := RX5) (T := TX5) (N := 8) hx hb hT giX5 hown hK hP 0 rfl rfl 2 (by decide +kernel) (hT (Cond.fieldLink RX5 19 "DesertWire$Reader" "at" "I") mw_170) (fun _ h9 => h9) rfl dX5_opened_68 ?_
          refine lv_iconst (v := 1) hx hb dX5_opened_71 (by decide +kernel) ?_
          refine lv_iadd hx hb dX5_opened_72 ?_
          refine lv_topi (fun v_23 ev_23 => ?_)
          have tv_23 : v_23.toInt = sc2_6.toInt + 1 := by rw [ev_23]; exact k_addv rfl zl_1 (by omega) (by omega)
          refine va_put (D := D) (ci := 5) (v := .int v_23) (ty := .int) (C := RX5) (T := TX5) (N := 8) hx hb hT giX5 tyX5 tyX5_ok nmX5 hown hK hP hD hS 0 rfl rfl 2 (by decide +kernel) (hT (Cond.fieldLink RX5 19 "DesertWire$Reader" "at" "I") mw_170) (fun _ h9 => h9) rfl (by decide +kernel) rfl rfl (Nat.le_of_ble_eq_true rfl) dX5_opened_73 ?_
          clear hP hD hS
          intro H locs hP hD hS
          replace hP : va_P D vwCl [(k, .inr (5, [.ref k0, .int c1, .int v_23, .int sc3_7, .int c4, .int c5, .int c6, .int c7])), (k0, .inl (cI, 50, .inl c0))] H := hP
          replace hD : va_D A [(k, .inr (5, [.ref k0, .int c1, .int v_23, .int sc3_7, .int c4, .int c5, .int c6, .int c7])), (k0, .inl (cI, 50, .inl c0))] := hD
          refine lv_iload_n hx hb dX5_opened_76 rfl (lv_at hl 0 rfl) ?_
          exact hRet (v_23, sc3_7) [0, 1] ⟨(by first | omega | decide | assumption | rfl | (dsimp only; first | omega)), (by first | omega | decide | assumption | rfl | (dsimp only; first | omega)), (by (try dsimp only); exact (by rw [tv_23]; exact TXQ.par_ok pre4 (by omega) (by omega) (by rw [← pre7]; omega) hq_12 (by omega) (by rw [← h_17]; omega) (by omega)))⟩ hP hD (by decide +kernel) rfl hS rfl dX5_opened_77
        · refine lv_aload_n hx hb dX5_opened_61 rfl (lv_at hl 1 rfl) ?_
          refine kJi (wr := [(k0, .inl (cI, 50, .inl c0))]) (va_runV (As := []) (rest := []) ⟨hx, hb, hml, hown, hT⟩ (c_X5_failG l D cI aK aV k k0 H.size c1 sc2_6 sc3_7 c4 c5 c6 c7) (cwV 0 hT (gV_in mw_495 mw_492 mw_494 mw_p1_13 mw_6) rfl rfl rfl (by decide +kernel) ⟨(by dsimp only; omega), (by dsimp only; omega)⟩) (kRecvX (q0 := 0) (ci := 5) hK hP hD hN hXS hS hA rfl rfl [0] rfl (by decide +kernel)) rfl rfl hl.1 rfl (lv_room (Nat.le_of_ble_eq_true rfl)) dX5_opened_62 ⟨Nat.le_of_ble_eq_true rfl, Nat.le_of_ble_eq_true rfl⟩) hP hD hS hA [0] [1] rfl rfl (by decide +kernel) (by decide +kernel) ?_
          clear hP hD hS
          intro r_24 sc3_26 H locs w_25 hP hD hS
          replace hP : va_P D vwCl [(k0, .inl (cI, 50, .inl c0)), (k, .inr (5, [.ref k0, .int c1, .int sc2_6, .int sc3_26, .int c4, .int c5, .int c6, .int c7]))] H := hP
          replace hD : va_D A [(k0, .inl (cI, 50, .inl c0)), (k, .inr (5, [.ref k0, .int c1, .int sc2_6, .int sc3_26, .int c4, .int c5, .int c6, .int c7]))] := hD
          have lo_sc3_26 := k_lo sc3_26
          have hi_sc3_26 := k_hi sc3_26
          obtain ⟨hr_24, h_27⟩ := w_25
          have h_27 : sc3_26.toInt = 1 := h_27
          obtain rfl : r_24 = 0 := hr_24.trans (by decide +kernel)
          exact hRet (sc2_6, sc3_26) [1, 0] ⟨(by first | omega | (simp only [zl_0]; first | done | omega) | decide | assumption | rfl | (dsimp only; first | omega | (simp only [zl_0]; first | done | omega))), (by first | omega | (simp only [zl_0]; first | done | omega) | decide | assumption | rfl | (dsimp only; first | omega | (simp only [zl_0]; first | done | omega))), (by (try dsimp only); exact (TXQ.par_no pre4 (by omega) (by omega) (by rw [← pre7]; omega) hq_12 (Or.inr (by rw [← h_17]; omega)) (by omega)))⟩ hP hD (by decide +kernel) rfl hS rfl dX5_opened_65
      · have h_21 : sc3_7.toInt ≠ 0 := h_21
        obtain rfl : r_13 = (-1) := hr_13.trans (by decide +kernel)
        refine lv_bipush (v := 41) hx hb dX5_opened_56 (by decide +kernel) ?_
        refine b_icmp_eq hx hb zl_m1 zl_41 (tgt := 66) dX5_opened_58 (by decide +kernel) (fun c_28 => by exfalso; omega) (fun c_28 => ?_)
        refine lv_aload_n hx hb dX5_opened_61 rfl (lv_at hl 1 rfl) ?_
        refine kJi (wr := [(k0, .inl (cI, 50, .inl c0))]) (va_runV (As := []) (rest := []) ⟨hx, hb, hml, hown, hT⟩ (c_X5_failG l D cI aK aV k k0 H.size c1 sc2_6 sc3_7 c4 c5 c6 c7) (cwV 0 hT (gV_in mw_495 mw_492 mw_494 mw_p1_13 mw_6) rfl rfl rfl (by decide +kernel) ⟨(by dsimp only; omega), (by dsimp only; omega)⟩) (kRecvX (q0 := 0) (ci := 5) hK hP hD hN hXS hS hA rfl rfl [0] rfl (by decide +kernel)) rfl rfl hl.1 rfl (lv_room (Nat.le_of_ble_eq_true rfl)) dX5_opened_62 ⟨Nat.le_of_ble_eq_true rfl, Nat.le_of_ble_eq_true rfl⟩) hP hD hS hA [0] [1] rfl rfl (by decide +kernel) (by decide +kernel) ?_
        clear hP hD hS
        intro r_29 sc3_31 H locs w_30 hP hD hS
        replace hP : va_P D vwCl [(k0, .inl (cI, 50, .inl c0)), (k, .inr (5, [.ref k0, .int c1, .int sc2_6, .int sc3_31, .int c4, .int c5, .int c6, .int c7]))] H := hP
        replace hD : va_D A [(k0, .inl (cI, 50, .inl c0)), (k, .inr (5, [.ref k0, .int c1, .int sc2_6, .int sc3_31, .int c4, .int c5, .int c6, .int c7]))] := hD
        have lo_sc3_31 := k_lo sc3_31
        have hi_sc3_31 := k_hi sc3_31
        obtain ⟨hr_29, h_32⟩ := w_30
        have h_32 : sc3_31.toInt = 1 := h_32
        obtain rfl : r_29 = 0 := hr_29.trans (by decide +kernel)
        exact hRet (sc2_6, sc3_31) [1, 0] ⟨(by first | omega | (simp only [zl_0]; first | done | omega) | decide | assumption | rfl | (dsimp only; first | omega | (simp only [zl_0]; first | done | omega))), (by first | omega | (simp only [zl_0]; first | done | omega) | decide | assumption | rfl | (dsimp only; first | omega | (simp only [zl_0]; first | done | omega))), (by (try dsimp only); exact (TXQ.par_no pre4 (by omega) (by omega) (by rw [← pre7]; omega) hq_12 (Or.inl (by omega)) (by omega)))⟩ hP hD (by decide +kernel) rfl hS rfl dX5_opened_65
    · refine lv_aload_n hx hb dX5_opened_29 rfl (lv_at hl 0 rfl) ?_
      refine lv_iload_n hx hb dX5_opened_30 rfl (lv_at hl 2 rfl) ?_
      refine kJi (wr := []) (va_runV (As := [.int a1]) (rest := []) ⟨hx, hb, hml, hown, hT⟩ (ih.1 l D cI aK aV k k0 H.size c1 v_1 c3 c4 c5 c6 c7 c0 a1 pre0 (by first | omega | decide | assumption | rfl) (by first | omega | decide | assumption | rfl) (by first | omega | decide | assumption | rfl) (by first | omega | decide | assumption | rfl) (by first | omega | decide | assumption | rfl) (by first | omega | decide | assumption | rfl)) (cwV 1 hT (gV_in mw_480 mw_477 mw_479 mw_p1_10 mw_6) rfl rfl rfl (by decide +kernel) ⟨(by dsimp only; omega), (by dsimp only; omega)⟩) (kRecvX (q0 := 0) (ci := 5) hK hP hD hN hXS hS hA rfl rfl [0, 1] rfl (by decide +kernel)) rfl rfl hl.1 rfl (lv_room (Nat.le_of_ble_eq_true rfl)) dX5_opened_31 ⟨Nat.le_of_ble_eq_true rfl, Nat.le_of_ble_eq_true rfl⟩) hP hD hS hA [0, 1] [] rfl rfl (by decide +kernel) (by decide +kernel) ?_
      clear hP hD hS
      intro r_33 u_37 H locs w_34 hP hD hS
      obtain ⟨sc2_35, sc3_36⟩ := u_37
      replace hP : va_P D vwCl [(k, .inr (5, [.ref k0, .int c1, .int sc2_35, .int sc3_36, .int c4, .int c5, .int c6, .int c7])), (k0, .inl (cI, 50, .inl c0))] H := hP
      replace hD : va_D A [(k, .inr (5, [.ref k0, .int c1, .int sc2_35, .int sc3_36, .int c4, .int c5, .int c6, .int c7])), (k0, .inl (cI, 50, .inl c0))] := hD
      have lo_sc2_35 := k_lo sc2_35
      have hi_sc2_35 := k_hi sc2_35
      have lo_sc3_36 := k_lo sc3_36
      have hi_sc3_36 := k_hi sc3_36
      obtain ⟨h_38, h_39, h_40⟩ := w_34
      have h_38 : v_1.toInt ≤ sc2_35.toInt := h_38
      have h_39 : sc2_35.toInt ≤ c1.toInt := h_39
      have h_40 : TXQ (tG c0 0 c1) c4 c5 c6 c7 5 a1.toInt c3 0 v_1.toInt r_33 sc2_35.toInt sc3_36 := h_40
      have h_40 : TXQ (tG c0 0 c1) c4 c5 c6 c7 5 a1.toInt c3 0 v_1.toInt r_33 sc2_35.toInt sc3_36 := h_40
      have hq_41 : TXQ (tG c0 0 c1) c4 c5 c6 c7 5 (a1.toInt - 1 + 1) c3 0 (c2.toInt + 1) r_33 sc2_35.toInt sc3_36 := by rw [show a1.toInt - 1 + 1 = a1.toInt from by omega, ← tv_1]; exact h_40
      have lo_r_33 := k_lo r_33
      have hi_r_33 := k_hi r_33
      refine b_if_ne hx hb rfl (tgt := 41) dX5_opened_34 (by decide +kernel) (fun c_42 => ?_) (fun c_42 => ?_)
      · refine lv_iconst (v := 0) hx hb dX5_opened_41 (by decide +kernel) ?_
        refine kJi (wr := [(k, .inr (5, [.ref k0, .int c1, .int sc2_35, .int sc3_36, .int c4, .int c5, .int c6, .int c7])), (k0, .inl (cI, 50, .inl c0))]) (va_runS (As := [.int 0]) (rest := []) ⟨hx, hb, hml, hown, hT⟩ (c_X5_truthG l D cI aK aV H.size 0) (cwS 1 hT (gS_in mw_502 mw_500 mw_501 mw_6) rfl rfl rfl (by decide +kernel) ⟨(by dsimp only; omega), (by dsimp only; omega)⟩) (kStatX hK hP hD hN hXS hS hA [] rfl (by decide +kernel)) rfl rfl hl.1 rfl (lv_room (Nat.le_of_ble_eq_true rfl)) dX5_opened_42 ⟨Nat.le_of_ble_eq_true rfl, Nat.le_of_ble_eq_true rfl⟩) hP hD hS hA [] [0, 1] rfl rfl (by decide +kernel) (by decide +kernel) ?_
        clear hP hD hS
        intro r_43 u_45 H locs w_44 hP hD hS
        replace hP : va_P D vwCl [(k, .inr (5, [.ref k0, .int c1, .int sc2_35, .int sc3_36, .int c4, .int c5, .int c6, .int c7])), (k0, .inl (cI, 50, .inl c0))] H := hP
        replace hD : va_D A [(k, .inr (5, [.ref k0, .int c1, .int sc2_35, .int sc3_36, .int c4, .int c5, .int c6, .int c7])), (k0, .inl (cI, 50, .inl c0))] := hD
        rcases w_44 with ⟨hr_43, h_46⟩ | ⟨hr_43, h_47⟩
        · (try simp only [zl_0] at h_46); exfalso; omega
        · try simp only [zl_0] at h_47
          obtain rfl : r_43 = 0 := hr_43.trans (by decide +kernel)
          exact hRet (sc2_35, sc3_36) [0, 1] ⟨(by first | omega | (simp only [zl_0]; first | done | omega) | decide | assumption | rfl | (dsimp only; first | omega | (simp only [zl_0]; first | done | omega))), (by first | omega | (simp only [zl_0]; first | done | omega) | decide | assumption | rfl | (dsimp only; first | omega | (simp only [zl_0]; first | done | omega))), (by (try dsimp only); exact (TXQ.un pre4 (by omega) (by omega) (by rw [← pre7]; omega) hq_41 (fun _ => by rw [← pre7, if_neg (by omega)]; (repeat (first | rw [if_pos (by omega)] | rw [if_neg (by omega)])))))⟩ hP hD (by decide +kernel) rfl hS rfl dX5_opened_45
      · refine lv_iconst (v := 1) hx hb dX5_opened_37 (by decide +kernel) ?_
        refine lv_goto (tgt := 42) hx hb dX5_opened_38 (by decide +kernel) ?_
        refine kJi (wr := [(k, .inr (5, [.ref k0, .int c1, .int sc2_35, .int sc3_36, .int c4, .int c5, .int c6, .int c7])), (k0, .inl (cI, 50, .inl c0))]) (va_runS (As := [.int 1]) (rest := []) ⟨hx, hb, hml, hown, hT⟩ (c_X5_truthG l D cI aK aV H.size 1) (cwS 1 hT (gS_in mw_502 mw_500 mw_501 mw_6) rfl rfl rfl (by decide +kernel) ⟨(by dsimp only; omega), (by dsimp only; omega)⟩) (kStatX hK hP hD hN hXS hS hA [] rfl (by decide +kernel)) rfl rfl hl.1 rfl (lv_room (Nat.le_of_ble_eq_true rfl)) dX5_opened_42 ⟨Nat.le_of_ble_eq_true rfl, Nat.le_of_ble_eq_true rfl⟩) hP hD hS hA [] [0, 1] rfl rfl (by decide +kernel) (by decide +kernel) ?_
        clear hP hD hS
        intro r_48 u_50 H locs w_49 hP hD hS
        replace hP : va_P D vwCl [(k, .inr (5, [.ref k0, .int c1, .int sc2_35, .int sc3_36, .int c4, .int c5, .int c6, .int c7])), (k0, .inl (cI, 50, .inl c0))] H := hP
        replace hD : va_D A [(k, .inr (5, [.ref k0, .int c1, .int sc2_35, .int sc3_36, .int c4, .int c5, .int c6, .int c7])), (k0, .inl (cI, 50, .inl c0))] := hD
        rcases w_49 with ⟨hr_48, h_51⟩ | ⟨hr_48, h_52⟩
        · try simp only [zl_1] at h_51
          obtain rfl : r_48 = 1 := hr_48.trans (by decide +kernel)
          exact hRet (sc2_35, sc3_36) [0, 1] ⟨(by first | omega | (simp only [zl_1]; first | done | omega) | decide | assumption | rfl | (dsimp only; first | omega | (simp only [zl_1]; first | done | omega))), (by first | omega | (simp only [zl_1]; first | done | omega) | decide | assumption | rfl | (dsimp only; first | omega | (simp only [zl_1]; first | done | omega))), (by (try dsimp only); exact (TXQ.un pre4 (by omega) (by omega) (by rw [← pre7]; omega) hq_41 (fun _ => by rw [← pre7, if_neg (by omega)]; (repeat (first | rw [if_pos (by omega)] | rw [if_neg (by omega)])))))⟩ hP hD (by decide +kernel) rfl hS rfl dX5_opened_45
        · (try simp only [zl_1] at h_52); exfalso; omega
  · refine lv_aload_n hx hb dX5_opened_16 rfl (lv_at hl 0 rfl) ?_
    refine lv_iload_n hx hb dX5_opened_17 rfl (lv_at hl 2 rfl) ?_
    refine kJi (wr := []) (va_runV (As := [.int a1]) (rest := []) ⟨hx, hb, hml, hown, hT⟩ (ih.1 l D cI aK aV k k0 H.size c1 v_1 c3 c4 c5 c6 c7 c0 a1 pre0 (by first | omega | decide | assumption | rfl) (by first | omega | decide | assumption | rfl) (by first | omega | decide | assumption | rfl) (by first | omega | decide | assumption | rfl) (by first | omega | decide | assumption | rfl) (by first | omega | decide | assumption | rfl)) (cwV 1 hT (gV_in mw_480 mw_477 mw_479 mw_p1_10 mw_6) rfl rfl rfl (by decide +kernel) ⟨(by dsimp only; omega), (by dsimp only; omega)⟩) (kRecvX (q0 := 0) (ci := 5) hK hP hD hN hXS hS hA rfl rfl [0, 1] rfl (by decide +kernel)) rfl rfl hl.1 rfl (lv_room (Nat.le_of_ble_eq_true rfl)) dX5_opened_18 ⟨Nat.le_of_ble_eq_true rfl, Nat.le_of_ble_eq_true rfl⟩) hP hD hS hA [0, 1] [] rfl rfl (by decide +kernel) (by decide +kernel) ?_
    clear hP hD hS
    intro r_53 u_57 H locs w_54 hP hD hS
    obtain ⟨sc2_55, sc3_56⟩ := u_57
    replace hP : va_P D vwCl [(k, .inr (5, [.ref k0, .int c1, .int sc2_55, .int sc3_56, .int c4, .int c5, .int c6, .int c7])), (k0, .inl (cI, 50, .inl c0))] H := hP
    replace hD : va_D A [(k, .inr (5, [.ref k0, .int c1, .int sc2_55, .int sc3_56, .int c4, .int c5, .int c6, .int c7])), (k0, .inl (cI, 50, .inl c0))] := hD
    have lo_sc2_55 := k_lo sc2_55
    have hi_sc2_55 := k_hi sc2_55
    have lo_sc3_56 := k_lo sc3_56
    have hi_sc3_56 := k_hi sc3_56
    obtain ⟨h_58, h_59, h_60⟩ := w_54
    have h_58 : v_1.toInt ≤ sc2_55.toInt := h_58
    have h_59 : sc2_55.toInt ≤ c1.toInt := h_59
    have h_60 : TXQ (tG c0 0 c1) c4 c5 c6 c7 5 a1.toInt c3 0 v_1.toInt r_53 sc2_55.toInt sc3_56 := h_60
    have h_60 : TXQ (tG c0 0 c1) c4 c5 c6 c7 5 a1.toInt c3 0 v_1.toInt r_53 sc2_55.toInt sc3_56 := h_60
    have hq_61 : TXQ (tG c0 0 c1) c4 c5 c6 c7 5 (a1.toInt - 1 + 1) c3 0 (c2.toInt + 1) r_53 sc2_55.toInt sc3_56 := by rw [show a1.toInt - 1 + 1 = a1.toInt from by omega, ← tv_1]; exact h_60
    have lo_r_53 := k_lo r_53
    have hi_r_53 := k_hi r_53
    refine lv_ineg hx hb dX5_opened_21 ?_
    refine lv_topi (fun v_62 ev_62 => ?_)
    have lo_v_62 := k_lo v_62
    have hi_v_62 := k_hi v_62
    exact hRet (sc2_55, sc3_56) [0, 1] ⟨(by first | omega | decide | assumption | rfl | (dsimp only; first | omega)), (by first | omega | decide | assumption | rfl | (dsimp only; first | omega)), (by (try dsimp only); exact (TXQ.un pre4 (by omega) (by omega) (by rw [← pre7]; omega) hq_61 (fun _ => by rw [← pre7, if_pos (by omega)]; exact ev_62)))⟩ hP hD (by decide +kernel) rfl hS rfl dX5_opened_22
set_option maxHeartbeats 4000000 in
set_option maxRecDepth 100000 in
theorem c_X5_part_of (dd : Nat) (ih : RDP dd) (l : Launch) (D : va_G) (cI : ClassId) (aK aV : Nat → Nat) (k k0 : Nat) (sz : Nat) (c1 : Int32) (c2 : Int32) (c3 : Int32) (c4 : Int32) (c5 : Int32) (c6 : Int32) (c7 : Int32) (c0 : Nat → Int32) (a0 : Int32) (pre0 : BYT c0 0) (pre1 : c1.toInt ≤ 50) (pre2 : 0 ≤ c2.toInt) (pre3 : c2.toInt ≤ c1.toInt) (pre4 : 0 ≤ a0.toInt) (pre5 : a0.toInt ≤ 4) (pre6 : (4 - a0.toInt).toNat < dd + 1)  : Met l yX5_part (gW yX5_part cX5_part 4 (some .int)) ({ frames := 16 * (dd + 1) + 6, cells := 0, slots := 0, locals := 1024 * (dd + 1) + 384 } : Room) (kPreX D cI aK aV [.ref k, .int a0] [(k, .inr (5, [.ref k0, .int c1, .int c2, .int c3, .int c4, .int c5, .int c6, .int c7])), (k0, .inl (cI, 50, .inl c0))] sz) (va_Qi (fun (r : Int32) (u : Int32 × Int32) => c2.toInt ≤ u.1.toInt ∧ u.1.toInt ≤ c1.toInt ∧ TXQ (tG c0 0 c1) c4 c5 c6 c7 5 a0.toInt c3 0 c2.toInt r u.1.toInt u.2) (fun u t => kWd D cI (va_A [(k, .inr (5, [.ref k0, .int c1, .int c2, .int c3, .int c4, .int c5, .int c6, .int c7])), (k0, .inl (cI, 50, .inl c0))] sz) [(k, .inr (5, [.ref k0, .int c1, .int u.1, .int u.2, .int c4, .int c5, .int c6, .int c7])), (k0, .inl (cI, 50, .inl c0))] t) (va_A [(k, .inr (5, [.ref k0, .int c1, .int c2, .int c3, .int c4, .int c5, .int c6, .int c7])), (k0, .inl (cI, 50, .inl c0))] sz)) 0 0 (va_A [(k, .inr (5, [.ref k0, .int c1, .int c2, .int c3, .int c4, .int c5, .int c6, .int c7])), (k0, .inl (cI, 50, .inl c0))] sz) := by
  refine kMetIX (own := RX5) (by decide +kernel) rfl (Nat.le_of_ble_eq_true rfl) ?_
  intro p e s m args below meth c hx hb hT hown hname hml A Q hK hP hD hS hA hN hXS hRet ls hl
  have hl : lv_has ls 4 [(0, .ref k), (1, .int a0)] := hl
  have lo_a0 := k_lo a0
  have hi_a0 := k_hi a0
  have lo_c1 := k_lo c1
  have hi_c1 := k_hi c1
  have lo_c2 := k_lo c2
  have hi_c2 := k_hi c2
  have lo_c3 := k_lo c3
  have hi_c3 := k_hi c3
  have lo_c4 := k_lo c4
  have hi_c4 := k_hi c4
  have lo_c5 := k_lo c5
  have hi_c5 := k_hi c5
  have lo_c6 := k_lo c6
  have hi_c6 := k_hi c6
  have lo_c7 := k_lo c7
  have hi_c7 := k_hi c7
  have pre0 : BYT c0 0 := pre0
  refine lv_aload_n hx hb dX5_part_0 rfl (lv_at hl 0 rfl) ?_
  refine kJi (wr := []) (va_runV (As := []) (rest := []) ⟨hx, hb, hml, hown, hT⟩ (c_X5_nextG l D cI aK aV k k0 s.heap.size c1 c2 c3 c4 c5 c6 c7 c0 pre0 (by first | omega | decide | assumption | rfl) (by first | omega | decide | assumption | rfl) (by first | omega | decide | assumption | rfl)) (cwV 0 hT (gV_in mw_484 mw_481 mw_483 mw_p1_11 mw_6) rfl rfl rfl (by decide +kernel) ⟨(by dsimp only; omega), (by dsimp only; omega)⟩) (kRecvX (q0 := 0) (ci := 5) hK hP hD hN hXS hS hA rfl rfl [0, 1] rfl (by decide +kernel)) rfl rfl hl.1 rfl (lv_room (Nat.le_of_ble_eq_true rfl)) dX5_part_1 ⟨Nat.le_of_ble_eq_true rfl, Nat.le_of_ble_eq_true rfl⟩) hP hD hS hA [0, 1] [] rfl rfl (by decide +kernel) (by decide +kernel) ?_
  clear hP hD hS
  intro r_1 u_3 H locs w_2 hP hD hS
  replace hP : va_P D vwCl [(k, .inr (5, [.ref k0, .int c1, .int c2, .int c3, .int c4, .int c5, .int c6, .int c7])), (k0, .inl (cI, 50, .inl c0))] H := hP
  replace hD : va_D A [(k, .inr (5, [.ref k0, .int c1, .int c2, .int c3, .int c4, .int c5, .int c6, .int c7])), (k0, .inl (cI, 50, .inl c0))] := hD
  rcases w_2 with ⟨h_4, h_5, h_6, h_7, h_8⟩ | ⟨hr_1, h_9⟩
  · have h_4 : c3.toInt = 0 := h_4
    have h_5 : r_1 = tG c0 0 c1 c2.toInt := h_5
    have h_5 : r_1 = tG c0 0 c1 c2.toInt := h_5
    have h_6 : -1 ≤ r_1.toInt := h_6
    have h_7 : r_1.toInt ≤ 255 := h_7
    have h_8 : r_1.toInt = (-1) ∨ c2.toInt < c1.toInt := h_8
    have lo_r_1 := k_lo r_1
    have hi_r_1 := k_hi r_1
    refine lv_istore_n (lv' := [(2, .int r_1), (0, .ref k), (1, .int a0)]) hx hb dX5_part_4 rfl hl (by decide +kernel) rfl ?_
    clear hl
    intro ls hl
    refine lv_iload_n hx hb dX5_part_5 rfl (lv_at hl 0 rfl) ?_
    refine kJi (wr := [(k, .inr (5, [.ref k0, .int c1, .int c2, .int c3, .int c4, .int c5, .int c6, .int c7])), (k0, .inl (cI, 50, .inl c0))]) (va_runS (As := [.int r_1]) (rest := []) ⟨hx, hb, hml, hown, hT⟩ (c_X5_isDigitG l D cI aK aV H.size r_1) (cwS 1 hT (gS_in mw_487 mw_485 mw_486 mw_6) rfl rfl rfl (by decide +kernel) ⟨(by dsimp only; omega), (by dsimp only; omega)⟩) (kStatX hK hP hD hN hXS hS hA [] rfl (by decide +kernel)) rfl rfl hl.1 rfl (lv_room (Nat.le_of_ble_eq_true rfl)) dX5_part_6 ⟨Nat.le_of_ble_eq_true rfl, Nat.le_of_ble_eq_true rfl⟩) hP hD hS hA [] [0, 1] rfl rfl (by decide +kernel) (by decide +kernel) ?_
    clear hP hD hS
    intro r_10 u_12 H locs w_11 hP hD hS
    replace hP : va_P D vwCl [(k, .inr (5, [.ref k0, .int c1, .int c2, .int c3, .int c4, .int c5, .int c6, .int c7])), (k0, .inl (cI, 50, .inl c0))] H := hP
    replace hD : va_D A [(k, .inr (5, [.ref k0, .int c1, .int c2, .int c3, .int c4, .int c5, .int c6, .int c7])), (k0, .inl (cI, 50, .inl c0))] := hD
    rcases w_11 with ⟨hr_10, h_13, h_14⟩ | ⟨hr_10, h_15⟩
    · have h_13 : 48 ≤ r_1.toInt := h_13
      have h_14 : r_1.toInt ≤ 57 := h_14
      obtain rfl : r_10 = 1 := hr_10.trans (by decide +kernel)
      refine b_if_eq hx hb zl_1 (tgt := 17) dX5_part_9 (by decide +kernel) (fun c_16 => by exfalso; omega) (fun c_16 => ?_)
      refine lv_aload_n hx hb dX5_part_12 rfl (lv_at hl 1 rfl) ?_
      refine kJi (wr := []) (va_runV (As := []) (rest := []) ⟨hx, hb, hml, hown, hT⟩ (c_X5_numeralG l D cI aK aV k k0 H.size c1 c2 c3 c4 c5 c6 c7 c0 pre0 (by first | omega | decide | assumption | rfl) (by first | omega | decide | assumption | rfl) (by first | omega | decide | assumption | rfl) (by first | omega | decide | assumption | rfl)) (cwV 0 hT (gV_in mw_491 mw_488 mw_490 mw_p1_12 mw_6) rfl rfl rfl (by decide +kernel) ⟨(by dsimp only; omega), (by dsimp only; omega)⟩) (kRecvX (q0 := 0) (ci := 5) hK hP hD hN hXS hS hA rfl rfl [0, 1] rfl (by decide +kernel)) rfl rfl hl.1 rfl (lv_room (Nat.le_of_ble_eq_true rfl)) dX5_part_13 ⟨Nat.le_of_ble_eq_true rfl, Nat.le_of_ble_eq_true rfl⟩) hP hD hS hA [0, 1] [] rfl rfl (by decide +kernel) (by decide +kernel) ?_
      clear hP hD hS
      intro r_17 sc2_19 H locs w_18 hP hD hS
      replace hP : va_P D vwCl [(k, .inr (5, [.ref k0, .int c1, .int sc2_19, .int c3, .int c4, .int c5, .int c6, .int c7])), (k0, .inl (cI, 50, .inl c0))] H := hP
      replace hD : va_D A [(k, .inr (5, [.ref k0, .int c1, .int sc2_19, .int c3, .int c4, .int c5, .int c6, .int c7])), (k0, .inl (cI, 50, .inl c0))] := hD
      have lo_sc2_19 := k_lo sc2_19
      have hi_sc2_19 := k_hi sc2_19
      obtain ⟨h_20, h_21, h_22⟩ := w_18
      have h_20 : tx_num (tG c0 0 c1) 4 0 c2.toInt = (r_17, sc2_19.toInt) := h_20
      have h_20 : tx_num (tG c0 0 c1) 4 0 c2.toInt = (r_17, sc2_19.toInt) := h_20
      have h_21 : c2.toInt ≤ sc2_19.toInt := h_21
      have h_22 : sc2_19.toInt ≤ c1.toInt := h_22
      have lo_r_17 := k_lo r_17
      have hi_r_17 := k_hi r_17
      exact hRet (sc2_19, c3) [0, 1] ⟨(by first | omega | decide | assumption | rfl | (dsimp only; first | omega)), (by first | omega | decide | assumption | rfl | (dsimp only; first | omega)), (by (try dsimp only); exact (TXQ.num (by omega) (by rw [← h_5]; omega) (by rw [← h_5]; omega) h_20 (by omega)))⟩ hP hD (by decide +kernel) rfl hS rfl dX5_part_16
    · have h_15 : r_1.toInt < 48 ∨ 57 < r_1.toInt := h_15
      obtain rfl : r_10 = 0 := hr_10.trans (by decide +kernel)
      refine b_if_eq hx hb zl_0 (tgt := 17) dX5_part_9 (by decide +kernel) (fun c_23 => ?_) (fun c_23 => by exfalso; omega)
      refine lv_iload_n hx hb dX5_part_17 rfl (lv_at hl 0 rfl) ?_
      refine lv_bipush (v := 45) hx hb dX5_part_18 (by decide +kernel) ?_
      refine b_icmp_eq hx hb rfl zl_45 (tgt := 35) dX5_part_20 (by decide +kernel) (fun c_24 => ?_) (fun c_24 => ?_)
      · refine lv_iload_n hx hb dX5_part_35 rfl (lv_at hl 2 rfl) ?_
        refine lv_iconst (v := 4) hx hb dX5_part_36 (by decide +kernel) ?_
        refine b_icmp_lt hx hb rfl zl_4 (tgt := 47) dX5_part_37 (by decide +kernel) (fun c_25 => ?_) (fun c_25 => ?_)
        · refine lv_aload_n hx hb dX5_part_47 rfl (lv_at hl 1 rfl) ?_
          refine lv_iload_n hx hb dX5_part_48 rfl (lv_at hl 0 rfl) ?_
          refine lv_iload_n hx hb dX5_part_49 rfl (lv_at hl 2 rfl) ?_
          refine lv_iconst (v := 1) hx hb dX5_part_50 (by decide +kernel) ?_
          refine lv_iadd hx hb dX5_part_51 ?_
          refine lv_topi (fun v_26 ev_26 => ?_)
          have tv_26 : v_26.toInt = a0.toInt + 1 := by rw [ev_26]; exact k_addv rfl zl_1 (by omega) (by omega)
          refine kJi (wr := []) (va_runV (As := [.int r_1, .int v_26]) (rest := []) ⟨hx, hb, hml, hown, hT⟩ (c_X5_opened_of dd ih l D cI aK aV k k0 H.size c1 c2 c3 c4 c5 c6 c7 c0 r_1 v_26 pre0 (by first | omega | decide | assumption | rfl) (by first | omega | decide | assumption | rfl) (by first | omega | decide | assumption | rfl) (by first | omega | decide | assumption | rfl) (by first | omega | decide | assumption | rfl) (by first | omega | decide | assumption | rfl) h_5 (by first | omega | decide | assumption | rfl) (by first | omega | decide | assumption | rfl) (by first | omega | decide | assumption | rfl)) (cwV 2 hT (gV_in mw_499 mw_496 mw_498 mw_p1_14 mw_6) rfl rfl rfl (by decide +kernel) ⟨(by dsimp only; omega), (by dsimp only; omega)⟩) (kRecvX (q0 := 0) (ci := 5) hK hP hD hN hXS hS hA rfl rfl [0, 1] rfl (by decide +kernel)) rfl rfl hl.1 rfl (lv_room (Nat.le_of_ble_eq_true rfl)) dX5_part_52 ⟨Nat.le_of_ble_eq_true rfl, Nat.le_of_ble_eq_true rfl⟩) hP hD hS hA [0, 1] [] rfl rfl (by decide +kernel) (by decide +kernel) ?_
          clear hP hD hS
          intro r_27 u_31 H locs w_28 hP hD hS
          obtain ⟨sc2_29, sc3_30⟩ := u_31
          replace hP : va_P D vwCl [(k, .inr (5, [.ref k0, .int c1, .int sc2_29, .int sc3_30, .int c4, .int c5, .int c6, .int c7])), (k0, .inl (cI, 50, .inl c0))] H := hP
          replace hD : va_D A [(k, .inr (5, [.ref k0, .int c1, .int sc2_29, .int sc3_30, .int c4, .int c5, .int c6, .int c7])), (k0, .inl (cI, 50, .inl c0))] := hD
          have lo_sc2_29 := k_lo sc2_29
          have hi_sc2_29 := k_hi sc2_29
          have lo_sc3_30 := k_lo sc3_30
          have hi_sc3_30 := k_hi sc3_30
          obtain ⟨h_32, h_33, h_34⟩ := w_28
          have h_32 : c2.toInt ≤ sc2_29.toInt := h_32
          have h_33 : sc2_29.toInt ≤ c1.toInt := h_33
          have h_34 : TXQ (tG c0 0 c1) c4 c5 c6 c7 5 (v_26.toInt - 1) c3 0 c2.toInt r_27 sc2_29.toInt sc3_30 := h_34
          have h_34 : TXQ (tG c0 0 c1) c4 c5 c6 c7 5 (v_26.toInt - 1) c3 0 c2.toInt r_27 sc2_29.toInt sc3_30 := h_34
          have lo_r_27 := k_lo r_27
          have hi_r_27 := k_hi r_27
          exact hRet (sc2_29, sc3_30) [0, 1] ⟨(by first | omega | decide | assumption | rfl | (dsimp only; first | omega)), (by first | omega | decide | assumption | rfl | (dsimp only; first | omega)), (by (try dsimp only); exact (by have z := h_34; rw [show v_26.toInt - 1 = a0.toInt from by omega] at z; exact z))⟩ hP hD (by decide +kernel) rfl hS rfl dX5_part_55
        · refine lv_aload_n hx hb dX5_part_40 rfl (lv_at hl 1 rfl) ?_
          refine kJi (wr := [(k0, .inl (cI, 50, .inl c0))]) (va_runV (As := []) (rest := []) ⟨hx, hb, hml, hown, hT⟩ (c_X5_failG l D cI aK aV k k0 H.size c1 c2 c3 c4 c5 c6 c7) (cwV 0 hT (gV_in mw_495 mw_492 mw_494 mw_p1_13 mw_6) rfl rfl rfl (by decide +kernel) ⟨(by dsimp only; omega), (by dsimp only; omega)⟩) (kRecvX (q0 := 0) (ci := 5) hK hP hD hN hXS hS hA rfl rfl [0] rfl (by decide +kernel)) rfl rfl hl.1 rfl (lv_room (Nat.le_of_ble_eq_true rfl)) dX5_part_41 ⟨Nat.le_of_ble_eq_true rfl, Nat.le_of_ble_eq_true rfl⟩) hP hD hS hA [0] [1] rfl rfl (by decide +kernel) (by decide +kernel) ?_
          clear hP hD hS
          intro r_35 sc3_37 H locs w_36 hP hD hS
          replace hP : va_P D vwCl [(k0, .inl (cI, 50, .inl c0)), (k, .inr (5, [.ref k0, .int c1, .int c2, .int sc3_37, .int c4, .int c5, .int c6, .int c7]))] H := hP
          replace hD : va_D A [(k0, .inl (cI, 50, .inl c0)), (k, .inr (5, [.ref k0, .int c1, .int c2, .int sc3_37, .int c4, .int c5, .int c6, .int c7]))] := hD
          have lo_sc3_37 := k_lo sc3_37
          have hi_sc3_37 := k_hi sc3_37
          obtain ⟨hr_35, h_38⟩ := w_36
          have h_38 : sc3_37.toInt = 1 := h_38
          obtain rfl : r_35 = 0 := hr_35.trans (by decide +kernel)
          refine lv_goto (tgt := 55) hx hb dX5_part_44 (by decide +kernel) ?_
          exact hRet (c2, sc3_37) [1, 0] ⟨(by first | omega | (simp only [zl_0]; first | done | omega) | decide | assumption | rfl | (dsimp only; first | omega | (simp only [zl_0]; first | done | omega))), (by first | omega | (simp only [zl_0]; first | done | omega) | decide | assumption | rfl | (dsimp only; first | omega | (simp only [zl_0]; first | done | omega))), (by (try dsimp only); exact (TXQ.fail (by omega) (by rw [← h_5]; omega) (by rw [← h_5]; exact Or.inl ⟨by omega, by omega⟩) (by omega)))⟩ hP hD (by decide +kernel) rfl hS rfl dX5_part_55
      · refine lv_iload_n hx hb dX5_part_23 rfl (lv_at hl 0 rfl) ?_
        refine lv_bipush (v := 33) hx hb dX5_part_24 (by decide +kernel) ?_
        refine b_icmp_eq hx hb rfl zl_33 (tgt := 35) dX5_part_26 (by decide +kernel) (fun c_39 => ?_) (fun c_39 => ?_)
        · refine lv_iload_n hx hb dX5_part_35 rfl (lv_at hl 2 rfl) ?_
          refine lv_iconst (v := 4) hx hb dX5_part_36 (by decide +kernel) ?_
          refine b_icmp_lt hx hb rfl zl_4 (tgt := 47) dX5_part_37 (by decide +kernel) (fun c_40 => ?_) (fun c_40 => ?_)
          · refine lv_aload_n hx hb dX5_part_47 rfl (lv_at hl 1 rfl) ?_
            refine lv_iload_n hx hb dX5_part_48 rfl (lv_at hl 0 rfl) ?_
            refine lv_iload_n hx hb dX5_part_49 rfl (lv_at hl 2 rfl) ?_
            refine lv_iconst (v := 1) hx hb dX5_part_50 (by decide +kernel) ?_
            refine lv_iadd hx hb dX5_part_51 ?_
            refine lv_topi (fun v_41 ev_41 => ?_)
            have tv_41 : v_41.toInt = a0.toInt + 1 := by rw [ev_41]; exact k_addv rfl zl_1 (by omega) (by omega)
            refine kJi (wr := []) (va_runV (As := [.int r_1, .int v_41]) (rest := []) ⟨hx, hb, hml, hown, hT⟩ (c_X5_opened_of dd ih l D cI aK aV k k0 H.size c1 c2 c3 c4 c5 c6 c7 c0 r_1 v_41 pre0 (by first | omega | decide | assumption | rfl) (by first | omega | decide | assumption | rfl) (by first | omega | decide | assumption | rfl) (by first | omega | decide | assumption | rfl) (by first | omega | decide | assumption | rfl) (by first | omega | decide | assumption | rfl) h_5 (by first | omega | decide | assumption | rfl) (by first | omega | decide | assumption | rfl) (by first | omega | decide | assumption | rfl)) (cwV 2 hT (gV_in mw_499 mw_496 mw_498 mw_p1_14 mw_6) rfl rfl rfl (by decide +kernel) ⟨(by dsimp only; omega), (by dsimp only; omega)⟩) (kRecvX (q0 := 0) (ci := 5) hK hP hD hN hXS hS hA rfl rfl [0, 1] rfl (by decide +kernel)) rfl rfl hl.1 rfl (lv_room (Nat.le_of_ble_eq_true rfl)) dX5_part_52 ⟨Nat.le_of_ble_eq_true rfl, Nat.le_of_ble_eq_true rfl⟩) hP hD hS hA [0, 1] [] rfl rfl (by decide +kernel) (by decide +kernel) ?_
            clear hP hD hS
            intro r_42 u_46 H locs w_43 hP hD hS
            obtain ⟨sc2_44, sc3_45⟩ := u_46
            replace hP : va_P D vwCl [(k, .inr (5, [.ref k0, .int c1, .int sc2_44, .int sc3_45, .int c4, .int c5, .int c6, .int c7])), (k0, .inl (cI, 50, .inl c0))] H := hP
            replace hD : va_D A [(k, .inr (5, [.ref k0, .int c1, .int sc2_44, .int sc3_45, .int c4, .int c5, .int c6, .int c7])), (k0, .inl (cI, 50, .inl c0))] := hD
            have lo_sc2_44 := k_lo sc2_44
            have hi_sc2_44 := k_hi sc2_44
            have lo_sc3_45 := k_lo sc3_45
            have hi_sc3_45 := k_hi sc3_45
            obtain ⟨h_47, h_48, h_49⟩ := w_43
            have h_47 : c2.toInt ≤ sc2_44.toInt := h_47
            have h_48 : sc2_44.toInt ≤ c1.toInt := h_48
            have h_49 : TXQ (tG c0 0 c1) c4 c5 c6 c7 5 (v_41.toInt - 1) c3 0 c2.toInt r_42 sc2_44.toInt sc3_45 := h_49
            have h_49 : TXQ (tG c0 0 c1) c4 c5 c6 c7 5 (v_41.toInt - 1) c3 0 c2.toInt r_42 sc2_44.toInt sc3_45 := h_49
            have lo_r_42 := k_lo r_42
            have hi_r_42 := k_hi r_42
            exact hRet (sc2_44, sc3_45) [0, 1] ⟨(by first | omega | decide | assumption | rfl | (dsimp only; first | omega)), (by first | omega | decide | assumption | rfl | (dsimp only; first | omega)), (by (try dsimp only); exact (by have z := h_49; rw [show v_41.toInt - 1 = a0.toInt from by omega] at z; exact z))⟩ hP hD (by decide +kernel) rfl hS rfl dX5_part_55
          · refine lv_aload_n hx hb dX5_part_40 rfl (lv_at hl 1 rfl) ?_
            refine kJi (wr := [(k0, .inl (cI, 50, .inl c0))]) (va_runV (As := []) (rest := []) ⟨hx, hb, hml, hown, hT⟩ (c_X5_failG l D cI aK aV k k0 H.size c1 c2 c3 c4 c5 c6 c7) (cwV 0 hT (gV_in mw_495 mw_492 mw_494 mw_p1_13 mw_6) rfl rfl rfl (by decide +kernel) ⟨(by dsimp only; omega), (by dsimp only; omega)⟩) (kRecvX (q0 := 0) (ci := 5) hK hP hD hN hXS hS hA rfl rfl [0] rfl (by decide +kernel)) rfl rfl hl.1 rfl (lv_room (Nat.le_of_ble_eq_true rfl)) dX5_part_41 ⟨Nat.le_of_ble_eq_true rfl, Nat.le_of_ble_eq_true rfl⟩) hP hD hS hA [0] [1] rfl rfl (by decide +kernel) (by decide +kernel) ?_
            clear hP hD hS
            intro r_50 sc3_52 H locs w_51 hP hD hS
            replace hP : va_P D vwCl [(k0, .inl (cI, 50, .inl c0)), (k, .inr (5, [.ref k0, .int c1, .int c2, .int sc3_52, .int c4, .int c5, .int c6, .int c7]))] H := hP
            replace hD : va_D A [(k0, .inl (cI, 50, .inl c0)), (k, .inr (5, [.ref k0, .int c1, .int c2, .int sc3_52, .int c4, .int c5, .int c6, .int c7]))] := hD
            have lo_sc3_52 := k_lo sc3_52
            have hi_sc3_52 := k_hi sc3_52
            obtain ⟨hr_50, h_53⟩ := w_51
            have h_53 : sc3_52.toInt = 1 := h_53
            obtain rfl : r_50 = 0 := hr_50.trans (by decide +kernel)
            refine lv_goto (tgt := 55) hx hb dX5_part_44 (by decide +kernel) ?_
            exact hRet (c2, sc3_52) [1, 0] ⟨(by first | omega | (simp only [zl_0]; first | done | omega) | decide | assumption | rfl | (dsimp only; first | omega | (simp only [zl_0]; first | done | omega))), (by first | omega | (simp only [zl_0]; first | done | omega) | decide | assumption | rfl | (dsimp only; first | omega | (simp only [zl_0]; first | done | omega))), (by (try dsimp only); exact (TXQ.fail (by omega) (by rw [← h_5]; omega) (by rw [← h_5]; exact Or.inl ⟨by omega, by omega⟩) (by omega)))⟩ hP hD (by decide +kernel) rfl hS rfl dX5_part_55
        · refine lv_iload_n hx hb dX5_part_29 rfl (lv_at hl 0 rfl) ?_
          refine lv_bipush (v := 40) hx hb dX5_part_30 (by decide +kernel) ?_
          refine b_icmp_ne hx hb rfl zl_40 (tgt := 56) dX5_part_32 (by decide +kernel) (fun c_54 => ?_) (fun c_54 => ?_)
          · refine lv_aload_n hx hb dX5_part_56 rfl (lv_at hl 1 rfl) ?_
            refine lv_iload_n hx hb dX5_part_57 rfl (lv_at hl 0 rfl) ?_
            refine kJi (wr := [(k0, .inl (cI, 50, .inl c0))]) (va_runV (As := [.int r_1]) (rest := []) ⟨hx, hb, hml, hown, hT⟩ (c_X5_nameOfG l D cI aK aV k k0 H.size c1 c2 c3 c4 c5 c6 c7 r_1 (by first | omega | decide | assumption | rfl)) (cwV 1 hT (gV_in mw_506 mw_503 mw_505 mw_p1_15 mw_6) rfl rfl rfl (by decide +kernel) ⟨(by dsimp only; omega), (by dsimp only; omega)⟩) (kRecvX (q0 := 0) (ci := 5) hK hP hD hN hXS hS hA rfl rfl [0] rfl (by decide +kernel)) rfl rfl hl.1 rfl (lv_room (Nat.le_of_ble_eq_true rfl)) dX5_part_58 ⟨Nat.le_of_ble_eq_true rfl, Nat.le_of_ble_eq_true rfl⟩) hP hD hS hA [0] [1] rfl rfl (by decide +kernel) (by decide +kernel) ?_
            clear hP hD hS
            intro r_55 u_57 H locs w_56 hP hD hS
            replace hP : va_P D vwCl [(k0, .inl (cI, 50, .inl c0)), (k, .inr (5, [.ref k0, .int c1, .int c2, .int c3, .int c4, .int c5, .int c6, .int c7]))] H := hP
            replace hD : va_D A [(k0, .inl (cI, 50, .inl c0)), (k, .inr (5, [.ref k0, .int c1, .int c2, .int c3, .int c4, .int c5, .int c6, .int c7]))] := hD
            rcases w_56 with ⟨hr_55, h_58⟩ | ⟨h_59, h_60⟩
            · have h_58 : r_1.toInt < 0 := h_58
              obtain rfl : r_55 = (-1) := hr_55.trans (by decide +kernel)
              refine lv_istore_n (lv' := [(3, .int (-1)), (2, .int r_1), (0, .ref k), (1, .int a0)]) hx hb dX5_part_61 rfl hl (by decide +kernel) rfl ?_
              clear hl
              intro ls hl
              refine lv_iload_n hx hb dX5_part_62 rfl (lv_at hl 0 rfl) ?_
              refine b_if_ge hx hb zl_m1 (tgt := 71) dX5_part_63 (by decide +kernel) (fun c_61 => by exfalso; omega) (fun c_61 => ?_)
              refine lv_aload_n hx hb dX5_part_66 rfl (lv_at hl 2 rfl) ?_
              refine kJi (wr := [(k0, .inl (cI, 50, .inl c0))]) (va_runV (As := []) (rest := []) ⟨hx, hb, hml, hown, hT⟩ (c_X5_failG l D cI aK aV k k0 H.size c1 c2 c3 c4 c5 c6 c7) (cwV 0 hT (gV_in mw_495 mw_492 mw_494 mw_p1_13 mw_6) rfl rfl rfl (by decide +kernel) ⟨(by dsimp only; omega), (by dsimp only; omega)⟩) (kRecvX (q0 := 1) (ci := 5) hK hP hD hN hXS hS hA rfl rfl [1] rfl (by decide +kernel)) rfl rfl hl.1 rfl (lv_room (Nat.le_of_ble_eq_true rfl)) dX5_part_67 ⟨Nat.le_of_ble_eq_true rfl, Nat.le_of_ble_eq_true rfl⟩) hP hD hS hA [1] [0] rfl rfl (by decide +kernel) (by decide +kernel) ?_
              clear hP hD hS
              intro r_62 sc3_64 H locs w_63 hP hD hS
              replace hP : va_P D vwCl [(k0, .inl (cI, 50, .inl c0)), (k, .inr (5, [.ref k0, .int c1, .int c2, .int sc3_64, .int c4, .int c5, .int c6, .int c7]))] H := hP
              replace hD : va_D A [(k0, .inl (cI, 50, .inl c0)), (k, .inr (5, [.ref k0, .int c1, .int c2, .int sc3_64, .int c4, .int c5, .int c6, .int c7]))] := hD
              have lo_sc3_64 := k_lo sc3_64
              have hi_sc3_64 := k_hi sc3_64
              obtain ⟨hr_62, h_65⟩ := w_63
              have h_65 : sc3_64.toInt = 1 := h_65
              obtain rfl : r_62 = 0 := hr_62.trans (by decide +kernel)
              exact hRet (c2, sc3_64) [1, 0] ⟨(by first | omega | (simp only [zl_0]; first | done | omega) | decide | assumption | rfl | (dsimp only; first | omega | (simp only [zl_0]; first | done | omega))), (by first | omega | (simp only [zl_0]; first | done | omega) | decide | assumption | rfl | (dsimp only; first | omega | (simp only [zl_0]; first | done | omega))), (by (try dsimp only); exact (TXQ.fail (by omega) (by rw [← h_5]; omega) (by rw [← h_5]; exact Or.inr ⟨by omega, by omega, by omega, by first | omega | (rw [nm_neg (by omega)]; decide)⟩) (by omega)))⟩ hP hD (by decide +kernel) rfl hS rfl dX5_part_70
            · have h_59 : 0 ≤ r_1.toInt := h_59
              have h_60 : r_55.toInt = tx_nm c4 r_1 := h_60
              have lo_r_55 := k_lo r_55
              have hi_r_55 := k_hi r_55
              refine lv_istore_n (lv' := [(3, .int r_55), (2, .int r_1), (0, .ref k), (1, .int a0)]) hx hb dX5_part_61 rfl hl (by decide +kernel) rfl ?_
              clear hl
              intro ls hl
              refine lv_iload_n hx hb dX5_part_62 rfl (lv_at hl 0 rfl) ?_
              refine b_if_ge hx hb rfl (tgt := 71) dX5_part_63 (by decide +kernel) (fun c_66 => ?_) (fun c_66 => ?_)
              · refine lv_aload_n hx hb dX5_part_71 rfl (lv_at hl 2 rfl) ?_
                refine lv_dup hx hb dX5_part_72 rfl ?_
                refine va_get (D := D) (ci := 5) (v := .int c2) (C := RX5) (T := TX5) (N := 8) hx hb hT giX5 hown hK hP 1 rfl rfl 2 (by decide +kernel) (hT (Cond.fieldLink RX5 19 "DesertWire$Reader" "at" "I") mw_170) (fun _ h9 => h9) rfl dX5_part_73 ?_
                refine lv_iconst (v := 1) hx hb dX5_part_76 (by decide +kernel) ?_
                refine lv_iadd hx hb dX5_part_77 ?_
                refine lv_topi (fun v_67 ev_67 => ?_)
                have tv_67 : v_67.toInt = c2.toInt + 1 := by rw [ev_67]; exact k_addv rfl zl_1 (by omega) (by omega)
                refine va_put (D := D) (ci := 5) (v := .int v_67) (ty := .int) (C := RX5) (T := TX5) (N := 8) hx hb hT giX5 tyX5 tyX5_ok nmX5 hown hK hP hD hS 1 rfl rfl 2 (by decide +kernel) (hT (Cond.fieldLink RX5 19 "DesertWire$Reader" "at" "I") mw_170) (fun _ h9 => h9) rfl (by decide +kernel) rfl rfl (Nat.le_of_ble_eq_true rfl) dX5_part_78 ?_
                clear hP hD hS
                intro H locs hP hD hS
                replace hP : va_P D vwCl [(k0, .inl (cI, 50, .inl c0)), (k, .inr (5, [.ref k0, .int c1, .int v_67, .int c3, .int c4, .int c5, .int c6, .int c7]))] H := hP
                replace hD : va_D A [(k0, .inl (cI, 50, .inl c0)), (k, .inr (5, [.ref k0, .int c1, .int v_67, .int c3, .int c4, .int c5, .int c6, .int c7]))] := hD
                refine lv_iload_n hx hb dX5_part_81 rfl (lv_at hl 0 rfl) ?_
                refine b_if_ne hx hb rfl (tgt := 92) dX5_part_82 (by decide +kernel) (fun c_68 => ?_) (fun c_68 => ?_)
                · refine lv_iload_n hx hb dX5_part_92 rfl (lv_at hl 0 rfl) ?_
                  refine lv_iconst (v := 1) hx hb dX5_part_93 (by decide +kernel) ?_
                  refine b_icmp_ne hx hb rfl zl_1 (tgt := 104) dX5_part_94 (by decide +kernel) (fun c_69 => ?_) (fun c_69 => ?_)
                  · refine lv_aload_n hx hb dX5_part_104 rfl (lv_at hl 2 rfl) ?_
                    refine va_get (D := D) (ci := 5) (v := .int c7) (C := RX5) (T := TX5) (N := 8) hx hb hT giX5 hown hK hP 1 rfl rfl 7 (by decide +kernel) (hT (Cond.fieldLink RX5 35 "DesertWire$Reader" "third" "I") mw_175) (fun _ h9 => h9) rfl dX5_part_105 ?_
                    exact hRet (v_67, c3) [1, 0] ⟨(by first | omega | decide | assumption | rfl | (dsimp only; first | omega)), (by first | omega | decide | assumption | rfl | (dsimp only; first | omega)), (by (try dsimp only); exact (by rw [tv_67]; exact TXQ.name (by omega) (by rw [← h_5]; omega) (by rw [← h_5]; exact ⟨by omega, by omega, by omega⟩) (by rw [← h_5]; exact Or.inr (Or.inr ⟨by omega, rfl⟩)) (by omega)))⟩ hP hD (by decide +kernel) rfl hS rfl dX5_part_108
                  · refine lv_aload_n hx hb dX5_part_97 rfl (lv_at hl 2 rfl) ?_
                    refine va_get (D := D) (ci := 5) (v := .int c6) (C := RX5) (T := TX5) (N := 8) hx hb hT giX5 hown hK hP 1 rfl rfl 6 (by decide +kernel) (hT (Cond.fieldLink RX5 32 "DesertWire$Reader" "second" "I") mw_174) (fun _ h9 => h9) rfl dX5_part_98 ?_
                    refine lv_goto (tgt := 108) hx hb dX5_part_101 (by decide +kernel) ?_
                    exact hRet (v_67, c3) [1, 0] ⟨(by first | omega | decide | assumption | rfl | (dsimp only; first | omega)), (by first | omega | decide | assumption | rfl | (dsimp only; first | omega)), (by (try dsimp only); exact (by rw [tv_67]; exact TXQ.name (by omega) (by rw [← h_5]; omega) (by rw [← h_5]; exact ⟨by omega, by omega, by omega⟩) (by rw [← h_5]; exact Or.inr (Or.inl ⟨by omega, rfl⟩)) (by omega)))⟩ hP hD (by decide +kernel) rfl hS rfl dX5_part_108
                · refine lv_aload_n hx hb dX5_part_85 rfl (lv_at hl 2 rfl) ?_
                  refine va_get (D := D) (ci := 5) (v := .int c5) (C := RX5) (T := TX5) (N := 8) hx hb hT giX5 hown hK hP 1 rfl rfl 5 (by decide +kernel) (hT (Cond.fieldLink RX5 29 "DesertWire$Reader" "first" "I") mw_173) (fun _ h9 => h9) rfl dX5_part_86 ?_
                  refine lv_goto (tgt := 108) hx hb dX5_part_89 (by decide +kernel) ?_
                  exact hRet (v_67, c3) [1, 0] ⟨(by first | omega | decide | assumption | rfl | (dsimp only; first | omega)), (by first | omega | decide | assumption | rfl | (dsimp only; first | omega)), (by (try dsimp only); exact (by rw [tv_67]; exact TXQ.name (by omega) (by rw [← h_5]; omega) (by rw [← h_5]; exact ⟨by omega, by omega, by omega⟩) (by rw [← h_5]; exact Or.inl ⟨by omega, rfl⟩) (by omega)))⟩ hP hD (by decide +kernel) rfl hS rfl dX5_part_108
              · refine lv_aload_n hx hb dX5_part_66 rfl (lv_at hl 2 rfl) ?_
                refine kJi (wr := [(k0, .inl (cI, 50, .inl c0))]) (va_runV (As := []) (rest := []) ⟨hx, hb, hml, hown, hT⟩ (c_X5_failG l D cI aK aV k k0 H.size c1 c2 c3 c4 c5 c6 c7) (cwV 0 hT (gV_in mw_495 mw_492 mw_494 mw_p1_13 mw_6) rfl rfl rfl (by decide +kernel) ⟨(by dsimp only; omega), (by dsimp only; omega)⟩) (kRecvX (q0 := 1) (ci := 5) hK hP hD hN hXS hS hA rfl rfl [1] rfl (by decide +kernel)) rfl rfl hl.1 rfl (lv_room (Nat.le_of_ble_eq_true rfl)) dX5_part_67 ⟨Nat.le_of_ble_eq_true rfl, Nat.le_of_ble_eq_true rfl⟩) hP hD hS hA [1] [0] rfl rfl (by decide +kernel) (by decide +kernel) ?_
                clear hP hD hS
                intro r_70 sc3_72 H locs w_71 hP hD hS
                replace hP : va_P D vwCl [(k0, .inl (cI, 50, .inl c0)), (k, .inr (5, [.ref k0, .int c1, .int c2, .int sc3_72, .int c4, .int c5, .int c6, .int c7]))] H := hP
                replace hD : va_D A [(k0, .inl (cI, 50, .inl c0)), (k, .inr (5, [.ref k0, .int c1, .int c2, .int sc3_72, .int c4, .int c5, .int c6, .int c7]))] := hD
                have lo_sc3_72 := k_lo sc3_72
                have hi_sc3_72 := k_hi sc3_72
                obtain ⟨hr_70, h_73⟩ := w_71
                have h_73 : sc3_72.toInt = 1 := h_73
                obtain rfl : r_70 = 0 := hr_70.trans (by decide +kernel)
                exact hRet (c2, sc3_72) [1, 0] ⟨(by first | omega | (simp only [zl_0]; first | done | omega) | decide | assumption | rfl | (dsimp only; first | omega | (simp only [zl_0]; first | done | omega))), (by first | omega | (simp only [zl_0]; first | done | omega) | decide | assumption | rfl | (dsimp only; first | omega | (simp only [zl_0]; first | done | omega))), (by (try dsimp only); exact (TXQ.fail (by omega) (by rw [← h_5]; omega) (by rw [← h_5]; exact Or.inr ⟨by omega, by omega, by omega, by first | omega | (rw [nm_neg (by omega)]; decide)⟩) (by omega)))⟩ hP hD (by decide +kernel) rfl hS rfl dX5_part_70
          · refine lv_iload_n hx hb dX5_part_35 rfl (lv_at hl 2 rfl) ?_
            refine lv_iconst (v := 4) hx hb dX5_part_36 (by decide +kernel) ?_
            refine b_icmp_lt hx hb rfl zl_4 (tgt := 47) dX5_part_37 (by decide +kernel) (fun c_74 => ?_) (fun c_74 => ?_)
            · refine lv_aload_n hx hb dX5_part_47 rfl (lv_at hl 1 rfl) ?_
              refine lv_iload_n hx hb dX5_part_48 rfl (lv_at hl 0 rfl) ?_
              refine lv_iload_n hx hb dX5_part_49 rfl (lv_at hl 2 rfl) ?_
              refine lv_iconst (v := 1) hx hb dX5_part_50 (by decide +kernel) ?_
              refine lv_iadd hx hb dX5_part_51 ?_
              refine lv_topi (fun v_75 ev_75 => ?_)
              have tv_75 : v_75.toInt = a0.toInt + 1 := by rw [ev_75]; exact k_addv rfl zl_1 (by omega) (by omega)
              refine kJi (wr := []) (va_runV (As := [.int r_1, .int v_75]) (rest := []) ⟨hx, hb, hml, hown, hT⟩ (c_X5_opened_of dd ih l D cI aK aV k k0 H.size c1 c2 c3 c4 c5 c6 c7 c0 r_1 v_75 pre0 (by first | omega | decide | assumption | rfl) (by first | omega | decide | assumption | rfl) (by first | omega | decide | assumption | rfl) (by first | omega | decide | assumption | rfl) (by first | omega | decide | assumption | rfl) (by first | omega | decide | assumption | rfl) h_5 (by first | omega | decide | assumption | rfl) (by first | omega | decide | assumption | rfl) (by first | omega | decide | assumption | rfl)) (cwV 2 hT (gV_in mw_499 mw_496 mw_498 mw_p1_14 mw_6) rfl rfl rfl (by decide +kernel) ⟨(by dsimp only; omega), (by dsimp only; omega)⟩) (kRecvX (q0 := 0) (ci := 5) hK hP hD hN hXS hS hA rfl rfl [0, 1] rfl (by decide +kernel)) rfl rfl hl.1 rfl (lv_room (Nat.le_of_ble_eq_true rfl)) dX5_part_52 ⟨Nat.le_of_ble_eq_true rfl, Nat.le_of_ble_eq_true rfl⟩) hP hD hS hA [0, 1] [] rfl rfl (by decide +kernel) (by decide +kernel) ?_
              clear hP hD hS
              intro r_76 u_80 H locs w_77 hP hD hS
              obtain ⟨sc2_78, sc3_79⟩ := u_80
              replace hP : va_P D vwCl [(k, .inr (5, [.ref k0, .int c1, .int sc2_78, .int sc3_79, .int c4, .int c5, .int c6, .int c7])), (k0, .inl (cI, 50, .inl c0))] H := hP
              replace hD : va_D A [(k, .inr (5, [.ref k0, .int c1, .int sc2_78, .int sc3_79, .int c4, .int c5, .int c6, .int c7])), (k0, .inl (cI, 50, .inl c0))] := hD
              have lo_sc2_78 := k_lo sc2_78
              have hi_sc2_78 := k_hi sc2_78
              have lo_sc3_79 := k_lo sc3_79
              have hi_sc3_79 := k_hi sc3_79
              obtain ⟨h_81, h_82, h_83⟩ := w_77
              have h_81 : c2.toInt ≤ sc2_78.toInt := h_81
              have h_82 : sc2_78.toInt ≤ c1.toInt := h_82
              have h_83 : TXQ (tG c0 0 c1) c4 c5 c6 c7 5 (v_75.toInt - 1) c3 0 c2.toInt r_76 sc2_78.toInt sc3_79 := h_83
              have h_83 : TXQ (tG c0 0 c1) c4 c5 c6 c7 5 (v_75.toInt - 1) c3 0 c2.toInt r_76 sc2_78.toInt sc3_79 := h_83
              have lo_r_76 := k_lo r_76
              have hi_r_76 := k_hi r_76
              exact hRet (sc2_78, sc3_79) [0, 1] ⟨(by first | omega | decide | assumption | rfl | (dsimp only; first | omega)), (by first | omega | decide | assumption | rfl | (dsimp only; first | omega)), (by (try dsimp only); exact (by have z := h_83; rw [show v_75.toInt - 1 = a0.toInt from by omega] at z; exact z))⟩ hP hD (by decide +kernel) rfl hS rfl dX5_part_55
            · refine lv_aload_n hx hb dX5_part_40 rfl (lv_at hl 1 rfl) ?_
              refine kJi (wr := [(k0, .inl (cI, 50, .inl c0))]) (va_runV (As := []) (rest := []) ⟨hx, hb, hml, hown, hT⟩ (c_X5_failG l D cI aK aV k k0 H.size c1 c2 c3 c4 c5 c6 c7) (cwV 0 hT (gV_in mw_495 mw_492 mw_494 mw_p1_13 mw_6) rfl rfl rfl (by decide +kernel) ⟨(by dsimp only; omega), (by dsimp only; omega)⟩) (kRecvX (q0 := 0) (ci := 5) hK hP hD hN hXS hS hA rfl rfl [0] rfl (by decide +kernel)) rfl rfl hl.1 rfl (lv_room (Nat.le_of_ble_eq_true rfl)) dX5_part_41 ⟨Nat.le_of_ble_eq_true rfl, Nat.le_of_ble_eq_true rfl⟩) hP hD hS hA [0] [1] rfl rfl (by decide +kernel) (by decide +kernel) ?_
              clear hP hD hS
              intro r_84 sc3_86 H locs w_85 hP hD hS
              replace hP : va_P D vwCl [(k0, .inl (cI, 50, .inl c0)), (k, .inr (5, [.ref k0, .int c1, .int c2, .int sc3_86, .int c4, .int c5, .int c6, .int c7]))] H := hP
              replace hD : va_D A [(k0, .inl (cI, 50, .inl c0)), (k, .inr (5, [.ref k0, .int c1, .int c2, .int sc3_86, .int c4, .int c5, .int c6, .int c7]))] := hD
              have lo_sc3_86 := k_lo sc3_86
              have hi_sc3_86 := k_hi sc3_86
              obtain ⟨hr_84, h_87⟩ := w_85
              have h_87 : sc3_86.toInt = 1 := h_87
              obtain rfl : r_84 = 0 := hr_84.trans (by decide +kernel)
              refine lv_goto (tgt := 55) hx hb dX5_part_44 (by decide +kernel) ?_
              exact hRet (c2, sc3_86) [1, 0] ⟨(by first | omega | (simp only [zl_0]; first | done | omega) | decide | assumption | rfl | (dsimp only; first | omega | (simp only [zl_0]; first | done | omega))), (by first | omega | (simp only [zl_0]; first | done | omega) | decide | assumption | rfl | (dsimp only; first | omega | (simp only [zl_0]; first | done | omega))), (by (try dsimp only); exact (TXQ.fail (by omega) (by rw [← h_5]; omega) (by rw [← h_5]; exact Or.inl ⟨by omega, by omega⟩) (by omega)))⟩ hP hD (by decide +kernel) rfl hS rfl dX5_part_55
  · have h_9 : c3.toInt ≠ 0 := h_9
    obtain rfl : r_1 = (-1) := hr_1.trans (by decide +kernel)
    refine lv_istore_n (lv' := [(2, .int (-1)), (0, .ref k), (1, .int a0)]) hx hb dX5_part_4 rfl hl (by decide +kernel) rfl ?_
    clear hl
    intro ls hl
    refine lv_iload_n hx hb dX5_part_5 rfl (lv_at hl 0 rfl) ?_
    refine kJi (wr := [(k, .inr (5, [.ref k0, .int c1, .int c2, .int c3, .int c4, .int c5, .int c6, .int c7])), (k0, .inl (cI, 50, .inl c0))]) (va_runS (As := [.int (-1)]) (rest := []) ⟨hx, hb, hml, hown, hT⟩ (c_X5_isDigitG l D cI aK aV H.size (-1)) (cwS 1 hT (gS_in mw_487 mw_485 mw_486 mw_6) rfl rfl rfl (by decide +kernel) ⟨(by dsimp only; omega), (by dsimp only; omega)⟩) (kStatX hK hP hD hN hXS hS hA [] rfl (by decide +kernel)) rfl rfl hl.1 rfl (lv_room (Nat.le_of_ble_eq_true rfl)) dX5_part_6 ⟨Nat.le_of_ble_eq_true rfl, Nat.le_of_ble_eq_true rfl⟩) hP hD hS hA [] [0, 1] rfl rfl (by decide +kernel) (by decide +kernel) ?_
    clear hP hD hS
    intro r_88 u_90 H locs w_89 hP hD hS
    replace hP : va_P D vwCl [(k, .inr (5, [.ref k0, .int c1, .int c2, .int c3, .int c4, .int c5, .int c6, .int c7])), (k0, .inl (cI, 50, .inl c0))] H := hP
    replace hD : va_D A [(k, .inr (5, [.ref k0, .int c1, .int c2, .int c3, .int c4, .int c5, .int c6, .int c7])), (k0, .inl (cI, 50, .inl c0))] := hD
    rcases w_89 with ⟨hr_88, h_91, h_92⟩ | ⟨hr_88, h_93⟩
    · (try simp only [zl_m1] at h_91 h_92); exfalso; omega
    · try simp only [zl_m1] at h_93
      obtain rfl : r_88 = 0 := hr_88.trans (by decide +kernel)
      refine b_if_eq hx hb zl_0 (tgt := 17) dX5_part_9 (by decide +kernel) (fun c_94 => ?_) (fun c_94 => by exfalso; omega)
      refine lv_iload_n hx hb dX5_part_17 rfl (lv_at hl 0 rfl) ?_
      refine lv_bipush (v := 45) hx hb dX5_part_18 (by decide +kernel) ?_
      refine b_icmp_eq hx hb zl_m1 zl_45 (tgt := 35) dX5_part_20 (by decide +kernel) (fun c_95 => by exfalso; omega) (fun c_95 => ?_)
      refine lv_iload_n hx hb dX5_part_23 rfl (lv_at hl 0 rfl) ?_
      refine lv_bipush (v := 33) hx hb dX5_part_24 (by decide +kernel) ?_
      refine b_icmp_eq hx hb zl_m1 zl_33 (tgt := 35) dX5_part_26 (by decide +kernel) (fun c_96 => by exfalso; omega) (fun c_96 => ?_)
      refine lv_iload_n hx hb dX5_part_29 rfl (lv_at hl 0 rfl) ?_
      refine lv_bipush (v := 40) hx hb dX5_part_30 (by decide +kernel) ?_
      refine b_icmp_ne hx hb zl_m1 zl_40 (tgt := 56) dX5_part_32 (by decide +kernel) (fun c_97 => ?_) (fun c_97 => by exfalso; omega)
      refine lv_aload_n hx hb dX5_part_56 rfl (lv_at hl 1 rfl) ?_
      refine lv_iload_n hx hb dX5_part_57 rfl (lv_at hl 0 rfl) ?_
      refine kJi (wr := [(k0, .inl (cI, 50, .inl c0))]) (va_runV (As := [.int (-1)]) (rest := []) ⟨hx, hb, hml, hown, hT⟩ (c_X5_nameOfG l D cI aK aV k k0 H.size c1 c2 c3 c4 c5 c6 c7 (-1) (by first | omega | (simp only [zl_m1]; first | done | omega) | decide | assumption | rfl)) (cwV 1 hT (gV_in mw_506 mw_503 mw_505 mw_p1_15 mw_6) rfl rfl rfl (by decide +kernel) ⟨(by dsimp only; omega), (by dsimp only; omega)⟩) (kRecvX (q0 := 0) (ci := 5) hK hP hD hN hXS hS hA rfl rfl [0] rfl (by decide +kernel)) rfl rfl hl.1 rfl (lv_room (Nat.le_of_ble_eq_true rfl)) dX5_part_58 ⟨Nat.le_of_ble_eq_true rfl, Nat.le_of_ble_eq_true rfl⟩) hP hD hS hA [0] [1] rfl rfl (by decide +kernel) (by decide +kernel) ?_
      clear hP hD hS
      intro r_98 u_100 H locs w_99 hP hD hS
      replace hP : va_P D vwCl [(k0, .inl (cI, 50, .inl c0)), (k, .inr (5, [.ref k0, .int c1, .int c2, .int c3, .int c4, .int c5, .int c6, .int c7]))] H := hP
      replace hD : va_D A [(k0, .inl (cI, 50, .inl c0)), (k, .inr (5, [.ref k0, .int c1, .int c2, .int c3, .int c4, .int c5, .int c6, .int c7]))] := hD
      rcases w_99 with ⟨hr_98, h_101⟩ | ⟨h_102, h_103⟩
      · try simp only [zl_m1] at h_101
        obtain rfl : r_98 = (-1) := hr_98.trans (by decide +kernel)
        refine lv_istore_n (lv' := [(3, .int (-1)), (2, .int (-1)), (0, .ref k), (1, .int a0)]) hx hb dX5_part_61 rfl hl (by decide +kernel) rfl ?_
        clear hl
        intro ls hl
        refine lv_iload_n hx hb dX5_part_62 rfl (lv_at hl 0 rfl) ?_
        refine b_if_ge hx hb zl_m1 (tgt := 71) dX5_part_63 (by decide +kernel) (fun c_104 => by exfalso; omega) (fun c_104 => ?_)
        refine lv_aload_n hx hb dX5_part_66 rfl (lv_at hl 2 rfl) ?_
        refine kJi (wr := [(k0, .inl (cI, 50, .inl c0))]) (va_runV (As := []) (rest := []) ⟨hx, hb, hml, hown, hT⟩ (c_X5_failG l D cI aK aV k k0 H.size c1 c2 c3 c4 c5 c6 c7) (cwV 0 hT (gV_in mw_495 mw_492 mw_494 mw_p1_13 mw_6) rfl rfl rfl (by decide +kernel) ⟨(by dsimp only; omega), (by dsimp only; omega)⟩) (kRecvX (q0 := 1) (ci := 5) hK hP hD hN hXS hS hA rfl rfl [1] rfl (by decide +kernel)) rfl rfl hl.1 rfl (lv_room (Nat.le_of_ble_eq_true rfl)) dX5_part_67 ⟨Nat.le_of_ble_eq_true rfl, Nat.le_of_ble_eq_true rfl⟩) hP hD hS hA [1] [0] rfl rfl (by decide +kernel) (by decide +kernel) ?_
        clear hP hD hS
        intro r_105 sc3_107 H locs w_106 hP hD hS
        replace hP : va_P D vwCl [(k0, .inl (cI, 50, .inl c0)), (k, .inr (5, [.ref k0, .int c1, .int c2, .int sc3_107, .int c4, .int c5, .int c6, .int c7]))] H := hP
        replace hD : va_D A [(k0, .inl (cI, 50, .inl c0)), (k, .inr (5, [.ref k0, .int c1, .int c2, .int sc3_107, .int c4, .int c5, .int c6, .int c7]))] := hD
        have lo_sc3_107 := k_lo sc3_107
        have hi_sc3_107 := k_hi sc3_107
        obtain ⟨hr_105, h_108⟩ := w_106
        have h_108 : sc3_107.toInt = 1 := h_108
        obtain rfl : r_105 = 0 := hr_105.trans (by decide +kernel)
        exact hRet (c2, sc3_107) [1, 0] ⟨(by first | omega | (simp only [zl_0]; first | done | omega) | decide | assumption | rfl | (dsimp only; first | omega | (simp only [zl_0]; first | done | omega))), (by first | omega | (simp only [zl_0]; first | done | omega) | decide | assumption | rfl | (dsimp only; first | omega | (simp only [zl_0]; first | done | omega))), (by (try dsimp only); exact (TXQ.bad (by omega) (by omega)))⟩ hP hD (by decide +kernel) rfl hS rfl dX5_part_70
      · (try simp only [zl_m1] at h_102 h_103); exfalso; omega
set_option maxHeartbeats 4000000 in
set_option maxRecDepth 100000 in
theorem c_X5_product_of (dd : Nat) (ih : RDP dd) (l : Launch) (D : va_G) (cI : ClassId) (aK aV : Nat → Nat) (k k0 : Nat) (sz : Nat) (c1 : Int32) (c2 : Int32) (c3 : Int32) (c4 : Int32) (c5 : Int32) (c6 : Int32) (c7 : Int32) (c0 : Nat → Int32) (a0 : Int32) (pre0 : BYT c0 0) (pre1 : c1.toInt ≤ 50) (pre2 : 0 ≤ c2.toInt) (pre3 : c2.toInt ≤ c1.toInt) (pre4 : 0 ≤ a0.toInt) (pre5 : a0.toInt ≤ 4) (pre6 : (4 - a0.toInt).toNat < dd + 1)  : Met l yX5_product (gW yX5_product cX5_product 6 (some .int)) ({ frames := 16 * (dd + 1) + 7, cells := 0, slots := 0, locals := 1024 * (dd + 1) + 448 } : Room) (kPreX D cI aK aV [.ref k, .int a0] [(k, .inr (5, [.ref k0, .int c1, .int c2, .int c3, .int c4, .int c5, .int c6, .int c7])), (k0, .inl (cI, 50, .inl c0))] sz) (va_Qi (fun (r : Int32) (u : Int32 × Int32) => c2.toInt ≤ u.1.toInt ∧ u.1.toInt ≤ c1.toInt ∧ TXQ (tG c0 0 c1) c4 c5 c6 c7 4 a0.toInt c3 0 c2.toInt r u.1.toInt u.2) (fun u t => kWd D cI (va_A [(k, .inr (5, [.ref k0, .int c1, .int c2, .int c3, .int c4, .int c5, .int c6, .int c7])), (k0, .inl (cI, 50, .inl c0))] sz) [(k, .inr (5, [.ref k0, .int c1, .int u.1, .int u.2, .int c4, .int c5, .int c6, .int c7])), (k0, .inl (cI, 50, .inl c0))] t) (va_A [(k, .inr (5, [.ref k0, .int c1, .int c2, .int c3, .int c4, .int c5, .int c6, .int c7])), (k0, .inl (cI, 50, .inl c0))] sz)) 0 0 (va_A [(k, .inr (5, [.ref k0, .int c1, .int c2, .int c3, .int c4, .int c5, .int c6, .int c7])), (k0, .inl (cI, 50, .inl c0))] sz) := by
  refine kMetIX (own := RX5) (by decide +kernel) rfl (Nat.le_of_ble_eq_true rfl) ?_
  intro p e s m args below meth c hx hb hT hown hname hml A Q hK hP hD hS hA hN hXS hRet ls hl
  have hl : lv_has ls 6 [(0, .ref k), (1, .int a0)] := hl
  have lo_a0 := k_lo a0
  have hi_a0 := k_hi a0
  have lo_c1 := k_lo c1
  have hi_c1 := k_hi c1
  have lo_c2 := k_lo c2
  have hi_c2 := k_hi c2
  have lo_c3 := k_lo c3
  have hi_c3 := k_hi c3
  have lo_c4 := k_lo c4
  have hi_c4 := k_hi c4
  have lo_c5 := k_lo c5
  have hi_c5 := k_hi c5
  have lo_c6 := k_lo c6
  have hi_c6 := k_hi c6
  have lo_c7 := k_lo c7
  have hi_c7 := k_hi c7
  have pre0 : BYT c0 0 := pre0
  refine lv_aload_n hx hb dX5_product_0 rfl (lv_at hl 0 rfl) ?_
  refine lv_iload_n hx hb dX5_product_1 rfl (lv_at hl 1 rfl) ?_
  refine kJi (wr := []) (va_runV (As := [.int a0]) (rest := []) ⟨hx, hb, hml, hown, hT⟩ (c_X5_part_of dd ih l D cI aK aV k k0 s.heap.size c1 c2 c3 c4 c5 c6 c7 c0 a0 pre0 (by first | omega | decide | assumption | rfl) (by first | omega | decide | assumption | rfl) (by first | omega | decide | assumption | rfl) (by first | omega | decide | assumption | rfl) (by first | omega | decide | assumption | rfl) (by first | omega | decide | assumption | rfl)) (cwV 1 hT (gV_in mw_480 mw_477 mw_479 mw_p1_10 mw_6) rfl rfl rfl (by decide +kernel) ⟨(by dsimp only; omega), (by dsimp only; omega)⟩) (kRecvX (q0 := 0) (ci := 5) hK hP hD hN hXS hS hA rfl rfl [0, 1] rfl (by decide +kernel)) rfl rfl hl.1 rfl (lv_room (Nat.le_of_ble_eq_true rfl)) dX5_product_2 ⟨Nat.le_of_ble_eq_true rfl, Nat.le_of_ble_eq_true rfl⟩) hP hD hS hA [0, 1] [] rfl rfl (by decide +kernel) (by decide +kernel) ?_
  clear hP hD hS
  intro r_1 u_5 H locs w_2 hP hD hS
  obtain ⟨sc2_3, sc3_4⟩ := u_5
  replace hP : va_P D vwCl [(k, .inr (5, [.ref k0, .int c1, .int sc2_3, .int sc3_4, .int c4, .int c5, .int c6, .int c7])), (k0, .inl (cI, 50, .inl c0))] H := hP
  replace hD : va_D A [(k, .inr (5, [.ref k0, .int c1, .int sc2_3, .int sc3_4, .int c4, .int c5, .int c6, .int c7])), (k0, .inl (cI, 50, .inl c0))] := hD
  have lo_sc2_3 := k_lo sc2_3
  have hi_sc2_3 := k_hi sc2_3
  have lo_sc3_4 := k_lo sc3_4
  have hi_sc3_4 := k_hi sc3_4
  obtain ⟨h_6, h_7, h_8⟩ := w_2
  have h_6 : c2.toInt ≤ sc2_3.toInt := h_6
  have h_7 : sc2_3.toInt ≤ c1.toInt := h_7
  have h_8 : TXQ (tG c0 0 c1) c4 c5 c6 c7 5 a0.toInt c3 0 c2.toInt r_1 sc2_3.toInt sc3_4 := h_8
  have h_8 : TXQ (tG c0 0 c1) c4 c5 c6 c7 5 a0.toInt c3 0 c2.toInt r_1 sc2_3.toInt sc3_4 := h_8
  have lo_r_1 := k_lo r_1
  have hi_r_1 := k_hi r_1
  refine lv_istore_n (lv' := [(2, .int r_1), (0, .ref k), (1, .int a0)]) hx hb dX5_product_5 rfl hl (by decide +kernel) rfl ?_
  clear hl
  intro ls hl
  refine lv_iconst (v := 0) hx hb dX5_product_6 (by decide +kernel) ?_
  refine lv_istore_n (lv' := [(3, .int 0), (2, .int r_1), (0, .ref k), (1, .int a0)]) hx hb dX5_product_7 rfl hl (by decide +kernel) rfl ?_
  clear hl
  intro ls hl
  have hloop_8 : ∀ (fu_ : Nat) (l8_2 : Int32) (l8_3 : Int32) (f8_k2 : Int32) (f8_k3 : Int32), 0 ≤ l8_3.toInt → sc2_3.toInt ≤ f8_k2.toInt → l8_3.toInt ≤ f8_k2.toInt → c2.toInt ≤ f8_k2.toInt → f8_k2.toInt ≤ c1.toInt → (∀ (r : Int32) (q : Int) (b : Int32), TXQ (tG c0 0 c1) c4 c5 c6 c7 14 a0.toInt f8_k3 l8_2 f8_k2.toInt r q b → TXQ (tG c0 0 c1) c4 c5 c6 c7 4 a0.toInt c3 0 c2.toInt r q b) → (50 - l8_3.toInt).toNat < fu_ → ∀ (ls : Array Slot) (H : Heap) (locs : List Loc), lv_has ls 6 [(3, .int l8_3), (2, .int l8_2), (0, .ref k), (1, .int a0)] → va_P D vwCl [(k, .inr (5, [.ref k0, .int c1, .int f8_k2, .int f8_k3, .int c4, .int c5, .int c6, .int c7])), (k0, .inl (cI, 50, .inl c0))] H → va_D A [(k, .inr (5, [.ref k0, .int c1, .int f8_k2, .int f8_k3, .int c4, .int c5, .int c6, .int c7])), (k0, .inl (cI, 50, .inl c0))] → va_S A s.heap H locs → W p l e ({ frames := 16 * (dd + 1) + 7, cells := 0, slots := 0, locals := 1024 * (dd + 1) + 448 } : Room) s m args below meth c H locs 0 0 Q (F0 m 8 ls []) := by
    intro fu_; induction fu_ with
    | zero => intro l8_2 l8_3 f8_k2 f8_k3 i8_0 i8_1 i8_2 i8_3 i8_4 i8_5 hm; exact absurd hm (by omega)
    | succ fu_ ih8 =>
        intro l8_2 l8_3 f8_k2 f8_k3 i8_0 i8_1 i8_2 i8_3 i8_4 i8_5 hm ls H locs hl hP hD hS
        have lo_l8_2 := k_lo l8_2
        have hi_l8_2 := k_hi l8_2
        have lo_l8_3 := k_lo l8_3
        have hi_l8_3 := k_hi l8_3
        have lo_f8_k2 := k_lo f8_k2
        have hi_f8_k2 := k_hi f8_k2
        have lo_f8_k3 := k_lo f8_k3
        have hi_f8_k3 := k_hi f8_k3
        refine lv_iload_n hx hb dX5_product_8 rfl (lv_at hl 0 rfl) ?_
        refine lv_bipush (v := 50) hx hb dX5_product_9 (by decide +kernel) ?_
        refine b_icmp_ge hx hb rfl zl_50 (tgt := 89) dX5_product_11 (by decide +kernel) (fun c_9 => ?_) (fun c_9 => ?_)
        · refine lv_iload_n hx hb dX5_product_89 rfl (lv_at hl 1 rfl) ?_
          exact hRet (f8_k2, f8_k3) [0, 1] ⟨(by first | omega | decide | assumption | rfl | (dsimp only; first | omega)), (by first | omega | decide | assumption | rfl | (dsimp only; first | omega)), (by (try dsimp only); exact (i8_5 _ _ _ (TXQ.stop (tx_n14 (by rw [tG_hi (by omega)]; decide) (by rw [tG_hi (by omega)]; decide)))))⟩ hP hD (by decide +kernel) rfl hS rfl dX5_product_90
        · refine lv_aload_n hx hb dX5_product_14 rfl (lv_at hl 2 rfl) ?_
          refine kJi (wr := []) (va_runV (As := []) (rest := []) ⟨hx, hb, hml, hown, hT⟩ (c_X5_nextG l D cI aK aV k k0 H.size c1 f8_k2 f8_k3 c4 c5 c6 c7 c0 pre0 (by first | omega | decide | assumption | rfl) (by first | omega | decide | assumption | rfl) (by first | omega | decide | assumption | rfl)) (cwV 0 hT (gV_in mw_484 mw_481 mw_483 mw_p1_11 mw_6) rfl rfl rfl (by decide +kernel) ⟨(by dsimp only; omega), (by dsimp only; omega)⟩) (kRecvX (q0 := 0) (ci := 5) hK hP hD hN hXS hS hA rfl rfl [0, 1] rfl (by decide +kernel)) rfl rfl hl.1 rfl (lv_room (Nat.le_of_ble_eq_true rfl)) dX5_product_15 ⟨Nat.le_of_ble_eq_true rfl, Nat.le_of_ble_eq_true rfl⟩) hP hD hS hA [0, 1] [] rfl rfl (by decide +kernel) (by decide +kernel) ?_
          clear hP hD hS
          intro r_10 u_12 H locs w_11 hP hD hS
          replace hP : va_P D vwCl [(k, .inr (5, [.ref k0, .int c1, .int f8_k2, .int f8_k3, .int c4, .int c5, .int c6, .int c7])), (k0, .inl (cI, 50, .inl c0))] H := hP
          replace hD : va_D A [(k, .inr (5, [.ref k0, .int c1, .int f8_k2, .int f8_k3, .int c4, .int c5, .int c6, .int c7])), (k0, .inl (cI, 50, .inl c0))] := hD
          rcases w_11 with ⟨h_13, h_14, h_15, h_16, h_17⟩ | ⟨hr_10, h_18⟩
          · have h_13 : f8_k3.toInt = 0 := h_13
            have h_14 : r_10 = tG c0 0 c1 f8_k2.toInt := h_14
            have h_14 : r_10 = tG c0 0 c1 f8_k2.toInt := h_14
            have h_15 : -1 ≤ r_10.toInt := h_15
            have h_16 : r_10.toInt ≤ 255 := h_16
            have h_17 : r_10.toInt = (-1) ∨ f8_k2.toInt < c1.toInt := h_17
            have lo_r_10 := k_lo r_10
            have hi_r_10 := k_hi r_10
            refine lv_bipush (v := 42) hx hb dX5_product_18 (by decide +kernel) ?_
            refine b_icmp_eq hx hb rfl zl_42 (tgt := 32) dX5_product_20 (by decide +kernel) (fun c_19 => ?_) (fun c_19 => ?_)
            · refine lv_aload_n hx hb dX5_product_32 rfl (lv_at hl 2 rfl) ?_
              refine kJi (wr := []) (va_runV (As := []) (rest := []) ⟨hx, hb, hml, hown, hT⟩ (c_X5_nextG l D cI aK aV k k0 H.size c1 f8_k2 f8_k3 c4 c5 c6 c7 c0 pre0 (by first | omega | decide | assumption | rfl) (by first | omega | decide | assumption | rfl) (by first | omega | decide | assumption | rfl)) (cwV 0 hT (gV_in mw_484 mw_481 mw_483 mw_p1_11 mw_6) rfl rfl rfl (by decide +kernel) ⟨(by dsimp only; omega), (by dsimp only; omega)⟩) (kRecvX (q0 := 0) (ci := 5) hK hP hD hN hXS hS hA rfl rfl [0, 1] rfl (by decide +kernel)) rfl rfl hl.1 rfl (lv_room (Nat.le_of_ble_eq_true rfl)) dX5_product_33 ⟨Nat.le_of_ble_eq_true rfl, Nat.le_of_ble_eq_true rfl⟩) hP hD hS hA [0, 1] [] rfl rfl (by decide +kernel) (by decide +kernel) ?_
              clear hP hD hS
              intro r_20 u_22 H locs w_21 hP hD hS
              replace hP : va_P D vwCl [(k, .inr (5, [.ref k0, .int c1, .int f8_k2, .int f8_k3, .int c4, .int c5, .int c6, .int c7])), (k0, .inl (cI, 50, .inl c0))] H := hP
              replace hD : va_D A [(k, .inr (5, [.ref k0, .int c1, .int f8_k2, .int f8_k3, .int c4, .int c5, .int c6, .int c7])), (k0, .inl (cI, 50, .inl c0))] := hD
              rcases w_21 with ⟨h_23, h_24, h_25, h_26, h_27⟩ | ⟨hr_20, h_28⟩
              · have h_23 : f8_k3.toInt = 0 := h_23
                have h_24 : r_20 = tG c0 0 c1 f8_k2.toInt := h_24
                have h_24 : r_20 = tG c0 0 c1 f8_k2.toInt := h_24
                have q_29 : r_20.toInt = r_10.toInt := by rw [h_24, h_14]
                have h_25 : -1 ≤ r_20.toInt := h_25
                have h_26 : r_20.toInt ≤ 255 := h_26
                have h_27 : r_20.toInt = (-1) ∨ f8_k2.toInt < c1.toInt := h_27
                have lo_r_20 := k_lo r_20
                have hi_r_20 := k_hi r_20
                refine lv_istore (lv' := [(4, .int r_20), (3, .int l8_3), (2, .int l8_2), (0, .ref k), (1, .int a0)]) hx hb dX5_product_36 hl (by decide +kernel) rfl ?_
                clear hl
                intro ls hl
                refine lv_aload_n hx hb dX5_product_38 rfl (lv_at hl 3 rfl) ?_
                refine lv_dup hx hb dX5_product_39 rfl ?_
                refine va_get (D := D) (ci := 5) (v := .int f8_k2) (C := RX5) (T := TX5) (N := 8) hx hb hT giX5 hown hK hP 0 rfl rfl 2 (by decide +kernel) (hT (Cond.fieldLink RX5 19 "DesertWire$Reader" "at" "I") mw_170) (fun _ h9 => h9) rfl dX5_product_40 ?_
                refine lv_iconst (v := 1) hx hb dX5_product_43 (by decide +kernel) ?_
                refine lv_iadd hx hb dX5_product_44 ?_
                refine lv_topi (fun v_30 ev_30 => ?_)
                have tv_30 : v_30.toInt = f8_k2.toInt + 1 := by rw [ev_30]; exact k_addv rfl zl_1 (by omega) (by omega)
                refine va_put (D := D) (ci := 5) (v := .int v_30) (ty := .int) (C := RX5) (T := TX5) (N := 8) hx hb hT giX5 tyX5 tyX5_ok nmX5 hown hK hP hD hS 0 rfl rfl 2 (by decide +kernel) (hT (Cond.fieldLink RX5 19 "DesertWire$Reader" "at" "I") mw_170) (fun _ h9 => h9) rfl (by decide +kernel) rfl rfl (Nat.le_of_ble_eq_true rfl) dX5_product_45 ?_
                clear hP hD hS
                intro H locs hP hD hS
                replace hP : va_P D vwCl [(k, .inr (5, [.ref k0, .int c1, .int v_30, .int f8_k3, .int c4, .int c5, .int c6, .int c7])), (k0, .inl (cI, 50, .inl c0))] H := hP
                replace hD : va_D A [(k, .inr (5, [.ref k0, .int c1, .int v_30, .int f8_k3, .int c4, .int c5, .int c6, .int c7])), (k0, .inl (cI, 50, .inl c0))] := hD
                refine lv_aload_n hx hb dX5_product_48 rfl (lv_at hl 3 rfl) ?_
                refine lv_iload_n hx hb dX5_product_49 rfl (lv_at hl 4 rfl) ?_
                refine kJi (wr := []) (va_runV (As := [.int a0]) (rest := []) ⟨hx, hb, hml, hown, hT⟩ (c_X5_part_of dd ih l D cI aK aV k k0 H.size c1 v_30 f8_k3 c4 c5 c6 c7 c0 a0 pre0 (by first | omega | decide | assumption | rfl) (by first | omega | decide | assumption | rfl) (by first | omega | decide | assumption | rfl) (by first | omega | decide | assumption | rfl) (by first | omega | decide | assumption | rfl) (by first | omega | decide | assumption | rfl)) (cwV 1 hT (gV_in mw_480 mw_477 mw_479 mw_p1_10 mw_6) rfl rfl rfl (by decide +kernel) ⟨(by dsimp only; omega), (by dsimp only; omega)⟩) (kRecvX (q0 := 0) (ci := 5) hK hP hD hN hXS hS hA rfl rfl [0, 1] rfl (by decide +kernel)) rfl rfl hl.1 rfl (lv_room (Nat.le_of_ble_eq_true rfl)) dX5_product_50 ⟨Nat.le_of_ble_eq_true rfl, Nat.le_of_ble_eq_true rfl⟩) hP hD hS hA [0, 1] [] rfl rfl (by decide +kernel) (by decide +kernel) ?_
                clear hP hD hS
                intro r_31 u_35 H locs w_32 hP hD hS
                obtain ⟨sc2_33, sc3_34⟩ := u_35
                replace hP : va_P D vwCl [(k, .inr (5, [.ref k0, .int c1, .int sc2_33, .int sc3_34, .int c4, .int c5, .int c6, .int c7])), (k0, .inl (cI, 50, .inl c0))] H := hP
                replace hD : va_D A [(k, .inr (5, [.ref k0, .int c1, .int sc2_33, .int sc3_34, .int c4, .int c5, .int c6, .int c7])), (k0, .inl (cI, 50, .inl c0))] := hD
                have lo_sc2_33 := k_lo sc2_33
                have hi_sc2_33 := k_hi sc2_33
                have lo_sc3_34 := k_lo sc3_34
                have hi_sc3_34 := k_hi sc3_34
                obtain ⟨h_36, h_37, h_38⟩ := w_32
                have h_36 : v_30.toInt ≤ sc2_33.toInt := h_36
                have h_37 : sc2_33.toInt ≤ c1.toInt := h_37
                have h_38 : TXQ (tG c0 0 c1) c4 c5 c6 c7 5 a0.toInt f8_k3 0 v_30.toInt r_31 sc2_33.toInt sc3_34 := h_38
                have h_38 : TXQ (tG c0 0 c1) c4 c5 c6 c7 5 a0.toInt f8_k3 0 v_30.toInt r_31 sc2_33.toInt sc3_34 := h_38
                have lo_r_31 := k_lo r_31
                have hi_r_31 := k_hi r_31
                refine lv_istore (lv' := [(5, .int r_31), (4, .int r_20), (3, .int l8_3), (2, .int l8_2), (0, .ref k), (1, .int a0)]) hx hb dX5_product_53 hl (by decide +kernel) rfl ?_
                clear hl
                intro ls hl
                refine lv_iload hx hb dX5_product_55 (lv_at hl 1 rfl) ?_
                refine lv_bipush (v := 42) hx hb dX5_product_57 (by decide +kernel) ?_
                refine b_icmp_ne hx hb rfl zl_42 (tgt := 69) dX5_product_59 (by decide +kernel) (fun c_39 => by exfalso; omega) (fun c_39 => ?_)
                refine lv_iload_n hx hb dX5_product_62 rfl (lv_at hl 3 rfl) ?_
                refine lv_iload hx hb dX5_product_63 (lv_at hl 0 rfl) ?_
                refine lv_imul hx hb dX5_product_65 ?_
                refine lv_topi (fun v_40 ev_40 => ?_)
                have lo_v_40 := k_lo v_40
                have hi_v_40 := k_hi v_40
                refine lv_goto (tgt := 82) hx hb dX5_product_66 (by decide +kernel) ?_
                refine lv_istore_n (lv' := [(2, .int v_40), (5, .int r_31), (4, .int r_20), (3, .int l8_3), (0, .ref k), (1, .int a0)]) hx hb dX5_product_82 rfl hl (by decide +kernel) rfl ?_
                clear hl
                intro ls hl
                obtain ⟨v_41, ev_41⟩ : ∃ y : Int32, y = l8_3 + 1 := ⟨_, rfl⟩
                have tv_41 : v_41.toInt = l8_3.toInt + 1 := by rw [ev_41]; exact k_addv rfl zl_1 (by omega) (by omega)
                refine lv_iinc (v := v_41) (lv' := [(3, .int v_41), (2, .int v_40), (5, .int r_31), (4, .int r_20), (0, .ref k), (1, .int a0)]) hx hb dX5_product_83 hl (k := 3) rfl (by rw [ev_41]; rfl) (by decide +kernel) rfl ?_
                clear hl
                intro ls hl
                refine lv_goto (tgt := 8) hx hb dX5_product_86 (by decide +kernel) ?_
                exact ih8 v_40 v_41 sc2_33 sc3_34 (by first | omega | decide | assumption | rfl) (by first | omega | decide | assumption | rfl) (by first | omega | decide | assumption | rfl) (by first | omega | decide | assumption | rfl) (by first | omega | decide | assumption | rfl) (fun r q b z => i8_5 r q b (TXQ.more (bz := f8_k3) (w := r_31) (tx_mul (tG c0 0 c1 f8_k2.toInt) l8_2) (by omega) (by omega) (tx_y14 (by rw [← h_24]; omega)) (by rw [← tv_30]; exact h_38) (fun _ => (by unfold tx_mul; rw [← h_24, if_pos (by omega)]; exact ev_40)) r q b z)) (by omega) ls _ _ (lv_sub hl [0, 1, 4, 5] rfl) (hP.sub [0, 1] rfl) (hD.sub [0, 1] (by decide +kernel) rfl) hS
              · exfalso; omega
            · refine lv_aload_n hx hb dX5_product_23 rfl (lv_at hl 2 rfl) ?_
              refine kJi (wr := []) (va_runV (As := []) (rest := []) ⟨hx, hb, hml, hown, hT⟩ (c_X5_nextG l D cI aK aV k k0 H.size c1 f8_k2 f8_k3 c4 c5 c6 c7 c0 pre0 (by first | omega | decide | assumption | rfl) (by first | omega | decide | assumption | rfl) (by first | omega | decide | assumption | rfl)) (cwV 0 hT (gV_in mw_484 mw_481 mw_483 mw_p1_11 mw_6) rfl rfl rfl (by decide +kernel) ⟨(by dsimp only; omega), (by dsimp only; omega)⟩) (kRecvX (q0 := 0) (ci := 5) hK hP hD hN hXS hS hA rfl rfl [0, 1] rfl (by decide +kernel)) rfl rfl hl.1 rfl (lv_room (Nat.le_of_ble_eq_true rfl)) dX5_product_24 ⟨Nat.le_of_ble_eq_true rfl, Nat.le_of_ble_eq_true rfl⟩) hP hD hS hA [0, 1] [] rfl rfl (by decide +kernel) (by decide +kernel) ?_
              clear hP hD hS
              intro r_42 u_44 H locs w_43 hP hD hS
              replace hP : va_P D vwCl [(k, .inr (5, [.ref k0, .int c1, .int f8_k2, .int f8_k3, .int c4, .int c5, .int c6, .int c7])), (k0, .inl (cI, 50, .inl c0))] H := hP
              replace hD : va_D A [(k, .inr (5, [.ref k0, .int c1, .int f8_k2, .int f8_k3, .int c4, .int c5, .int c6, .int c7])), (k0, .inl (cI, 50, .inl c0))] := hD
              rcases w_43 with ⟨h_45, h_46, h_47, h_48, h_49⟩ | ⟨hr_42, h_50⟩
              · have h_45 : f8_k3.toInt = 0 := h_45
                have h_46 : r_42 = tG c0 0 c1 f8_k2.toInt := h_46
                have h_46 : r_42 = tG c0 0 c1 f8_k2.toInt := h_46
                have q_51 : r_42.toInt = r_10.toInt := by rw [h_46, h_14]
                have h_47 : -1 ≤ r_42.toInt := h_47
                have h_48 : r_42.toInt ≤ 255 := h_48
                have h_49 : r_42.toInt = (-1) ∨ f8_k2.toInt < c1.toInt := h_49
                have lo_r_42 := k_lo r_42
                have hi_r_42 := k_hi r_42
                refine lv_bipush (v := 37) hx hb dX5_product_27 (by decide +kernel) ?_
                refine b_icmp_ne hx hb rfl zl_37 (tgt := 89) dX5_product_29 (by decide +kernel) (fun c_52 => ?_) (fun c_52 => ?_)
                · refine lv_iload_n hx hb dX5_product_89 rfl (lv_at hl 1 rfl) ?_
                  exact hRet (f8_k2, f8_k3) [0, 1] ⟨(by first | omega | decide | assumption | rfl | (dsimp only; first | omega)), (by first | omega | decide | assumption | rfl | (dsimp only; first | omega)), (by (try dsimp only); exact (i8_5 _ _ _ (TXQ.stop (tx_n14 (by rw [← h_46]; omega) (by rw [← h_46]; omega)))))⟩ hP hD (by decide +kernel) rfl hS rfl dX5_product_90
                · refine lv_aload_n hx hb dX5_product_32 rfl (lv_at hl 2 rfl) ?_
                  refine kJi (wr := []) (va_runV (As := []) (rest := []) ⟨hx, hb, hml, hown, hT⟩ (c_X5_nextG l D cI aK aV k k0 H.size c1 f8_k2 f8_k3 c4 c5 c6 c7 c0 pre0 (by first | omega | decide | assumption | rfl) (by first | omega | decide | assumption | rfl) (by first | omega | decide | assumption | rfl)) (cwV 0 hT (gV_in mw_484 mw_481 mw_483 mw_p1_11 mw_6) rfl rfl rfl (by decide +kernel) ⟨(by dsimp only; omega), (by dsimp only; omega)⟩) (kRecvX (q0 := 0) (ci := 5) hK hP hD hN hXS hS hA rfl rfl [0, 1] rfl (by decide +kernel)) rfl rfl hl.1 rfl (lv_room (Nat.le_of_ble_eq_true rfl)) dX5_product_33 ⟨Nat.le_of_ble_eq_true rfl, Nat.le_of_ble_eq_true rfl⟩) hP hD hS hA [0, 1] [] rfl rfl (by decide +kernel) (by decide +kernel) ?_
                  clear hP hD hS
                  intro r_53 u_55 H locs w_54 hP hD hS
                  replace hP : va_P D vwCl [(k, .inr (5, [.ref k0, .int c1, .int f8_k2, .int f8_k3, .int c4, .int c5, .int c6, .int c7])), (k0, .inl (cI, 50, .inl c0))] H := hP
                  replace hD : va_D A [(k, .inr (5, [.ref k0, .int c1, .int f8_k2, .int f8_k3, .int c4, .int c5, .int c6, .int c7])), (k0, .inl (cI, 50, .inl c0))] := hD
                  rcases w_54 with ⟨h_56, h_57, h_58, h_59, h_60⟩ | ⟨hr_53, h_61⟩
                  · have h_56 : f8_k3.toInt = 0 := h_56
                    have h_57 : r_53 = tG c0 0 c1 f8_k2.toInt := h_57
                    have h_57 : r_53 = tG c0 0 c1 f8_k2.toInt := h_57
                    have q_62 : r_53.toInt = r_42.toInt := by rw [h_57, h_46]
                    have h_58 : -1 ≤ r_53.toInt := h_58
                    have h_59 : r_53.toInt ≤ 255 := h_59
                    have h_60 : r_53.toInt = (-1) ∨ f8_k2.toInt < c1.toInt := h_60
                    have lo_r_53 := k_lo r_53
                    have hi_r_53 := k_hi r_53
                    refine lv_istore (lv' := [(4, .int r_53), (3, .int l8_3), (2, .int l8_2), (0, .ref k), (1, .int a0)]) hx hb dX5_product_36 hl (by decide +kernel) rfl ?_
                    clear hl
                    intro ls hl
                    refine lv_aload_n hx hb dX5_product_38 rfl (lv_at hl 3 rfl) ?_
                    refine lv_dup hx hb dX5_product_39 rfl ?_
                    refine va_get (D := D) (ci := 5) (v := .int f8_k2) (C := RX5) (T := TX5) (N := 8) hx hb hT giX5 hown hK hP 0 rfl rfl 2 (by decide +kernel) (hT (Cond.fieldLink RX5 19 "DesertWire$Reader" "at" "I") mw_170) (fun _ h9 => h9) rfl dX5_product_40 ?_
                    refine lv_iconst (v := 1) hx hb dX5_product_43 (by decide +kernel) ?_
                    refine lv_iadd hx hb dX5_product_44 ?_
                    refine lv_topi (fun v_63 ev_63 => ?_)
                    have tv_63 : v_63.toInt = f8_k2.toInt + 1 := by rw [ev_63]; exact k_addv rfl zl_1 (by omega) (by omega)
                    refine va_put (D := D) (ci := 5) (v := .int v_63) (ty := .int) (C := RX5) (T := TX5) (N := 8) hx hb hT giX5 tyX5 tyX5_ok nmX5 hown hK hP hD hS 0 rfl rfl 2 (by decide +kernel) (hT (Cond.fieldLink RX5 19 "DesertWire$Reader" "at" "I") mw_170) (fun _ h9 => h9) rfl (by decide +kernel) rfl rfl (Nat.le_of_ble_eq_true rfl) dX5_product_45 ?_
                    clear hP hD hS
                    intro H locs hP hD hS
                    replace hP : va_P D vwCl [(k, .inr (5, [.ref k0, .int c1, .int v_63, .int f8_k3, .int c4, .int c5, .int c6, .int c7])), (k0, .inl (cI, 50, .inl c0))] H := hP
                    replace hD : va_D A [(k, .inr (5, [.ref k0, .int c1, .int v_63, .int f8_k3, .int c4, .int c5, .int c6, .int c7])), (k0, .inl (cI, 50, .inl c0))] := hD
                    refine lv_aload_n hx hb dX5_product_48 rfl (lv_at hl 3 rfl) ?_
                    refine lv_iload_n hx hb dX5_product_49 rfl (lv_at hl 4 rfl) ?_
                    refine kJi (wr := []) (va_runV (As := [.int a0]) (rest := []) ⟨hx, hb, hml, hown, hT⟩ (c_X5_part_of dd ih l D cI aK aV k k0 H.size c1 v_63 f8_k3 c4 c5 c6 c7 c0 a0 pre0 (by first | omega | decide | assumption | rfl) (by first | omega | decide | assumption | rfl) (by first | omega | decide | assumption | rfl) (by first | omega | decide | assumption | rfl) (by first | omega | decide | assumption | rfl) (by first | omega | decide | assumption | rfl)) (cwV 1 hT (gV_in mw_480 mw_477 mw_479 mw_p1_10 mw_6) rfl rfl rfl (by decide +kernel) ⟨(by dsimp only; omega), (by dsimp only; omega)⟩) (kRecvX (q0 := 0) (ci := 5) hK hP hD hN hXS hS hA rfl rfl [0, 1] rfl (by decide +kernel)) rfl rfl hl.1 rfl (lv_room (Nat.le_of_ble_eq_true rfl)) dX5_product_50 ⟨Nat.le_of_ble_eq_true rfl, Nat.le_of_ble_eq_true rfl⟩) hP hD hS hA [0, 1] [] rfl rfl (by decide +kernel) (by decide +kernel) ?_
                    clear hP hD hS
                    intro r_64 u_68 H locs w_65 hP hD hS
                    obtain ⟨sc2_66, sc3_67⟩ := u_68
                    replace hP : va_P D vwCl [(k, .inr (5, [.ref k0, .int c1, .int sc2_66, .int sc3_67, .int c4, .int c5, .int c6, .int c7])), (k0, .inl (cI, 50, .inl c0))] H := hP
                    replace hD : va_D A [(k, .inr (5, [.ref k0, .int c1, .int sc2_66, .int sc3_67, .int c4, .int c5, .int c6, .int c7])), (k0, .inl (cI, 50, .inl c0))] := hD
                    have lo_sc2_66 := k_lo sc2_66
                    have hi_sc2_66 := k_hi sc2_66
                    have lo_sc3_67 := k_lo sc3_67
                    have hi_sc3_67 := k_hi sc3_67
                    obtain ⟨h_69, h_70, h_71⟩ := w_65
                    have h_69 : v_63.toInt ≤ sc2_66.toInt := h_69
                    have h_70 : sc2_66.toInt ≤ c1.toInt := h_70
                    have h_71 : TXQ (tG c0 0 c1) c4 c5 c6 c7 5 a0.toInt f8_k3 0 v_63.toInt r_64 sc2_66.toInt sc3_67 := h_71
                    have h_71 : TXQ (tG c0 0 c1) c4 c5 c6 c7 5 a0.toInt f8_k3 0 v_63.toInt r_64 sc2_66.toInt sc3_67 := h_71
                    have lo_r_64 := k_lo r_64
                    have hi_r_64 := k_hi r_64
                    refine lv_istore (lv' := [(5, .int r_64), (4, .int r_53), (3, .int l8_3), (2, .int l8_2), (0, .ref k), (1, .int a0)]) hx hb dX5_product_53 hl (by decide +kernel) rfl ?_
                    clear hl
                    intro ls hl
                    refine lv_iload hx hb dX5_product_55 (lv_at hl 1 rfl) ?_
                    refine lv_bipush (v := 42) hx hb dX5_product_57 (by decide +kernel) ?_
                    refine b_icmp_ne hx hb rfl zl_42 (tgt := 69) dX5_product_59 (by decide +kernel) (fun c_72 => ?_) (fun c_72 => by exfalso; omega)
                    refine lv_iload hx hb dX5_product_69 (lv_at hl 0 rfl) ?_
                    refine b_if_ne hx hb rfl (tgt := 78) dX5_product_71 (by decide +kernel) (fun c_73 => ?_) (fun c_73 => ?_)
                    · refine lv_iload_n hx hb dX5_product_78 rfl (lv_at hl 3 rfl) ?_
                      refine lv_iload hx hb dX5_product_79 (lv_at hl 0 rfl) ?_
                      refine lv_irem hx hb dX5_product_81 (k_ne0 (by omega)) ?_
                      refine lv_topi (fun v_74 ev_74 => ?_)
                      have lo_v_74 := k_lo v_74
                      have hi_v_74 := k_hi v_74
                      refine lv_istore_n (lv' := [(2, .int v_74), (5, .int r_64), (4, .int r_53), (3, .int l8_3), (0, .ref k), (1, .int a0)]) hx hb dX5_product_82 rfl hl (by decide +kernel) rfl ?_
                      clear hl
                      intro ls hl
                      obtain ⟨v_75, ev_75⟩ : ∃ y : Int32, y = l8_3 + 1 := ⟨_, rfl⟩
                      have tv_75 : v_75.toInt = l8_3.toInt + 1 := by rw [ev_75]; exact k_addv rfl zl_1 (by omega) (by omega)
                      refine lv_iinc (v := v_75) (lv' := [(3, .int v_75), (2, .int v_74), (5, .int r_64), (4, .int r_53), (0, .ref k), (1, .int a0)]) hx hb dX5_product_83 hl (k := 3) rfl (by rw [ev_75]; rfl) (by decide +kernel) rfl ?_
                      clear hl
                      intro ls hl
                      refine lv_goto (tgt := 8) hx hb dX5_product_86 (by decide +kernel) ?_
                      exact ih8 v_74 v_75 sc2_66 sc3_67 (by first | omega | decide | assumption | rfl) (by first | omega | decide | assumption | rfl) (by first | omega | decide | assumption | rfl) (by first | omega | decide | assumption | rfl) (by first | omega | decide | assumption | rfl) (fun r q b z => i8_5 r q b (TXQ.more (bz := f8_k3) (w := r_64) (tx_mul (tG c0 0 c1 f8_k2.toInt) l8_2) (by omega) (by omega) (tx_y14 (by rw [← h_57]; omega)) (by rw [← tv_63]; exact h_71) (fun _ => (by unfold tx_mul; rw [← h_57, if_neg (by omega), if_neg (by omega)]; exact ev_74)) r q b z)) (by omega) ls _ _ (lv_sub hl [0, 1, 4, 5] rfl) (hP.sub [0, 1] rfl) (hD.sub [0, 1] (by decide +kernel) rfl) hS
                    · refine lv_iconst (v := 0) hx hb dX5_product_74 (by decide +kernel) ?_
                      refine lv_goto (tgt := 82) hx hb dX5_product_75 (by decide +kernel) ?_
                      refine lv_istore_n (lv' := [(2, .int 0), (5, .int r_64), (4, .int r_53), (3, .int l8_3), (0, .ref k), (1, .int a0)]) hx hb dX5_product_82 rfl hl (by decide +kernel) rfl ?_
                      clear hl
                      intro ls hl
                      obtain ⟨v_76, ev_76⟩ : ∃ y : Int32, y = l8_3 + 1 := ⟨_, rfl⟩
                      have tv_76 : v_76.toInt = l8_3.toInt + 1 := by rw [ev_76]; exact k_addv rfl zl_1 (by omega) (by omega)
                      refine lv_iinc (v := v_76) (lv' := [(3, .int v_76), (2, .int 0), (5, .int r_64), (4, .int r_53), (0, .ref k), (1, .int a0)]) hx hb dX5_product_83 hl (k := 3) rfl (by rw [ev_76]; rfl) (by decide +kernel) rfl ?_
                      clear hl
                      intro ls hl
                      refine lv_goto (tgt := 8) hx hb dX5_product_86 (by decide +kernel) ?_
                      exact ih8 0 v_76 sc2_66 sc3_67 (by first | omega | (simp only [zl_0]; first | done | omega) | decide | assumption | rfl) (by first | omega | (simp only [zl_0]; first | done | omega) | decide | assumption | rfl) (by first | omega | (simp only [zl_0]; first | done | omega) | decide | assumption | rfl) (by first | omega | (simp only [zl_0]; first | done | omega) | decide | assumption | rfl) (by first | omega | (simp only [zl_0]; first | done | omega) | decide | assumption | rfl) (fun r q b z => i8_5 r q b (TXQ.more (bz := f8_k3) (w := r_64) (tx_mul (tG c0 0 c1 f8_k2.toInt) l8_2) (by omega) (by omega) (tx_y14 (by rw [← h_57]; omega)) (by rw [← tv_63]; exact h_71) (fun _ => (by unfold tx_mul; rw [← h_57, if_neg (by omega), if_pos (by omega)])) r q b z)) (by omega) ls _ _ (lv_sub hl [0, 1, 4, 5] rfl) (hP.sub [0, 1] rfl) (hD.sub [0, 1] (by decide +kernel) rfl) hS
                  · exfalso; omega
              · exfalso; omega
          · have h_18 : f8_k3.toInt ≠ 0 := h_18
            obtain rfl : r_10 = (-1) := hr_10.trans (by decide +kernel)
            refine lv_bipush (v := 42) hx hb dX5_product_18 (by decide +kernel) ?_
            refine b_icmp_eq hx hb zl_m1 zl_42 (tgt := 32) dX5_product_20 (by decide +kernel) (fun c_77 => by exfalso; omega) (fun c_77 => ?_)
            refine lv_aload_n hx hb dX5_product_23 rfl (lv_at hl 2 rfl) ?_
            refine kJi (wr := []) (va_runV (As := []) (rest := []) ⟨hx, hb, hml, hown, hT⟩ (c_X5_nextG l D cI aK aV k k0 H.size c1 f8_k2 f8_k3 c4 c5 c6 c7 c0 pre0 (by first | omega | decide | assumption | rfl) (by first | omega | decide | assumption | rfl) (by first | omega | decide | assumption | rfl)) (cwV 0 hT (gV_in mw_484 mw_481 mw_483 mw_p1_11 mw_6) rfl rfl rfl (by decide +kernel) ⟨(by dsimp only; omega), (by dsimp only; omega)⟩) (kRecvX (q0 := 0) (ci := 5) hK hP hD hN hXS hS hA rfl rfl [0, 1] rfl (by decide +kernel)) rfl rfl hl.1 rfl (lv_room (Nat.le_of_ble_eq_true rfl)) dX5_product_24 ⟨Nat.le_of_ble_eq_true rfl, Nat.le_of_ble_eq_true rfl⟩) hP hD hS hA [0, 1] [] rfl rfl (by decide +kernel) (by decide +kernel) ?_
            clear hP hD hS
            intro r_78 u_80 H locs w_79 hP hD hS
            replace hP : va_P D vwCl [(k, .inr (5, [.ref k0, .int c1, .int f8_k2, .int f8_k3, .int c4, .int c5, .int c6, .int c7])), (k0, .inl (cI, 50, .inl c0))] H := hP
            replace hD : va_D A [(k, .inr (5, [.ref k0, .int c1, .int f8_k2, .int f8_k3, .int c4, .int c5, .int c6, .int c7])), (k0, .inl (cI, 50, .inl c0))] := hD
            rcases w_79 with ⟨h_81, h_82, h_83, h_84, h_85⟩ | ⟨hr_78, h_86⟩
            · exfalso; omega
            · have h_86 : f8_k3.toInt ≠ 0 := h_86
              obtain rfl : r_78 = (-1) := hr_78.trans (by decide +kernel)
              refine lv_bipush (v := 37) hx hb dX5_product_27 (by decide +kernel) ?_
              refine b_icmp_ne hx hb zl_m1 zl_37 (tgt := 89) dX5_product_29 (by decide +kernel) (fun c_87 => ?_) (fun c_87 => by exfalso; omega)
              refine lv_iload_n hx hb dX5_product_89 rfl (lv_at hl 1 rfl) ?_
              exact hRet (f8_k2, f8_k3) [0, 1] ⟨(by first | omega | decide | assumption | rfl | (dsimp only; first | omega)), (by first | omega | decide | assumption | rfl | (dsimp only; first | omega)), (by (try dsimp only); exact (i8_5 _ _ _ (TXQ.bad (by omega) (by omega))))⟩ hP hD (by decide +kernel) rfl hS rfl dX5_product_90
  exact hloop_8 _ r_1 0 sc2_3 sc3_4 (by first | omega | (simp only [zl_0]; first | done | omega) | decide | assumption | rfl) (by first | omega | (simp only [zl_0]; first | done | omega) | decide | assumption | rfl) (by first | omega | (simp only [zl_0]; first | done | omega) | decide | assumption | rfl) (by first | omega | (simp only [zl_0]; first | done | omega) | decide | assumption | rfl) (by first | omega | (simp only [zl_0]; first | done | omega) | decide | assumption | rfl) (TXQ.seq (fun f v => tx_e4 f v _) h_8 0) (Nat.lt_succ_self _) ls _ _ (lv_sub hl [0, 1, 2, 3] rfl) hP hD hS
set_option maxHeartbeats 4000000 in
set_option maxRecDepth 100000 in
theorem c_X5_sum_of (dd : Nat) (ih : RDP dd) (l : Launch) (D : va_G) (cI : ClassId) (aK aV : Nat → Nat) (k k0 : Nat) (sz : Nat) (c1 : Int32) (c2 : Int32) (c3 : Int32) (c4 : Int32) (c5 : Int32) (c6 : Int32) (c7 : Int32) (c0 : Nat → Int32) (a0 : Int32) (pre0 : BYT c0 0) (pre1 : c1.toInt ≤ 50) (pre2 : 0 ≤ c2.toInt) (pre3 : c2.toInt ≤ c1.toInt) (pre4 : 0 ≤ a0.toInt) (pre5 : a0.toInt ≤ 4) (pre6 : (4 - a0.toInt).toNat < dd + 1)  : Met l yX5_sum (gW yX5_sum cX5_sum 6 (some .int)) ({ frames := 16 * (dd + 1) + 8, cells := 0, slots := 0, locals := 1024 * (dd + 1) + 512 } : Room) (kPreX D cI aK aV [.ref k, .int a0] [(k, .inr (5, [.ref k0, .int c1, .int c2, .int c3, .int c4, .int c5, .int c6, .int c7])), (k0, .inl (cI, 50, .inl c0))] sz) (va_Qi (fun (r : Int32) (u : Int32 × Int32) => c2.toInt ≤ u.1.toInt ∧ u.1.toInt ≤ c1.toInt ∧ TXQ (tG c0 0 c1) c4 c5 c6 c7 3 a0.toInt c3 0 c2.toInt r u.1.toInt u.2) (fun u t => kWd D cI (va_A [(k, .inr (5, [.ref k0, .int c1, .int c2, .int c3, .int c4, .int c5, .int c6, .int c7])), (k0, .inl (cI, 50, .inl c0))] sz) [(k, .inr (5, [.ref k0, .int c1, .int u.1, .int u.2, .int c4, .int c5, .int c6, .int c7])), (k0, .inl (cI, 50, .inl c0))] t) (va_A [(k, .inr (5, [.ref k0, .int c1, .int c2, .int c3, .int c4, .int c5, .int c6, .int c7])), (k0, .inl (cI, 50, .inl c0))] sz)) 0 0 (va_A [(k, .inr (5, [.ref k0, .int c1, .int c2, .int c3, .int c4, .int c5, .int c6, .int c7])), (k0, .inl (cI, 50, .inl c0))] sz) := by
  refine kMetIX (own := RX5) (by decide +kernel) rfl (Nat.le_of_ble_eq_true rfl) ?_
  intro p e s m args below meth c hx hb hT hown hname hml A Q hK hP hD hS hA hN hXS hRet ls hl
  have hl : lv_has ls 6 [(0, .ref k), (1, .int a0)] := hl
  have lo_a0 := k_lo a0
  have hi_a0 := k_hi a0
  have lo_c1 := k_lo c1
  have hi_c1 := k_hi c1
  have lo_c2 := k_lo c2
  have hi_c2 := k_hi c2
  have lo_c3 := k_lo c3
  have hi_c3 := k_hi c3
  have lo_c4 := k_lo c4
  have hi_c4 := k_hi c4
  have lo_c5 := k_lo c5
  have hi_c5 := k_hi c5
  have lo_c6 := k_lo c6
  have hi_c6 := k_hi c6
  have lo_c7 := k_lo c7
  have hi_c7 := k_hi c7
  have pre0 : BYT c0 0 := pre0
  refine lv_aload_n hx hb dX5_sum_0 rfl (lv_at hl 0 rfl) ?_
  refine lv_iload_n hx hb dX5_sum_1 rfl (lv_at hl 1 rfl) ?_
  refine kJi (wr := []) (va_runV (As := [.int a0]) (rest := []) ⟨hx, hb, hml, hown, hT⟩ (c_X5_product_of dd ih l D cI aK aV k k0 s.heap.size c1 c2 c3 c4 c5 c6 c7 c0 a0 pre0 (by first | omega | decide | assumption | rfl) (by first | omega | decide | assumption | rfl) (by first | omega | decide | assumption | rfl) (by first | omega | decide | assumption | rfl) (by first | omega | decide | assumption | rfl) (by first | omega | decide | assumption | rfl)) (cwV 1 hT (gV_in mw_476 mw_473 mw_475 mw_p1_9 mw_6) rfl rfl rfl (by decide +kernel) ⟨(by dsimp only; omega), (by dsimp only; omega)⟩) (kRecvX (q0 := 0) (ci := 5) hK hP hD hN hXS hS hA rfl rfl [0, 1] rfl (by decide +kernel)) rfl rfl hl.1 rfl (lv_room (Nat.le_of_ble_eq_true rfl)) dX5_sum_2 ⟨Nat.le_of_ble_eq_true rfl, Nat.le_of_ble_eq_true rfl⟩) hP hD hS hA [0, 1] [] rfl rfl (by decide +kernel) (by decide +kernel) ?_
  clear hP hD hS
  intro r_1 u_5 H locs w_2 hP hD hS
  obtain ⟨sc2_3, sc3_4⟩ := u_5
  replace hP : va_P D vwCl [(k, .inr (5, [.ref k0, .int c1, .int sc2_3, .int sc3_4, .int c4, .int c5, .int c6, .int c7])), (k0, .inl (cI, 50, .inl c0))] H := hP
  replace hD : va_D A [(k, .inr (5, [.ref k0, .int c1, .int sc2_3, .int sc3_4, .int c4, .int c5, .int c6, .int c7])), (k0, .inl (cI, 50, .inl c0))] := hD
  have lo_sc2_3 := k_lo sc2_3
  have hi_sc2_3 := k_hi sc2_3
  have lo_sc3_4 := k_lo sc3_4
  have hi_sc3_4 := k_hi sc3_4
  obtain ⟨h_6, h_7, h_8⟩ := w_2
  have h_6 : c2.toInt ≤ sc2_3.toInt := h_6
  have h_7 : sc2_3.toInt ≤ c1.toInt := h_7
  have h_8 : TXQ (tG c0 0 c1) c4 c5 c6 c7 4 a0.toInt c3 0 c2.toInt r_1 sc2_3.toInt sc3_4 := h_8
  have h_8 : TXQ (tG c0 0 c1) c4 c5 c6 c7 4 a0.toInt c3 0 c2.toInt r_1 sc2_3.toInt sc3_4 := h_8
  have lo_r_1 := k_lo r_1
  have hi_r_1 := k_hi r_1
  refine lv_istore_n (lv' := [(2, .int r_1), (0, .ref k), (1, .int a0)]) hx hb dX5_sum_5 rfl hl (by decide +kernel) rfl ?_
  clear hl
  intro ls hl
  refine lv_iconst (v := 0) hx hb dX5_sum_6 (by decide +kernel) ?_
  refine lv_istore_n (lv' := [(3, .int 0), (2, .int r_1), (0, .ref k), (1, .int a0)]) hx hb dX5_sum_7 rfl hl (by decide +kernel) rfl ?_
  clear hl
  intro ls hl
  have hloop_8 : ∀ (fu_ : Nat) (l8_2 : Int32) (l8_3 : Int32) (f8_k2 : Int32) (f8_k3 : Int32), 0 ≤ l8_3.toInt → sc2_3.toInt ≤ f8_k2.toInt → l8_3.toInt ≤ f8_k2.toInt → c2.toInt ≤ f8_k2.toInt → f8_k2.toInt ≤ c1.toInt → (∀ (r : Int32) (q : Int) (b : Int32), TXQ (tG c0 0 c1) c4 c5 c6 c7 13 a0.toInt f8_k3 l8_2 f8_k2.toInt r q b → TXQ (tG c0 0 c1) c4 c5 c6 c7 3 a0.toInt c3 0 c2.toInt r q b) → (50 - l8_3.toInt).toNat < fu_ → ∀ (ls : Array Slot) (H : Heap) (locs : List Loc), lv_has ls 6 [(3, .int l8_3), (2, .int l8_2), (0, .ref k), (1, .int a0)] → va_P D vwCl [(k, .inr (5, [.ref k0, .int c1, .int f8_k2, .int f8_k3, .int c4, .int c5, .int c6, .int c7])), (k0, .inl (cI, 50, .inl c0))] H → va_D A [(k, .inr (5, [.ref k0, .int c1, .int f8_k2, .int f8_k3, .int c4, .int c5, .int c6, .int c7])), (k0, .inl (cI, 50, .inl c0))] → va_S A s.heap H locs → W p l e ({ frames := 16 * (dd + 1) + 8, cells := 0, slots := 0, locals := 1024 * (dd + 1) + 512 } : Room) s m args below meth c H locs 0 0 Q (F0 m 8 ls []) := by
    intro fu_; induction fu_ with
    | zero => intro l8_2 l8_3 f8_k2 f8_k3 i8_0 i8_1 i8_2 i8_3 i8_4 i8_5 hm; exact absurd hm (by omega)
    | succ fu_ ih8 =>
        intro l8_2 l8_3 f8_k2 f8_k3 i8_0 i8_1 i8_2 i8_3 i8_4 i8_5 hm ls H locs hl hP hD hS
        have lo_l8_2 := k_lo l8_2
        have hi_l8_2 := k_hi l8_2
        have lo_l8_3 := k_lo l8_3
        have hi_l8_3 := k_hi l8_3
        have lo_f8_k2 := k_lo f8_k2
        have hi_f8_k2 := k_hi f8_k2
        have lo_f8_k3 := k_lo f8_k3
        have hi_f8_k3 := k_hi f8_k3
        refine lv_iload_n hx hb dX5_sum_8 rfl (lv_at hl 0 rfl) ?_
        refine lv_bipush (v := 50) hx hb dX5_sum_9 (by decide +kernel) ?_
        refine b_icmp_ge hx hb rfl zl_50 (tgt := 80) dX5_sum_11 (by decide +kernel) (fun c_9 => ?_) (fun c_9 => ?_)
        · refine lv_iload_n hx hb dX5_sum_80 rfl (lv_at hl 1 rfl) ?_
          exact hRet (f8_k2, f8_k3) [0, 1] ⟨(by first | omega | decide | assumption | rfl | (dsimp only; first | omega)), (by first | omega | decide | assumption | rfl | (dsimp only; first | omega)), (by (try dsimp only); exact (i8_5 _ _ _ (TXQ.stop (tx_n13 (by rw [tG_hi (by omega)]; decide) (by rw [tG_hi (by omega)]; decide)))))⟩ hP hD (by decide +kernel) rfl hS rfl dX5_sum_81
        · refine lv_aload_n hx hb dX5_sum_14 rfl (lv_at hl 2 rfl) ?_
          refine kJi (wr := []) (va_runV (As := []) (rest := []) ⟨hx, hb, hml, hown, hT⟩ (c_X5_nextG l D cI aK aV k k0 H.size c1 f8_k2 f8_k3 c4 c5 c6 c7 c0 pre0 (by first | omega | decide | assumption | rfl) (by first | omega | decide | assumption | rfl) (by first | omega | decide | assumption | rfl)) (cwV 0 hT (gV_in mw_484 mw_481 mw_483 mw_p1_11 mw_6) rfl rfl rfl (by decide +kernel) ⟨(by dsimp only; omega), (by dsimp only; omega)⟩) (kRecvX (q0 := 0) (ci := 5) hK hP hD hN hXS hS hA rfl rfl [0, 1] rfl (by decide +kernel)) rfl rfl hl.1 rfl (lv_room (Nat.le_of_ble_eq_true rfl)) dX5_sum_15 ⟨Nat.le_of_ble_eq_true rfl, Nat.le_of_ble_eq_true rfl⟩) hP hD hS hA [0, 1] [] rfl rfl (by decide +kernel) (by decide +kernel) ?_
          clear hP hD hS
          intro r_10 u_12 H locs w_11 hP hD hS
          replace hP : va_P D vwCl [(k, .inr (5, [.ref k0, .int c1, .int f8_k2, .int f8_k3, .int c4, .int c5, .int c6, .int c7])), (k0, .inl (cI, 50, .inl c0))] H := hP
          replace hD : va_D A [(k, .inr (5, [.ref k0, .int c1, .int f8_k2, .int f8_k3, .int c4, .int c5, .int c6, .int c7])), (k0, .inl (cI, 50, .inl c0))] := hD
          rcases w_11 with ⟨h_13, h_14, h_15, h_16, h_17⟩ | ⟨hr_10, h_18⟩
          · have h_13 : f8_k3.toInt = 0 := h_13
            have h_14 : r_10 = tG c0 0 c1 f8_k2.toInt := h_14
            have h_14 : r_10 = tG c0 0 c1 f8_k2.toInt := h_14
            have h_15 : -1 ≤ r_10.toInt := h_15
            have h_16 : r_10.toInt ≤ 255 := h_16
            have h_17 : r_10.toInt = (-1) ∨ f8_k2.toInt < c1.toInt := h_17
            have lo_r_10 := k_lo r_10
            have hi_r_10 := k_hi r_10
            refine lv_bipush (v := 43) hx hb dX5_sum_18 (by decide +kernel) ?_
            refine b_icmp_eq hx hb rfl zl_43 (tgt := 32) dX5_sum_20 (by decide +kernel) (fun c_19 => ?_) (fun c_19 => ?_)
            · refine lv_aload_n hx hb dX5_sum_32 rfl (lv_at hl 2 rfl) ?_
              refine kJi (wr := []) (va_runV (As := []) (rest := []) ⟨hx, hb, hml, hown, hT⟩ (c_X5_nextG l D cI aK aV k k0 H.size c1 f8_k2 f8_k3 c4 c5 c6 c7 c0 pre0 (by first | omega | decide | assumption | rfl) (by first | omega | decide | assumption | rfl) (by first | omega | decide | assumption | rfl)) (cwV 0 hT (gV_in mw_484 mw_481 mw_483 mw_p1_11 mw_6) rfl rfl rfl (by decide +kernel) ⟨(by dsimp only; omega), (by dsimp only; omega)⟩) (kRecvX (q0 := 0) (ci := 5) hK hP hD hN hXS hS hA rfl rfl [0, 1] rfl (by decide +kernel)) rfl rfl hl.1 rfl (lv_room (Nat.le_of_ble_eq_true rfl)) dX5_sum_33 ⟨Nat.le_of_ble_eq_true rfl, Nat.le_of_ble_eq_true rfl⟩) hP hD hS hA [0, 1] [] rfl rfl (by decide +kernel) (by decide +kernel) ?_
              clear hP hD hS
              intro r_20 u_22 H locs w_21 hP hD hS
              replace hP : va_P D vwCl [(k, .inr (5, [.ref k0, .int c1, .int f8_k2, .int f8_k3, .int c4, .int c5, .int c6, .int c7])), (k0, .inl (cI, 50, .inl c0))] H := hP
              replace hD : va_D A [(k, .inr (5, [.ref k0, .int c1, .int f8_k2, .int f8_k3, .int c4, .int c5, .int c6, .int c7])), (k0, .inl (cI, 50, .inl c0))] := hD
              rcases w_21 with ⟨h_23, h_24, h_25, h_26, h_27⟩ | ⟨hr_20, h_28⟩
              · have h_23 : f8_k3.toInt = 0 := h_23
                have h_24 : r_20 = tG c0 0 c1 f8_k2.toInt := h_24
                have h_24 : r_20 = tG c0 0 c1 f8_k2.toInt := h_24
                have q_29 : r_20.toInt = r_10.toInt := by rw [h_24, h_14]
                have h_25 : -1 ≤ r_20.toInt := h_25
                have h_26 : r_20.toInt ≤ 255 := h_26
                have h_27 : r_20.toInt = (-1) ∨ f8_k2.toInt < c1.toInt := h_27
                have lo_r_20 := k_lo r_20
                have hi_r_20 := k_hi r_20
                refine lv_istore (lv' := [(4, .int r_20), (3, .int l8_3), (2, .int l8_2), (0, .ref k), (1, .int a0)]) hx hb dX5_sum_36 hl (by decide +kernel) rfl ?_
                clear hl
                intro ls hl
                refine lv_aload_n hx hb dX5_sum_38 rfl (lv_at hl 3 rfl) ?_
                refine lv_dup hx hb dX5_sum_39 rfl ?_
                refine va_get (D := D) (ci := 5) (v := .int f8_k2) (C := RX5) (T := TX5) (N := 8) hx hb hT giX5 hown hK hP 0 rfl rfl 2 (by decide +kernel) (hT (Cond.fieldLink RX5 19 "DesertWire$Reader" "at" "I") mw_170) (fun _ h9 => h9) rfl dX5_sum_40 ?_
                refine lv_iconst (v := 1) hx hb dX5_sum_43 (by decide +kernel) ?_
                refine lv_iadd hx hb dX5_sum_44 ?_
                refine lv_topi (fun v_30 ev_30 => ?_)
                have tv_30 : v_30.toInt = f8_k2.toInt + 1 := by rw [ev_30]; exact k_addv rfl zl_1 (by omega) (by omega)
                refine va_put (D := D) (ci := 5) (v := .int v_30) (ty := .int) (C := RX5) (T := TX5) (N := 8) hx hb hT giX5 tyX5 tyX5_ok nmX5 hown hK hP hD hS 0 rfl rfl 2 (by decide +kernel) (hT (Cond.fieldLink RX5 19 "DesertWire$Reader" "at" "I") mw_170) (fun _ h9 => h9) rfl (by decide +kernel) rfl rfl (Nat.le_of_ble_eq_true rfl) dX5_sum_45 ?_
                clear hP hD hS
                intro H locs hP hD hS
                replace hP : va_P D vwCl [(k, .inr (5, [.ref k0, .int c1, .int v_30, .int f8_k3, .int c4, .int c5, .int c6, .int c7])), (k0, .inl (cI, 50, .inl c0))] H := hP
                replace hD : va_D A [(k, .inr (5, [.ref k0, .int c1, .int v_30, .int f8_k3, .int c4, .int c5, .int c6, .int c7])), (k0, .inl (cI, 50, .inl c0))] := hD
                refine lv_aload_n hx hb dX5_sum_48 rfl (lv_at hl 3 rfl) ?_
                refine lv_iload_n hx hb dX5_sum_49 rfl (lv_at hl 4 rfl) ?_
                refine kJi (wr := []) (va_runV (As := [.int a0]) (rest := []) ⟨hx, hb, hml, hown, hT⟩ (c_X5_product_of dd ih l D cI aK aV k k0 H.size c1 v_30 f8_k3 c4 c5 c6 c7 c0 a0 pre0 (by first | omega | decide | assumption | rfl) (by first | omega | decide | assumption | rfl) (by first | omega | decide | assumption | rfl) (by first | omega | decide | assumption | rfl) (by first | omega | decide | assumption | rfl) (by first | omega | decide | assumption | rfl)) (cwV 1 hT (gV_in mw_476 mw_473 mw_475 mw_p1_9 mw_6) rfl rfl rfl (by decide +kernel) ⟨(by dsimp only; omega), (by dsimp only; omega)⟩) (kRecvX (q0 := 0) (ci := 5) hK hP hD hN hXS hS hA rfl rfl [0, 1] rfl (by decide +kernel)) rfl rfl hl.1 rfl (lv_room (Nat.le_of_ble_eq_true rfl)) dX5_sum_50 ⟨Nat.le_of_ble_eq_true rfl, Nat.le_of_ble_eq_true rfl⟩) hP hD hS hA [0, 1] [] rfl rfl (by decide +kernel) (by decide +kernel) ?_
                clear hP hD hS
                intro r_31 u_35 H locs w_32 hP hD hS
                obtain ⟨sc2_33, sc3_34⟩ := u_35
                replace hP : va_P D vwCl [(k, .inr (5, [.ref k0, .int c1, .int sc2_33, .int sc3_34, .int c4, .int c5, .int c6, .int c7])), (k0, .inl (cI, 50, .inl c0))] H := hP
                replace hD : va_D A [(k, .inr (5, [.ref k0, .int c1, .int sc2_33, .int sc3_34, .int c4, .int c5, .int c6, .int c7])), (k0, .inl (cI, 50, .inl c0))] := hD
                have lo_sc2_33 := k_lo sc2_33
                have hi_sc2_33 := k_hi sc2_33
                have lo_sc3_34 := k_lo sc3_34
                have hi_sc3_34 := k_hi sc3_34
                obtain ⟨h_36, h_37, h_38⟩ := w_32
                have h_36 : v_30.toInt ≤ sc2_33.toInt := h_36
                have h_37 : sc2_33.toInt ≤ c1.toInt := h_37
                have h_38 : TXQ (tG c0 0 c1) c4 c5 c6 c7 4 a0.toInt f8_k3 0 v_30.toInt r_31 sc2_33.toInt sc3_34 := h_38
                have h_38 : TXQ (tG c0 0 c1) c4 c5 c6 c7 4 a0.toInt f8_k3 0 v_30.toInt r_31 sc2_33.toInt sc3_34 := h_38
                have lo_r_31 := k_lo r_31
                have hi_r_31 := k_hi r_31
                refine lv_istore (lv' := [(5, .int r_31), (4, .int r_20), (3, .int l8_3), (2, .int l8_2), (0, .ref k), (1, .int a0)]) hx hb dX5_sum_53 hl (by decide +kernel) rfl ?_
                clear hl
                intro ls hl
                refine lv_iload hx hb dX5_sum_55 (lv_at hl 1 rfl) ?_
                refine lv_bipush (v := 43) hx hb dX5_sum_57 (by decide +kernel) ?_
                refine b_icmp_ne hx hb rfl zl_43 (tgt := 69) dX5_sum_59 (by decide +kernel) (fun c_39 => by exfalso; omega) (fun c_39 => ?_)
                refine lv_iload_n hx hb dX5_sum_62 rfl (lv_at hl 3 rfl) ?_
                refine lv_iload hx hb dX5_sum_63 (lv_at hl 0 rfl) ?_
                refine lv_iadd hx hb dX5_sum_65 ?_
                refine lv_topi (fun v_40 ev_40 => ?_)
                have lo_v_40 := k_lo v_40
                have hi_v_40 := k_hi v_40
                refine lv_goto (tgt := 73) hx hb dX5_sum_66 (by decide +kernel) ?_
                refine lv_istore_n (lv' := [(2, .int v_40), (5, .int r_31), (4, .int r_20), (3, .int l8_3), (0, .ref k), (1, .int a0)]) hx hb dX5_sum_73 rfl hl (by decide +kernel) rfl ?_
                clear hl
                intro ls hl
                obtain ⟨v_41, ev_41⟩ : ∃ y : Int32, y = l8_3 + 1 := ⟨_, rfl⟩
                have tv_41 : v_41.toInt = l8_3.toInt + 1 := by rw [ev_41]; exact k_addv rfl zl_1 (by omega) (by omega)
                refine lv_iinc (v := v_41) (lv' := [(3, .int v_41), (2, .int v_40), (5, .int r_31), (4, .int r_20), (0, .ref k), (1, .int a0)]) hx hb dX5_sum_74 hl (k := 3) rfl (by rw [ev_41]; rfl) (by decide +kernel) rfl ?_
                clear hl
                intro ls hl
                refine lv_goto (tgt := 8) hx hb dX5_sum_77 (by decide +kernel) ?_
                exact ih8 v_40 v_41 sc2_33 sc3_34 (by first | omega | decide | assumption | rfl) (by first | omega | decide | assumption | rfl) (by first | omega | decide | assumption | rfl) (by first | omega | decide | assumption | rfl) (by first | omega | decide | assumption | rfl) (fun r q b z => i8_5 r q b (TXQ.more (bz := f8_k3) (w := r_31) (tx_add (tG c0 0 c1 f8_k2.toInt) l8_2) (by omega) (by omega) (tx_y13 (by rw [← h_24]; omega)) (by rw [← tv_30]; exact h_38) (fun _ => (by unfold tx_add; rw [← h_24, if_pos (by omega)]; exact ev_40)) r q b z)) (by omega) ls _ _ (lv_sub hl [0, 1, 4, 5] rfl) (hP.sub [0, 1] rfl) (hD.sub [0, 1] (by decide +kernel) rfl) hS
              · exfalso; omega
            · refine lv_aload_n hx hb dX5_sum_23 rfl (lv_at hl 2 rfl) ?_
              refine kJi (wr := []) (va_runV (As := []) (rest := []) ⟨hx, hb, hml, hown, hT⟩ (c_X5_nextG l D cI aK aV k k0 H.size c1 f8_k2 f8_k3 c4 c5 c6 c7 c0 pre0 (by first | omega | decide | assumption | rfl) (by first | omega | decide | assumption | rfl) (by first | omega | decide | assumption | rfl)) (cwV 0 hT (gV_in mw_484 mw_481 mw_483 mw_p1_11 mw_6) rfl rfl rfl (by decide +kernel) ⟨(by dsimp only; omega), (by dsimp only; omega)⟩) (kRecvX (q0 := 0) (ci := 5) hK hP hD hN hXS hS hA rfl rfl [0, 1] rfl (by decide +kernel)) rfl rfl hl.1 rfl (lv_room (Nat.le_of_ble_eq_true rfl)) dX5_sum_24 ⟨Nat.le_of_ble_eq_true rfl, Nat.le_of_ble_eq_true rfl⟩) hP hD hS hA [0, 1] [] rfl rfl (by decide +kernel) (by decide +kernel) ?_
              clear hP hD hS
              intro r_42 u_44 H locs w_43 hP hD hS
              replace hP : va_P D vwCl [(k, .inr (5, [.ref k0, .int c1, .int f8_k2, .int f8_k3, .int c4, .int c5, .int c6, .int c7])), (k0, .inl (cI, 50, .inl c0))] H := hP
              replace hD : va_D A [(k, .inr (5, [.ref k0, .int c1, .int f8_k2, .int f8_k3, .int c4, .int c5, .int c6, .int c7])), (k0, .inl (cI, 50, .inl c0))] := hD
              rcases w_43 with ⟨h_45, h_46, h_47, h_48, h_49⟩ | ⟨hr_42, h_50⟩
              · have h_45 : f8_k3.toInt = 0 := h_45
                have h_46 : r_42 = tG c0 0 c1 f8_k2.toInt := h_46
                have h_46 : r_42 = tG c0 0 c1 f8_k2.toInt := h_46
                have q_51 : r_42.toInt = r_10.toInt := by rw [h_46, h_14]
                have h_47 : -1 ≤ r_42.toInt := h_47
                have h_48 : r_42.toInt ≤ 255 := h_48
                have h_49 : r_42.toInt = (-1) ∨ f8_k2.toInt < c1.toInt := h_49
                have lo_r_42 := k_lo r_42
                have hi_r_42 := k_hi r_42
                refine lv_bipush (v := 45) hx hb dX5_sum_27 (by decide +kernel) ?_
                refine b_icmp_ne hx hb rfl zl_45 (tgt := 80) dX5_sum_29 (by decide +kernel) (fun c_52 => ?_) (fun c_52 => ?_)
                · refine lv_iload_n hx hb dX5_sum_80 rfl (lv_at hl 1 rfl) ?_
                  exact hRet (f8_k2, f8_k3) [0, 1] ⟨(by first | omega | decide | assumption | rfl | (dsimp only; first | omega)), (by first | omega | decide | assumption | rfl | (dsimp only; first | omega)), (by (try dsimp only); exact (i8_5 _ _ _ (TXQ.stop (tx_n13 (by rw [← h_46]; omega) (by rw [← h_46]; omega)))))⟩ hP hD (by decide +kernel) rfl hS rfl dX5_sum_81
                · refine lv_aload_n hx hb dX5_sum_32 rfl (lv_at hl 2 rfl) ?_
                  refine kJi (wr := []) (va_runV (As := []) (rest := []) ⟨hx, hb, hml, hown, hT⟩ (c_X5_nextG l D cI aK aV k k0 H.size c1 f8_k2 f8_k3 c4 c5 c6 c7 c0 pre0 (by first | omega | decide | assumption | rfl) (by first | omega | decide | assumption | rfl) (by first | omega | decide | assumption | rfl)) (cwV 0 hT (gV_in mw_484 mw_481 mw_483 mw_p1_11 mw_6) rfl rfl rfl (by decide +kernel) ⟨(by dsimp only; omega), (by dsimp only; omega)⟩) (kRecvX (q0 := 0) (ci := 5) hK hP hD hN hXS hS hA rfl rfl [0, 1] rfl (by decide +kernel)) rfl rfl hl.1 rfl (lv_room (Nat.le_of_ble_eq_true rfl)) dX5_sum_33 ⟨Nat.le_of_ble_eq_true rfl, Nat.le_of_ble_eq_true rfl⟩) hP hD hS hA [0, 1] [] rfl rfl (by decide +kernel) (by decide +kernel) ?_
                  clear hP hD hS
                  intro r_53 u_55 H locs w_54 hP hD hS
                  replace hP : va_P D vwCl [(k, .inr (5, [.ref k0, .int c1, .int f8_k2, .int f8_k3, .int c4, .int c5, .int c6, .int c7])), (k0, .inl (cI, 50, .inl c0))] H := hP
                  replace hD : va_D A [(k, .inr (5, [.ref k0, .int c1, .int f8_k2, .int f8_k3, .int c4, .int c5, .int c6, .int c7])), (k0, .inl (cI, 50, .inl c0))] := hD
                  rcases w_54 with ⟨h_56, h_57, h_58, h_59, h_60⟩ | ⟨hr_53, h_61⟩
                  · have h_56 : f8_k3.toInt = 0 := h_56
                    have h_57 : r_53 = tG c0 0 c1 f8_k2.toInt := h_57
                    have h_57 : r_53 = tG c0 0 c1 f8_k2.toInt := h_57
                    have q_62 : r_53.toInt = r_42.toInt := by rw [h_57, h_46]
                    have h_58 : -1 ≤ r_53.toInt := h_58
                    have h_59 : r_53.toInt ≤ 255 := h_59
                    have h_60 : r_53.toInt = (-1) ∨ f8_k2.toInt < c1.toInt := h_60
                    have lo_r_53 := k_lo r_53
                    have hi_r_53 := k_hi r_53
                    refine lv_istore (lv' := [(4, .int r_53), (3, .int l8_3), (2, .int l8_2), (0, .ref k), (1, .int a0)]) hx hb dX5_sum_36 hl (by decide +kernel) rfl ?_
                    clear hl
                    intro ls hl
                    refine lv_aload_n hx hb dX5_sum_38 rfl (lv_at hl 3 rfl) ?_
                    refine lv_dup hx hb dX5_sum_39 rfl ?_
                    refine va_get (D := D) (ci := 5) (v := .int f8_k2) (C := RX5) (T := TX5) (N := 8) hx hb hT giX5 hown hK hP 0 rfl rfl 2 (by decide +kernel) (hT (Cond.fieldLink RX5 19 "DesertWire$Reader" "at" "I") mw_170) (fun _ h9 => h9) rfl dX5_sum_40 ?_
                    refine lv_iconst (v := 1) hx hb dX5_sum_43 (by decide +kernel) ?_
                    refine lv_iadd hx hb dX5_sum_44 ?_
                    refine lv_topi (fun v_63 ev_63 => ?_)
                    have tv_63 : v_63.toInt = f8_k2.toInt + 1 := by rw [ev_63]; exact k_addv rfl zl_1 (by omega) (by omega)
                    refine va_put (D := D) (ci := 5) (v := .int v_63) (ty := .int) (C := RX5) (T := TX5) (N := 8) hx hb hT giX5 tyX5 tyX5_ok nmX5 hown hK hP hD hS 0 rfl rfl 2 (by decide +kernel) (hT (Cond.fieldLink RX5 19 "DesertWire$Reader" "at" "I") mw_170) (fun _ h9 => h9) rfl (by decide +kernel) rfl rfl (Nat.le_of_ble_eq_true rfl) dX5_sum_45 ?_
                    clear hP hD hS
                    intro H locs hP hD hS
                    replace hP : va_P D vwCl [(k, .inr (5, [.ref k0, .int c1, .int v_63, .int f8_k3, .int c4, .int c5, .int c6, .int c7])), (k0, .inl (cI, 50, .inl c0))] H := hP
                    replace hD : va_D A [(k, .inr (5, [.ref k0, .int c1, .int v_63, .int f8_k3, .int c4, .int c5, .int c6, .int c7])), (k0, .inl (cI, 50, .inl c0))] := hD
                    refine lv_aload_n hx hb dX5_sum_48 rfl (lv_at hl 3 rfl) ?_
                    refine lv_iload_n hx hb dX5_sum_49 rfl (lv_at hl 4 rfl) ?_
                    refine kJi (wr := []) (va_runV (As := [.int a0]) (rest := []) ⟨hx, hb, hml, hown, hT⟩ (c_X5_product_of dd ih l D cI aK aV k k0 H.size c1 v_63 f8_k3 c4 c5 c6 c7 c0 a0 pre0 (by first | omega | decide | assumption | rfl) (by first | omega | decide | assumption | rfl) (by first | omega | decide | assumption | rfl) (by first | omega | decide | assumption | rfl) (by first | omega | decide | assumption | rfl) (by first | omega | decide | assumption | rfl)) (cwV 1 hT (gV_in mw_476 mw_473 mw_475 mw_p1_9 mw_6) rfl rfl rfl (by decide +kernel) ⟨(by dsimp only; omega), (by dsimp only; omega)⟩) (kRecvX (q0 := 0) (ci := 5) hK hP hD hN hXS hS hA rfl rfl [0, 1] rfl (by decide +kernel)) rfl rfl hl.1 rfl (lv_room (Nat.le_of_ble_eq_true rfl)) dX5_sum_50 ⟨Nat.le_of_ble_eq_true rfl, Nat.le_of_ble_eq_true rfl⟩) hP hD hS hA [0, 1] [] rfl rfl (by decide +kernel) (by decide +kernel) ?_
                    clear hP hD hS
                    intro r_64 u_68 H locs w_65 hP hD hS
                    obtain ⟨sc2_66, sc3_67⟩ := u_68
                    replace hP : va_P D vwCl [(k, .inr (5, [.ref k0, .int c1, .int sc2_66, .int sc3_67, .int c4, .int c5, .int c6, .int c7])), (k0, .inl (cI, 50, .inl c0))] H := hP
                    replace hD : va_D A [(k, .inr (5, [.ref k0, .int c1, .int sc2_66, .int sc3_67, .int c4, .int c5, .int c6, .int c7])), (k0, .inl (cI, 50, .inl c0))] := hD
                    have lo_sc2_66 := k_lo sc2_66
                    have hi_sc2_66 := k_hi sc2_66
                    have lo_sc3_67 := k_lo sc3_67
                    have hi_sc3_67 := k_hi sc3_67
                    obtain ⟨h_69, h_70, h_71⟩ := w_65
                    have h_69 : v_63.toInt ≤ sc2_66.toInt := h_69
                    have h_70 : sc2_66.toInt ≤ c1.toInt := h_70
                    have h_71 : TXQ (tG c0 0 c1) c4 c5 c6 c7 4 a0.toInt f8_k3 0 v_63.toInt r_64 sc2_66.toInt sc3_67 := h_71
                    have h_71 : TXQ (tG c0 0 c1) c4 c5 c6 c7 4 a0.toInt f8_k3 0 v_63.toInt r_64 sc2_66.toInt sc3_67 := h_71
                    have lo_r_64 := k_lo r_64
                    have hi_r_64 := k_hi r_64
                    refine lv_istore (lv' := [(5, .int r_64), (4, .int r_53), (3, .int l8_3), (2, .int l8_2), (0, .ref k), (1, .int a0)]) hx hb dX5_sum_53 hl (by decide +kernel) rfl ?_
                    clear hl
                    intro ls hl
                    refine lv_iload hx hb dX5_sum_55 (lv_at hl 1 rfl) ?_
                    refine lv_bipush (v := 43) hx hb dX5_sum_57 (by decide +kernel) ?_
                    refine b_icmp_ne hx hb rfl zl_43 (tgt := 69) dX5_sum_59 (by decide +kernel) (fun c_72 => ?_) (fun c_72 => by exfalso; omega)
                    refine lv_iload_n hx hb dX5_sum_69 rfl (lv_at hl 3 rfl) ?_
                    refine lv_iload hx hb dX5_sum_70 (lv_at hl 0 rfl) ?_
                    refine lv_isub hx hb dX5_sum_72 ?_
                    refine lv_topi (fun v_73 ev_73 => ?_)
                    have lo_v_73 := k_lo v_73
                    have hi_v_73 := k_hi v_73
                    refine lv_istore_n (lv' := [(2, .int v_73), (5, .int r_64), (4, .int r_53), (3, .int l8_3), (0, .ref k), (1, .int a0)]) hx hb dX5_sum_73 rfl hl (by decide +kernel) rfl ?_
                    clear hl
                    intro ls hl
                    obtain ⟨v_74, ev_74⟩ : ∃ y : Int32, y = l8_3 + 1 := ⟨_, rfl⟩
                    have tv_74 : v_74.toInt = l8_3.toInt + 1 := by rw [ev_74]; exact k_addv rfl zl_1 (by omega) (by omega)
                    refine lv_iinc (v := v_74) (lv' := [(3, .int v_74), (2, .int v_73), (5, .int r_64), (4, .int r_53), (0, .ref k), (1, .int a0)]) hx hb dX5_sum_74 hl (k := 3) rfl (by rw [ev_74]; rfl) (by decide +kernel) rfl ?_
                    clear hl
                    intro ls hl
                    refine lv_goto (tgt := 8) hx hb dX5_sum_77 (by decide +kernel) ?_
                    exact ih8 v_73 v_74 sc2_66 sc3_67 (by first | omega | decide | assumption | rfl) (by first | omega | decide | assumption | rfl) (by first | omega | decide | assumption | rfl) (by first | omega | decide | assumption | rfl) (by first | omega | decide | assumption | rfl) (fun r q b z => i8_5 r q b (TXQ.more (bz := f8_k3) (w := r_64) (tx_add (tG c0 0 c1 f8_k2.toInt) l8_2) (by omega) (by omega) (tx_y13 (by rw [← h_57]; omega)) (by rw [← tv_63]; exact h_71) (fun _ => (by unfold tx_add; rw [← h_57, if_neg (by omega)]; exact ev_73)) r q b z)) (by omega) ls _ _ (lv_sub hl [0, 1, 4, 5] rfl) (hP.sub [0, 1] rfl) (hD.sub [0, 1] (by decide +kernel) rfl) hS
                  · exfalso; omega
              · exfalso; omega
          · have h_18 : f8_k3.toInt ≠ 0 := h_18
            obtain rfl : r_10 = (-1) := hr_10.trans (by decide +kernel)
            refine lv_bipush (v := 43) hx hb dX5_sum_18 (by decide +kernel) ?_
            refine b_icmp_eq hx hb zl_m1 zl_43 (tgt := 32) dX5_sum_20 (by decide +kernel) (fun c_75 => by exfalso; omega) (fun c_75 => ?_)
            refine lv_aload_n hx hb dX5_sum_23 rfl (lv_at hl 2 rfl) ?_
            refine kJi (wr := []) (va_runV (As := []) (rest := []) ⟨hx, hb, hml, hown, hT⟩ (c_X5_nextG l D cI aK aV k k0 H.size c1 f8_k2 f8_k3 c4 c5 c6 c7 c0 pre0 (by first | omega | decide | assumption | rfl) (by first | omega | decide | assumption | rfl) (by first | omega | decide | assumption | rfl)) (cwV 0 hT (gV_in mw_484 mw_481 mw_483 mw_p1_11 mw_6) rfl rfl rfl (by decide +kernel) ⟨(by dsimp only; omega), (by dsimp only; omega)⟩) (kRecvX (q0 := 0) (ci := 5) hK hP hD hN hXS hS hA rfl rfl [0, 1] rfl (by decide +kernel)) rfl rfl hl.1 rfl (lv_room (Nat.le_of_ble_eq_true rfl)) dX5_sum_24 ⟨Nat.le_of_ble_eq_true rfl, Nat.le_of_ble_eq_true rfl⟩) hP hD hS hA [0, 1] [] rfl rfl (by decide +kernel) (by decide +kernel) ?_
            clear hP hD hS
            intro r_76 u_78 H locs w_77 hP hD hS
            replace hP : va_P D vwCl [(k, .inr (5, [.ref k0, .int c1, .int f8_k2, .int f8_k3, .int c4, .int c5, .int c6, .int c7])), (k0, .inl (cI, 50, .inl c0))] H := hP
            replace hD : va_D A [(k, .inr (5, [.ref k0, .int c1, .int f8_k2, .int f8_k3, .int c4, .int c5, .int c6, .int c7])), (k0, .inl (cI, 50, .inl c0))] := hD
            rcases w_77 with ⟨h_79, h_80, h_81, h_82, h_83⟩ | ⟨hr_76, h_84⟩
            · exfalso; omega
            · have h_84 : f8_k3.toInt ≠ 0 := h_84
              obtain rfl : r_76 = (-1) := hr_76.trans (by decide +kernel)
              refine lv_bipush (v := 45) hx hb dX5_sum_27 (by decide +kernel) ?_
              refine b_icmp_ne hx hb zl_m1 zl_45 (tgt := 80) dX5_sum_29 (by decide +kernel) (fun c_85 => ?_) (fun c_85 => by exfalso; omega)
              refine lv_iload_n hx hb dX5_sum_80 rfl (lv_at hl 1 rfl) ?_
              exact hRet (f8_k2, f8_k3) [0, 1] ⟨(by first | omega | decide | assumption | rfl | (dsimp only; first | omega)), (by first | omega | decide | assumption | rfl | (dsimp only; first | omega)), (by (try dsimp only); exact (i8_5 _ _ _ (TXQ.bad (by omega) (by omega))))⟩ hP hD (by decide +kernel) rfl hS rfl dX5_sum_81
  exact hloop_8 _ r_1 0 sc2_3 sc3_4 (by first | omega | (simp only [zl_0]; first | done | omega) | decide | assumption | rfl) (by first | omega | (simp only [zl_0]; first | done | omega) | decide | assumption | rfl) (by first | omega | (simp only [zl_0]; first | done | omega) | decide | assumption | rfl) (by first | omega | (simp only [zl_0]; first | done | omega) | decide | assumption | rfl) (by first | omega | (simp only [zl_0]; first | done | omega) | decide | assumption | rfl) (TXQ.seq (fun f v => tx_e3 f v _) h_8 0) (Nat.lt_succ_self _) ls _ _ (lv_sub hl [0, 1, 2, 3] rfl) hP hD hS
set_option maxHeartbeats 4000000 in
set_option maxRecDepth 100000 in
theorem c_X5_compared_of (dd : Nat) (ih : RDP dd) (l : Launch) (D : va_G) (cI : ClassId) (aK aV : Nat → Nat) (k k0 : Nat) (sz : Nat) (c1 : Int32) (c2 : Int32) (c3 : Int32) (c4 : Int32) (c5 : Int32) (c6 : Int32) (c7 : Int32) (c0 : Nat → Int32) (a0 : Int32) (pre0 : BYT c0 0) (pre1 : c1.toInt ≤ 50) (pre2 : 0 ≤ c2.toInt) (pre3 : c2.toInt ≤ c1.toInt) (pre4 : 0 ≤ a0.toInt) (pre5 : a0.toInt ≤ 4) (pre6 : (4 - a0.toInt).toNat < dd + 1)  : Met l yX5_compared (gW yX5_compared cX5_compared 5 (some .int)) ({ frames := 16 * (dd + 1) + 9, cells := 0, slots := 0, locals := 1024 * (dd + 1) + 576 } : Room) (kPreX D cI aK aV [.ref k, .int a0] [(k, .inr (5, [.ref k0, .int c1, .int c2, .int c3, .int c4, .int c5, .int c6, .int c7])), (k0, .inl (cI, 50, .inl c0))] sz) (va_Qi (fun (r : Int32) (u : Int32 × Int32) => c2.toInt ≤ u.1.toInt ∧ u.1.toInt ≤ c1.toInt ∧ TXQ (tG c0 0 c1) c4 c5 c6 c7 2 a0.toInt c3 0 c2.toInt r u.1.toInt u.2) (fun u t => kWd D cI (va_A [(k, .inr (5, [.ref k0, .int c1, .int c2, .int c3, .int c4, .int c5, .int c6, .int c7])), (k0, .inl (cI, 50, .inl c0))] sz) [(k, .inr (5, [.ref k0, .int c1, .int u.1, .int u.2, .int c4, .int c5, .int c6, .int c7])), (k0, .inl (cI, 50, .inl c0))] t) (va_A [(k, .inr (5, [.ref k0, .int c1, .int c2, .int c3, .int c4, .int c5, .int c6, .int c7])), (k0, .inl (cI, 50, .inl c0))] sz)) 0 0 (va_A [(k, .inr (5, [.ref k0, .int c1, .int c2, .int c3, .int c4, .int c5, .int c6, .int c7])), (k0, .inl (cI, 50, .inl c0))] sz) := by
  refine kMetIX (own := RX5) (by decide +kernel) rfl (Nat.le_of_ble_eq_true rfl) ?_
  intro p e s m args below meth c hx hb hT hown hname hml A Q hK hP hD hS hA hN hXS hRet ls hl
  have hl : lv_has ls 5 [(0, .ref k), (1, .int a0)] := hl
  have lo_a0 := k_lo a0
  have hi_a0 := k_hi a0
  have lo_c1 := k_lo c1
  have hi_c1 := k_hi c1
  have lo_c2 := k_lo c2
  have hi_c2 := k_hi c2
  have lo_c3 := k_lo c3
  have hi_c3 := k_hi c3
  have lo_c4 := k_lo c4
  have hi_c4 := k_hi c4
  have lo_c5 := k_lo c5
  have hi_c5 := k_hi c5
  have lo_c6 := k_lo c6
  have hi_c6 := k_hi c6
  have lo_c7 := k_lo c7
  have hi_c7 := k_hi c7
  have pre0 : BYT c0 0 := pre0
  refine lv_aload_n hx hb dX5_compared_0 rfl (lv_at hl 0 rfl) ?_
  refine lv_iload_n hx hb dX5_compared_1 rfl (lv_at hl 1 rfl) ?_
  refine kJi (wr := []) (va_runV (As := [.int a0]) (rest := []) ⟨hx, hb, hml, hown, hT⟩ (c_X5_sum_of dd ih l D cI aK aV k k0 s.heap.size c1 c2 c3 c4 c5 c6 c7 c0 a0 pre0 (by first | omega | decide | assumption | rfl) (by first | omega | decide | assumption | rfl) (by first | omega | decide | assumption | rfl) (by first | omega | decide | assumption | rfl) (by first | omega | decide | assumption | rfl) (by first | omega | decide | assumption | rfl)) (cwV 1 hT (gV_in mw_472 mw_469 mw_471 mw_p1_8 mw_6) rfl rfl rfl (by decide +kernel) ⟨(by dsimp only; omega), (by dsimp only; omega)⟩) (kRecvX (q0 := 0) (ci := 5) hK hP hD hN hXS hS hA rfl rfl [0, 1] rfl (by decide +kernel)) rfl rfl hl.1 rfl (lv_room (Nat.le_of_ble_eq_true rfl)) dX5_compared_2 ⟨Nat.le_of_ble_eq_true rfl, Nat.le_of_ble_eq_true rfl⟩) hP hD hS hA [0, 1] [] rfl rfl (by decide +kernel) (by decide +kernel) ?_
  clear hP hD hS
  intro r_1 u_5 H locs w_2 hP hD hS
  obtain ⟨sc2_3, sc3_4⟩ := u_5
  replace hP : va_P D vwCl [(k, .inr (5, [.ref k0, .int c1, .int sc2_3, .int sc3_4, .int c4, .int c5, .int c6, .int c7])), (k0, .inl (cI, 50, .inl c0))] H := hP
  replace hD : va_D A [(k, .inr (5, [.ref k0, .int c1, .int sc2_3, .int sc3_4, .int c4, .int c5, .int c6, .int c7])), (k0, .inl (cI, 50, .inl c0))] := hD
  have lo_sc2_3 := k_lo sc2_3
  have hi_sc2_3 := k_hi sc2_3
  have lo_sc3_4 := k_lo sc3_4
  have hi_sc3_4 := k_hi sc3_4
  obtain ⟨h_6, h_7, h_8⟩ := w_2
  have h_6 : c2.toInt ≤ sc2_3.toInt := h_6
  have h_7 : sc2_3.toInt ≤ c1.toInt := h_7
  have h_8 : TXQ (tG c0 0 c1) c4 c5 c6 c7 3 a0.toInt c3 0 c2.toInt r_1 sc2_3.toInt sc3_4 := h_8
  have h_8 : TXQ (tG c0 0 c1) c4 c5 c6 c7 3 a0.toInt c3 0 c2.toInt r_1 sc2_3.toInt sc3_4 := h_8
  have lo_r_1 := k_lo r_1
  have hi_r_1 := k_hi r_1
  refine lv_istore_n (lv' := [(2, .int r_1), (0, .ref k), (1, .int a0)]) hx hb dX5_compared_5 rfl hl (by decide +kernel) rfl ?_
  clear hl
  intro ls hl
  refine lv_aload_n hx hb dX5_compared_6 rfl (lv_at hl 1 rfl) ?_
  refine kJi (wr := []) (va_runV (As := []) (rest := []) ⟨hx, hb, hml, hown, hT⟩ (c_X5_nextG l D cI aK aV k k0 H.size c1 sc2_3 sc3_4 c4 c5 c6 c7 c0 pre0 (by first | omega | decide | assumption | rfl) (by first | omega | decide | assumption | rfl) (by first | omega | decide | assumption | rfl)) (cwV 0 hT (gV_in mw_484 mw_481 mw_483 mw_p1_11 mw_6) rfl rfl rfl (by decide +kernel) ⟨(by dsimp only; omega), (by dsimp only; omega)⟩) (kRecvX (q0 := 0) (ci := 5) hK hP hD hN hXS hS hA rfl rfl [0, 1] rfl (by decide +kernel)) rfl rfl hl.1 rfl (lv_room (Nat.le_of_ble_eq_true rfl)) dX5_compared_7 ⟨Nat.le_of_ble_eq_true rfl, Nat.le_of_ble_eq_true rfl⟩) hP hD hS hA [0, 1] [] rfl rfl (by decide +kernel) (by decide +kernel) ?_
  clear hP hD hS
  intro r_9 u_11 H locs w_10 hP hD hS
  replace hP : va_P D vwCl [(k, .inr (5, [.ref k0, .int c1, .int sc2_3, .int sc3_4, .int c4, .int c5, .int c6, .int c7])), (k0, .inl (cI, 50, .inl c0))] H := hP
  replace hD : va_D A [(k, .inr (5, [.ref k0, .int c1, .int sc2_3, .int sc3_4, .int c4, .int c5, .int c6, .int c7])), (k0, .inl (cI, 50, .inl c0))] := hD
  rcases w_10 with ⟨h_12, h_13, h_14, h_15, h_16⟩ | ⟨hr_9, h_17⟩
  · have h_12 : sc3_4.toInt = 0 := h_12
    have h_13 : r_9 = tG c0 0 c1 sc2_3.toInt := h_13
    have h_13 : r_9 = tG c0 0 c1 sc2_3.toInt := h_13
    have h_14 : -1 ≤ r_9.toInt := h_14
    have h_15 : r_9.toInt ≤ 255 := h_15
    have h_16 : r_9.toInt = (-1) ∨ sc2_3.toInt < c1.toInt := h_16
    have lo_r_9 := k_lo r_9
    have hi_r_9 := k_hi r_9
    refine lv_istore_n (lv' := [(3, .int r_9), (2, .int r_1), (0, .ref k), (1, .int a0)]) hx hb dX5_compared_10 rfl hl (by decide +kernel) rfl ?_
    clear hl
    intro ls hl
    refine lv_iload_n hx hb dX5_compared_11 rfl (lv_at hl 0 rfl) ?_
    refine lv_bipush (v := 60) hx hb dX5_compared_12 (by decide +kernel) ?_
    refine b_icmp_eq hx hb rfl zl_60 (tgt := 31) dX5_compared_14 (by decide +kernel) (fun c_18 => ?_) (fun c_18 => ?_)
    · refine lv_aload_n hx hb dX5_compared_31 rfl (lv_at hl 2 rfl) ?_
      refine lv_dup hx hb dX5_compared_32 rfl ?_
      refine va_get (D := D) (ci := 5) (v := .int sc2_3) (C := RX5) (T := TX5) (N := 8) hx hb hT giX5 hown hK hP 0 rfl rfl 2 (by decide +kernel) (hT (Cond.fieldLink RX5 19 "DesertWire$Reader" "at" "I") mw_170) (fun _ h9 => h9) rfl dX5_compared_33 ?_
      refine lv_iconst (v := 1) hx hb dX5_compared_36 (by decide +kernel) ?_
      refine lv_iadd hx hb dX5_compared_37 ?_
      refine lv_topi (fun v_19 ev_19 => ?_)
      have tv_19 : v_19.toInt = sc2_3.toInt + 1 := by rw [ev_19]; exact k_addv rfl zl_1 (by omega) (by omega)
      refine va_put (D := D) (ci := 5) (v := .int v_19) (ty := .int) (C := RX5) (T := TX5) (N := 8) hx hb hT giX5 tyX5 tyX5_ok nmX5 hown hK hP hD hS 0 rfl rfl 2 (by decide +kernel) (hT (Cond.fieldLink RX5 19 "DesertWire$Reader" "at" "I") mw_170) (fun _ h9 => h9) rfl (by decide +kernel) rfl rfl (Nat.le_of_ble_eq_true rfl) dX5_compared_38 ?_
      clear hP hD hS
      intro H locs hP hD hS
      replace hP : va_P D vwCl [(k, .inr (5, [.ref k0, .int c1, .int v_19, .int sc3_4, .int c4, .int c5, .int c6, .int c7])), (k0, .inl (cI, 50, .inl c0))] H := hP
      replace hD : va_D A [(k, .inr (5, [.ref k0, .int c1, .int v_19, .int sc3_4, .int c4, .int c5, .int c6, .int c7])), (k0, .inl (cI, 50, .inl c0))] := hD
      refine lv_aload_n hx hb dX5_compared_41 rfl (lv_at hl 2 rfl) ?_
      refine lv_iload_n hx hb dX5_compared_42 rfl (lv_at hl 3 rfl) ?_
      refine kJi (wr := []) (va_runV (As := [.int a0]) (rest := []) ⟨hx, hb, hml, hown, hT⟩ (c_X5_sum_of dd ih l D cI aK aV k k0 H.size c1 v_19 sc3_4 c4 c5 c6 c7 c0 a0 pre0 (by first | omega | decide | assumption | rfl) (by first | omega | decide | assumption | rfl) (by first | omega | decide | assumption | rfl) (by first | omega | decide | assumption | rfl) (by first | omega | decide | assumption | rfl) (by first | omega | decide | assumption | rfl)) (cwV 1 hT (gV_in mw_472 mw_469 mw_471 mw_p1_8 mw_6) rfl rfl rfl (by decide +kernel) ⟨(by dsimp only; omega), (by dsimp only; omega)⟩) (kRecvX (q0 := 0) (ci := 5) hK hP hD hN hXS hS hA rfl rfl [0, 1] rfl (by decide +kernel)) rfl rfl hl.1 rfl (lv_room (Nat.le_of_ble_eq_true rfl)) dX5_compared_43 ⟨Nat.le_of_ble_eq_true rfl, Nat.le_of_ble_eq_true rfl⟩) hP hD hS hA [0, 1] [] rfl rfl (by decide +kernel) (by decide +kernel) ?_
      clear hP hD hS
      intro r_20 u_24 H locs w_21 hP hD hS
      obtain ⟨sc2_22, sc3_23⟩ := u_24
      replace hP : va_P D vwCl [(k, .inr (5, [.ref k0, .int c1, .int sc2_22, .int sc3_23, .int c4, .int c5, .int c6, .int c7])), (k0, .inl (cI, 50, .inl c0))] H := hP
      replace hD : va_D A [(k, .inr (5, [.ref k0, .int c1, .int sc2_22, .int sc3_23, .int c4, .int c5, .int c6, .int c7])), (k0, .inl (cI, 50, .inl c0))] := hD
      have lo_sc2_22 := k_lo sc2_22
      have hi_sc2_22 := k_hi sc2_22
      have lo_sc3_23 := k_lo sc3_23
      have hi_sc3_23 := k_hi sc3_23
      obtain ⟨h_25, h_26, h_27⟩ := w_21
      have h_25 : v_19.toInt ≤ sc2_22.toInt := h_25
      have h_26 : sc2_22.toInt ≤ c1.toInt := h_26
      have h_27 : TXQ (tG c0 0 c1) c4 c5 c6 c7 3 a0.toInt sc3_4 0 v_19.toInt r_20 sc2_22.toInt sc3_23 := h_27
      have h_27 : TXQ (tG c0 0 c1) c4 c5 c6 c7 3 a0.toInt sc3_4 0 v_19.toInt r_20 sc2_22.toInt sc3_23 := h_27
      have lo_r_20 := k_lo r_20
      have hi_r_20 := k_hi r_20
      refine lv_istore (lv' := [(4, .int r_20), (3, .int r_9), (2, .int r_1), (0, .ref k), (1, .int a0)]) hx hb dX5_compared_46 hl (by decide +kernel) rfl ?_
      clear hl
      intro ls hl
      refine lv_iload_n hx hb dX5_compared_48 rfl (lv_at hl 1 rfl) ?_
      refine lv_bipush (v := 60) hx hb dX5_compared_49 (by decide +kernel) ?_
      refine b_icmp_ne hx hb rfl zl_60 (tgt := 68) dX5_compared_51 (by decide +kernel) (fun c_28 => by exfalso; omega) (fun c_28 => ?_)
      refine lv_iload_n hx hb dX5_compared_54 rfl (lv_at hl 2 rfl) ?_
      refine lv_iload hx hb dX5_compared_55 (lv_at hl 0 rfl) ?_
      refine b_icmp_ge hx hb rfl rfl (tgt := 64) dX5_compared_57 (by decide +kernel) (fun c_29 => ?_) (fun c_29 => ?_)
      · refine lv_iconst (v := 0) hx hb dX5_compared_64 (by decide +kernel) ?_
        refine lv_goto (tgt := 99) hx hb dX5_compared_65 (by decide +kernel) ?_
        refine kJi (wr := [(k, .inr (5, [.ref k0, .int c1, .int sc2_22, .int sc3_23, .int c4, .int c5, .int c6, .int c7])), (k0, .inl (cI, 50, .inl c0))]) (va_runS (As := [.int 0]) (rest := []) ⟨hx, hb, hml, hown, hT⟩ (c_X5_truthG l D cI aK aV H.size 0) (cwS 1 hT (gS_in mw_502 mw_500 mw_501 mw_6) rfl rfl rfl (by decide +kernel) ⟨(by dsimp only; omega), (by dsimp only; omega)⟩) (kStatX hK hP hD hN hXS hS hA [] rfl (by decide +kernel)) rfl rfl hl.1 rfl (lv_room (Nat.le_of_ble_eq_true rfl)) dX5_compared_99 ⟨Nat.le_of_ble_eq_true rfl, Nat.le_of_ble_eq_true rfl⟩) hP hD hS hA [] [0, 1] rfl rfl (by decide +kernel) (by decide +kernel) ?_
        clear hP hD hS
        intro r_30 u_32 H locs w_31 hP hD hS
        replace hP : va_P D vwCl [(k, .inr (5, [.ref k0, .int c1, .int sc2_22, .int sc3_23, .int c4, .int c5, .int c6, .int c7])), (k0, .inl (cI, 50, .inl c0))] H := hP
        replace hD : va_D A [(k, .inr (5, [.ref k0, .int c1, .int sc2_22, .int sc3_23, .int c4, .int c5, .int c6, .int c7])), (k0, .inl (cI, 50, .inl c0))] := hD
        rcases w_31 with ⟨hr_30, h_33⟩ | ⟨hr_30, h_34⟩
        · (try simp only [zl_0] at h_33); exfalso; omega
        · try simp only [zl_0] at h_34
          obtain rfl : r_30 = 0 := hr_30.trans (by decide +kernel)
          exact hRet (sc2_22, sc3_23) [0, 1] ⟨(by first | omega | (simp only [zl_0]; first | done | omega) | decide | assumption | rfl | (dsimp only; first | omega | (simp only [zl_0]; first | done | omega))), (by first | omega | (simp only [zl_0]; first | done | omega) | decide | assumption | rfl | (dsimp only; first | omega | (simp only [zl_0]; first | done | omega))), (by (try dsimp only); exact (TXQ.cmp_yes (bz := sc3_4) (z := r_20) h_8 (by omega) (TXQ.z h_8 (by omega)) (by rw [← h_13]; omega) (by omega) (by rw [← tv_19]; exact h_27) (fun _ => by rw [← h_13]; unfold tx_cmp; (repeat (first | rw [if_pos (by omega)] | rw [if_neg (by omega)])))))⟩ hP hD (by decide +kernel) rfl hS rfl dX5_compared_102
      · refine lv_iconst (v := 1) hx hb dX5_compared_60 (by decide +kernel) ?_
        refine lv_goto (tgt := 99) hx hb dX5_compared_61 (by decide +kernel) ?_
        refine kJi (wr := [(k, .inr (5, [.ref k0, .int c1, .int sc2_22, .int sc3_23, .int c4, .int c5, .int c6, .int c7])), (k0, .inl (cI, 50, .inl c0))]) (va_runS (As := [.int 1]) (rest := []) ⟨hx, hb, hml, hown, hT⟩ (c_X5_truthG l D cI aK aV H.size 1) (cwS 1 hT (gS_in mw_502 mw_500 mw_501 mw_6) rfl rfl rfl (by decide +kernel) ⟨(by dsimp only; omega), (by dsimp only; omega)⟩) (kStatX hK hP hD hN hXS hS hA [] rfl (by decide +kernel)) rfl rfl hl.1 rfl (lv_room (Nat.le_of_ble_eq_true rfl)) dX5_compared_99 ⟨Nat.le_of_ble_eq_true rfl, Nat.le_of_ble_eq_true rfl⟩) hP hD hS hA [] [0, 1] rfl rfl (by decide +kernel) (by decide +kernel) ?_
        clear hP hD hS
        intro r_35 u_37 H locs w_36 hP hD hS
        replace hP : va_P D vwCl [(k, .inr (5, [.ref k0, .int c1, .int sc2_22, .int sc3_23, .int c4, .int c5, .int c6, .int c7])), (k0, .inl (cI, 50, .inl c0))] H := hP
        replace hD : va_D A [(k, .inr (5, [.ref k0, .int c1, .int sc2_22, .int sc3_23, .int c4, .int c5, .int c6, .int c7])), (k0, .inl (cI, 50, .inl c0))] := hD
        rcases w_36 with ⟨hr_35, h_38⟩ | ⟨hr_35, h_39⟩
        · try simp only [zl_1] at h_38
          obtain rfl : r_35 = 1 := hr_35.trans (by decide +kernel)
          exact hRet (sc2_22, sc3_23) [0, 1] ⟨(by first | omega | (simp only [zl_1]; first | done | omega) | decide | assumption | rfl | (dsimp only; first | omega | (simp only [zl_1]; first | done | omega))), (by first | omega | (simp only [zl_1]; first | done | omega) | decide | assumption | rfl | (dsimp only; first | omega | (simp only [zl_1]; first | done | omega))), (by (try dsimp only); exact (TXQ.cmp_yes (bz := sc3_4) (z := r_20) h_8 (by omega) (TXQ.z h_8 (by omega)) (by rw [← h_13]; omega) (by omega) (by rw [← tv_19]; exact h_27) (fun _ => by rw [← h_13]; unfold tx_cmp; (repeat (first | rw [if_pos (by omega)] | rw [if_neg (by omega)])))))⟩ hP hD (by decide +kernel) rfl hS rfl dX5_compared_102
        · (try simp only [zl_1] at h_39); exfalso; omega
    · refine lv_iload_n hx hb dX5_compared_17 rfl (lv_at hl 0 rfl) ?_
      refine lv_bipush (v := 61) hx hb dX5_compared_18 (by decide +kernel) ?_
      refine b_icmp_eq hx hb rfl zl_61 (tgt := 31) dX5_compared_20 (by decide +kernel) (fun c_40 => ?_) (fun c_40 => ?_)
      · refine lv_aload_n hx hb dX5_compared_31 rfl (lv_at hl 2 rfl) ?_
        refine lv_dup hx hb dX5_compared_32 rfl ?_
        refine va_get (D := D) (ci := 5) (v := .int sc2_3) (C := RX5) (T := TX5) (N := 8) hx hb hT giX5 hown hK hP 0 rfl rfl 2 (by decide +kernel) (hT (Cond.fieldLink RX5 19 "DesertWire$Reader" "at" "I") mw_170) (fun _ h9 => h9) rfl dX5_compared_33 ?_
        refine lv_iconst (v := 1) hx hb dX5_compared_36 (by decide +kernel) ?_
        refine lv_iadd hx hb dX5_compared_37 ?_
        refine lv_topi (fun v_41 ev_41 => ?_)
        have tv_41 : v_41.toInt = sc2_3.toInt + 1 := by rw [ev_41]; exact k_addv rfl zl_1 (by omega) (by omega)
        refine va_put (D := D) (ci := 5) (v := .int v_41) (ty := .int) (C := RX5) (T := TX5) (N := 8) hx hb hT giX5 tyX5 tyX5_ok nmX5 hown hK hP hD hS 0 rfl rfl 2 (by decide +kernel) (hT (Cond.fieldLink RX5 19 "DesertWire$Reader" "at" "I") mw_170) (fun _ h9 => h9) rfl (by decide +kernel) rfl rfl (Nat.le_of_ble_eq_true rfl) dX5_compared_38 ?_
        clear hP hD hS
        intro H locs hP hD hS
        replace hP : va_P D vwCl [(k, .inr (5, [.ref k0, .int c1, .int v_41, .int sc3_4, .int c4, .int c5, .int c6, .int c7])), (k0, .inl (cI, 50, .inl c0))] H := hP
        replace hD : va_D A [(k, .inr (5, [.ref k0, .int c1, .int v_41, .int sc3_4, .int c4, .int c5, .int c6, .int c7])), (k0, .inl (cI, 50, .inl c0))] := hD
        refine lv_aload_n hx hb dX5_compared_41 rfl (lv_at hl 2 rfl) ?_
        refine lv_iload_n hx hb dX5_compared_42 rfl (lv_at hl 3 rfl) ?_
        refine kJi (wr := []) (va_runV (As := [.int a0]) (rest := []) ⟨hx, hb, hml, hown, hT⟩ (c_X5_sum_of dd ih l D cI aK aV k k0 H.size c1 v_41 sc3_4 c4 c5 c6 c7 c0 a0 pre0 (by first | omega | decide | assumption | rfl) (by first | omega | decide | assumption | rfl) (by first | omega | decide | assumption | rfl) (by first | omega | decide | assumption | rfl) (by first | omega | decide | assumption | rfl) (by first | omega | decide | assumption | rfl)) (cwV 1 hT (gV_in mw_472 mw_469 mw_471 mw_p1_8 mw_6) rfl rfl rfl (by decide +kernel) ⟨(by dsimp only; omega), (by dsimp only; omega)⟩) (kRecvX (q0 := 0) (ci := 5) hK hP hD hN hXS hS hA rfl rfl [0, 1] rfl (by decide +kernel)) rfl rfl hl.1 rfl (lv_room (Nat.le_of_ble_eq_true rfl)) dX5_compared_43 ⟨Nat.le_of_ble_eq_true rfl, Nat.le_of_ble_eq_true rfl⟩) hP hD hS hA [0, 1] [] rfl rfl (by decide +kernel) (by decide +kernel) ?_
        clear hP hD hS
        intro r_42 u_46 H locs w_43 hP hD hS
        obtain ⟨sc2_44, sc3_45⟩ := u_46
        replace hP : va_P D vwCl [(k, .inr (5, [.ref k0, .int c1, .int sc2_44, .int sc3_45, .int c4, .int c5, .int c6, .int c7])), (k0, .inl (cI, 50, .inl c0))] H := hP
        replace hD : va_D A [(k, .inr (5, [.ref k0, .int c1, .int sc2_44, .int sc3_45, .int c4, .int c5, .int c6, .int c7])), (k0, .inl (cI, 50, .inl c0))] := hD
        have lo_sc2_44 := k_lo sc2_44
        have hi_sc2_44 := k_hi sc2_44
        have lo_sc3_45 := k_lo sc3_45
        have hi_sc3_45 := k_hi sc3_45
        obtain ⟨h_47, h_48, h_49⟩ := w_43
        have h_47 : v_41.toInt ≤ sc2_44.toInt := h_47
        have h_48 : sc2_44.toInt ≤ c1.toInt := h_48
        have h_49 : TXQ (tG c0 0 c1) c4 c5 c6 c7 3 a0.toInt sc3_4 0 v_41.toInt r_42 sc2_44.toInt sc3_45 := h_49
        have h_49 : TXQ (tG c0 0 c1) c4 c5 c6 c7 3 a0.toInt sc3_4 0 v_41.toInt r_42 sc2_44.toInt sc3_45 := h_49
        have lo_r_42 := k_lo r_42
        have hi_r_42 := k_hi r_42
        refine lv_istore (lv' := [(4, .int r_42), (3, .int r_9), (2, .int r_1), (0, .ref k), (1, .int a0)]) hx hb dX5_compared_46 hl (by decide +kernel) rfl ?_
        clear hl
        intro ls hl
        refine lv_iload_n hx hb dX5_compared_48 rfl (lv_at hl 1 rfl) ?_
        refine lv_bipush (v := 60) hx hb dX5_compared_49 (by decide +kernel) ?_
        refine b_icmp_ne hx hb rfl zl_60 (tgt := 68) dX5_compared_51 (by decide +kernel) (fun c_50 => ?_) (fun c_50 => by exfalso; omega)
        refine lv_iload_n hx hb dX5_compared_68 rfl (lv_at hl 1 rfl) ?_
        refine lv_bipush (v := 61) hx hb dX5_compared_69 (by decide +kernel) ?_
        refine b_icmp_ne hx hb rfl zl_61 (tgt := 88) dX5_compared_71 (by decide +kernel) (fun c_51 => by exfalso; omega) (fun c_51 => ?_)
        refine lv_iload_n hx hb dX5_compared_74 rfl (lv_at hl 2 rfl) ?_
        refine lv_iload hx hb dX5_compared_75 (lv_at hl 0 rfl) ?_
        refine b_icmp_ne hx hb rfl rfl (tgt := 84) dX5_compared_77 (by decide +kernel) (fun c_52 => ?_) (fun c_52 => ?_)
        · refine lv_iconst (v := 0) hx hb dX5_compared_84 (by decide +kernel) ?_
          refine lv_goto (tgt := 99) hx hb dX5_compared_85 (by decide +kernel) ?_
          refine kJi (wr := [(k, .inr (5, [.ref k0, .int c1, .int sc2_44, .int sc3_45, .int c4, .int c5, .int c6, .int c7])), (k0, .inl (cI, 50, .inl c0))]) (va_runS (As := [.int 0]) (rest := []) ⟨hx, hb, hml, hown, hT⟩ (c_X5_truthG l D cI aK aV H.size 0) (cwS 1 hT (gS_in mw_502 mw_500 mw_501 mw_6) rfl rfl rfl (by decide +kernel) ⟨(by dsimp only; omega), (by dsimp only; omega)⟩) (kStatX hK hP hD hN hXS hS hA [] rfl (by decide +kernel)) rfl rfl hl.1 rfl (lv_room (Nat.le_of_ble_eq_true rfl)) dX5_compared_99 ⟨Nat.le_of_ble_eq_true rfl, Nat.le_of_ble_eq_true rfl⟩) hP hD hS hA [] [0, 1] rfl rfl (by decide +kernel) (by decide +kernel) ?_
          clear hP hD hS
          intro r_53 u_55 H locs w_54 hP hD hS
          replace hP : va_P D vwCl [(k, .inr (5, [.ref k0, .int c1, .int sc2_44, .int sc3_45, .int c4, .int c5, .int c6, .int c7])), (k0, .inl (cI, 50, .inl c0))] H := hP
          replace hD : va_D A [(k, .inr (5, [.ref k0, .int c1, .int sc2_44, .int sc3_45, .int c4, .int c5, .int c6, .int c7])), (k0, .inl (cI, 50, .inl c0))] := hD
          rcases w_54 with ⟨hr_53, h_56⟩ | ⟨hr_53, h_57⟩
          · (try simp only [zl_0] at h_56); exfalso; omega
          · try simp only [zl_0] at h_57
            obtain rfl : r_53 = 0 := hr_53.trans (by decide +kernel)
            exact hRet (sc2_44, sc3_45) [0, 1] ⟨(by first | omega | (simp only [zl_0]; first | done | omega) | decide | assumption | rfl | (dsimp only; first | omega | (simp only [zl_0]; first | done | omega))), (by first | omega | (simp only [zl_0]; first | done | omega) | decide | assumption | rfl | (dsimp only; first | omega | (simp only [zl_0]; first | done | omega))), (by (try dsimp only); exact (TXQ.cmp_yes (bz := sc3_4) (z := r_42) h_8 (by omega) (TXQ.z h_8 (by omega)) (by rw [← h_13]; omega) (by omega) (by rw [← tv_41]; exact h_49) (fun _ => by rw [← h_13]; unfold tx_cmp; (repeat (first | rw [if_pos (by omega)] | rw [if_neg (by omega)])))))⟩ hP hD (by decide +kernel) rfl hS rfl dX5_compared_102
        · refine lv_iconst (v := 1) hx hb dX5_compared_80 (by decide +kernel) ?_
          refine lv_goto (tgt := 99) hx hb dX5_compared_81 (by decide +kernel) ?_
          refine kJi (wr := [(k, .inr (5, [.ref k0, .int c1, .int sc2_44, .int sc3_45, .int c4, .int c5, .int c6, .int c7])), (k0, .inl (cI, 50, .inl c0))]) (va_runS (As := [.int 1]) (rest := []) ⟨hx, hb, hml, hown, hT⟩ (c_X5_truthG l D cI aK aV H.size 1) (cwS 1 hT (gS_in mw_502 mw_500 mw_501 mw_6) rfl rfl rfl (by decide +kernel) ⟨(by dsimp only; omega), (by dsimp only; omega)⟩) (kStatX hK hP hD hN hXS hS hA [] rfl (by decide +kernel)) rfl rfl hl.1 rfl (lv_room (Nat.le_of_ble_eq_true rfl)) dX5_compared_99 ⟨Nat.le_of_ble_eq_true rfl, Nat.le_of_ble_eq_true rfl⟩) hP hD hS hA [] [0, 1] rfl rfl (by decide +kernel) (by decide +kernel) ?_
          clear hP hD hS
          intro r_58 u_60 H locs w_59 hP hD hS
          replace hP : va_P D vwCl [(k, .inr (5, [.ref k0, .int c1, .int sc2_44, .int sc3_45, .int c4, .int c5, .int c6, .int c7])), (k0, .inl (cI, 50, .inl c0))] H := hP
          replace hD : va_D A [(k, .inr (5, [.ref k0, .int c1, .int sc2_44, .int sc3_45, .int c4, .int c5, .int c6, .int c7])), (k0, .inl (cI, 50, .inl c0))] := hD
          rcases w_59 with ⟨hr_58, h_61⟩ | ⟨hr_58, h_62⟩
          · try simp only [zl_1] at h_61
            obtain rfl : r_58 = 1 := hr_58.trans (by decide +kernel)
            exact hRet (sc2_44, sc3_45) [0, 1] ⟨(by first | omega | (simp only [zl_1]; first | done | omega) | decide | assumption | rfl | (dsimp only; first | omega | (simp only [zl_1]; first | done | omega))), (by first | omega | (simp only [zl_1]; first | done | omega) | decide | assumption | rfl | (dsimp only; first | omega | (simp only [zl_1]; first | done | omega))), (by (try dsimp only); exact (TXQ.cmp_yes (bz := sc3_4) (z := r_42) h_8 (by omega) (TXQ.z h_8 (by omega)) (by rw [← h_13]; omega) (by omega) (by rw [← tv_41]; exact h_49) (fun _ => by rw [← h_13]; unfold tx_cmp; (repeat (first | rw [if_pos (by omega)] | rw [if_neg (by omega)])))))⟩ hP hD (by decide +kernel) rfl hS rfl dX5_compared_102
          · (try simp only [zl_1] at h_62); exfalso; omega
      · refine lv_iload_n hx hb dX5_compared_23 rfl (lv_at hl 0 rfl) ?_
        refine lv_bipush (v := 62) hx hb dX5_compared_24 (by decide +kernel) ?_
        refine b_icmp_eq hx hb rfl zl_62 (tgt := 31) dX5_compared_26 (by decide +kernel) (fun c_63 => ?_) (fun c_63 => ?_)
        · refine lv_aload_n hx hb dX5_compared_31 rfl (lv_at hl 2 rfl) ?_
          refine lv_dup hx hb dX5_compared_32 rfl ?_
          refine va_get (D := D) (ci := 5) (v := .int sc2_3) (C := RX5) (T := TX5) (N := 8) hx hb hT giX5 hown hK hP 0 rfl rfl 2 (by decide +kernel) (hT (Cond.fieldLink RX5 19 "DesertWire$Reader" "at" "I") mw_170) (fun _ h9 => h9) rfl dX5_compared_33 ?_
          refine lv_iconst (v := 1) hx hb dX5_compared_36 (by decide +kernel) ?_
          refine lv_iadd hx hb dX5_compared_37 ?_
          refine lv_topi (fun v_64 ev_64 => ?_)
          have tv_64 : v_64.toInt = sc2_3.toInt + 1 := by rw [ev_64]; exact k_addv rfl zl_1 (by omega) (by omega)
          refine va_put (D := D) (ci := 5) (v := .int v_64) (ty := .int) (C := RX5) (T := TX5) (N := 8) hx hb hT giX5 tyX5 tyX5_ok nmX5 hown hK hP hD hS 0 rfl rfl 2 (by decide +kernel) (hT (Cond.fieldLink RX5 19 "DesertWire$Reader" "at" "I") mw_170) (fun _ h9 => h9) rfl (by decide +kernel) rfl rfl (Nat.le_of_ble_eq_true rfl) dX5_compared_38 ?_
          clear hP hD hS
          intro H locs hP hD hS
          replace hP : va_P D vwCl [(k, .inr (5, [.ref k0, .int c1, .int v_64, .int sc3_4, .int c4, .int c5, .int c6, .int c7])), (k0, .inl (cI, 50, .inl c0))] H := hP
          replace hD : va_D A [(k, .inr (5, [.ref k0, .int c1, .int v_64, .int sc3_4, .int c4, .int c5, .int c6, .int c7])), (k0, .inl (cI, 50, .inl c0))] := hD
          refine lv_aload_n hx hb dX5_compared_41 rfl (lv_at hl 2 rfl) ?_
          refine lv_iload_n hx hb dX5_compared_42 rfl (lv_at hl 3 rfl) ?_
          refine kJi (wr := []) (va_runV (As := [.int a0]) (rest := []) ⟨hx, hb, hml, hown, hT⟩ (c_X5_sum_of dd ih l D cI aK aV k k0 H.size c1 v_64 sc3_4 c4 c5 c6 c7 c0 a0 pre0 (by first | omega | decide | assumption | rfl) (by first | omega | decide | assumption | rfl) (by first | omega | decide | assumption | rfl) (by first | omega | decide | assumption | rfl) (by first | omega | decide | assumption | rfl) (by first | omega | decide | assumption | rfl)) (cwV 1 hT (gV_in mw_472 mw_469 mw_471 mw_p1_8 mw_6) rfl rfl rfl (by decide +kernel) ⟨(by dsimp only; omega), (by dsimp only; omega)⟩) (kRecvX (q0 := 0) (ci := 5) hK hP hD hN hXS hS hA rfl rfl [0, 1] rfl (by decide +kernel)) rfl rfl hl.1 rfl (lv_room (Nat.le_of_ble_eq_true rfl)) dX5_compared_43 ⟨Nat.le_of_ble_eq_true rfl, Nat.le_of_ble_eq_true rfl⟩) hP hD hS hA [0, 1] [] rfl rfl (by decide +kernel) (by decide +kernel) ?_
          clear hP hD hS
          intro r_65 u_69 H locs w_66 hP hD hS
          obtain ⟨sc2_67, sc3_68⟩ := u_69
          replace hP : va_P D vwCl [(k, .inr (5, [.ref k0, .int c1, .int sc2_67, .int sc3_68, .int c4, .int c5, .int c6, .int c7])), (k0, .inl (cI, 50, .inl c0))] H := hP
          replace hD : va_D A [(k, .inr (5, [.ref k0, .int c1, .int sc2_67, .int sc3_68, .int c4, .int c5, .int c6, .int c7])), (k0, .inl (cI, 50, .inl c0))] := hD
          have lo_sc2_67 := k_lo sc2_67
          have hi_sc2_67 := k_hi sc2_67
          have lo_sc3_68 := k_lo sc3_68
          have hi_sc3_68 := k_hi sc3_68
          obtain ⟨h_70, h_71, h_72⟩ := w_66
          have h_70 : v_64.toInt ≤ sc2_67.toInt := h_70
          have h_71 : sc2_67.toInt ≤ c1.toInt := h_71
          have h_72 : TXQ (tG c0 0 c1) c4 c5 c6 c7 3 a0.toInt sc3_4 0 v_64.toInt r_65 sc2_67.toInt sc3_68 := h_72
          have h_72 : TXQ (tG c0 0 c1) c4 c5 c6 c7 3 a0.toInt sc3_4 0 v_64.toInt r_65 sc2_67.toInt sc3_68 := h_72
          have lo_r_65 := k_lo r_65
          have hi_r_65 := k_hi r_65
          refine lv_istore (lv' := [(4, .int r_65), (3, .int r_9), (2, .int r_1), (0, .ref k), (1, .int a0)]) hx hb dX5_compared_46 hl (by decide +kernel) rfl ?_
          clear hl
          intro ls hl
          refine lv_iload_n hx hb dX5_compared_48 rfl (lv_at hl 1 rfl) ?_
          refine lv_bipush (v := 60) hx hb dX5_compared_49 (by decide +kernel) ?_
          refine b_icmp_ne hx hb rfl zl_60 (tgt := 68) dX5_compared_51 (by decide +kernel) (fun c_73 => ?_) (fun c_73 => by exfalso; omega)
          refine lv_iload_n hx hb dX5_compared_68 rfl (lv_at hl 1 rfl) ?_
          refine lv_bipush (v := 61) hx hb dX5_compared_69 (by decide +kernel) ?_
          refine b_icmp_ne hx hb rfl zl_61 (tgt := 88) dX5_compared_71 (by decide +kernel) (fun c_74 => ?_) (fun c_74 => by exfalso; omega)
          refine lv_iload_n hx hb dX5_compared_88 rfl (lv_at hl 2 rfl) ?_
          refine lv_iload hx hb dX5_compared_89 (lv_at hl 0 rfl) ?_
          refine b_icmp_le hx hb rfl rfl (tgt := 98) dX5_compared_91 (by decide +kernel) (fun c_75 => ?_) (fun c_75 => ?_)
          · refine lv_iconst (v := 0) hx hb dX5_compared_98 (by decide +kernel) ?_
            refine kJi (wr := [(k, .inr (5, [.ref k0, .int c1, .int sc2_67, .int sc3_68, .int c4, .int c5, .int c6, .int c7])), (k0, .inl (cI, 50, .inl c0))]) (va_runS (As := [.int 0]) (rest := []) ⟨hx, hb, hml, hown, hT⟩ (c_X5_truthG l D cI aK aV H.size 0) (cwS 1 hT (gS_in mw_502 mw_500 mw_501 mw_6) rfl rfl rfl (by decide +kernel) ⟨(by dsimp only; omega), (by dsimp only; omega)⟩) (kStatX hK hP hD hN hXS hS hA [] rfl (by decide +kernel)) rfl rfl hl.1 rfl (lv_room (Nat.le_of_ble_eq_true rfl)) dX5_compared_99 ⟨Nat.le_of_ble_eq_true rfl, Nat.le_of_ble_eq_true rfl⟩) hP hD hS hA [] [0, 1] rfl rfl (by decide +kernel) (by decide +kernel) ?_
            clear hP hD hS
            intro r_76 u_78 H locs w_77 hP hD hS
            replace hP : va_P D vwCl [(k, .inr (5, [.ref k0, .int c1, .int sc2_67, .int sc3_68, .int c4, .int c5, .int c6, .int c7])), (k0, .inl (cI, 50, .inl c0))] H := hP
            replace hD : va_D A [(k, .inr (5, [.ref k0, .int c1, .int sc2_67, .int sc3_68, .int c4, .int c5, .int c6, .int c7])), (k0, .inl (cI, 50, .inl c0))] := hD
            rcases w_77 with ⟨hr_76, h_79⟩ | ⟨hr_76, h_80⟩
            · (try simp only [zl_0] at h_79); exfalso; omega
            · try simp only [zl_0] at h_80
              obtain rfl : r_76 = 0 := hr_76.trans (by decide +kernel)
              exact hRet (sc2_67, sc3_68) [0, 1] ⟨(by first | omega | (simp only [zl_0]; first | done | omega) | decide | assumption | rfl | (dsimp only; first | omega | (simp only [zl_0]; first | done | omega))), (by first | omega | (simp only [zl_0]; first | done | omega) | decide | assumption | rfl | (dsimp only; first | omega | (simp only [zl_0]; first | done | omega))), (by (try dsimp only); exact (TXQ.cmp_yes (bz := sc3_4) (z := r_65) h_8 (by omega) (TXQ.z h_8 (by omega)) (by rw [← h_13]; omega) (by omega) (by rw [← tv_64]; exact h_72) (fun _ => by rw [← h_13]; unfold tx_cmp; (repeat (first | rw [if_pos (by omega)] | rw [if_neg (by omega)])))))⟩ hP hD (by decide +kernel) rfl hS rfl dX5_compared_102
          · refine lv_iconst (v := 1) hx hb dX5_compared_94 (by decide +kernel) ?_
            refine lv_goto (tgt := 99) hx hb dX5_compared_95 (by decide +kernel) ?_
            refine kJi (wr := [(k, .inr (5, [.ref k0, .int c1, .int sc2_67, .int sc3_68, .int c4, .int c5, .int c6, .int c7])), (k0, .inl (cI, 50, .inl c0))]) (va_runS (As := [.int 1]) (rest := []) ⟨hx, hb, hml, hown, hT⟩ (c_X5_truthG l D cI aK aV H.size 1) (cwS 1 hT (gS_in mw_502 mw_500 mw_501 mw_6) rfl rfl rfl (by decide +kernel) ⟨(by dsimp only; omega), (by dsimp only; omega)⟩) (kStatX hK hP hD hN hXS hS hA [] rfl (by decide +kernel)) rfl rfl hl.1 rfl (lv_room (Nat.le_of_ble_eq_true rfl)) dX5_compared_99 ⟨Nat.le_of_ble_eq_true rfl, Nat.le_of_ble_eq_true rfl⟩) hP hD hS hA [] [0, 1] rfl rfl (by decide +kernel) (by decide +kernel) ?_
            clear hP hD hS
            intro r_81 u_83 H locs w_82 hP hD hS
            replace hP : va_P D vwCl [(k, .inr (5, [.ref k0, .int c1, .int sc2_67, .int sc3_68, .int c4, .int c5, .int c6, .int c7])), (k0, .inl (cI, 50, .inl c0))] H := hP
            replace hD : va_D A [(k, .inr (5, [.ref k0, .int c1, .int sc2_67, .int sc3_68, .int c4, .int c5, .int c6, .int c7])), (k0, .inl (cI, 50, .inl c0))] := hD
            rcases w_82 with ⟨hr_81, h_84⟩ | ⟨hr_81, h_85⟩
            · try simp only [zl_1] at h_84
              obtain rfl : r_81 = 1 := hr_81.trans (by decide +kernel)
              exact hRet (sc2_67, sc3_68) [0, 1] ⟨(by first | omega | (simp only [zl_1]; first | done | omega) | decide | assumption | rfl | (dsimp only; first | omega | (simp only [zl_1]; first | done | omega))), (by first | omega | (simp only [zl_1]; first | done | omega) | decide | assumption | rfl | (dsimp only; first | omega | (simp only [zl_1]; first | done | omega))), (by (try dsimp only); exact (TXQ.cmp_yes (bz := sc3_4) (z := r_65) h_8 (by omega) (TXQ.z h_8 (by omega)) (by rw [← h_13]; omega) (by omega) (by rw [← tv_64]; exact h_72) (fun _ => by rw [← h_13]; unfold tx_cmp; (repeat (first | rw [if_pos (by omega)] | rw [if_neg (by omega)])))))⟩ hP hD (by decide +kernel) rfl hS rfl dX5_compared_102
            · (try simp only [zl_1] at h_85); exfalso; omega
        · refine lv_iload_n hx hb dX5_compared_29 rfl (lv_at hl 1 rfl) ?_
          exact hRet (sc2_3, sc3_4) [0, 1] ⟨(by first | omega | decide | assumption | rfl | (dsimp only; first | omega)), (by first | omega | decide | assumption | rfl | (dsimp only; first | omega)), (by (try dsimp only); exact (TXQ.cmp_no h_8 (Or.inr (by rw [← h_13]; exact ⟨by omega, by omega, by omega⟩)) (fun _ => rfl)))⟩ hP hD (by decide +kernel) rfl hS rfl dX5_compared_30
  · have h_17 : sc3_4.toInt ≠ 0 := h_17
    obtain rfl : r_9 = (-1) := hr_9.trans (by decide +kernel)
    refine lv_istore_n (lv' := [(3, .int (-1)), (2, .int r_1), (0, .ref k), (1, .int a0)]) hx hb dX5_compared_10 rfl hl (by decide +kernel) rfl ?_
    clear hl
    intro ls hl
    refine lv_iload_n hx hb dX5_compared_11 rfl (lv_at hl 0 rfl) ?_
    refine lv_bipush (v := 60) hx hb dX5_compared_12 (by decide +kernel) ?_
    refine b_icmp_eq hx hb zl_m1 zl_60 (tgt := 31) dX5_compared_14 (by decide +kernel) (fun c_86 => by exfalso; omega) (fun c_86 => ?_)
    refine lv_iload_n hx hb dX5_compared_17 rfl (lv_at hl 0 rfl) ?_
    refine lv_bipush (v := 61) hx hb dX5_compared_18 (by decide +kernel) ?_
    refine b_icmp_eq hx hb zl_m1 zl_61 (tgt := 31) dX5_compared_20 (by decide +kernel) (fun c_87 => by exfalso; omega) (fun c_87 => ?_)
    refine lv_iload_n hx hb dX5_compared_23 rfl (lv_at hl 0 rfl) ?_
    refine lv_bipush (v := 62) hx hb dX5_compared_24 (by decide +kernel) ?_
    refine b_icmp_eq hx hb zl_m1 zl_62 (tgt := 31) dX5_compared_26 (by decide +kernel) (fun c_88 => by exfalso; omega) (fun c_88 => ?_)
    refine lv_iload_n hx hb dX5_compared_29 rfl (lv_at hl 1 rfl) ?_
    exact hRet (sc2_3, sc3_4) [0, 1] ⟨(by first | omega | decide | assumption | rfl | (dsimp only; first | omega)), (by first | omega | decide | assumption | rfl | (dsimp only; first | omega)), (by (try dsimp only); exact (TXQ.cmp_no h_8 (Or.inl (by omega)) (fun _ => rfl)))⟩ hP hD (by decide +kernel) rfl hS rfl dX5_compared_30
set_option maxHeartbeats 4000000 in
set_option maxRecDepth 100000 in
theorem c_X5_both_of (dd : Nat) (ih : RDP dd) (l : Launch) (D : va_G) (cI : ClassId) (aK aV : Nat → Nat) (k k0 : Nat) (sz : Nat) (c1 : Int32) (c2 : Int32) (c3 : Int32) (c4 : Int32) (c5 : Int32) (c6 : Int32) (c7 : Int32) (c0 : Nat → Int32) (a0 : Int32) (pre0 : BYT c0 0) (pre1 : c1.toInt ≤ 50) (pre2 : 0 ≤ c2.toInt) (pre3 : c2.toInt ≤ c1.toInt) (pre4 : 0 ≤ a0.toInt) (pre5 : a0.toInt ≤ 4) (pre6 : (4 - a0.toInt).toNat < dd + 1)  : Met l yX5_both (gW yX5_both cX5_both 5 (some .int)) ({ frames := 16 * (dd + 1) + 10, cells := 0, slots := 0, locals := 1024 * (dd + 1) + 640 } : Room) (kPreX D cI aK aV [.ref k, .int a0] [(k, .inr (5, [.ref k0, .int c1, .int c2, .int c3, .int c4, .int c5, .int c6, .int c7])), (k0, .inl (cI, 50, .inl c0))] sz) (va_Qi (fun (r : Int32) (u : Int32 × Int32) => c2.toInt ≤ u.1.toInt ∧ u.1.toInt ≤ c1.toInt ∧ TXQ (tG c0 0 c1) c4 c5 c6 c7 1 a0.toInt c3 0 c2.toInt r u.1.toInt u.2) (fun u t => kWd D cI (va_A [(k, .inr (5, [.ref k0, .int c1, .int c2, .int c3, .int c4, .int c5, .int c6, .int c7])), (k0, .inl (cI, 50, .inl c0))] sz) [(k, .inr (5, [.ref k0, .int c1, .int u.1, .int u.2, .int c4, .int c5, .int c6, .int c7])), (k0, .inl (cI, 50, .inl c0))] t) (va_A [(k, .inr (5, [.ref k0, .int c1, .int c2, .int c3, .int c4, .int c5, .int c6, .int c7])), (k0, .inl (cI, 50, .inl c0))] sz)) 0 0 (va_A [(k, .inr (5, [.ref k0, .int c1, .int c2, .int c3, .int c4, .int c5, .int c6, .int c7])), (k0, .inl (cI, 50, .inl c0))] sz) := by
  refine kMetIX (own := RX5) (by decide +kernel) rfl (Nat.le_of_ble_eq_true rfl) ?_
  intro p e s m args below meth c hx hb hT hown hname hml A Q hK hP hD hS hA hN hXS hRet ls hl
  have hl : lv_has ls 5 [(0, .ref k), (1, .int a0)] := hl
  have lo_a0 := k_lo a0
  have hi_a0 := k_hi a0
  have lo_c1 := k_lo c1
  have hi_c1 := k_hi c1
  have lo_c2 := k_lo c2
  have hi_c2 := k_hi c2
  have lo_c3 := k_lo c3
  have hi_c3 := k_hi c3
  have lo_c4 := k_lo c4
  have hi_c4 := k_hi c4
  have lo_c5 := k_lo c5
  have hi_c5 := k_hi c5
  have lo_c6 := k_lo c6
  have hi_c6 := k_hi c6
  have lo_c7 := k_lo c7
  have hi_c7 := k_hi c7
  have pre0 : BYT c0 0 := pre0
  refine lv_aload_n hx hb dX5_both_0 rfl (lv_at hl 0 rfl) ?_
  refine lv_iload_n hx hb dX5_both_1 rfl (lv_at hl 1 rfl) ?_
  refine kJi (wr := []) (va_runV (As := [.int a0]) (rest := []) ⟨hx, hb, hml, hown, hT⟩ (c_X5_compared_of dd ih l D cI aK aV k k0 s.heap.size c1 c2 c3 c4 c5 c6 c7 c0 a0 pre0 (by first | omega | decide | assumption | rfl) (by first | omega | decide | assumption | rfl) (by first | omega | decide | assumption | rfl) (by first | omega | decide | assumption | rfl) (by first | omega | decide | assumption | rfl) (by first | omega | decide | assumption | rfl)) (cwV 1 hT (gV_in mw_468 mw_465 mw_467 mw_p1_7 mw_6) rfl rfl rfl (by decide +kernel) ⟨(by dsimp only; omega), (by dsimp only; omega)⟩) (kRecvX (q0 := 0) (ci := 5) hK hP hD hN hXS hS hA rfl rfl [0, 1] rfl (by decide +kernel)) rfl rfl hl.1 rfl (lv_room (Nat.le_of_ble_eq_true rfl)) dX5_both_2 ⟨Nat.le_of_ble_eq_true rfl, Nat.le_of_ble_eq_true rfl⟩) hP hD hS hA [0, 1] [] rfl rfl (by decide +kernel) (by decide +kernel) ?_
  clear hP hD hS
  intro r_1 u_5 H locs w_2 hP hD hS
  obtain ⟨sc2_3, sc3_4⟩ := u_5
  replace hP : va_P D vwCl [(k, .inr (5, [.ref k0, .int c1, .int sc2_3, .int sc3_4, .int c4, .int c5, .int c6, .int c7])), (k0, .inl (cI, 50, .inl c0))] H := hP
  replace hD : va_D A [(k, .inr (5, [.ref k0, .int c1, .int sc2_3, .int sc3_4, .int c4, .int c5, .int c6, .int c7])), (k0, .inl (cI, 50, .inl c0))] := hD
  have lo_sc2_3 := k_lo sc2_3
  have hi_sc2_3 := k_hi sc2_3
  have lo_sc3_4 := k_lo sc3_4
  have hi_sc3_4 := k_hi sc3_4
  obtain ⟨h_6, h_7, h_8⟩ := w_2
  have h_6 : c2.toInt ≤ sc2_3.toInt := h_6
  have h_7 : sc2_3.toInt ≤ c1.toInt := h_7
  have h_8 : TXQ (tG c0 0 c1) c4 c5 c6 c7 2 a0.toInt c3 0 c2.toInt r_1 sc2_3.toInt sc3_4 := h_8
  have h_8 : TXQ (tG c0 0 c1) c4 c5 c6 c7 2 a0.toInt c3 0 c2.toInt r_1 sc2_3.toInt sc3_4 := h_8
  have lo_r_1 := k_lo r_1
  have hi_r_1 := k_hi r_1
  refine lv_istore_n (lv' := [(2, .int r_1), (0, .ref k), (1, .int a0)]) hx hb dX5_both_5 rfl hl (by decide +kernel) rfl ?_
  clear hl
  intro ls hl
  refine lv_iconst (v := 0) hx hb dX5_both_6 (by decide +kernel) ?_
  refine lv_istore_n (lv' := [(3, .int 0), (2, .int r_1), (0, .ref k), (1, .int a0)]) hx hb dX5_both_7 rfl hl (by decide +kernel) rfl ?_
  clear hl
  intro ls hl
  have hloop_8 : ∀ (fu_ : Nat) (l8_2 : Int32) (l8_3 : Int32) (f8_k2 : Int32) (f8_k3 : Int32), 0 ≤ l8_3.toInt → sc2_3.toInt ≤ f8_k2.toInt → l8_3.toInt ≤ f8_k2.toInt → c2.toInt ≤ f8_k2.toInt → f8_k2.toInt ≤ c1.toInt → (∀ (r : Int32) (q : Int) (b : Int32), TXQ (tG c0 0 c1) c4 c5 c6 c7 11 a0.toInt f8_k3 l8_2 f8_k2.toInt r q b → TXQ (tG c0 0 c1) c4 c5 c6 c7 1 a0.toInt c3 0 c2.toInt r q b) → (50 - l8_3.toInt).toNat < fu_ → ∀ (ls : Array Slot) (H : Heap) (locs : List Loc), lv_has ls 5 [(3, .int l8_3), (2, .int l8_2), (0, .ref k), (1, .int a0)] → va_P D vwCl [(k, .inr (5, [.ref k0, .int c1, .int f8_k2, .int f8_k3, .int c4, .int c5, .int c6, .int c7])), (k0, .inl (cI, 50, .inl c0))] H → va_D A [(k, .inr (5, [.ref k0, .int c1, .int f8_k2, .int f8_k3, .int c4, .int c5, .int c6, .int c7])), (k0, .inl (cI, 50, .inl c0))] → va_S A s.heap H locs → W p l e ({ frames := 16 * (dd + 1) + 10, cells := 0, slots := 0, locals := 1024 * (dd + 1) + 640 } : Room) s m args below meth c H locs 0 0 Q (F0 m 8 ls []) := by
    intro fu_; induction fu_ with
    | zero => intro l8_2 l8_3 f8_k2 f8_k3 i8_0 i8_1 i8_2 i8_3 i8_4 i8_5 hm; exact absurd hm (by omega)
    | succ fu_ ih8 =>
        intro l8_2 l8_3 f8_k2 f8_k3 i8_0 i8_1 i8_2 i8_3 i8_4 i8_5 hm ls H locs hl hP hD hS
        have lo_l8_2 := k_lo l8_2
        have hi_l8_2 := k_hi l8_2
        have lo_l8_3 := k_lo l8_3
        have hi_l8_3 := k_hi l8_3
        have lo_f8_k2 := k_lo f8_k2
        have hi_f8_k2 := k_hi f8_k2
        have lo_f8_k3 := k_lo f8_k3
        have hi_f8_k3 := k_hi f8_k3
        refine lv_iload_n hx hb dX5_both_8 rfl (lv_at hl 0 rfl) ?_
        refine lv_bipush (v := 50) hx hb dX5_both_9 (by decide +kernel) ?_
        refine b_icmp_ge hx hb rfl zl_50 (tgt := 64) dX5_both_11 (by decide +kernel) (fun c_9 => ?_) (fun c_9 => ?_)
        · refine lv_iload_n hx hb dX5_both_64 rfl (lv_at hl 1 rfl) ?_
          exact hRet (f8_k2, f8_k3) [0, 1] ⟨(by first | omega | decide | assumption | rfl | (dsimp only; first | omega)), (by first | omega | decide | assumption | rfl | (dsimp only; first | omega)), (by (try dsimp only); exact (i8_5 _ _ _ (TXQ.stop (tx_n11 (by rw [tG_hi (by omega)]; decide)))))⟩ hP hD (by decide +kernel) rfl hS rfl dX5_both_65
        · refine lv_aload_n hx hb dX5_both_14 rfl (lv_at hl 2 rfl) ?_
          refine kJi (wr := []) (va_runV (As := []) (rest := []) ⟨hx, hb, hml, hown, hT⟩ (c_X5_nextG l D cI aK aV k k0 H.size c1 f8_k2 f8_k3 c4 c5 c6 c7 c0 pre0 (by first | omega | decide | assumption | rfl) (by first | omega | decide | assumption | rfl) (by first | omega | decide | assumption | rfl)) (cwV 0 hT (gV_in mw_484 mw_481 mw_483 mw_p1_11 mw_6) rfl rfl rfl (by decide +kernel) ⟨(by dsimp only; omega), (by dsimp only; omega)⟩) (kRecvX (q0 := 0) (ci := 5) hK hP hD hN hXS hS hA rfl rfl [0, 1] rfl (by decide +kernel)) rfl rfl hl.1 rfl (lv_room (Nat.le_of_ble_eq_true rfl)) dX5_both_15 ⟨Nat.le_of_ble_eq_true rfl, Nat.le_of_ble_eq_true rfl⟩) hP hD hS hA [0, 1] [] rfl rfl (by decide +kernel) (by decide +kernel) ?_
          clear hP hD hS
          intro r_10 u_12 H locs w_11 hP hD hS
          replace hP : va_P D vwCl [(k, .inr (5, [.ref k0, .int c1, .int f8_k2, .int f8_k3, .int c4, .int c5, .int c6, .int c7])), (k0, .inl (cI, 50, .inl c0))] H := hP
          replace hD : va_D A [(k, .inr (5, [.ref k0, .int c1, .int f8_k2, .int f8_k3, .int c4, .int c5, .int c6, .int c7])), (k0, .inl (cI, 50, .inl c0))] := hD
          rcases w_11 with ⟨h_13, h_14, h_15, h_16, h_17⟩ | ⟨hr_10, h_18⟩
          · have h_13 : f8_k3.toInt = 0 := h_13
            have h_14 : r_10 = tG c0 0 c1 f8_k2.toInt := h_14
            have h_14 : r_10 = tG c0 0 c1 f8_k2.toInt := h_14
            have h_15 : -1 ≤ r_10.toInt := h_15
            have h_16 : r_10.toInt ≤ 255 := h_16
            have h_17 : r_10.toInt = (-1) ∨ f8_k2.toInt < c1.toInt := h_17
            have lo_r_10 := k_lo r_10
            have hi_r_10 := k_hi r_10
            refine lv_bipush (v := 38) hx hb dX5_both_18 (by decide +kernel) ?_
            refine b_icmp_ne hx hb rfl zl_38 (tgt := 64) dX5_both_20 (by decide +kernel) (fun c_19 => ?_) (fun c_19 => ?_)
            · refine lv_iload_n hx hb dX5_both_64 rfl (lv_at hl 1 rfl) ?_
              exact hRet (f8_k2, f8_k3) [0, 1] ⟨(by first | omega | decide | assumption | rfl | (dsimp only; first | omega)), (by first | omega | decide | assumption | rfl | (dsimp only; first | omega)), (by (try dsimp only); exact (i8_5 _ _ _ (TXQ.stop (tx_n11 (by rw [← h_14]; omega)))))⟩ hP hD (by decide +kernel) rfl hS rfl dX5_both_65
            · refine lv_aload_n hx hb dX5_both_23 rfl (lv_at hl 2 rfl) ?_
              refine lv_dup hx hb dX5_both_24 rfl ?_
              refine va_get (D := D) (ci := 5) (v := .int f8_k2) (C := RX5) (T := TX5) (N := 8) hx hb hT giX5 hown hK hP 0 rfl rfl 2 (by decide +kernel) (hT (Cond.fieldLink RX5 19 "DesertWire$Reader" "at" "I") mw_170) (fun _ h9 => h9) rfl dX5_both_25 ?_
              refine lv_iconst (v := 1) hx hb dX5_both_28 (by decide +kernel) ?_
              refine lv_iadd hx hb dX5_both_29 ?_
              refine lv_topi (fun v_20 ev_20 => ?_)
              have tv_20 : v_20.toInt = f8_k2.toInt + 1 := by rw [ev_20]; exact k_addv rfl zl_1 (by omega) (by omega)
              refine va_put (D := D) (ci := 5) (v := .int v_20) (ty := .int) (C := RX5) (T := TX5) (N := 8) hx hb hT giX5 tyX5 tyX5_ok nmX5 hown hK hP hD hS 0 rfl rfl 2 (by decide +kernel) (hT (Cond.fieldLink RX5 19 "DesertWire$Reader" "at" "I") mw_170) (fun _ h9 => h9) rfl (by decide +kernel) rfl rfl (Nat.le_of_ble_eq_true rfl) dX5_both_30 ?_
              clear hP hD hS
              intro H locs hP hD hS
              replace hP : va_P D vwCl [(k, .inr (5, [.ref k0, .int c1, .int v_20, .int f8_k3, .int c4, .int c5, .int c6, .int c7])), (k0, .inl (cI, 50, .inl c0))] H := hP
              replace hD : va_D A [(k, .inr (5, [.ref k0, .int c1, .int v_20, .int f8_k3, .int c4, .int c5, .int c6, .int c7])), (k0, .inl (cI, 50, .inl c0))] := hD
              refine lv_aload_n hx hb dX5_both_33 rfl (lv_at hl 2 rfl) ?_
              refine lv_iload_n hx hb dX5_both_34 rfl (lv_at hl 3 rfl) ?_
              refine kJi (wr := []) (va_runV (As := [.int a0]) (rest := []) ⟨hx, hb, hml, hown, hT⟩ (c_X5_compared_of dd ih l D cI aK aV k k0 H.size c1 v_20 f8_k3 c4 c5 c6 c7 c0 a0 pre0 (by first | omega | decide | assumption | rfl) (by first | omega | decide | assumption | rfl) (by first | omega | decide | assumption | rfl) (by first | omega | decide | assumption | rfl) (by first | omega | decide | assumption | rfl) (by first | omega | decide | assumption | rfl)) (cwV 1 hT (gV_in mw_468 mw_465 mw_467 mw_p1_7 mw_6) rfl rfl rfl (by decide +kernel) ⟨(by dsimp only; omega), (by dsimp only; omega)⟩) (kRecvX (q0 := 0) (ci := 5) hK hP hD hN hXS hS hA rfl rfl [0, 1] rfl (by decide +kernel)) rfl rfl hl.1 rfl (lv_room (Nat.le_of_ble_eq_true rfl)) dX5_both_35 ⟨Nat.le_of_ble_eq_true rfl, Nat.le_of_ble_eq_true rfl⟩) hP hD hS hA [0, 1] [] rfl rfl (by decide +kernel) (by decide +kernel) ?_
              clear hP hD hS
              intro r_21 u_25 H locs w_22 hP hD hS
              obtain ⟨sc2_23, sc3_24⟩ := u_25
              replace hP : va_P D vwCl [(k, .inr (5, [.ref k0, .int c1, .int sc2_23, .int sc3_24, .int c4, .int c5, .int c6, .int c7])), (k0, .inl (cI, 50, .inl c0))] H := hP
              replace hD : va_D A [(k, .inr (5, [.ref k0, .int c1, .int sc2_23, .int sc3_24, .int c4, .int c5, .int c6, .int c7])), (k0, .inl (cI, 50, .inl c0))] := hD
              have lo_sc2_23 := k_lo sc2_23
              have hi_sc2_23 := k_hi sc2_23
              have lo_sc3_24 := k_lo sc3_24
              have hi_sc3_24 := k_hi sc3_24
              obtain ⟨h_26, h_27, h_28⟩ := w_22
              have h_26 : v_20.toInt ≤ sc2_23.toInt := h_26
              have h_27 : sc2_23.toInt ≤ c1.toInt := h_27
              have h_28 : TXQ (tG c0 0 c1) c4 c5 c6 c7 2 a0.toInt f8_k3 0 v_20.toInt r_21 sc2_23.toInt sc3_24 := h_28
              have h_28 : TXQ (tG c0 0 c1) c4 c5 c6 c7 2 a0.toInt f8_k3 0 v_20.toInt r_21 sc2_23.toInt sc3_24 := h_28
              have lo_r_21 := k_lo r_21
              have hi_r_21 := k_hi r_21
              refine lv_istore (lv' := [(4, .int r_21), (3, .int l8_3), (2, .int l8_2), (0, .ref k), (1, .int a0)]) hx hb dX5_both_38 hl (by decide +kernel) rfl ?_
              clear hl
              intro ls hl
              refine lv_iload_n hx hb dX5_both_40 rfl (lv_at hl 2 rfl) ?_
              refine b_if_eq hx hb rfl (tgt := 53) dX5_both_41 (by decide +kernel) (fun c_29 => ?_) (fun c_29 => ?_)
              · refine lv_iconst (v := 0) hx hb dX5_both_53 (by decide +kernel) ?_
                refine kJi (wr := [(k, .inr (5, [.ref k0, .int c1, .int sc2_23, .int sc3_24, .int c4, .int c5, .int c6, .int c7])), (k0, .inl (cI, 50, .inl c0))]) (va_runS (As := [.int 0]) (rest := []) ⟨hx, hb, hml, hown, hT⟩ (c_X5_truthG l D cI aK aV H.size 0) (cwS 1 hT (gS_in mw_502 mw_500 mw_501 mw_6) rfl rfl rfl (by decide +kernel) ⟨(by dsimp only; omega), (by dsimp only; omega)⟩) (kStatX hK hP hD hN hXS hS hA [] rfl (by decide +kernel)) rfl rfl hl.1 rfl (lv_room (Nat.le_of_ble_eq_true rfl)) dX5_both_54 ⟨Nat.le_of_ble_eq_true rfl, Nat.le_of_ble_eq_true rfl⟩) hP hD hS hA [] [0, 1] rfl rfl (by decide +kernel) (by decide +kernel) ?_
                clear hP hD hS
                intro r_30 u_32 H locs w_31 hP hD hS
                replace hP : va_P D vwCl [(k, .inr (5, [.ref k0, .int c1, .int sc2_23, .int sc3_24, .int c4, .int c5, .int c6, .int c7])), (k0, .inl (cI, 50, .inl c0))] H := hP
                replace hD : va_D A [(k, .inr (5, [.ref k0, .int c1, .int sc2_23, .int sc3_24, .int c4, .int c5, .int c6, .int c7])), (k0, .inl (cI, 50, .inl c0))] := hD
                rcases w_31 with ⟨hr_30, h_33⟩ | ⟨hr_30, h_34⟩
                · (try simp only [zl_0] at h_33); exfalso; omega
                · try simp only [zl_0] at h_34
                  obtain rfl : r_30 = 0 := hr_30.trans (by decide +kernel)
                  refine lv_istore_n (lv' := [(2, .int 0), (4, .int r_21), (3, .int l8_3), (0, .ref k), (1, .int a0)]) hx hb dX5_both_57 rfl hl (by decide +kernel) rfl ?_
                  clear hl
                  intro ls hl
                  obtain ⟨v_35, ev_35⟩ : ∃ y : Int32, y = l8_3 + 1 := ⟨_, rfl⟩
                  have tv_35 : v_35.toInt = l8_3.toInt + 1 := by rw [ev_35]; exact k_addv rfl zl_1 (by omega) (by omega)
                  refine lv_iinc (v := v_35) (lv' := [(3, .int v_35), (2, .int 0), (4, .int r_21), (0, .ref k), (1, .int a0)]) hx hb dX5_both_58 hl (k := 2) rfl (by rw [ev_35]; rfl) (by decide +kernel) rfl ?_
                  clear hl
                  intro ls hl
                  refine lv_goto (tgt := 8) hx hb dX5_both_61 (by decide +kernel) ?_
                  exact ih8 0 v_35 sc2_23 sc3_24 (by first | omega | (simp only [zl_0]; first | done | omega) | decide | assumption | rfl) (by first | omega | (simp only [zl_0]; first | done | omega) | decide | assumption | rfl) (by first | omega | (simp only [zl_0]; first | done | omega) | decide | assumption | rfl) (by first | omega | (simp only [zl_0]; first | done | omega) | decide | assumption | rfl) (by first | omega | (simp only [zl_0]; first | done | omega) | decide | assumption | rfl) (fun r q b z => i8_5 r q b (TXQ.more (bz := f8_k3) (w := r_21) (tx_and l8_2) (by omega) (by omega) (tx_y11 (by rw [← h_14]; omega)) (by rw [← tv_20]; exact h_28) (fun _ => (by unfold tx_and; (repeat (first | rw [if_pos (by omega)] | rw [if_neg (by omega)])))) r q b z)) (by omega) ls _ _ (lv_sub hl [0, 1, 3, 4] rfl) (hP.sub [0, 1] rfl) (hD.sub [0, 1] (by decide +kernel) rfl) hS
              · refine lv_iload hx hb dX5_both_44 (lv_at hl 0 rfl) ?_
                refine b_if_eq hx hb rfl (tgt := 53) dX5_both_46 (by decide +kernel) (fun c_36 => ?_) (fun c_36 => ?_)
                · refine lv_iconst (v := 0) hx hb dX5_both_53 (by decide +kernel) ?_
                  refine kJi (wr := [(k, .inr (5, [.ref k0, .int c1, .int sc2_23, .int sc3_24, .int c4, .int c5, .int c6, .int c7])), (k0, .inl (cI, 50, .inl c0))]) (va_runS (As := [.int 0]) (rest := []) ⟨hx, hb, hml, hown, hT⟩ (c_X5_truthG l D cI aK aV H.size 0) (cwS 1 hT (gS_in mw_502 mw_500 mw_501 mw_6) rfl rfl rfl (by decide +kernel) ⟨(by dsimp only; omega), (by dsimp only; omega)⟩) (kStatX hK hP hD hN hXS hS hA [] rfl (by decide +kernel)) rfl rfl hl.1 rfl (lv_room (Nat.le_of_ble_eq_true rfl)) dX5_both_54 ⟨Nat.le_of_ble_eq_true rfl, Nat.le_of_ble_eq_true rfl⟩) hP hD hS hA [] [0, 1] rfl rfl (by decide +kernel) (by decide +kernel) ?_
                  clear hP hD hS
                  intro r_37 u_39 H locs w_38 hP hD hS
                  replace hP : va_P D vwCl [(k, .inr (5, [.ref k0, .int c1, .int sc2_23, .int sc3_24, .int c4, .int c5, .int c6, .int c7])), (k0, .inl (cI, 50, .inl c0))] H := hP
                  replace hD : va_D A [(k, .inr (5, [.ref k0, .int c1, .int sc2_23, .int sc3_24, .int c4, .int c5, .int c6, .int c7])), (k0, .inl (cI, 50, .inl c0))] := hD
                  rcases w_38 with ⟨hr_37, h_40⟩ | ⟨hr_37, h_41⟩
                  · (try simp only [zl_0] at h_40); exfalso; omega
                  · try simp only [zl_0] at h_41
                    obtain rfl : r_37 = 0 := hr_37.trans (by decide +kernel)
                    refine lv_istore_n (lv' := [(2, .int 0), (4, .int r_21), (3, .int l8_3), (0, .ref k), (1, .int a0)]) hx hb dX5_both_57 rfl hl (by decide +kernel) rfl ?_
                    clear hl
                    intro ls hl
                    obtain ⟨v_42, ev_42⟩ : ∃ y : Int32, y = l8_3 + 1 := ⟨_, rfl⟩
                    have tv_42 : v_42.toInt = l8_3.toInt + 1 := by rw [ev_42]; exact k_addv rfl zl_1 (by omega) (by omega)
                    refine lv_iinc (v := v_42) (lv' := [(3, .int v_42), (2, .int 0), (4, .int r_21), (0, .ref k), (1, .int a0)]) hx hb dX5_both_58 hl (k := 2) rfl (by rw [ev_42]; rfl) (by decide +kernel) rfl ?_
                    clear hl
                    intro ls hl
                    refine lv_goto (tgt := 8) hx hb dX5_both_61 (by decide +kernel) ?_
                    exact ih8 0 v_42 sc2_23 sc3_24 (by first | omega | (simp only [zl_0]; first | done | omega) | decide | assumption | rfl) (by first | omega | (simp only [zl_0]; first | done | omega) | decide | assumption | rfl) (by first | omega | (simp only [zl_0]; first | done | omega) | decide | assumption | rfl) (by first | omega | (simp only [zl_0]; first | done | omega) | decide | assumption | rfl) (by first | omega | (simp only [zl_0]; first | done | omega) | decide | assumption | rfl) (fun r q b z => i8_5 r q b (TXQ.more (bz := f8_k3) (w := r_21) (tx_and l8_2) (by omega) (by omega) (tx_y11 (by rw [← h_14]; omega)) (by rw [← tv_20]; exact h_28) (fun _ => (by unfold tx_and; (repeat (first | rw [if_pos (by omega)] | rw [if_neg (by omega)])))) r q b z)) (by omega) ls _ _ (lv_sub hl [0, 1, 3, 4] rfl) (hP.sub [0, 1] rfl) (hD.sub [0, 1] (by decide +kernel) rfl) hS
                · refine lv_iconst (v := 1) hx hb dX5_both_49 (by decide +kernel) ?_
                  refine lv_goto (tgt := 54) hx hb dX5_both_50 (by decide +kernel) ?_
                  refine kJi (wr := [(k, .inr (5, [.ref k0, .int c1, .int sc2_23, .int sc3_24, .int c4, .int c5, .int c6, .int c7])), (k0, .inl (cI, 50, .inl c0))]) (va_runS (As := [.int 1]) (rest := []) ⟨hx, hb, hml, hown, hT⟩ (c_X5_truthG l D cI aK aV H.size 1) (cwS 1 hT (gS_in mw_502 mw_500 mw_501 mw_6) rfl rfl rfl (by decide +kernel) ⟨(by dsimp only; omega), (by dsimp only; omega)⟩) (kStatX hK hP hD hN hXS hS hA [] rfl (by decide +kernel)) rfl rfl hl.1 rfl (lv_room (Nat.le_of_ble_eq_true rfl)) dX5_both_54 ⟨Nat.le_of_ble_eq_true rfl, Nat.le_of_ble_eq_true rfl⟩) hP hD hS hA [] [0, 1] rfl rfl (by decide +kernel) (by decide +kernel) ?_
                  clear hP hD hS
                  intro r_43 u_45 H locs w_44 hP hD hS
                  replace hP : va_P D vwCl [(k, .inr (5, [.ref k0, .int c1, .int sc2_23, .int sc3_24, .int c4, .int c5, .int c6, .int c7])), (k0, .inl (cI, 50, .inl c0))] H := hP
                  replace hD : va_D A [(k, .inr (5, [.ref k0, .int c1, .int sc2_23, .int sc3_24, .int c4, .int c5, .int c6, .int c7])), (k0, .inl (cI, 50, .inl c0))] := hD
                  rcases w_44 with ⟨hr_43, h_46⟩ | ⟨hr_43, h_47⟩
                  · try simp only [zl_1] at h_46
                    obtain rfl : r_43 = 1 := hr_43.trans (by decide +kernel)
                    refine lv_istore_n (lv' := [(2, .int 1), (4, .int r_21), (3, .int l8_3), (0, .ref k), (1, .int a0)]) hx hb dX5_both_57 rfl hl (by decide +kernel) rfl ?_
                    clear hl
                    intro ls hl
                    obtain ⟨v_48, ev_48⟩ : ∃ y : Int32, y = l8_3 + 1 := ⟨_, rfl⟩
                    have tv_48 : v_48.toInt = l8_3.toInt + 1 := by rw [ev_48]; exact k_addv rfl zl_1 (by omega) (by omega)
                    refine lv_iinc (v := v_48) (lv' := [(3, .int v_48), (2, .int 1), (4, .int r_21), (0, .ref k), (1, .int a0)]) hx hb dX5_both_58 hl (k := 2) rfl (by rw [ev_48]; rfl) (by decide +kernel) rfl ?_
                    clear hl
                    intro ls hl
                    refine lv_goto (tgt := 8) hx hb dX5_both_61 (by decide +kernel) ?_
                    exact ih8 1 v_48 sc2_23 sc3_24 (by first | omega | (simp only [zl_1]; first | done | omega) | decide | assumption | rfl) (by first | omega | (simp only [zl_1]; first | done | omega) | decide | assumption | rfl) (by first | omega | (simp only [zl_1]; first | done | omega) | decide | assumption | rfl) (by first | omega | (simp only [zl_1]; first | done | omega) | decide | assumption | rfl) (by first | omega | (simp only [zl_1]; first | done | omega) | decide | assumption | rfl) (fun r q b z => i8_5 r q b (TXQ.more (bz := f8_k3) (w := r_21) (tx_and l8_2) (by omega) (by omega) (tx_y11 (by rw [← h_14]; omega)) (by rw [← tv_20]; exact h_28) (fun _ => (by unfold tx_and; (repeat (first | rw [if_pos (by omega)] | rw [if_neg (by omega)])))) r q b z)) (by omega) ls _ _ (lv_sub hl [0, 1, 3, 4] rfl) (hP.sub [0, 1] rfl) (hD.sub [0, 1] (by decide +kernel) rfl) hS
                  · (try simp only [zl_1] at h_47); exfalso; omega
          · have h_18 : f8_k3.toInt ≠ 0 := h_18
            obtain rfl : r_10 = (-1) := hr_10.trans (by decide +kernel)
            refine lv_bipush (v := 38) hx hb dX5_both_18 (by decide +kernel) ?_
            refine b_icmp_ne hx hb zl_m1 zl_38 (tgt := 64) dX5_both_20 (by decide +kernel) (fun c_49 => ?_) (fun c_49 => by exfalso; omega)
            refine lv_iload_n hx hb dX5_both_64 rfl (lv_at hl 1 rfl) ?_
            exact hRet (f8_k2, f8_k3) [0, 1] ⟨(by first | omega | decide | assumption | rfl | (dsimp only; first | omega)), (by first | omega | decide | assumption | rfl | (dsimp only; first | omega)), (by (try dsimp only); exact (i8_5 _ _ _ (TXQ.bad (by omega) (by omega))))⟩ hP hD (by decide +kernel) rfl hS rfl dX5_both_65
  exact hloop_8 _ r_1 0 sc2_3 sc3_4 (by first | omega | (simp only [zl_0]; first | done | omega) | decide | assumption | rfl) (by first | omega | (simp only [zl_0]; first | done | omega) | decide | assumption | rfl) (by first | omega | (simp only [zl_0]; first | done | omega) | decide | assumption | rfl) (by first | omega | (simp only [zl_0]; first | done | omega) | decide | assumption | rfl) (by first | omega | (simp only [zl_0]; first | done | omega) | decide | assumption | rfl) (TXQ.seq (fun f v => tx_e1 f v _) h_8 0) (Nat.lt_succ_self _) ls _ _ (lv_sub hl [0, 1, 2, 3] rfl) hP hD hS
set_option maxHeartbeats 4000000 in
set_option maxRecDepth 100000 in
theorem c_X5_either_of (dd : Nat) (ih : RDP dd) (l : Launch) (D : va_G) (cI : ClassId) (aK aV : Nat → Nat) (k k0 : Nat) (sz : Nat) (c1 : Int32) (c2 : Int32) (c3 : Int32) (c4 : Int32) (c5 : Int32) (c6 : Int32) (c7 : Int32) (c0 : Nat → Int32) (a0 : Int32) (pre0 : BYT c0 0) (pre1 : c1.toInt ≤ 50) (pre2 : 0 ≤ c2.toInt) (pre3 : c2.toInt ≤ c1.toInt) (pre4 : 0 ≤ a0.toInt) (pre5 : a0.toInt ≤ 4) (pre6 : (4 - a0.toInt).toNat < dd + 1)  : Met l yX5_either (gW yX5_either cX5_either 5 (some .int)) ({ frames := 16 * (dd + 1) + 12, cells := 0, slots := 0, locals := 1024 * (dd + 1) + 768 } : Room) (kPreX D cI aK aV [.ref k, .int a0] [(k, .inr (5, [.ref k0, .int c1, .int c2, .int c3, .int c4, .int c5, .int c6, .int c7])), (k0, .inl (cI, 50, .inl c0))] sz) (va_Qi (fun (r : Int32) (u : Int32 × Int32) => c2.toInt ≤ u.1.toInt ∧ u.1.toInt ≤ c1.toInt ∧ TXQ (tG c0 0 c1) c4 c5 c6 c7 0 a0.toInt c3 0 c2.toInt r u.1.toInt u.2) (fun u t => kWd D cI (va_A [(k, .inr (5, [.ref k0, .int c1, .int c2, .int c3, .int c4, .int c5, .int c6, .int c7])), (k0, .inl (cI, 50, .inl c0))] sz) [(k, .inr (5, [.ref k0, .int c1, .int u.1, .int u.2, .int c4, .int c5, .int c6, .int c7])), (k0, .inl (cI, 50, .inl c0))] t) (va_A [(k, .inr (5, [.ref k0, .int c1, .int c2, .int c3, .int c4, .int c5, .int c6, .int c7])), (k0, .inl (cI, 50, .inl c0))] sz)) 0 0 (va_A [(k, .inr (5, [.ref k0, .int c1, .int c2, .int c3, .int c4, .int c5, .int c6, .int c7])), (k0, .inl (cI, 50, .inl c0))] sz) := by
  refine kMetIX (own := RX5) (by decide +kernel) rfl (Nat.le_of_ble_eq_true rfl) ?_
  intro p e s m args below meth c hx hb hT hown hname hml A Q hK hP hD hS hA hN hXS hRet ls hl
  have hl : lv_has ls 5 [(0, .ref k), (1, .int a0)] := hl
  have lo_a0 := k_lo a0
  have hi_a0 := k_hi a0
  have lo_c1 := k_lo c1
  have hi_c1 := k_hi c1
  have lo_c2 := k_lo c2
  have hi_c2 := k_hi c2
  have lo_c3 := k_lo c3
  have hi_c3 := k_hi c3
  have lo_c4 := k_lo c4
  have hi_c4 := k_hi c4
  have lo_c5 := k_lo c5
  have hi_c5 := k_hi c5
  have lo_c6 := k_lo c6
  have hi_c6 := k_hi c6
  have lo_c7 := k_lo c7
  have hi_c7 := k_hi c7
  have pre0 : BYT c0 0 := pre0
  refine lv_aload_n hx hb dX5_either_0 rfl (lv_at hl 0 rfl) ?_
  refine lv_iload_n hx hb dX5_either_1 rfl (lv_at hl 1 rfl) ?_
  refine kJi (wr := []) (va_runV (As := [.int a0]) (rest := []) ⟨hx, hb, hml, hown, hT⟩ (c_X5_both_of dd ih l D cI aK aV k k0 s.heap.size c1 c2 c3 c4 c5 c6 c7 c0 a0 pre0 (by first | omega | decide | assumption | rfl) (by first | omega | decide | assumption | rfl) (by first | omega | decide | assumption | rfl) (by first | omega | decide | assumption | rfl) (by first | omega | decide | assumption | rfl) (by first | omega | decide | assumption | rfl)) (cwV 1 hT (gV_in mw_464 mw_461 mw_463 mw_p1_6 mw_6) rfl rfl rfl (by decide +kernel) ⟨(by dsimp only; omega), (by dsimp only; omega)⟩) (kRecvX (q0 := 0) (ci := 5) hK hP hD hN hXS hS hA rfl rfl [0, 1] rfl (by decide +kernel)) rfl rfl hl.1 rfl (lv_room (Nat.le_of_ble_eq_true rfl)) dX5_either_2 ⟨Nat.le_of_ble_eq_true rfl, Nat.le_of_ble_eq_true rfl⟩) hP hD hS hA [0, 1] [] rfl rfl (by decide +kernel) (by decide +kernel) ?_
  clear hP hD hS
  intro r_1 u_5 H locs w_2 hP hD hS
  obtain ⟨sc2_3, sc3_4⟩ := u_5
  replace hP : va_P D vwCl [(k, .inr (5, [.ref k0, .int c1, .int sc2_3, .int sc3_4, .int c4, .int c5, .int c6, .int c7])), (k0, .inl (cI, 50, .inl c0))] H := hP
  replace hD : va_D A [(k, .inr (5, [.ref k0, .int c1, .int sc2_3, .int sc3_4, .int c4, .int c5, .int c6, .int c7])), (k0, .inl (cI, 50, .inl c0))] := hD
  have lo_sc2_3 := k_lo sc2_3
  have hi_sc2_3 := k_hi sc2_3
  have lo_sc3_4 := k_lo sc3_4
  have hi_sc3_4 := k_hi sc3_4
  obtain ⟨h_6, h_7, h_8⟩ := w_2
  have h_6 : c2.toInt ≤ sc2_3.toInt := h_6
  have h_7 : sc2_3.toInt ≤ c1.toInt := h_7
  have h_8 : TXQ (tG c0 0 c1) c4 c5 c6 c7 1 a0.toInt c3 0 c2.toInt r_1 sc2_3.toInt sc3_4 := h_8
  have h_8 : TXQ (tG c0 0 c1) c4 c5 c6 c7 1 a0.toInt c3 0 c2.toInt r_1 sc2_3.toInt sc3_4 := h_8
  have lo_r_1 := k_lo r_1
  have hi_r_1 := k_hi r_1
  refine lv_istore_n (lv' := [(2, .int r_1), (0, .ref k), (1, .int a0)]) hx hb dX5_either_5 rfl hl (by decide +kernel) rfl ?_
  clear hl
  intro ls hl
  refine lv_iconst (v := 0) hx hb dX5_either_6 (by decide +kernel) ?_
  refine lv_istore_n (lv' := [(3, .int 0), (2, .int r_1), (0, .ref k), (1, .int a0)]) hx hb dX5_either_7 rfl hl (by decide +kernel) rfl ?_
  clear hl
  intro ls hl
  have hloop_8 : ∀ (fu_ : Nat) (l8_2 : Int32) (l8_3 : Int32) (f8_k2 : Int32) (f8_k3 : Int32), 0 ≤ l8_3.toInt → sc2_3.toInt ≤ f8_k2.toInt → l8_3.toInt ≤ f8_k2.toInt → c2.toInt ≤ f8_k2.toInt → f8_k2.toInt ≤ c1.toInt → (∀ (r : Int32) (q : Int) (b : Int32), TXQ (tG c0 0 c1) c4 c5 c6 c7 10 a0.toInt f8_k3 l8_2 f8_k2.toInt r q b → TXQ (tG c0 0 c1) c4 c5 c6 c7 0 a0.toInt c3 0 c2.toInt r q b) → (50 - l8_3.toInt).toNat < fu_ → ∀ (ls : Array Slot) (H : Heap) (locs : List Loc), lv_has ls 5 [(3, .int l8_3), (2, .int l8_2), (0, .ref k), (1, .int a0)] → va_P D vwCl [(k, .inr (5, [.ref k0, .int c1, .int f8_k2, .int f8_k3, .int c4, .int c5, .int c6, .int c7])), (k0, .inl (cI, 50, .inl c0))] H → va_D A [(k, .inr (5, [.ref k0, .int c1, .int f8_k2, .int f8_k3, .int c4, .int c5, .int c6, .int c7])), (k0, .inl (cI, 50, .inl c0))] → va_S A s.heap H locs → W p l e ({ frames := 16 * (dd + 1) + 12, cells := 0, slots := 0, locals := 1024 * (dd + 1) + 768 } : Room) s m args below meth c H locs 0 0 Q (F0 m 8 ls []) := by
    intro fu_; induction fu_ with
    | zero => intro l8_2 l8_3 f8_k2 f8_k3 i8_0 i8_1 i8_2 i8_3 i8_4 i8_5 hm; exact absurd hm (by omega)
    | succ fu_ ih8 =>
        intro l8_2 l8_3 f8_k2 f8_k3 i8_0 i8_1 i8_2 i8_3 i8_4 i8_5 hm ls H locs hl hP hD hS
        have lo_l8_2 := k_lo l8_2
        have hi_l8_2 := k_hi l8_2
        have lo_l8_3 := k_lo l8_3
        have hi_l8_3 := k_hi l8_3
        have lo_f8_k2 := k_lo f8_k2
        have hi_f8_k2 := k_hi f8_k2
        have lo_f8_k3 := k_lo f8_k3
        have hi_f8_k3 := k_hi f8_k3
        refine lv_iload_n hx hb dX5_either_8 rfl (lv_at hl 0 rfl) ?_
        refine lv_bipush (v := 50) hx hb dX5_either_9 (by decide +kernel) ?_
        refine b_icmp_ge hx hb rfl zl_50 (tgt := 64) dX5_either_11 (by decide +kernel) (fun c_9 => ?_) (fun c_9 => ?_)
        · refine lv_iload_n hx hb dX5_either_64 rfl (lv_at hl 1 rfl) ?_
          exact hRet (f8_k2, f8_k3) [0, 1] ⟨(by first | omega | decide | assumption | rfl | (dsimp only; first | omega)), (by first | omega | decide | assumption | rfl | (dsimp only; first | omega)), (by (try dsimp only); exact (i8_5 _ _ _ (TXQ.stop (tx_n10 (by rw [tG_hi (by omega)]; decide)))))⟩ hP hD (by decide +kernel) rfl hS rfl dX5_either_65
        · refine lv_aload_n hx hb dX5_either_14 rfl (lv_at hl 2 rfl) ?_
          refine kJi (wr := []) (va_runV (As := []) (rest := []) ⟨hx, hb, hml, hown, hT⟩ (c_X5_nextG l D cI aK aV k k0 H.size c1 f8_k2 f8_k3 c4 c5 c6 c7 c0 pre0 (by first | omega | decide | assumption | rfl) (by first | omega | decide | assumption | rfl) (by first | omega | decide | assumption | rfl)) (cwV 0 hT (gV_in mw_484 mw_481 mw_483 mw_p1_11 mw_6) rfl rfl rfl (by decide +kernel) ⟨(by dsimp only; omega), (by dsimp only; omega)⟩) (kRecvX (q0 := 0) (ci := 5) hK hP hD hN hXS hS hA rfl rfl [0, 1] rfl (by decide +kernel)) rfl rfl hl.1 rfl (lv_room (Nat.le_of_ble_eq_true rfl)) dX5_either_15 ⟨Nat.le_of_ble_eq_true rfl, Nat.le_of_ble_eq_true rfl⟩) hP hD hS hA [0, 1] [] rfl rfl (by decide +kernel) (by decide +kernel) ?_
          clear hP hD hS
          intro r_10 u_12 H locs w_11 hP hD hS
          replace hP : va_P D vwCl [(k, .inr (5, [.ref k0, .int c1, .int f8_k2, .int f8_k3, .int c4, .int c5, .int c6, .int c7])), (k0, .inl (cI, 50, .inl c0))] H := hP
          replace hD : va_D A [(k, .inr (5, [.ref k0, .int c1, .int f8_k2, .int f8_k3, .int c4, .int c5, .int c6, .int c7])), (k0, .inl (cI, 50, .inl c0))] := hD
          rcases w_11 with ⟨h_13, h_14, h_15, h_16, h_17⟩ | ⟨hr_10, h_18⟩
          · have h_13 : f8_k3.toInt = 0 := h_13
            have h_14 : r_10 = tG c0 0 c1 f8_k2.toInt := h_14
            have h_14 : r_10 = tG c0 0 c1 f8_k2.toInt := h_14
            have h_15 : -1 ≤ r_10.toInt := h_15
            have h_16 : r_10.toInt ≤ 255 := h_16
            have h_17 : r_10.toInt = (-1) ∨ f8_k2.toInt < c1.toInt := h_17
            have lo_r_10 := k_lo r_10
            have hi_r_10 := k_hi r_10
            refine lv_bipush (v := 124) hx hb dX5_either_18 (by decide +kernel) ?_
            refine b_icmp_ne hx hb rfl zl_124 (tgt := 64) dX5_either_20 (by decide +kernel) (fun c_19 => ?_) (fun c_19 => ?_)
            · refine lv_iload_n hx hb dX5_either_64 rfl (lv_at hl 1 rfl) ?_
              exact hRet (f8_k2, f8_k3) [0, 1] ⟨(by first | omega | decide | assumption | rfl | (dsimp only; first | omega)), (by first | omega | decide | assumption | rfl | (dsimp only; first | omega)), (by (try dsimp only); exact (i8_5 _ _ _ (TXQ.stop (tx_n10 (by rw [← h_14]; omega)))))⟩ hP hD (by decide +kernel) rfl hS rfl dX5_either_65
            · refine lv_aload_n hx hb dX5_either_23 rfl (lv_at hl 2 rfl) ?_
              refine lv_dup hx hb dX5_either_24 rfl ?_
              refine va_get (D := D) (ci := 5) (v := .int f8_k2) (C := RX5) (T := TX5) (N := 8) hx hb hT giX5 hown hK hP 0 rfl rfl 2 (by decide +kernel) (hT (Cond.fieldLink RX5 19 "DesertWire$Reader" "at" "I") mw_170) (fun _ h9 => h9) rfl dX5_either_25 ?_
              refine lv_iconst (v := 1) hx hb dX5_either_28 (by decide +kernel) ?_
              refine lv_iadd hx hb dX5_either_29 ?_
              refine lv_topi (fun v_20 ev_20 => ?_)
              have tv_20 : v_20.toInt = f8_k2.toInt + 1 := by rw [ev_20]; exact k_addv rfl zl_1 (by omega) (by omega)
              refine va_put (D := D) (ci := 5) (v := .int v_20) (ty := .int) (C := RX5) (T := TX5) (N := 8) hx hb hT giX5 tyX5 tyX5_ok nmX5 hown hK hP hD hS 0 rfl rfl 2 (by decide +kernel) (hT (Cond.fieldLink RX5 19 "DesertWire$Reader" "at" "I") mw_170) (fun _ h9 => h9) rfl (by decide +kernel) rfl rfl (Nat.le_of_ble_eq_true rfl) dX5_either_30 ?_
              clear hP hD hS
              intro H locs hP hD hS
              replace hP : va_P D vwCl [(k, .inr (5, [.ref k0, .int c1, .int v_20, .int f8_k3, .int c4, .int c5, .int c6, .int c7])), (k0, .inl (cI, 50, .inl c0))] H := hP
              replace hD : va_D A [(k, .inr (5, [.ref k0, .int c1, .int v_20, .int f8_k3, .int c4, .int c5, .int c6, .int c7])), (k0, .inl (cI, 50, .inl c0))] := hD
              refine lv_aload_n hx hb dX5_either_33 rfl (lv_at hl 2 rfl) ?_
              refine lv_iload_n hx hb dX5_either_34 rfl (lv_at hl 3 rfl) ?_
              refine kJi (wr := []) (va_runV (As := [.int a0]) (rest := []) ⟨hx, hb, hml, hown, hT⟩ (c_X5_both_of dd ih l D cI aK aV k k0 H.size c1 v_20 f8_k3 c4 c5 c6 c7 c0 a0 pre0 (by first | omega | decide | assumption | rfl) (by first | omega | decide | assumption | rfl) (by first | omega | decide | assumption | rfl) (by first | omega | decide | assumption | rfl) (by first | omega | decide | assumption | rfl) (by first | omega | decide | assumption | rfl)) (cwV 1 hT (gV_in mw_464 mw_461 mw_463 mw_p1_6 mw_6) rfl rfl rfl (by decide +kernel) ⟨(by dsimp only; omega), (by dsimp only; omega)⟩) (kRecvX (q0 := 0) (ci := 5) hK hP hD hN hXS hS hA rfl rfl [0, 1] rfl (by decide +kernel)) rfl rfl hl.1 rfl (lv_room (Nat.le_of_ble_eq_true rfl)) dX5_either_35 ⟨Nat.le_of_ble_eq_true rfl, Nat.le_of_ble_eq_true rfl⟩) hP hD hS hA [0, 1] [] rfl rfl (by decide +kernel) (by decide +kernel) ?_
              clear hP hD hS
              intro r_21 u_25 H locs w_22 hP hD hS
              obtain ⟨sc2_23, sc3_24⟩ := u_25
              replace hP : va_P D vwCl [(k, .inr (5, [.ref k0, .int c1, .int sc2_23, .int sc3_24, .int c4, .int c5, .int c6, .int c7])), (k0, .inl (cI, 50, .inl c0))] H := hP
              replace hD : va_D A [(k, .inr (5, [.ref k0, .int c1, .int sc2_23, .int sc3_24, .int c4, .int c5, .int c6, .int c7])), (k0, .inl (cI, 50, .inl c0))] := hD
              have lo_sc2_23 := k_lo sc2_23
              have hi_sc2_23 := k_hi sc2_23
              have lo_sc3_24 := k_lo sc3_24
              have hi_sc3_24 := k_hi sc3_24
              obtain ⟨h_26, h_27, h_28⟩ := w_22
              have h_26 : v_20.toInt ≤ sc2_23.toInt := h_26
              have h_27 : sc2_23.toInt ≤ c1.toInt := h_27
              have h_28 : TXQ (tG c0 0 c1) c4 c5 c6 c7 1 a0.toInt f8_k3 0 v_20.toInt r_21 sc2_23.toInt sc3_24 := h_28
              have h_28 : TXQ (tG c0 0 c1) c4 c5 c6 c7 1 a0.toInt f8_k3 0 v_20.toInt r_21 sc2_23.toInt sc3_24 := h_28
              have lo_r_21 := k_lo r_21
              have hi_r_21 := k_hi r_21
              refine lv_istore (lv' := [(4, .int r_21), (3, .int l8_3), (2, .int l8_2), (0, .ref k), (1, .int a0)]) hx hb dX5_either_38 hl (by decide +kernel) rfl ?_
              clear hl
              intro ls hl
              refine lv_iload_n hx hb dX5_either_40 rfl (lv_at hl 2 rfl) ?_
              refine b_if_ne hx hb rfl (tgt := 49) dX5_either_41 (by decide +kernel) (fun c_29 => ?_) (fun c_29 => ?_)
              · refine lv_iconst (v := 1) hx hb dX5_either_49 (by decide +kernel) ?_
                refine lv_goto (tgt := 54) hx hb dX5_either_50 (by decide +kernel) ?_
                refine kJi (wr := [(k, .inr (5, [.ref k0, .int c1, .int sc2_23, .int sc3_24, .int c4, .int c5, .int c6, .int c7])), (k0, .inl (cI, 50, .inl c0))]) (va_runS (As := [.int 1]) (rest := []) ⟨hx, hb, hml, hown, hT⟩ (c_X5_truthG l D cI aK aV H.size 1) (cwS 1 hT (gS_in mw_502 mw_500 mw_501 mw_6) rfl rfl rfl (by decide +kernel) ⟨(by dsimp only; omega), (by dsimp only; omega)⟩) (kStatX hK hP hD hN hXS hS hA [] rfl (by decide +kernel)) rfl rfl hl.1 rfl (lv_room (Nat.le_of_ble_eq_true rfl)) dX5_either_54 ⟨Nat.le_of_ble_eq_true rfl, Nat.le_of_ble_eq_true rfl⟩) hP hD hS hA [] [0, 1] rfl rfl (by decide +kernel) (by decide +kernel) ?_
                clear hP hD hS
                intro r_30 u_32 H locs w_31 hP hD hS
                replace hP : va_P D vwCl [(k, .inr (5, [.ref k0, .int c1, .int sc2_23, .int sc3_24, .int c4, .int c5, .int c6, .int c7])), (k0, .inl (cI, 50, .inl c0))] H := hP
                replace hD : va_D A [(k, .inr (5, [.ref k0, .int c1, .int sc2_23, .int sc3_24, .int c4, .int c5, .int c6, .int c7])), (k0, .inl (cI, 50, .inl c0))] := hD
                rcases w_31 with ⟨hr_30, h_33⟩ | ⟨hr_30, h_34⟩
                · try simp only [zl_1] at h_33
                  obtain rfl : r_30 = 1 := hr_30.trans (by decide +kernel)
                  refine lv_istore_n (lv' := [(2, .int 1), (4, .int r_21), (3, .int l8_3), (0, .ref k), (1, .int a0)]) hx hb dX5_either_57 rfl hl (by decide +kernel) rfl ?_
                  clear hl
                  intro ls hl
                  obtain ⟨v_35, ev_35⟩ : ∃ y : Int32, y = l8_3 + 1 := ⟨_, rfl⟩
                  have tv_35 : v_35.toInt = l8_3.toInt + 1 := by rw [ev_35]; exact k_addv rfl zl_1 (by omega) (by omega)
                  refine lv_iinc (v := v_35) (lv' := [(3, .int v_35), (2, .int 1), (4, .int r_21), (0, .ref k), (1, .int a0)]) hx hb dX5_either_58 hl (k := 2) rfl (by rw [ev_35]; rfl) (by decide +kernel) rfl ?_
                  clear hl
                  intro ls hl
                  refine lv_goto (tgt := 8) hx hb dX5_either_61 (by decide +kernel) ?_
                  exact ih8 1 v_35 sc2_23 sc3_24 (by first | omega | (simp only [zl_1]; first | done | omega) | decide | assumption | rfl) (by first | omega | (simp only [zl_1]; first | done | omega) | decide | assumption | rfl) (by first | omega | (simp only [zl_1]; first | done | omega) | decide | assumption | rfl) (by first | omega | (simp only [zl_1]; first | done | omega) | decide | assumption | rfl) (by first | omega | (simp only [zl_1]; first | done | omega) | decide | assumption | rfl) (fun r q b z => i8_5 r q b (TXQ.more (bz := f8_k3) (w := r_21) (tx_or l8_2) (by omega) (by omega) (tx_y10 (by rw [← h_14]; omega)) (by rw [← tv_20]; exact h_28) (fun _ => (by unfold tx_or; (repeat (first | rw [if_pos (by omega)] | rw [if_neg (by omega)])))) r q b z)) (by omega) ls _ _ (lv_sub hl [0, 1, 3, 4] rfl) (hP.sub [0, 1] rfl) (hD.sub [0, 1] (by decide +kernel) rfl) hS
                · (try simp only [zl_1] at h_34); exfalso; omega
              · refine lv_iload hx hb dX5_either_44 (lv_at hl 0 rfl) ?_
                refine b_if_eq hx hb rfl (tgt := 53) dX5_either_46 (by decide +kernel) (fun c_36 => ?_) (fun c_36 => ?_)
                · refine lv_iconst (v := 0) hx hb dX5_either_53 (by decide +kernel) ?_
                  refine kJi (wr := [(k, .inr (5, [.ref k0, .int c1, .int sc2_23, .int sc3_24, .int c4, .int c5, .int c6, .int c7])), (k0, .inl (cI, 50, .inl c0))]) (va_runS (As := [.int 0]) (rest := []) ⟨hx, hb, hml, hown, hT⟩ (c_X5_truthG l D cI aK aV H.size 0) (cwS 1 hT (gS_in mw_502 mw_500 mw_501 mw_6) rfl rfl rfl (by decide +kernel) ⟨(by dsimp only; omega), (by dsimp only; omega)⟩) (kStatX hK hP hD hN hXS hS hA [] rfl (by decide +kernel)) rfl rfl hl.1 rfl (lv_room (Nat.le_of_ble_eq_true rfl)) dX5_either_54 ⟨Nat.le_of_ble_eq_true rfl, Nat.le_of_ble_eq_true rfl⟩) hP hD hS hA [] [0, 1] rfl rfl (by decide +kernel) (by decide +kernel) ?_
                  clear hP hD hS
                  intro r_37 u_39 H locs w_38 hP hD hS
                  replace hP : va_P D vwCl [(k, .inr (5, [.ref k0, .int c1, .int sc2_23, .int sc3_24, .int c4, .int c5, .int c6, .int c7])), (k0, .inl (cI, 50, .inl c0))] H := hP
                  replace hD : va_D A [(k, .inr (5, [.ref k0, .int c1, .int sc2_23, .int sc3_24, .int c4, .int c5, .int c6, .int c7])), (k0, .inl (cI, 50, .inl c0))] := hD
                  rcases w_38 with ⟨hr_37, h_40⟩ | ⟨hr_37, h_41⟩
                  · (try simp only [zl_0] at h_40); exfalso; omega
                  · try simp only [zl_0] at h_41
                    obtain rfl : r_37 = 0 := hr_37.trans (by decide +kernel)
                    refine lv_istore_n (lv' := [(2, .int 0), (4, .int r_21), (3, .int l8_3), (0, .ref k), (1, .int a0)]) hx hb dX5_either_57 rfl hl (by decide +kernel) rfl ?_
                    clear hl
                    intro ls hl
                    obtain ⟨v_42, ev_42⟩ : ∃ y : Int32, y = l8_3 + 1 := ⟨_, rfl⟩
                    have tv_42 : v_42.toInt = l8_3.toInt + 1 := by rw [ev_42]; exact k_addv rfl zl_1 (by omega) (by omega)
                    refine lv_iinc (v := v_42) (lv' := [(3, .int v_42), (2, .int 0), (4, .int r_21), (0, .ref k), (1, .int a0)]) hx hb dX5_either_58 hl (k := 2) rfl (by rw [ev_42]; rfl) (by decide +kernel) rfl ?_
                    clear hl
                    intro ls hl
                    refine lv_goto (tgt := 8) hx hb dX5_either_61 (by decide +kernel) ?_
                    exact ih8 0 v_42 sc2_23 sc3_24 (by first | omega | (simp only [zl_0]; first | done | omega) | decide | assumption | rfl) (by first | omega | (simp only [zl_0]; first | done | omega) | decide | assumption | rfl) (by first | omega | (simp only [zl_0]; first | done | omega) | decide | assumption | rfl) (by first | omega | (simp only [zl_0]; first | done | omega) | decide | assumption | rfl) (by first | omega | (simp only [zl_0]; first | done | omega) | decide | assumption | rfl) (fun r q b z => i8_5 r q b (TXQ.more (bz := f8_k3) (w := r_21) (tx_or l8_2) (by omega) (by omega) (tx_y10 (by rw [← h_14]; omega)) (by rw [← tv_20]; exact h_28) (fun _ => (by unfold tx_or; (repeat (first | rw [if_pos (by omega)] | rw [if_neg (by omega)])))) r q b z)) (by omega) ls _ _ (lv_sub hl [0, 1, 3, 4] rfl) (hP.sub [0, 1] rfl) (hD.sub [0, 1] (by decide +kernel) rfl) hS
                · refine lv_iconst (v := 1) hx hb dX5_either_49 (by decide +kernel) ?_
                  refine lv_goto (tgt := 54) hx hb dX5_either_50 (by decide +kernel) ?_
                  refine kJi (wr := [(k, .inr (5, [.ref k0, .int c1, .int sc2_23, .int sc3_24, .int c4, .int c5, .int c6, .int c7])), (k0, .inl (cI, 50, .inl c0))]) (va_runS (As := [.int 1]) (rest := []) ⟨hx, hb, hml, hown, hT⟩ (c_X5_truthG l D cI aK aV H.size 1) (cwS 1 hT (gS_in mw_502 mw_500 mw_501 mw_6) rfl rfl rfl (by decide +kernel) ⟨(by dsimp only; omega), (by dsimp only; omega)⟩) (kStatX hK hP hD hN hXS hS hA [] rfl (by decide +kernel)) rfl rfl hl.1 rfl (lv_room (Nat.le_of_ble_eq_true rfl)) dX5_either_54 ⟨Nat.le_of_ble_eq_true rfl, Nat.le_of_ble_eq_true rfl⟩) hP hD hS hA [] [0, 1] rfl rfl (by decide +kernel) (by decide +kernel) ?_
                  clear hP hD hS
                  intro r_43 u_45 H locs w_44 hP hD hS
                  replace hP : va_P D vwCl [(k, .inr (5, [.ref k0, .int c1, .int sc2_23, .int sc3_24, .int c4, .int c5, .int c6, .int c7])), (k0, .inl (cI, 50, .inl c0))] H := hP
                  replace hD : va_D A [(k, .inr (5, [.ref k0, .int c1, .int sc2_23, .int sc3_24, .int c4, .int c5, .int c6, .int c7])), (k0, .inl (cI, 50, .inl c0))] := hD
                  rcases w_44 with ⟨hr_43, h_46⟩ | ⟨hr_43, h_47⟩
                  · try simp only [zl_1] at h_46
                    obtain rfl : r_43 = 1 := hr_43.trans (by decide +kernel)
                    refine lv_istore_n (lv' := [(2, .int 1), (4, .int r_21), (3, .int l8_3), (0, .ref k), (1, .int a0)]) hx hb dX5_either_57 rfl hl (by decide +kernel) rfl ?_
                    clear hl
                    intro ls hl
                    obtain ⟨v_48, ev_48⟩ : ∃ y : Int32, y = l8_3 + 1 := ⟨_, rfl⟩
                    have tv_48 : v_48.toInt = l8_3.toInt + 1 := by rw [ev_48]; exact k_addv rfl zl_1 (by omega) (by omega)
                    refine lv_iinc (v := v_48) (lv' := [(3, .int v_48), (2, .int 1), (4, .int r_21), (0, .ref k), (1, .int a0)]) hx hb dX5_either_58 hl (k := 2) rfl (by rw [ev_48]; rfl) (by decide +kernel) rfl ?_
                    clear hl
                    intro ls hl
                    refine lv_goto (tgt := 8) hx hb dX5_either_61 (by decide +kernel) ?_
                    exact ih8 1 v_48 sc2_23 sc3_24 (by first | omega | (simp only [zl_1]; first | done | omega) | decide | assumption | rfl) (by first | omega | (simp only [zl_1]; first | done | omega) | decide | assumption | rfl) (by first | omega | (simp only [zl_1]; first | done | omega) | decide | assumption | rfl) (by first | omega | (simp only [zl_1]; first | done | omega) | decide | assumption | rfl) (by first | omega | (simp only [zl_1]; first | done | omega) | decide | assumption | rfl) (fun r q b z => i8_5 r q b (TXQ.more (bz := f8_k3) (w := r_21) (tx_or l8_2) (by omega) (by omega) (tx_y10 (by rw [← h_14]; omega)) (by rw [← tv_20]; exact h_28) (fun _ => (by unfold tx_or; (repeat (first | rw [if_pos (by omega)] | rw [if_neg (by omega)])))) r q b z)) (by omega) ls _ _ (lv_sub hl [0, 1, 3, 4] rfl) (hP.sub [0, 1] rfl) (hD.sub [0, 1] (by decide +kernel) rfl) hS
                  · (try simp only [zl_1] at h_47); exfalso; omega
          · have h_18 : f8_k3.toInt ≠ 0 := h_18
            obtain rfl : r_10 = (-1) := hr_10.trans (by decide +kernel)
            refine lv_bipush (v := 124) hx hb dX5_either_18 (by decide +kernel) ?_
            refine b_icmp_ne hx hb zl_m1 zl_124 (tgt := 64) dX5_either_20 (by decide +kernel) (fun c_49 => ?_) (fun c_49 => by exfalso; omega)
            refine lv_iload_n hx hb dX5_either_64 rfl (lv_at hl 1 rfl) ?_
            exact hRet (f8_k2, f8_k3) [0, 1] ⟨(by first | omega | decide | assumption | rfl | (dsimp only; first | omega)), (by first | omega | decide | assumption | rfl | (dsimp only; first | omega)), (by (try dsimp only); exact (i8_5 _ _ _ (TXQ.bad (by omega) (by omega))))⟩ hP hD (by decide +kernel) rfl hS rfl dX5_either_65
  exact hloop_8 _ r_1 0 sc2_3 sc3_4 (by first | omega | (simp only [zl_0]; first | done | omega) | decide | assumption | rfl) (by first | omega | (simp only [zl_0]; first | done | omega) | decide | assumption | rfl) (by first | omega | (simp only [zl_0]; first | done | omega) | decide | assumption | rfl) (by first | omega | (simp only [zl_0]; first | done | omega) | decide | assumption | rfl) (by first | omega | (simp only [zl_0]; first | done | omega) | decide | assumption | rfl) (TXQ.seq (fun f v => tx_e0 f v _) h_8 0) (Nat.lt_succ_self _) ls _ _ (lv_sub hl [0, 1, 2, 3] rfl) hP hD hS
set_option maxHeartbeats 4000000 in
set_option maxRecDepth 100000 in
theorem c_X5_RDP : ∀ dd : Nat, RDP dd := by
  intro dd
  induction dd with
  | zero =>
    refine ⟨?_, ?_⟩
    · intro l D cI aK aV k k0 sz c1 c2 c3 c4 c5 c6 c7 c0 a0 pre0 pre1 pre2 pre3 pre4 pre5 pre6; exact absurd pre6 (by omega)
    · intro l D cI aK aV k k0 sz c1 c2 c3 c4 c5 c6 c7 c0 a0 pre0 pre1 pre2 pre3 pre4 pre5 pre6; exact absurd pre6 (by omega)
  | succ dd ih =>
    refine ⟨?_, ?_⟩
    · intro l D cI aK aV k k0 sz c1 c2 c3 c4 c5 c6 c7 c0 a0 pre0 pre1 pre2 pre3 pre4 pre5 pre6; exact c_X5_part_of dd ih l D cI aK aV k k0 sz c1 c2 c3 c4 c5 c6 c7 c0 a0 pre0 pre1 pre2 pre3 pre4 pre5 pre6
    · intro l D cI aK aV k k0 sz c1 c2 c3 c4 c5 c6 c7 c0 a0 pre0 pre1 pre2 pre3 pre4 pre5 pre6; exact c_X5_either_of dd ih l D cI aK aV k k0 sz c1 c2 c3 c4 c5 c6 c7 c0 a0 pre0 pre1 pre2 pre3 pre4 pre5 pre6
theorem bn_cX5_open_0 : BN cX5_open 0 0x164cf802a004054284002b6308140a16159405e61028583a2c0285814015a8ac3e0151afc5861028583a2800a703a2c00a8c6611028586601518780a16028dc081000ad8082b := by
  unfold BN; decide +kernel
theorem dX5_open_0 : decode cX5_open 0 = .ok (.aload_n 0, 1) := dR0 (k := 0) (i := 0) bn_cX5_open_0 dop_42 (by decide +kernel)
theorem dX5_open_1 : decode cX5_open 1 = .ok (.iconst 0, 1) := dR0 (k := 0) (i := 1) bn_cX5_open_0 dop_3 (by decide +kernel)
theorem dX5_open_2 : decode cX5_open 2 = .ok (.putfield 15, 3) := dR2 (f := Instr.putfield) (k := 0) (i := 2) bn_cX5_open_0 dop_181 15 (by decide +kernel)
theorem dX5_open_5 : decode cX5_open 5 = .ok (.iconst 0, 1) := dR0 (k := 0) (i := 5) bn_cX5_open_0 dop_3 (by decide +kernel)
theorem dX5_open_6 : decode cX5_open 6 = .ok (.istore 4, 2) := dR1 (f := Instr.istore) (k := 0) (i := 6) bn_cX5_open_0 dop_54 4 (by decide +kernel)
theorem dX5_open_8 : decode cX5_open 8 = .ok (.iload 4, 2) := dR1 (f := Instr.iload) (k := 0) (i := 8) bn_cX5_open_0 dop_21 4 (by decide +kernel)
theorem dX5_open_10 : decode cX5_open 10 = .ok (.iload_n 3, 1) := dR0 (k := 0) (i := 10) bn_cX5_open_0 dop_29 (by decide +kernel)
theorem dX5_open_11 : decode cX5_open 11 = .ok (.if_icmp .ge 50, 3) := dR2s (f := Instr.if_icmp .ge) (k := 0) (i := 11) bn_cX5_open_0 dop_162 50 50 (by decide +kernel)
theorem dX5_open_14 : decode cX5_open 14 = .ok (.iload 4, 2) := dR1 (f := Instr.iload) (k := 0) (i := 14) bn_cX5_open_0 dop_21 4 (by decide +kernel)
theorem dX5_open_16 : decode cX5_open 16 = .ok (.bipush 50, 2) := dR1s (f := Instr.bipush) (k := 0) (i := 16) bn_cX5_open_0 dop_16 50 50 (by decide +kernel)
theorem dX5_open_18 : decode cX5_open 18 = .ok (.if_icmp .ge 43, 3) := dR2s (f := Instr.if_icmp .ge) (k := 0) (i := 18) bn_cX5_open_0 dop_162 43 43 (by decide +kernel)
theorem dX5_open_21 : decode cX5_open 21 = .ok (.iload_n 2, 1) := dR0 (k := 0) (i := 21) bn_cX5_open_0 dop_28 (by decide +kernel)
theorem dX5_open_22 : decode cX5_open 22 = .ok (.ifCond .lt 39, 3) := dR2s (f := Instr.ifCond .lt) (k := 0) (i := 22) bn_cX5_open_0 dop_155 39 39 (by decide +kernel)
theorem dX5_open_25 : decode cX5_open 25 = .ok (.iload_n 2, 1) := dR0 (k := 0) (i := 25) bn_cX5_open_0 dop_28 (by decide +kernel)
theorem dX5_open_26 : decode cX5_open 26 = .ok (.iload 4, 2) := dR1 (f := Instr.iload) (k := 0) (i := 26) bn_cX5_open_0 dop_21 4 (by decide +kernel)
theorem dX5_open_28 : decode cX5_open 28 = .ok (.iadd, 1) := dR0 (k := 0) (i := 28) bn_cX5_open_0 dop_96 (by decide +kernel)
theorem dX5_open_29 : decode cX5_open 29 = .ok (.aload_n 1, 1) := dR0 (k := 0) (i := 29) bn_cX5_open_0 dop_43 (by decide +kernel)
theorem dX5_open_30 : decode cX5_open 30 = .ok (.arraylength, 1) := dR0 (k := 0) (i := 30) bn_cX5_open_0 dop_190 (by decide +kernel)
theorem dX5_open_31 : decode cX5_open 31 = .ok (.if_icmp .ge 30, 3) := dR2s (f := Instr.if_icmp .ge) (k := 0) (i := 31) bn_cX5_open_0 dop_162 30 30 (by decide +kernel)
theorem dX5_open_34 : decode cX5_open 34 = .ok (.aload_n 0, 1) := dR0 (k := 0) (i := 34) bn_cX5_open_0 dop_42 (by decide +kernel)
theorem dX5_open_35 : decode cX5_open 35 = .ok (.getfield 9, 3) := dR2 (f := Instr.getfield) (k := 0) (i := 35) bn_cX5_open_0 dop_180 9 (by decide +kernel)
theorem dX5_open_38 : decode cX5_open 38 = .ok (.iload 4, 2) := dR1 (f := Instr.iload) (k := 0) (i := 38) bn_cX5_open_0 dop_21 4 (by decide +kernel)
theorem dX5_open_40 : decode cX5_open 40 = .ok (.aload_n 1, 1) := dR0 (k := 0) (i := 40) bn_cX5_open_0 dop_43 (by decide +kernel)
theorem dX5_open_41 : decode cX5_open 41 = .ok (.iload_n 2, 1) := dR0 (k := 0) (i := 41) bn_cX5_open_0 dop_28 (by decide +kernel)
theorem dX5_open_42 : decode cX5_open 42 = .ok (.iload 4, 2) := dR1 (f := Instr.iload) (k := 0) (i := 42) bn_cX5_open_0 dop_21 4 (by decide +kernel)
theorem dX5_open_44 : decode cX5_open 44 = .ok (.iadd, 1) := dR0 (k := 0) (i := 44) bn_cX5_open_0 dop_96 (by decide +kernel)
theorem dX5_open_45 : decode cX5_open 45 = .ok (.iaload, 1) := dR0 (k := 0) (i := 45) bn_cX5_open_0 dop_46 (by decide +kernel)
theorem dX5_open_46 : decode cX5_open 46 = .ok (.iastore, 1) := dR0 (k := 0) (i := 46) bn_cX5_open_0 dop_79 (by decide +kernel)
theorem dX5_open_47 : decode cX5_open 47 = .ok (.aload_n 0, 1) := dR0 (k := 0) (i := 47) bn_cX5_open_0 dop_42 (by decide +kernel)
theorem dX5_open_48 : decode cX5_open 48 = .ok (.iload 4, 2) := dR1 (f := Instr.iload) (k := 0) (i := 48) bn_cX5_open_0 dop_21 4 (by decide +kernel)
theorem dX5_open_50 : decode cX5_open 50 = .ok (.iconst 1, 1) := dR0 (k := 0) (i := 50) bn_cX5_open_0 dop_4 (by decide +kernel)
theorem dX5_open_51 : decode cX5_open 51 = .ok (.iadd, 1) := dR0 (k := 0) (i := 51) bn_cX5_open_0 dop_96 (by decide +kernel)
theorem dX5_open_52 : decode cX5_open 52 = .ok (.putfield 15, 3) := dR2 (f := Instr.putfield) (k := 0) (i := 52) bn_cX5_open_0 dop_181 15 (by decide +kernel)
theorem dX5_open_55 : decode cX5_open 55 = .ok (.iinc 4 1, 3) := dRii (f := Instr.iinc) (k := 0) (i := 55) bn_cX5_open_0 dop_132 4 1 1 (by decide +kernel)
theorem dX5_open_58 : decode cX5_open 58 = .ok (.goto (-50), 3) := dR2s (f := Instr.goto) (k := 0) (i := 58) bn_cX5_open_0 dop_167 65486 (-50) (by decide +kernel)
theorem dX5_open_61 : decode cX5_open 61 = .ok (.return_, 1) := dR0 (k := 0) (i := 61) bn_cX5_open_0 dop_177 (by decide +kernel)
set_option maxHeartbeats 4000000 in
set_option maxRecDepth 100000 in
theorem c_X5_openG50 (l : Launch) (D : va_G) (cI : ClassId) (aK aV : Nat → Nat) (k o k0 : Nat) (sz : Nat) (c1 : Int32) (c2 : Int32) (c3 : Int32) (c4 : Int32) (c5 : Int32) (c6 : Int32) (c7 : Int32) (c0 : Nat → Int32) (d : Nat → Int32) (a1 : Int32) (a2 : Int32) (pre0 : 0 ≤ a1.toInt) (pre1 : 0 ≤ a2.toInt) (pre2 : a2.toInt ≤ 50) (pre3 : a1.toInt + a2.toInt ≤ 50) (pre4 : BYT c0 0) (pre5 : BYN 50 d) : Met l yX5_open (gW yX5_open cX5_open 5 none) ({ frames := 0, cells := 0, slots := 0, locals := 0 } : Room) (kPreX D cI aK aV [.ref k, .ref o, .int a1, .int a2] [(k, .inr (5, [.ref k0, .int c1, .int c2, .int c3, .int c4, .int c5, .int c6, .int c7])), (k0, .inl (cI, 50, .inl c0)), (o, .inl (cI, 50, .inl d))] sz) (va_Qv (fun (u : Int32 × (Nat → Int32)) => u.1.toInt = a2.toInt ∧ (∀ j : Nat, (j : Int) < a2.toInt → u.2 j = d (a1.toInt.toNat + j)) ∧ BYT u.2 0) (fun u t => kWd D cI (va_A [(k, .inr (5, [.ref k0, .int c1, .int c2, .int c3, .int c4, .int c5, .int c6, .int c7])), (k0, .inl (cI, 50, .inl c0)), (o, .inl (cI, 50, .inl d))] sz) [(k, .inr (5, [.ref k0, .int u.1, .int c2, .int c3, .int c4, .int c5, .int c6, .int c7])), (k0, .inl (cI, 50, .inl u.2)), (o, .inl (cI, 50, .inl d))] t) (va_A [(k, .inr (5, [.ref k0, .int c1, .int c2, .int c3, .int c4, .int c5, .int c6, .int c7])), (k0, .inl (cI, 50, .inl c0)), (o, .inl (cI, 50, .inl d))] sz)) 0 0 (va_A [(k, .inr (5, [.ref k0, .int c1, .int c2, .int c3, .int c4, .int c5, .int c6, .int c7])), (k0, .inl (cI, 50, .inl c0)), (o, .inl (cI, 50, .inl d))] sz) := by
  refine kMetVX (own := RX5) (by decide +kernel) rfl (Nat.le_of_ble_eq_true rfl) ?_
  intro p e s m args below meth c hx hb hT hown hname hml A Q hK hP hD hS hA hN hXS hRet ls hl
  have hl : lv_has ls 5 [(0, .ref k), (1, .ref o), (2, .int a1), (3, .int a2)] := hl
  have lo_a1 := k_lo a1
  have hi_a1 := k_hi a1
  have lo_a2 := k_lo a2
  have hi_a2 := k_hi a2
  have pre4 : BYT c0 0 := pre4
  have pre5 : BYN 50 d := pre5
  refine lv_aload_n hx hb dX5_open_0 rfl (lv_at hl 0 rfl) ?_
  refine lv_iconst (v := 0) hx hb dX5_open_1 (by decide +kernel) ?_
  refine va_put (D := D) (ci := 5) (v := .int 0) (ty := .int) (C := RX5) (T := TX5) (N := 8) hx hb hT giX5 tyX5 tyX5_ok nmX5 hown hK hP hD hS 0 rfl rfl 1 (by decide +kernel) (hT (Cond.fieldLink RX5 15 "DesertWire$Reader" "length" "I") mw_169) (fun _ h9 => h9) rfl (by decide +kernel) rfl rfl (Nat.le_of_ble_eq_true rfl) dX5_open_2 ?_
  clear hP hD hS
  intro H locs hP hD hS
  replace hP : va_P D vwCl [(k, .inr (5, [.ref k0, .int 0, .int c2, .int c3, .int c4, .int c5, .int c6, .int c7])), (k0, .inl (cI, 50, .inl c0)), (o, .inl (cI, 50, .inl d))] H := hP
  replace hD : va_D A [(k, .inr (5, [.ref k0, .int 0, .int c2, .int c3, .int c4, .int c5, .int c6, .int c7])), (k0, .inl (cI, 50, .inl c0)), (o, .inl (cI, 50, .inl d))] := hD
  refine lv_iconst (v := 0) hx hb dX5_open_5 (by decide +kernel) ?_
  refine lv_istore (lv' := [(4, .int 0), (0, .ref k), (1, .ref o), (2, .int a1), (3, .int a2)]) hx hb dX5_open_6 hl (by decide +kernel) rfl ?_
  clear hl
  intro ls hl
  have hloop_8 : ∀ (fu_ : Nat) (l8_4 : Int32) (f8_k1 : Int32) (g8_k0 : Nat → Int32), 0 ≤ l8_4.toInt → 0 ≤ f8_k1.toInt → l8_4.toInt ≤ a2.toInt → f8_k1.toInt = l8_4.toInt → (∀ j : Nat, (j : Int) < l8_4.toInt → g8_k0 j = d (a1.toInt.toNat + j)) → BYT g8_k0 0 → (a2.toInt - l8_4.toInt).toNat < fu_ → ∀ (ls : Array Slot) (H : Heap) (locs : List Loc), lv_has ls 5 [(4, .int l8_4), (0, .ref k), (1, .ref o), (2, .int a1), (3, .int a2)] → va_P D vwCl [(k, .inr (5, [.ref k0, .int f8_k1, .int c2, .int c3, .int c4, .int c5, .int c6, .int c7])), (k0, .inl (cI, 50, .inl g8_k0)), (o, .inl (cI, 50, .inl d))] H → va_D A [(k, .inr (5, [.ref k0, .int f8_k1, .int c2, .int c3, .int c4, .int c5, .int c6, .int c7])), (k0, .inl (cI, 50, .inl g8_k0)), (o, .inl (cI, 50, .inl d))] → va_S A s.heap H locs → W p l e ({ frames := 0, cells := 0, slots := 0, locals := 0 } : Room) s m args below meth c H locs 0 0 Q (F0 m 8 ls []) := by
    intro fu_; induction fu_ with
    | zero => intro l8_4 f8_k1 g8_k0 i8_0 i8_1 i8_2 i8_3 i8_4 i8_5 hm; exact absurd hm (by omega)
    | succ fu_ ih8 =>
        intro l8_4 f8_k1 g8_k0 i8_0 i8_1 i8_2 i8_3 i8_4 i8_5 hm ls H locs hl hP hD hS
        have lo_l8_4 := k_lo l8_4
        have hi_l8_4 := k_hi l8_4
        have lo_f8_k1 := k_lo f8_k1
        have hi_f8_k1 := k_hi f8_k1
        have i8_4 : ∀ j : Nat, (j : Int) < l8_4.toInt → g8_k0 j = d (a1.toInt.toNat + j) := i8_4
        have i8_5 : BYT g8_k0 0 := i8_5
        refine lv_iload hx hb dX5_open_8 (lv_at hl 0 rfl) ?_
        refine lv_iload_n hx hb dX5_open_10 rfl (lv_at hl 4 rfl) ?_
        refine b_icmp_ge hx hb rfl rfl (tgt := 61) dX5_open_11 (by decide +kernel) (fun c_1 => ?_) (fun c_1 => ?_)
        · exact hRet (f8_k1, g8_k0) [0, 1, 2] ⟨(by (try dsimp only); first | omega | (rw [zl_0]; omega)), (fun j hj => i8_4 j (by omega)), i8_5⟩ hP hD (by decide +kernel) rfl hS dX5_open_61
        · refine lv_iload hx hb dX5_open_14 (lv_at hl 0 rfl) ?_
          refine lv_bipush (v := 50) hx hb dX5_open_16 (by decide +kernel) ?_
          refine b_icmp_ge hx hb rfl zl_50 (tgt := 61) dX5_open_18 (by decide +kernel) (fun c_2 => by exfalso; omega) (fun c_2 => ?_)
          refine lv_iload_n hx hb dX5_open_21 rfl (lv_at hl 3 rfl) ?_
          refine b_if_lt hx hb rfl (tgt := 61) dX5_open_22 (by decide +kernel) (fun c_3 => by exfalso; omega) (fun c_3 => ?_)
          refine lv_iload_n hx hb dX5_open_25 rfl (lv_at hl 3 rfl) ?_
          refine lv_iload hx hb dX5_open_26 (lv_at hl 0 rfl) ?_
          refine lv_iadd hx hb dX5_open_28 ?_
          refine lv_topi (fun v_4 ev_4 => ?_)
          have tv_4 : v_4.toInt = a1.toInt + l8_4.toInt := by rw [ev_4]; exact k_addv rfl rfl (by omega) (by omega)
          refine lv_aload_n hx hb dX5_open_29 rfl (lv_at hl 2 rfl) ?_
          refine va_alen (v := 50) hx hb hK hP 2 0 rfl rfl (show Int32.ofNat 50 = 50 from by decide) dX5_open_30 ?_
          refine b_icmp_ge hx hb rfl zl_50 (tgt := 61) dX5_open_31 (by decide +kernel) (fun c_5 => by exfalso; omega) (fun c_5 => ?_)
          refine lv_aload_n hx hb dX5_open_34 rfl (lv_at hl 1 rfl) ?_
          refine va_get (D := D) (ci := 5) (v := .ref k0) (C := RX5) (T := TX5) (N := 8) hx hb hT giX5 hown hK hP 0 rfl rfl 0 (by decide +kernel) (hT (Cond.fieldLink RX5 9 "DesertWire$Reader" "text" "[I") mw_168) (fun _ h9 => h9) rfl dX5_open_35 ?_
          refine lv_iload hx hb dX5_open_38 (lv_at hl 0 rfl) ?_
          refine lv_aload_n hx hb dX5_open_40 rfl (lv_at hl 2 rfl) ?_
          refine lv_iload_n hx hb dX5_open_41 rfl (lv_at hl 3 rfl) ?_
          refine lv_iload hx hb dX5_open_42 (lv_at hl 0 rfl) ?_
          refine lv_iadd hx hb dX5_open_44 ?_
          refine lv_topi (fun v_6 ev_6 => ?_)
          have tv_6 : v_6.toInt = a1.toInt + l8_4.toInt := by rw [ev_6]; exact k_addv rfl rfl (by omega) (by omega)
          refine k_iald (v := (d v_6.toNatClampNeg)) hx hb hK hP 2 0 rfl rfl (k_in (by omega) (by omega)) rfl dX5_open_45 ?_
          refine lv_topi (fun v_7 ev_7 => ?_)
          have lo_v_7 := k_lo v_7
          have hi_v_7 := k_hi v_7
          have tv_7 : v_7.toInt = (d v_6.toNatClampNeg).toInt := by rw [ev_7]
          refine va_iast hx hb hK hP hD hS 1 0 rfl rfl (k_in (by omega) (by omega)) dX5_open_46 ?_
          clear hP hD hS
          intro H locs hP hD hS
          replace hP : va_P D vwCl [(k, .inr (5, [.ref k0, .int f8_k1, .int c2, .int c3, .int c4, .int c5, .int c6, .int c7])), (k0, .inl (cI, 50, .inl (upd g8_k0 l8_4.toNatClampNeg v_7))), (o, .inl (cI, 50, .inl d))] H := hP
          replace hD : va_D A [(k, .inr (5, [.ref k0, .int f8_k1, .int c2, .int c3, .int c4, .int c5, .int c6, .int c7])), (k0, .inl (cI, 50, .inl (upd g8_k0 l8_4.toNatClampNeg v_7))), (o, .inl (cI, 50, .inl d))] := hD
          obtain ⟨f_8, ef_8⟩ : ∃ g : Nat → Int32, g = upd g8_k0 l8_4.toNatClampNeg v_7 := ⟨_, rfl⟩
          rw [← ef_8] at hP hD
          refine lv_aload_n hx hb dX5_open_47 rfl (lv_at hl 1 rfl) ?_
          refine lv_iload hx hb dX5_open_48 (lv_at hl 0 rfl) ?_
          refine lv_iconst (v := 1) hx hb dX5_open_50 (by decide +kernel) ?_
          refine lv_iadd hx hb dX5_open_51 ?_
          refine lv_topi (fun v_9 ev_9 => ?_)
          have tv_9 : v_9.toInt = l8_4.toInt + 1 := by rw [ev_9]; exact k_addv rfl zl_1 (by omega) (by omega)
          refine va_put (D := D) (ci := 5) (v := .int v_9) (ty := .int) (C := RX5) (T := TX5) (N := 8) hx hb hT giX5 tyX5 tyX5_ok nmX5 hown hK hP hD hS 0 rfl rfl 1 (by decide +kernel) (hT (Cond.fieldLink RX5 15 "DesertWire$Reader" "length" "I") mw_169) (fun _ h9 => h9) rfl (by decide +kernel) rfl rfl (Nat.le_of_ble_eq_true rfl) dX5_open_52 ?_
          clear hP hD hS
          intro H locs hP hD hS
          replace hP : va_P D vwCl [(k, .inr (5, [.ref k0, .int v_9, .int c2, .int c3, .int c4, .int c5, .int c6, .int c7])), (k0, .inl (cI, 50, .inl f_8)), (o, .inl (cI, 50, .inl d))] H := hP
          replace hD : va_D A [(k, .inr (5, [.ref k0, .int v_9, .int c2, .int c3, .int c4, .int c5, .int c6, .int c7])), (k0, .inl (cI, 50, .inl f_8)), (o, .inl (cI, 50, .inl d))] := hD
          obtain ⟨v_10, ev_10⟩ : ∃ y : Int32, y = l8_4 + 1 := ⟨_, rfl⟩
          have tv_10 : v_10.toInt = l8_4.toInt + 1 := by rw [ev_10]; exact k_addv rfl zl_1 (by omega) (by omega)
          refine lv_iinc (v := v_10) (lv' := [(4, .int v_10), (0, .ref k), (1, .ref o), (2, .int a1), (3, .int a2)]) hx hb dX5_open_55 hl (k := 0) rfl (by rw [ev_10]; rfl) (by decide +kernel) rfl ?_
          clear hl
          intro ls hl
          refine lv_goto (tgt := 8) hx hb dX5_open_58 (by decide +kernel) ?_
          exact ih8 v_10 v_9 f_8 (by first | omega | decide | assumption | rfl) (by first | omega | decide | assumption | rfl) (by first | omega | decide | assumption | rfl) (by first | omega | decide | assumption | rfl) (op_step i8_4 (by omega) (by omega) ef_8 ev_7 (by omega)) (BYT.put i8_5 ef_8 (by rw [ev_7]; exact (pre5 v_6.toNatClampNeg (by rw [k_clamp]; omega)).1) (by rw [ev_7]; exact (pre5 v_6.toNatClampNeg (by rw [k_clamp]; omega)).2)) (by omega) ls _ _ (lv_sub hl [0, 1, 2, 3, 4] rfl) (hP.sub [0, 1, 2] rfl) (hD.sub [0, 1, 2] (by decide +kernel) rfl) hS
  exact hloop_8 _ 0 0 c0 (by first | omega | (simp only [zl_0]; first | done | omega) | decide | assumption | rfl) (by first | omega | (simp only [zl_0]; first | done | omega) | decide | assumption | rfl) (by first | omega | (simp only [zl_0]; first | done | omega) | decide | assumption | rfl) (by first | omega | (simp only [zl_0]; first | done | omega) | decide | assumption | rfl) (fun j hj => by rw [zl_0] at hj; omega) pre4 (Nat.lt_succ_self _) ls _ _ (lv_sub hl [0, 1, 2, 3, 4] rfl) hP hD hS

set_option maxHeartbeats 4000000 in
set_option maxRecDepth 100000 in
theorem c_X5_openG600 (l : Launch) (D : va_G) (cI : ClassId) (aK aV : Nat → Nat) (k o k0 : Nat) (sz : Nat) (c1 : Int32) (c2 : Int32) (c3 : Int32) (c4 : Int32) (c5 : Int32) (c6 : Int32) (c7 : Int32) (c0 : Nat → Int32) (d : Nat → Int32) (a1 : Int32) (a2 : Int32) (pre0 : 0 ≤ a1.toInt) (pre1 : 0 ≤ a2.toInt) (pre2 : a2.toInt ≤ 50) (pre3 : a1.toInt + a2.toInt ≤ 600) (pre4 : BYT c0 0) (pre5 : BYN 600 d) : Met l yX5_open (gW yX5_open cX5_open 5 none) ({ frames := 0, cells := 0, slots := 0, locals := 0 } : Room) (kPreX D cI aK aV [.ref k, .ref o, .int a1, .int a2] [(k, .inr (5, [.ref k0, .int c1, .int c2, .int c3, .int c4, .int c5, .int c6, .int c7])), (k0, .inl (cI, 50, .inl c0)), (o, .inl (cI, 600, .inl d))] sz) (va_Qv (fun (u : Int32 × (Nat → Int32)) => u.1.toInt = a2.toInt ∧ (∀ j : Nat, (j : Int) < a2.toInt → u.2 j = d (a1.toInt.toNat + j)) ∧ BYT u.2 0) (fun u t => kWd D cI (va_A [(k, .inr (5, [.ref k0, .int c1, .int c2, .int c3, .int c4, .int c5, .int c6, .int c7])), (k0, .inl (cI, 50, .inl c0)), (o, .inl (cI, 600, .inl d))] sz) [(k, .inr (5, [.ref k0, .int u.1, .int c2, .int c3, .int c4, .int c5, .int c6, .int c7])), (k0, .inl (cI, 50, .inl u.2)), (o, .inl (cI, 600, .inl d))] t) (va_A [(k, .inr (5, [.ref k0, .int c1, .int c2, .int c3, .int c4, .int c5, .int c6, .int c7])), (k0, .inl (cI, 50, .inl c0)), (o, .inl (cI, 600, .inl d))] sz)) 0 0 (va_A [(k, .inr (5, [.ref k0, .int c1, .int c2, .int c3, .int c4, .int c5, .int c6, .int c7])), (k0, .inl (cI, 50, .inl c0)), (o, .inl (cI, 600, .inl d))] sz) := by
  refine kMetVX (own := RX5) (by decide +kernel) rfl (Nat.le_of_ble_eq_true rfl) ?_
  intro p e s m args below meth c hx hb hT hown hname hml A Q hK hP hD hS hA hN hXS hRet ls hl
  have hl : lv_has ls 5 [(0, .ref k), (1, .ref o), (2, .int a1), (3, .int a2)] := hl
  have lo_a1 := k_lo a1
  have hi_a1 := k_hi a1
  have lo_a2 := k_lo a2
  have hi_a2 := k_hi a2
  have pre4 : BYT c0 0 := pre4
  have pre5 : BYN 600 d := pre5
  refine lv_aload_n hx hb dX5_open_0 rfl (lv_at hl 0 rfl) ?_
  refine lv_iconst (v := 0) hx hb dX5_open_1 (by decide +kernel) ?_
  refine va_put (D := D) (ci := 5) (v := .int 0) (ty := .int) (C := RX5) (T := TX5) (N := 8) hx hb hT giX5 tyX5 tyX5_ok nmX5 hown hK hP hD hS 0 rfl rfl 1 (by decide +kernel) (hT (Cond.fieldLink RX5 15 "DesertWire$Reader" "length" "I") mw_169) (fun _ h9 => h9) rfl (by decide +kernel) rfl rfl (Nat.le_of_ble_eq_true rfl) dX5_open_2 ?_
  clear hP hD hS
  intro H locs hP hD hS
  replace hP : va_P D vwCl [(k, .inr (5, [.ref k0, .int 0, .int c2, .int c3, .int c4, .int c5, .int c6, .int c7])), (k0, .inl (cI, 50, .inl c0)), (o, .inl (cI, 600, .inl d))] H := hP
  replace hD : va_D A [(k, .inr (5, [.ref k0, .int 0, .int c2, .int c3, .int c4, .int c5, .int c6, .int c7])), (k0, .inl (cI, 50, .inl c0)), (o, .inl (cI, 600, .inl d))] := hD
  refine lv_iconst (v := 0) hx hb dX5_open_5 (by decide +kernel) ?_
  refine lv_istore (lv' := [(4, .int 0), (0, .ref k), (1, .ref o), (2, .int a1), (3, .int a2)]) hx hb dX5_open_6 hl (by decide +kernel) rfl ?_
  clear hl
  intro ls hl
  have hloop_8 : ∀ (fu_ : Nat) (l8_4 : Int32) (f8_k1 : Int32) (g8_k0 : Nat → Int32), 0 ≤ l8_4.toInt → 0 ≤ f8_k1.toInt → l8_4.toInt ≤ a2.toInt → f8_k1.toInt = l8_4.toInt → (∀ j : Nat, (j : Int) < l8_4.toInt → g8_k0 j = d (a1.toInt.toNat + j)) → BYT g8_k0 0 → (a2.toInt - l8_4.toInt).toNat < fu_ → ∀ (ls : Array Slot) (H : Heap) (locs : List Loc), lv_has ls 5 [(4, .int l8_4), (0, .ref k), (1, .ref o), (2, .int a1), (3, .int a2)] → va_P D vwCl [(k, .inr (5, [.ref k0, .int f8_k1, .int c2, .int c3, .int c4, .int c5, .int c6, .int c7])), (k0, .inl (cI, 50, .inl g8_k0)), (o, .inl (cI, 600, .inl d))] H → va_D A [(k, .inr (5, [.ref k0, .int f8_k1, .int c2, .int c3, .int c4, .int c5, .int c6, .int c7])), (k0, .inl (cI, 50, .inl g8_k0)), (o, .inl (cI, 600, .inl d))] → va_S A s.heap H locs → W p l e ({ frames := 0, cells := 0, slots := 0, locals := 0 } : Room) s m args below meth c H locs 0 0 Q (F0 m 8 ls []) := by
    intro fu_; induction fu_ with
    | zero => intro l8_4 f8_k1 g8_k0 i8_0 i8_1 i8_2 i8_3 i8_4 i8_5 hm; exact absurd hm (by omega)
    | succ fu_ ih8 =>
        intro l8_4 f8_k1 g8_k0 i8_0 i8_1 i8_2 i8_3 i8_4 i8_5 hm ls H locs hl hP hD hS
        have lo_l8_4 := k_lo l8_4
        have hi_l8_4 := k_hi l8_4
        have lo_f8_k1 := k_lo f8_k1
        have hi_f8_k1 := k_hi f8_k1
        have i8_4 : ∀ j : Nat, (j : Int) < l8_4.toInt → g8_k0 j = d (a1.toInt.toNat + j) := i8_4
        have i8_5 : BYT g8_k0 0 := i8_5
        refine lv_iload hx hb dX5_open_8 (lv_at hl 0 rfl) ?_
        refine lv_iload_n hx hb dX5_open_10 rfl (lv_at hl 4 rfl) ?_
        refine b_icmp_ge hx hb rfl rfl (tgt := 61) dX5_open_11 (by decide +kernel) (fun c_1 => ?_) (fun c_1 => ?_)
        · exact hRet (f8_k1, g8_k0) [0, 1, 2] ⟨(by (try dsimp only); first | omega | (rw [zl_0]; omega)), (fun j hj => i8_4 j (by omega)), i8_5⟩ hP hD (by decide +kernel) rfl hS dX5_open_61
        · refine lv_iload hx hb dX5_open_14 (lv_at hl 0 rfl) ?_
          refine lv_bipush (v := 50) hx hb dX5_open_16 (by decide +kernel) ?_
          refine b_icmp_ge hx hb rfl zl_50 (tgt := 61) dX5_open_18 (by decide +kernel) (fun c_2 => by exfalso; omega) (fun c_2 => ?_)
          refine lv_iload_n hx hb dX5_open_21 rfl (lv_at hl 3 rfl) ?_
          refine b_if_lt hx hb rfl (tgt := 61) dX5_open_22 (by decide +kernel) (fun c_3 => by exfalso; omega) (fun c_3 => ?_)
          refine lv_iload_n hx hb dX5_open_25 rfl (lv_at hl 3 rfl) ?_
          refine lv_iload hx hb dX5_open_26 (lv_at hl 0 rfl) ?_
          refine lv_iadd hx hb dX5_open_28 ?_
          refine lv_topi (fun v_4 ev_4 => ?_)
          have tv_4 : v_4.toInt = a1.toInt + l8_4.toInt := by rw [ev_4]; exact k_addv rfl rfl (by omega) (by omega)
          refine lv_aload_n hx hb dX5_open_29 rfl (lv_at hl 2 rfl) ?_
          refine va_alen (v := 600) hx hb hK hP 2 0 rfl rfl (show Int32.ofNat 600 = 600 from by decide) dX5_open_30 ?_
          refine b_icmp_ge hx hb rfl zl_600 (tgt := 61) dX5_open_31 (by decide +kernel) (fun c_5 => by exfalso; omega) (fun c_5 => ?_)
          refine lv_aload_n hx hb dX5_open_34 rfl (lv_at hl 1 rfl) ?_
          refine va_get (D := D) (ci := 5) (v := .ref k0) (C := RX5) (T := TX5) (N := 8) hx hb hT giX5 hown hK hP 0 rfl rfl 0 (by decide +kernel) (hT (Cond.fieldLink RX5 9 "DesertWire$Reader" "text" "[I") mw_168) (fun _ h9 => h9) rfl dX5_open_35 ?_
          refine lv_iload hx hb dX5_open_38 (lv_at hl 0 rfl) ?_
          refine lv_aload_n hx hb dX5_open_40 rfl (lv_at hl 2 rfl) ?_
          refine lv_iload_n hx hb dX5_open_41 rfl (lv_at hl 3 rfl) ?_
          refine lv_iload hx hb dX5_open_42 (lv_at hl 0 rfl) ?_
          refine lv_iadd hx hb dX5_open_44 ?_
          refine lv_topi (fun v_6 ev_6 => ?_)
          have tv_6 : v_6.toInt = a1.toInt + l8_4.toInt := by rw [ev_6]; exact k_addv rfl rfl (by omega) (by omega)
          refine k_iald (v := (d v_6.toNatClampNeg)) hx hb hK hP 2 0 rfl rfl (k_in (by omega) (by omega)) rfl dX5_open_45 ?_
          refine lv_topi (fun v_7 ev_7 => ?_)
          have lo_v_7 := k_lo v_7
          have hi_v_7 := k_hi v_7
          have tv_7 : v_7.toInt = (d v_6.toNatClampNeg).toInt := by rw [ev_7]
          refine va_iast hx hb hK hP hD hS 1 0 rfl rfl (k_in (by omega) (by omega)) dX5_open_46 ?_
          clear hP hD hS
          intro H locs hP hD hS
          replace hP : va_P D vwCl [(k, .inr (5, [.ref k0, .int f8_k1, .int c2, .int c3, .int c4, .int c5, .int c6, .int c7])), (k0, .inl (cI, 50, .inl (upd g8_k0 l8_4.toNatClampNeg v_7))), (o, .inl (cI, 600, .inl d))] H := hP
          replace hD : va_D A [(k, .inr (5, [.ref k0, .int f8_k1, .int c2, .int c3, .int c4, .int c5, .int c6, .int c7])), (k0, .inl (cI, 50, .inl (upd g8_k0 l8_4.toNatClampNeg v_7))), (o, .inl (cI, 600, .inl d))] := hD
          obtain ⟨f_8, ef_8⟩ : ∃ g : Nat → Int32, g = upd g8_k0 l8_4.toNatClampNeg v_7 := ⟨_, rfl⟩
          rw [← ef_8] at hP hD
          refine lv_aload_n hx hb dX5_open_47 rfl (lv_at hl 1 rfl) ?_
          refine lv_iload hx hb dX5_open_48 (lv_at hl 0 rfl) ?_
          refine lv_iconst (v := 1) hx hb dX5_open_50 (by decide +kernel) ?_
          refine lv_iadd hx hb dX5_open_51 ?_
          refine lv_topi (fun v_9 ev_9 => ?_)
          have tv_9 : v_9.toInt = l8_4.toInt + 1 := by rw [ev_9]; exact k_addv rfl zl_1 (by omega) (by omega)
          refine va_put (D := D) (ci := 5) (v := .int v_9) (ty := .int) (C := RX5) (T := TX5) (N := 8) hx hb hT giX5 tyX5 tyX5_ok nmX5 hown hK hP hD hS 0 rfl rfl 1 (by decide +kernel) (hT (Cond.fieldLink RX5 15 "DesertWire$Reader" "length" "I") mw_169) (fun _ h9 => h9) rfl (by decide +kernel) rfl rfl (Nat.le_of_ble_eq_true rfl) dX5_open_52 ?_
          clear hP hD hS
          intro H locs hP hD hS
          replace hP : va_P D vwCl [(k, .inr (5, [.ref k0, .int v_9, .int c2, .int c3, .int c4, .int c5, .int c6, .int c7])), (k0, .inl (cI, 50, .inl f_8)), (o, .inl (cI, 600, .inl d))] H := hP
          replace hD : va_D A [(k, .inr (5, [.ref k0, .int v_9, .int c2, .int c3, .int c4, .int c5, .int c6, .int c7])), (k0, .inl (cI, 50, .inl f_8)), (o, .inl (cI, 600, .inl d))] := hD
          obtain ⟨v_10, ev_10⟩ : ∃ y : Int32, y = l8_4 + 1 := ⟨_, rfl⟩
          have tv_10 : v_10.toInt = l8_4.toInt + 1 := by rw [ev_10]; exact k_addv rfl zl_1 (by omega) (by omega)
          refine lv_iinc (v := v_10) (lv' := [(4, .int v_10), (0, .ref k), (1, .ref o), (2, .int a1), (3, .int a2)]) hx hb dX5_open_55 hl (k := 0) rfl (by rw [ev_10]; rfl) (by decide +kernel) rfl ?_
          clear hl
          intro ls hl
          refine lv_goto (tgt := 8) hx hb dX5_open_58 (by decide +kernel) ?_
          exact ih8 v_10 v_9 f_8 (by first | omega | decide | assumption | rfl) (by first | omega | decide | assumption | rfl) (by first | omega | decide | assumption | rfl) (by first | omega | decide | assumption | rfl) (op_step i8_4 (by omega) (by omega) ef_8 ev_7 (by omega)) (BYT.put i8_5 ef_8 (by rw [ev_7]; exact (pre5 v_6.toNatClampNeg (by rw [k_clamp]; omega)).1) (by rw [ev_7]; exact (pre5 v_6.toNatClampNeg (by rw [k_clamp]; omega)).2)) (by omega) ls _ _ (lv_sub hl [0, 1, 2, 3, 4] rfl) (hP.sub [0, 1, 2] rfl) (hD.sub [0, 1, 2] (by decide +kernel) rfl) hS
  exact hloop_8 _ 0 0 c0 (by first | omega | (simp only [zl_0]; first | done | omega) | decide | assumption | rfl) (by first | omega | (simp only [zl_0]; first | done | omega) | decide | assumption | rfl) (by first | omega | (simp only [zl_0]; first | done | omega) | decide | assumption | rfl) (by first | omega | (simp only [zl_0]; first | done | omega) | decide | assumption | rfl) (fun j hj => by rw [zl_0] at hj; omega) pre4 (Nat.lt_succ_self _) ls _ _ (lv_sub hl [0, 1, 2, 3, 4] rfl) hP hD hS
theorem bn_cX5_valueFor_0 : BN cX5_valueFor 0 0xad030582e015b014560900a8c20015a8ac28015a8ac0c37138056e041585c02b6020ac28015b010562400ad80a161588402b60f0ac3c015b074561b00ad8382b := by
  unfold BN; decide +kernel
theorem dX5_valueFor_0 : decode cX5_valueFor 0 = .ok (.aload_n 0, 1) := dR0 (k := 0) (i := 0) bn_cX5_valueFor_0 dop_42 (by decide +kernel)
theorem dX5_valueFor_1 : decode cX5_valueFor 1 = .ok (.iload_n 1, 1) := dR0 (k := 0) (i := 1) bn_cX5_valueFor_0 dop_27 (by decide +kernel)
theorem dX5_valueFor_2 : decode cX5_valueFor 2 = .ok (.putfield 26, 3) := dR2 (f := Instr.putfield) (k := 0) (i := 2) bn_cX5_valueFor_0 dop_181 26 (by decide +kernel)
theorem dX5_valueFor_5 : decode cX5_valueFor 5 = .ok (.aload_n 0, 1) := dR0 (k := 0) (i := 5) bn_cX5_valueFor_0 dop_42 (by decide +kernel)
theorem dX5_valueFor_6 : decode cX5_valueFor 6 = .ok (.iload_n 2, 1) := dR0 (k := 0) (i := 6) bn_cX5_valueFor_0 dop_28 (by decide +kernel)
theorem dX5_valueFor_7 : decode cX5_valueFor 7 = .ok (.putfield 29, 3) := dR2 (f := Instr.putfield) (k := 0) (i := 7) bn_cX5_valueFor_0 dop_181 29 (by decide +kernel)
theorem dX5_valueFor_10 : decode cX5_valueFor 10 = .ok (.aload_n 0, 1) := dR0 (k := 0) (i := 10) bn_cX5_valueFor_0 dop_42 (by decide +kernel)
theorem dX5_valueFor_11 : decode cX5_valueFor 11 = .ok (.iload_n 3, 1) := dR0 (k := 0) (i := 11) bn_cX5_valueFor_0 dop_29 (by decide +kernel)
theorem dX5_valueFor_12 : decode cX5_valueFor 12 = .ok (.putfield 32, 3) := dR2 (f := Instr.putfield) (k := 0) (i := 12) bn_cX5_valueFor_0 dop_181 32 (by decide +kernel)
theorem dX5_valueFor_15 : decode cX5_valueFor 15 = .ok (.aload_n 0, 1) := dR0 (k := 0) (i := 15) bn_cX5_valueFor_0 dop_42 (by decide +kernel)
theorem dX5_valueFor_16 : decode cX5_valueFor 16 = .ok (.iload 4, 2) := dR1 (f := Instr.iload) (k := 0) (i := 16) bn_cX5_valueFor_0 dop_21 4 (by decide +kernel)
theorem dX5_valueFor_18 : decode cX5_valueFor 18 = .ok (.putfield 35, 3) := dR2 (f := Instr.putfield) (k := 0) (i := 18) bn_cX5_valueFor_0 dop_181 35 (by decide +kernel)
theorem dX5_valueFor_21 : decode cX5_valueFor 21 = .ok (.aload_n 0, 1) := dR0 (k := 0) (i := 21) bn_cX5_valueFor_0 dop_42 (by decide +kernel)
theorem dX5_valueFor_22 : decode cX5_valueFor 22 = .ok (.iconst 0, 1) := dR0 (k := 0) (i := 22) bn_cX5_valueFor_0 dop_3 (by decide +kernel)
theorem dX5_valueFor_23 : decode cX5_valueFor 23 = .ok (.putfield 19, 3) := dR2 (f := Instr.putfield) (k := 0) (i := 23) bn_cX5_valueFor_0 dop_181 19 (by decide +kernel)
theorem dX5_valueFor_26 : decode cX5_valueFor 26 = .ok (.aload_n 0, 1) := dR0 (k := 0) (i := 26) bn_cX5_valueFor_0 dop_42 (by decide +kernel)
theorem dX5_valueFor_27 : decode cX5_valueFor 27 = .ok (.iconst 0, 1) := dR0 (k := 0) (i := 27) bn_cX5_valueFor_0 dop_3 (by decide +kernel)
theorem dX5_valueFor_28 : decode cX5_valueFor 28 = .ok (.putfield 22, 3) := dR2 (f := Instr.putfield) (k := 0) (i := 28) bn_cX5_valueFor_0 dop_181 22 (by decide +kernel)
theorem dX5_valueFor_31 : decode cX5_valueFor 31 = .ok (.aload_n 0, 1) := dR0 (k := 0) (i := 31) bn_cX5_valueFor_0 dop_42 (by decide +kernel)
theorem dX5_valueFor_32 : decode cX5_valueFor 32 = .ok (.iconst 0, 1) := dR0 (k := 0) (i := 32) bn_cX5_valueFor_0 dop_3 (by decide +kernel)
theorem dX5_valueFor_33 : decode cX5_valueFor 33 = .ok (.invokevirtual 38, 3) := dR2 (f := Instr.invokevirtual) (k := 0) (i := 33) bn_cX5_valueFor_0 dop_182 38 (by decide +kernel)
theorem dX5_valueFor_36 : decode cX5_valueFor 36 = .ok (.istore 5, 2) := dR1 (f := Instr.istore) (k := 0) (i := 36) bn_cX5_valueFor_0 dop_54 5 (by decide +kernel)
theorem dX5_valueFor_38 : decode cX5_valueFor 38 = .ok (.aload_n 0, 1) := dR0 (k := 0) (i := 38) bn_cX5_valueFor_0 dop_42 (by decide +kernel)
theorem dX5_valueFor_39 : decode cX5_valueFor 39 = .ok (.getfield 19, 3) := dR2 (f := Instr.getfield) (k := 0) (i := 39) bn_cX5_valueFor_0 dop_180 19 (by decide +kernel)
theorem dX5_valueFor_42 : decode cX5_valueFor 42 = .ok (.aload_n 0, 1) := dR0 (k := 0) (i := 42) bn_cX5_valueFor_0 dop_42 (by decide +kernel)
theorem dX5_valueFor_43 : decode cX5_valueFor 43 = .ok (.getfield 15, 3) := dR2 (f := Instr.getfield) (k := 0) (i := 43) bn_cX5_valueFor_0 dop_180 15 (by decide +kernel)
theorem dX5_valueFor_46 : decode cX5_valueFor 46 = .ok (.if_icmp .ge 8, 3) := dR2s (f := Instr.if_icmp .ge) (k := 0) (i := 46) bn_cX5_valueFor_0 dop_162 8 8 (by decide +kernel)
theorem dX5_valueFor_49 : decode cX5_valueFor 49 = .ok (.aload_n 0, 1) := dR0 (k := 0) (i := 49) bn_cX5_valueFor_0 dop_42 (by decide +kernel)
theorem dX5_valueFor_50 : decode cX5_valueFor 50 = .ok (.iconst 1, 1) := dR0 (k := 0) (i := 50) bn_cX5_valueFor_0 dop_4 (by decide +kernel)
theorem dX5_valueFor_51 : decode cX5_valueFor 51 = .ok (.putfield 22, 3) := dR2 (f := Instr.putfield) (k := 0) (i := 51) bn_cX5_valueFor_0 dop_181 22 (by decide +kernel)
theorem dX5_valueFor_54 : decode cX5_valueFor 54 = .ok (.iload 5, 2) := dR1 (f := Instr.iload) (k := 0) (i := 54) bn_cX5_valueFor_0 dop_21 5 (by decide +kernel)
theorem dX5_valueFor_56 : decode cX5_valueFor 56 = .ok (.ireturn, 1) := dR0 (k := 0) (i := 56) bn_cX5_valueFor_0 dop_172 (by decide +kernel)
set_option maxHeartbeats 4000000 in
set_option maxRecDepth 100000 in
theorem c_X5_valueForG (l : Launch) (D : va_G) (cI : ClassId) (aK aV : Nat → Nat) (k k0 : Nat) (sz : Nat) (c1 : Int32) (c2 : Int32) (c3 : Int32) (c4 : Int32) (c5 : Int32) (c6 : Int32) (c7 : Int32) (c0 : Nat → Int32) (a0 : Int32) (a1 : Int32) (a2 : Int32) (a3 : Int32) (pre0 : BYT c0 0) (pre1 : c1.toInt ≤ 50) (pre2 : 0 ≤ c1.toInt) : Met l yX5_valueFor (gW yX5_valueFor cX5_valueFor 6 (some .int)) ({ frames := 93, cells := 0, slots := 0, locals := 5912 } : Room) (kPreX D cI aK aV [.ref k, .int a0, .int a1, .int a2, .int a3] [(k, .inr (5, [.ref k0, .int c1, .int c2, .int c3, .int c4, .int c5, .int c6, .int c7])), (k0, .inl (cI, 50, .inl c0))] sz) (va_Qi (fun (r : Int32) (u : Int32 × Int32 × Int32 × Int32 × Int32 × Int32) => TXF (tG c0 0 c1) c1.toInt a0 a1 a2 a3 r u.1.toInt u.2.1 ∧ 0 ≤ u.1.toInt ∧ u.1.toInt ≤ c1.toInt) (fun u t => kWd D cI (va_A [(k, .inr (5, [.ref k0, .int c1, .int c2, .int c3, .int c4, .int c5, .int c6, .int c7])), (k0, .inl (cI, 50, .inl c0))] sz) [(k, .inr (5, [.ref k0, .int c1, .int u.1, .int u.2.1, .int u.2.2.1, .int u.2.2.2.1, .int u.2.2.2.2.1, .int u.2.2.2.2.2])), (k0, .inl (cI, 50, .inl c0))] t) (va_A [(k, .inr (5, [.ref k0, .int c1, .int c2, .int c3, .int c4, .int c5, .int c6, .int c7])), (k0, .inl (cI, 50, .inl c0))] sz)) 0 0 (va_A [(k, .inr (5, [.ref k0, .int c1, .int c2, .int c3, .int c4, .int c5, .int c6, .int c7])), (k0, .inl (cI, 50, .inl c0))] sz) := by
  refine kMetIX (own := RX5) (by decide +kernel) rfl (Nat.le_of_ble_eq_true rfl) ?_
  intro p e s m args below meth c hx hb hT hown hname hml A Q hK hP hD hS hA hN hXS hRet ls hl
  have hl : lv_has ls 6 [(0, .ref k), (1, .int a0), (2, .int a1), (3, .int a2), (4, .int a3)] := hl
  have lo_a0 := k_lo a0
  have hi_a0 := k_hi a0
  have lo_a1 := k_lo a1
  have hi_a1 := k_hi a1
  have lo_a2 := k_lo a2
  have hi_a2 := k_hi a2
  have lo_a3 := k_lo a3
  have hi_a3 := k_hi a3
  have lo_c1 := k_lo c1
  have hi_c1 := k_hi c1
  have pre0 : BYT c0 0 := pre0
  refine lv_aload_n hx hb dX5_valueFor_0 rfl (lv_at hl 0 rfl) ?_
  refine lv_iload_n hx hb dX5_valueFor_1 rfl (lv_at hl 1 rfl) ?_
  refine va_put (D := D) (ci := 5) (v := .int a0) (ty := .int) (C := RX5) (T := TX5) (N := 8) hx hb hT giX5 tyX5 tyX5_ok nmX5 hown hK hP hD hS 0 rfl rfl 4 (by decide +kernel) (hT (Cond.fieldLink RX5 26 "DesertWire$Reader" "use" "I") mw_172) (fun _ h9 => h9) rfl (by decide +kernel) rfl rfl (Nat.le_of_ble_eq_true rfl) dX5_valueFor_2 ?_
  clear hP hD hS
  intro H locs hP hD hS
  replace hP : va_P D vwCl [(k, .inr (5, [.ref k0, .int c1, .int c2, .int c3, .int a0, .int c5, .int c6, .int c7])), (k0, .inl (cI, 50, .inl c0))] H := hP
  replace hD : va_D A [(k, .inr (5, [.ref k0, .int c1, .int c2, .int c3, .int a0, .int c5, .int c6, .int c7])), (k0, .inl (cI, 50, .inl c0))] := hD
  refine lv_aload_n hx hb dX5_valueFor_5 rfl (lv_at hl 0 rfl) ?_
  refine lv_iload_n hx hb dX5_valueFor_6 rfl (lv_at hl 2 rfl) ?_
  refine va_put (D := D) (ci := 5) (v := .int a1) (ty := .int) (C := RX5) (T := TX5) (N := 8) hx hb hT giX5 tyX5 tyX5_ok nmX5 hown hK hP hD hS 0 rfl rfl 5 (by decide +kernel) (hT (Cond.fieldLink RX5 29 "DesertWire$Reader" "first" "I") mw_173) (fun _ h9 => h9) rfl (by decide +kernel) rfl rfl (Nat.le_of_ble_eq_true rfl) dX5_valueFor_7 ?_
  clear hP hD hS
  intro H locs hP hD hS
  replace hP : va_P D vwCl [(k, .inr (5, [.ref k0, .int c1, .int c2, .int c3, .int a0, .int a1, .int c6, .int c7])), (k0, .inl (cI, 50, .inl c0))] H := hP
  replace hD : va_D A [(k, .inr (5, [.ref k0, .int c1, .int c2, .int c3, .int a0, .int a1, .int c6, .int c7])), (k0, .inl (cI, 50, .inl c0))] := hD
  refine lv_aload_n hx hb dX5_valueFor_10 rfl (lv_at hl 0 rfl) ?_
  refine lv_iload_n hx hb dX5_valueFor_11 rfl (lv_at hl 3 rfl) ?_
  refine va_put (D := D) (ci := 5) (v := .int a2) (ty := .int) (C := RX5) (T := TX5) (N := 8) hx hb hT giX5 tyX5 tyX5_ok nmX5 hown hK hP hD hS 0 rfl rfl 6 (by decide +kernel) (hT (Cond.fieldLink RX5 32 "DesertWire$Reader" "second" "I") mw_174) (fun _ h9 => h9) rfl (by decide +kernel) rfl rfl (Nat.le_of_ble_eq_true rfl) dX5_valueFor_12 ?_
  clear hP hD hS
  intro H locs hP hD hS
  replace hP : va_P D vwCl [(k, .inr (5, [.ref k0, .int c1, .int c2, .int c3, .int a0, .int a1, .int a2, .int c7])), (k0, .inl (cI, 50, .inl c0))] H := hP
  replace hD : va_D A [(k, .inr (5, [.ref k0, .int c1, .int c2, .int c3, .int a0, .int a1, .int a2, .int c7])), (k0, .inl (cI, 50, .inl c0))] := hD
  refine lv_aload_n hx hb dX5_valueFor_15 rfl (lv_at hl 0 rfl) ?_
  refine lv_iload hx hb dX5_valueFor_16 (lv_at hl 4 rfl) ?_
  refine va_put (D := D) (ci := 5) (v := .int a3) (ty := .int) (C := RX5) (T := TX5) (N := 8) hx hb hT giX5 tyX5 tyX5_ok nmX5 hown hK hP hD hS 0 rfl rfl 7 (by decide +kernel) (hT (Cond.fieldLink RX5 35 "DesertWire$Reader" "third" "I") mw_175) (fun _ h9 => h9) rfl (by decide +kernel) rfl rfl (Nat.le_of_ble_eq_true rfl) dX5_valueFor_18 ?_
  clear hP hD hS
  intro H locs hP hD hS
  replace hP : va_P D vwCl [(k, .inr (5, [.ref k0, .int c1, .int c2, .int c3, .int a0, .int a1, .int a2, .int a3])), (k0, .inl (cI, 50, .inl c0))] H := hP
  replace hD : va_D A [(k, .inr (5, [.ref k0, .int c1, .int c2, .int c3, .int a0, .int a1, .int a2, .int a3])), (k0, .inl (cI, 50, .inl c0))] := hD
  refine lv_aload_n hx hb dX5_valueFor_21 rfl (lv_at hl 0 rfl) ?_
  refine lv_iconst (v := 0) hx hb dX5_valueFor_22 (by decide +kernel) ?_
  refine va_put (D := D) (ci := 5) (v := .int 0) (ty := .int) (C := RX5) (T := TX5) (N := 8) hx hb hT giX5 tyX5 tyX5_ok nmX5 hown hK hP hD hS 0 rfl rfl 2 (by decide +kernel) (hT (Cond.fieldLink RX5 19 "DesertWire$Reader" "at" "I") mw_170) (fun _ h9 => h9) rfl (by decide +kernel) rfl rfl (Nat.le_of_ble_eq_true rfl) dX5_valueFor_23 ?_
  clear hP hD hS
  intro H locs hP hD hS
  replace hP : va_P D vwCl [(k, .inr (5, [.ref k0, .int c1, .int 0, .int c3, .int a0, .int a1, .int a2, .int a3])), (k0, .inl (cI, 50, .inl c0))] H := hP
  replace hD : va_D A [(k, .inr (5, [.ref k0, .int c1, .int 0, .int c3, .int a0, .int a1, .int a2, .int a3])), (k0, .inl (cI, 50, .inl c0))] := hD
  refine lv_aload_n hx hb dX5_valueFor_26 rfl (lv_at hl 0 rfl) ?_
  refine lv_iconst (v := 0) hx hb dX5_valueFor_27 (by decide +kernel) ?_
  refine va_put (D := D) (ci := 5) (v := .int 0) (ty := .boolean) (C := RX5) (T := TX5) (N := 8) hx hb hT giX5 tyX5 tyX5_ok nmX5 hown hK hP hD hS 0 rfl rfl 3 (by decide +kernel) (hT (Cond.fieldLink RX5 22 "DesertWire$Reader" "bad" "Z") mw_171) (fun _ h9 => h9) rfl (by decide +kernel) rfl rfl (Nat.le_of_ble_eq_true rfl) dX5_valueFor_28 ?_
  clear hP hD hS
  intro H locs hP hD hS
  replace hP : va_P D vwCl [(k, .inr (5, [.ref k0, .int c1, .int 0, .int 0, .int a0, .int a1, .int a2, .int a3])), (k0, .inl (cI, 50, .inl c0))] H := hP
  replace hD : va_D A [(k, .inr (5, [.ref k0, .int c1, .int 0, .int 0, .int a0, .int a1, .int a2, .int a3])), (k0, .inl (cI, 50, .inl c0))] := hD
  refine lv_aload_n hx hb dX5_valueFor_31 rfl (lv_at hl 0 rfl) ?_
  refine lv_iconst (v := 0) hx hb dX5_valueFor_32 (by decide +kernel) ?_
  refine kJi (wr := []) (va_runV (As := [.int 0]) (rest := []) ⟨hx, hb, hml, hown, hT⟩ ((c_X5_RDP 5).2 l D cI aK aV k k0 H.size c1 0 0 a0 a1 a2 a3 c0 0 pre0 (by first | omega | (simp only [zl_0]; first | done | omega) | decide | assumption | rfl) (by first | omega | (simp only [zl_0]; first | done | omega) | decide | assumption | rfl) (by first | omega | (simp only [zl_0]; first | done | omega) | decide | assumption | rfl) (by first | omega | (simp only [zl_0]; first | done | omega) | decide | assumption | rfl) (by first | omega | (simp only [zl_0]; first | done | omega) | decide | assumption | rfl) (by first | omega | (simp only [zl_0]; first | done | omega) | decide | assumption | rfl)) (cwV 1 hT (gV_in mw_460 mw_457 mw_459 mw_p1_5 mw_6) rfl rfl rfl (by decide +kernel) ⟨Nat.le_of_ble_eq_true rfl, Nat.le_of_ble_eq_true rfl⟩) (kRecvX (q0 := 0) (ci := 5) hK hP hD hN hXS hS hA rfl rfl [0, 1] rfl (by decide +kernel)) rfl rfl hl.1 rfl (lv_room (Nat.le_of_ble_eq_true rfl)) dX5_valueFor_33 ⟨Nat.le_of_ble_eq_true rfl, Nat.le_of_ble_eq_true rfl⟩) hP hD hS hA [0, 1] [] rfl rfl (by decide +kernel) (by decide +kernel) ?_
  clear hP hD hS
  intro r_1 u_5 H locs w_2 hP hD hS
  obtain ⟨sc2_3, sc3_4⟩ := u_5
  replace hP : va_P D vwCl [(k, .inr (5, [.ref k0, .int c1, .int sc2_3, .int sc3_4, .int a0, .int a1, .int a2, .int a3])), (k0, .inl (cI, 50, .inl c0))] H := hP
  replace hD : va_D A [(k, .inr (5, [.ref k0, .int c1, .int sc2_3, .int sc3_4, .int a0, .int a1, .int a2, .int a3])), (k0, .inl (cI, 50, .inl c0))] := hD
  have lo_sc2_3 := k_lo sc2_3
  have hi_sc2_3 := k_hi sc2_3
  have lo_sc3_4 := k_lo sc3_4
  have hi_sc3_4 := k_hi sc3_4
  obtain ⟨h_6, h_7, h_8⟩ := w_2
  try simp only [zl_0] at h_6
  have h_6 : 0 ≤ sc2_3.toInt := h_6
  try simp only [zl_0] at h_7
  have h_7 : sc2_3.toInt ≤ c1.toInt := h_7
  try simp only [zl_0] at h_8
  have h_8 : TXQ (tG c0 0 c1) a0 a1 a2 a3 0 0 0 0 0 r_1 sc2_3.toInt sc3_4 := h_8
  have h_8 : TXQ (tG c0 0 c1) a0 a1 a2 a3 0 0 0 0 0 r_1 sc2_3.toInt sc3_4 := h_8
  have lo_r_1 := k_lo r_1
  have hi_r_1 := k_hi r_1
  refine lv_istore (lv' := [(5, .int r_1), (0, .ref k), (1, .int a0), (2, .int a1), (3, .int a2), (4, .int a3)]) hx hb dX5_valueFor_36 hl (by decide +kernel) rfl ?_
  clear hl
  intro ls hl
  refine lv_aload_n hx hb dX5_valueFor_38 rfl (lv_at hl 1 rfl) ?_
  refine va_get (D := D) (ci := 5) (v := .int sc2_3) (C := RX5) (T := TX5) (N := 8) hx hb hT giX5 hown hK hP 0 rfl rfl 2 (by decide +kernel) (hT (Cond.fieldLink RX5 19 "DesertWire$Reader" "at" "I") mw_170) (fun _ h9 => h9) rfl dX5_valueFor_39 ?_
  refine lv_aload_n hx hb dX5_valueFor_42 rfl (lv_at hl 1 rfl) ?_
  refine va_get (D := D) (ci := 5) (v := .int c1) (C := RX5) (T := TX5) (N := 8) hx hb hT giX5 hown hK hP 0 rfl rfl 1 (by decide +kernel) (hT (Cond.fieldLink RX5 15 "DesertWire$Reader" "length" "I") mw_169) (fun _ h9 => h9) rfl dX5_valueFor_43 ?_
  refine b_icmp_ge hx hb rfl rfl (tgt := 54) dX5_valueFor_46 (by decide +kernel) (fun c_9 => ?_) (fun c_9 => ?_)
  · refine lv_iload hx hb dX5_valueFor_54 (lv_at hl 0 rfl) ?_
    exact hRet (sc2_3, sc3_4, a0, a1, a2, a3) [0, 1] ⟨(by (try dsimp only); exact ⟨sc3_4, h_8, ⟨fun z => ⟨z, by omega⟩, fun z => z.1⟩⟩), (by first | omega | decide | assumption | rfl | (dsimp only; first | omega)), (by first | omega | decide | assumption | rfl | (dsimp only; first | omega))⟩ hP hD (by decide +kernel) rfl hS rfl dX5_valueFor_56
  · refine lv_aload_n hx hb dX5_valueFor_49 rfl (lv_at hl 1 rfl) ?_
    refine lv_iconst (v := 1) hx hb dX5_valueFor_50 (by decide +kernel) ?_
    refine va_put (D := D) (ci := 5) (v := .int 1) (ty := .boolean) (C := RX5) (T := TX5) (N := 8) hx hb hT giX5 tyX5 tyX5_ok nmX5 hown hK hP hD hS 0 rfl rfl 3 (by decide +kernel) (hT (Cond.fieldLink RX5 22 "DesertWire$Reader" "bad" "Z") mw_171) (fun _ h9 => h9) rfl (by decide +kernel) rfl rfl (Nat.le_of_ble_eq_true rfl) dX5_valueFor_51 ?_
    clear hP hD hS
    intro H locs hP hD hS
    replace hP : va_P D vwCl [(k, .inr (5, [.ref k0, .int c1, .int sc2_3, .int 1, .int a0, .int a1, .int a2, .int a3])), (k0, .inl (cI, 50, .inl c0))] H := hP
    replace hD : va_D A [(k, .inr (5, [.ref k0, .int c1, .int sc2_3, .int 1, .int a0, .int a1, .int a2, .int a3])), (k0, .inl (cI, 50, .inl c0))] := hD
    refine lv_iload hx hb dX5_valueFor_54 (lv_at hl 0 rfl) ?_
    exact hRet (sc2_3, 1, a0, a1, a2, a3) [0, 1] ⟨(by (try dsimp only); exact ⟨sc3_4, h_8, ⟨fun z => absurd z (by decide +kernel), fun z => by omega⟩⟩), (by first | omega | (simp only [zl_1]; first | done | omega) | decide | assumption | rfl | (dsimp only; first | omega | (simp only [zl_1]; first | done | omega))), (by first | omega | (simp only [zl_1]; first | done | omega) | decide | assumption | rfl | (dsimp only; first | omega | (simp only [zl_1]; first | done | omega)))⟩ hP hD (by decide +kernel) rfl hS rfl dX5_valueFor_56
theorem bn_cX5_fault_0 : BN cX5_fault 0 0x5680c0a015405002b51582c029a0b8056a2b := by
  unfold BN; decide +kernel
theorem dX5_fault_0 : decode cX5_fault 0 = .ok (.aload_n 0, 1) := dR0 (k := 0) (i := 0) bn_cX5_fault_0 dop_42 (by decide +kernel)
theorem dX5_fault_1 : decode cX5_fault 1 = .ok (.getfield 22, 3) := dR2 (f := Instr.getfield) (k := 0) (i := 1) bn_cX5_fault_0 dop_180 22 (by decide +kernel)
theorem dX5_fault_4 : decode cX5_fault 4 = .ok (.ifCond .eq 10, 3) := dR2s (f := Instr.ifCond .eq) (k := 0) (i := 4) bn_cX5_fault_0 dop_153 10 10 (by decide +kernel)
theorem dX5_fault_7 : decode cX5_fault 7 = .ok (.aload_n 0, 1) := dR0 (k := 0) (i := 7) bn_cX5_fault_0 dop_42 (by decide +kernel)
theorem dX5_fault_8 : decode cX5_fault 8 = .ok (.getfield 19, 3) := dR2 (f := Instr.getfield) (k := 0) (i := 8) bn_cX5_fault_0 dop_180 19 (by decide +kernel)
theorem dX5_fault_11 : decode cX5_fault 11 = .ok (.goto 4, 3) := dR2s (f := Instr.goto) (k := 0) (i := 11) bn_cX5_fault_0 dop_167 4 4 (by decide +kernel)
theorem dX5_fault_14 : decode cX5_fault 14 = .ok (.iconst (-1), 1) := dR0 (k := 0) (i := 14) bn_cX5_fault_0 dop_2 (by decide +kernel)
theorem dX5_fault_15 : decode cX5_fault 15 = .ok (.ireturn, 1) := dR0 (k := 0) (i := 15) bn_cX5_fault_0 dop_172 (by decide +kernel)
set_option maxHeartbeats 4000000 in
set_option maxRecDepth 100000 in
theorem c_X5_faultG (l : Launch) (D : va_G) (cI : ClassId) (aK aV : Nat → Nat) (k k0 : Nat) (sz : Nat) (c1 : Int32) (c2 : Int32) (c3 : Int32) (c4 : Int32) (c5 : Int32) (c6 : Int32) (c7 : Int32) : Met l yX5_fault (gW yX5_fault cX5_fault 1 (some .int)) ({ frames := 0, cells := 0, slots := 0, locals := 0 } : Room) (kPreX D cI aK aV [.ref k] [(k, .inr (5, [.ref k0, .int c1, .int c2, .int c3, .int c4, .int c5, .int c6, .int c7]))] sz) (va_Qi (fun (r : Int32) (u : Unit) => (r = c2 ∧ c3.toInt ≠ 0) ∨ (r = (-1) ∧ c3.toInt = 0)) (fun u t => kWd D cI (va_A [(k, .inr (5, [.ref k0, .int c1, .int c2, .int c3, .int c4, .int c5, .int c6, .int c7]))] sz) [(k, .inr (5, [.ref k0, .int c1, .int c2, .int c3, .int c4, .int c5, .int c6, .int c7]))] t) (va_A [(k, .inr (5, [.ref k0, .int c1, .int c2, .int c3, .int c4, .int c5, .int c6, .int c7]))] sz)) 0 0 (va_A [(k, .inr (5, [.ref k0, .int c1, .int c2, .int c3, .int c4, .int c5, .int c6, .int c7]))] sz) := by
  refine kMetIX (own := RX5) (by decide +kernel) rfl (Nat.le_of_ble_eq_true rfl) ?_
  intro p e s m args below meth c hx hb hT hown hname hml A Q hK hP hD hS hA hN hXS hRet ls hl
  have hl : lv_has ls 1 [(0, .ref k)] := hl
  have lo_c2 := k_lo c2
  have hi_c2 := k_hi c2
  have lo_c3 := k_lo c3
  have hi_c3 := k_hi c3
  refine lv_aload_n hx hb dX5_fault_0 rfl (lv_at hl 0 rfl) ?_
  refine va_get (D := D) (ci := 5) (v := .int c3) (C := RX5) (T := TX5) (N := 8) hx hb hT giX5 hown hK hP 0 rfl rfl 3 (by decide +kernel) (hT (Cond.fieldLink RX5 22 "DesertWire$Reader" "bad" "Z") mw_171) (fun _ h9 => h9) rfl dX5_fault_1 ?_
  refine b_if_eq hx hb rfl (tgt := 14) dX5_fault_4 (by decide +kernel) (fun c_1 => ?_) (fun c_1 => ?_)
  · refine lv_iconst (v := (-1)) hx hb dX5_fault_14 (by decide +kernel) ?_
    exact hRet () [0] (by first | exact Or.inl ⟨rfl, (by omega)⟩ | exact Or.inr (⟨rfl, (by omega)⟩)) hP hD (by decide +kernel) rfl hS rfl dX5_fault_15
  · refine lv_aload_n hx hb dX5_fault_7 rfl (lv_at hl 0 rfl) ?_
    refine va_get (D := D) (ci := 5) (v := .int c2) (C := RX5) (T := TX5) (N := 8) hx hb hT giX5 hown hK hP 0 rfl rfl 2 (by decide +kernel) (hT (Cond.fieldLink RX5 19 "DesertWire$Reader" "at" "I") mw_170) (fun _ h9 => h9) rfl dX5_fault_8 ?_
    refine lv_goto (tgt := 15) hx hb dX5_fault_11 (by decide +kernel) ?_
    exact hRet () [0] (by first | exact Or.inl ⟨rfl, (by omega)⟩ | exact Or.inr (⟨rfl, (by omega)⟩)) hP hD (by decide +kernel) rfl hS rfl dX5_fault_15
