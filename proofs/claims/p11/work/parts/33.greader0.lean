theorem dX5_nameOf_0 : decode cX5_nameOf 0 = .ok (.iload_n 1, 1) := by decide +kernel
theorem dX5_nameOf_1 : decode cX5_nameOf 1 = .ok (.ifCond .ge 5, 3) := by decide +kernel
theorem dX5_nameOf_4 : decode cX5_nameOf 4 = .ok (.iconst (-1), 1) := by decide +kernel
theorem dX5_nameOf_5 : decode cX5_nameOf 5 = .ok (.ireturn, 1) := by decide +kernel
theorem dX5_nameOf_6 : decode cX5_nameOf 6 = .ok (.aload_n 0, 1) := by decide +kernel
theorem dX5_nameOf_7 : decode cX5_nameOf 7 = .ok (.getfield 26, 3) := by decide +kernel
theorem dX5_nameOf_10 : decode cX5_nameOf 10 = .ok (.lookupswitch 42 #[(0, 26), (1, 34)], 26) := by decide +kernel
theorem dX5_nameOf_36 : decode cX5_nameOf 36 = .ok (.ldc 82, 2) := by decide +kernel
theorem dX5_nameOf_38 : decode cX5_nameOf 38 = .ok (.iload_n 1, 1) := by decide +kernel
theorem dX5_nameOf_39 : decode cX5_nameOf 39 = .ok (.i2c, 1) := by decide +kernel
theorem dX5_nameOf_40 : decode cX5_nameOf 40 = .ok (.invokevirtual 84, 3) := by decide +kernel
theorem dX5_nameOf_43 : decode cX5_nameOf 43 = .ok (.ireturn, 1) := by decide +kernel
theorem dX5_nameOf_44 : decode cX5_nameOf 44 = .ok (.ldc 89, 2) := by decide +kernel
theorem dX5_nameOf_46 : decode cX5_nameOf 46 = .ok (.iload_n 1, 1) := by decide +kernel
theorem dX5_nameOf_47 : decode cX5_nameOf 47 = .ok (.i2c, 1) := by decide +kernel
theorem dX5_nameOf_48 : decode cX5_nameOf 48 = .ok (.invokevirtual 84, 3) := by decide +kernel
theorem dX5_nameOf_51 : decode cX5_nameOf 51 = .ok (.ireturn, 1) := by decide +kernel
theorem dX5_nameOf_52 : decode cX5_nameOf 52 = .ok (.ldc 91, 2) := by decide +kernel
theorem dX5_nameOf_54 : decode cX5_nameOf 54 = .ok (.iload_n 1, 1) := by decide +kernel
theorem dX5_nameOf_55 : decode cX5_nameOf 55 = .ok (.i2c, 1) := by decide +kernel
theorem dX5_nameOf_56 : decode cX5_nameOf 56 = .ok (.invokevirtual 84, 3) := by decide +kernel
theorem dX5_nameOf_59 : decode cX5_nameOf 59 = .ok (.ireturn, 1) := by decide +kernel
set_option maxHeartbeats 4000000 in
set_option maxRecDepth 100000 in
theorem c_X5_nameOfG (l : Launch) (D : va_G) (cI : ClassId) (aK aV : Nat → Nat) (k k0 : Nat) (sz : Nat) (c1 : Int32) (c2 : Int32) (c3 : Int32) (c4 : Int32) (c5 : Int32) (c6 : Int32) (c7 : Int32) (a0 : Int32) : Met l yX5_nameOf (gW yX5_nameOf cX5_nameOf 2 (some .int)) ({ frames := 4, cells := 0, slots := 0, locals := 106 } : Room) (kPreX D cI aK aV [.ref k, .int a0] [(k, .inr (5, [.ref k0, .int c1, .int c2, .int c3, .int c4, .int c5, .int c6, .int c7]))] sz) (va_Qi (fun (r : Int32) (u : Unit) => True) (fun u t => kWd D cI (va_A [(k, .inr (5, [.ref k0, .int c1, .int c2, .int c3, .int c4, .int c5, .int c6, .int c7]))] sz) [(k, .inr (5, [.ref k0, .int c1, .int c2, .int c3, .int c4, .int c5, .int c6, .int c7]))] t) (va_A [(k, .inr (5, [.ref k0, .int c1, .int c2, .int c3, .int c4, .int c5, .int c6, .int c7]))] sz)) 0 0 (va_A [(k, .inr (5, [.ref k0, .int c1, .int c2, .int c3, .int c4, .int c5, .int c6, .int c7]))] sz) := by
  refine kMetIX (own := RX5) (by decide) rfl (Nat.le_of_ble_eq_true rfl) ?_
  intro p e s m args below meth c hx hb hT hown hname hml A Q hK hP hD hS hA hN hXS hRet ls hl
  have hl : lv_has ls 2 [(0, .ref k), (1, .int a0)] := hl
  have lo_a0 := k_lo a0
  have hi_a0 := k_hi a0
  have lo_c4 := k_lo c4
  have hi_c4 := k_hi c4
  refine lv_iload_n hx hb dX5_nameOf_0 rfl (lv_at hl 1 rfl) ?_
  refine b_if_ge hx hb rfl (tgt := 6) dX5_nameOf_1 (by decide) (fun c_1 => ?_) (fun c_1 => ?_)
  · refine lv_aload_n hx hb dX5_nameOf_6 rfl (lv_at hl 0 rfl) ?_
    refine va_get (D := D) (ci := 5) (v := .int c4) (C := RX5) (T := TX5) (N := 8) hx hb hT giX5 hown hK hP 0 rfl rfl 4 (by decide) (hT (Cond.fieldLink RX5 26 "DesertWire$Reader" "use" "I") mw_172) (fun _ h9 => h9) rfl dX5_nameOf_7 ?_
    by_cases c_2 : c4.toInt = 0
    · refine lv_lookup (off := 26) (tgt := 36) hx hb dX5_nameOf_10 (by decide) (by rw [c_2]; decide) (by decide) ?_
      refine va_ldcS hx hb hown hXS.2.2.2.1 dX5_nameOf_36 ?_
      refine lv_iload_n hx hb dX5_nameOf_38 rfl (lv_at hl 1 rfl) ?_
      refine lv_i2c (v := (a0.toUInt32 % 65536).toInt32) hx hb dX5_nameOf_39 rfl ?_
      refine lv_topi (fun v_3 ev_3 => ?_)
      have lo_v_3 := k_lo v_3
      have hi_v_3 := k_hi v_3
      refine kJi (wr := [(k, .inr (5, [.ref k0, .int c1, .int c2, .int c3, .int c4, .int c5, .int c6, .int c7]))]) (va_runV (As := [.int v_3]) (rest := []) ⟨hx, hb, hml, hown, hT⟩ (c_J0_indexOf_0f7a4G l D cI aK aV s.heap.size 0 v_3 (by first | omega | decide | assumption | rfl)) (cwV 1 hT (gV_in mw_511 mw_508 mw_509 mw_510 mw_14) rfl rfl rfl (by decide +kernel) ⟨Nat.le_of_ble_eq_true rfl, Nat.le_of_ble_eq_true rfl⟩) (kRecvS hK hP hD hN hXS hS hA (by decide) [] rfl (by decide)) rfl rfl hl.1 rfl (lv_room (Nat.le_of_ble_eq_true rfl)) dX5_nameOf_40 ⟨Nat.le_of_ble_eq_true rfl, Nat.le_of_ble_eq_true rfl⟩) hP hD hS hA [] [0] rfl rfl (by decide) (by decide) ?_
      clear hP hD hS
      intro r_4 u_6 H locs w_5 hP hD hS
      replace hP : va_P D vwCl [(k, .inr (5, [.ref k0, .int c1, .int c2, .int c3, .int c4, .int c5, .int c6, .int c7]))] H := hP
      replace hD : va_D A [(k, .inr (5, [.ref k0, .int c1, .int c2, .int c3, .int c4, .int c5, .int c6, .int c7]))] := hD
      have lo_r_4 := k_lo r_4
      have hi_r_4 := k_hi r_4
      exact hRet () [0] trivial hP hD (by decide) rfl hS rfl dX5_nameOf_43
    by_cases c_7 : c4.toInt = 1
    · refine lv_lookup (off := 34) (tgt := 44) hx hb dX5_nameOf_10 (by decide) (by rw [c_7]; decide) (by decide) ?_
      refine va_ldcS hx hb hown hXS.2.2.2.2.1 dX5_nameOf_44 ?_
      refine lv_iload_n hx hb dX5_nameOf_46 rfl (lv_at hl 1 rfl) ?_
      refine lv_i2c (v := (a0.toUInt32 % 65536).toInt32) hx hb dX5_nameOf_47 rfl ?_
      refine lv_topi (fun v_8 ev_8 => ?_)
      have lo_v_8 := k_lo v_8
      have hi_v_8 := k_hi v_8
      refine kJi (wr := [(k, .inr (5, [.ref k0, .int c1, .int c2, .int c3, .int c4, .int c5, .int c6, .int c7]))]) (va_runV (As := [.int v_8]) (rest := []) ⟨hx, hb, hml, hown, hT⟩ (c_J0_indexOf_0f7a4G l D cI aK aV s.heap.size 1 v_8 (by first | omega | decide | assumption | rfl)) (cwV 1 hT (gV_in mw_511 mw_508 mw_509 mw_510 mw_14) rfl rfl rfl (by decide +kernel) ⟨Nat.le_of_ble_eq_true rfl, Nat.le_of_ble_eq_true rfl⟩) (kRecvS hK hP hD hN hXS hS hA (by decide) [] rfl (by decide)) rfl rfl hl.1 rfl (lv_room (Nat.le_of_ble_eq_true rfl)) dX5_nameOf_48 ⟨Nat.le_of_ble_eq_true rfl, Nat.le_of_ble_eq_true rfl⟩) hP hD hS hA [] [0] rfl rfl (by decide) (by decide) ?_
      clear hP hD hS
      intro r_9 u_11 H locs w_10 hP hD hS
      replace hP : va_P D vwCl [(k, .inr (5, [.ref k0, .int c1, .int c2, .int c3, .int c4, .int c5, .int c6, .int c7]))] H := hP
      replace hD : va_D A [(k, .inr (5, [.ref k0, .int c1, .int c2, .int c3, .int c4, .int c5, .int c6, .int c7]))] := hD
      have lo_r_9 := k_lo r_9
      have hi_r_9 := k_hi r_9
      exact hRet () [0] trivial hP hD (by decide) rfl hS rfl dX5_nameOf_51
    refine lv_lookup (off := 42) (tgt := 52) hx hb dX5_nameOf_10 (by decide) (k_osw2 (by omega) (by omega)) (by decide) ?_
    refine va_ldcS hx hb hown hXS.2.2.2.2.2 dX5_nameOf_52 ?_
    refine lv_iload_n hx hb dX5_nameOf_54 rfl (lv_at hl 1 rfl) ?_
    refine lv_i2c (v := (a0.toUInt32 % 65536).toInt32) hx hb dX5_nameOf_55 rfl ?_
    refine lv_topi (fun v_12 ev_12 => ?_)
    have lo_v_12 := k_lo v_12
    have hi_v_12 := k_hi v_12
    refine kJi (wr := [(k, .inr (5, [.ref k0, .int c1, .int c2, .int c3, .int c4, .int c5, .int c6, .int c7]))]) (va_runV (As := [.int v_12]) (rest := []) ⟨hx, hb, hml, hown, hT⟩ (c_J0_indexOf_0f7a4G l D cI aK aV s.heap.size 2 v_12 (by first | omega | decide | assumption | rfl)) (cwV 1 hT (gV_in mw_511 mw_508 mw_509 mw_510 mw_14) rfl rfl rfl (by decide +kernel) ⟨Nat.le_of_ble_eq_true rfl, Nat.le_of_ble_eq_true rfl⟩) (kRecvS hK hP hD hN hXS hS hA (by decide) [] rfl (by decide)) rfl rfl hl.1 rfl (lv_room (Nat.le_of_ble_eq_true rfl)) dX5_nameOf_56 ⟨Nat.le_of_ble_eq_true rfl, Nat.le_of_ble_eq_true rfl⟩) hP hD hS hA [] [0] rfl rfl (by decide) (by decide) ?_
    clear hP hD hS
    intro r_13 u_15 H locs w_14 hP hD hS
    replace hP : va_P D vwCl [(k, .inr (5, [.ref k0, .int c1, .int c2, .int c3, .int c4, .int c5, .int c6, .int c7]))] H := hP
    replace hD : va_D A [(k, .inr (5, [.ref k0, .int c1, .int c2, .int c3, .int c4, .int c5, .int c6, .int c7]))] := hD
    have lo_r_13 := k_lo r_13
    have hi_r_13 := k_hi r_13
    exact hRet () [0] trivial hP hD (by decide) rfl hS rfl dX5_nameOf_59
  · refine lv_iconst (v := (-1)) hx hb dX5_nameOf_4 (by decide) ?_
    exact hRet () [0] trivial hP hD (by decide) rfl hS rfl dX5_nameOf_5
theorem dX5_next_0 : decode cX5_next 0 = .ok (.aload_n 0, 1) := by decide +kernel
theorem dX5_next_1 : decode cX5_next 1 = .ok (.getfield 22, 3) := by decide +kernel
theorem dX5_next_4 : decode cX5_next 4 = .ok (.ifCond .ne 42, 3) := by decide +kernel
theorem dX5_next_7 : decode cX5_next 7 = .ok (.aload_n 0, 1) := by decide +kernel
theorem dX5_next_8 : decode cX5_next 8 = .ok (.getfield 19, 3) := by decide +kernel
theorem dX5_next_11 : decode cX5_next 11 = .ok (.ifCond .lt 35, 3) := by decide +kernel
theorem dX5_next_14 : decode cX5_next 14 = .ok (.aload_n 0, 1) := by decide +kernel
theorem dX5_next_15 : decode cX5_next 15 = .ok (.getfield 19, 3) := by decide +kernel
theorem dX5_next_18 : decode cX5_next 18 = .ok (.aload_n 0, 1) := by decide +kernel
theorem dX5_next_19 : decode cX5_next 19 = .ok (.getfield 15, 3) := by decide +kernel
theorem dX5_next_22 : decode cX5_next 22 = .ok (.if_icmp .ge 24, 3) := by decide +kernel
theorem dX5_next_25 : decode cX5_next 25 = .ok (.aload_n 0, 1) := by decide +kernel
theorem dX5_next_26 : decode cX5_next 26 = .ok (.getfield 19, 3) := by decide +kernel
theorem dX5_next_29 : decode cX5_next 29 = .ok (.bipush 50, 2) := by decide +kernel
theorem dX5_next_31 : decode cX5_next 31 = .ok (.if_icmp .ge 15, 3) := by decide +kernel
theorem dX5_next_34 : decode cX5_next 34 = .ok (.aload_n 0, 1) := by decide +kernel
theorem dX5_next_35 : decode cX5_next 35 = .ok (.getfield 9, 3) := by decide +kernel
theorem dX5_next_38 : decode cX5_next 38 = .ok (.aload_n 0, 1) := by decide +kernel
theorem dX5_next_39 : decode cX5_next 39 = .ok (.getfield 19, 3) := by decide +kernel
theorem dX5_next_42 : decode cX5_next 42 = .ok (.iaload, 1) := by decide +kernel
theorem dX5_next_43 : decode cX5_next 43 = .ok (.goto 4, 3) := by decide +kernel
theorem dX5_next_46 : decode cX5_next 46 = .ok (.iconst (-1), 1) := by decide +kernel
theorem dX5_next_47 : decode cX5_next 47 = .ok (.ireturn, 1) := by decide +kernel
set_option maxHeartbeats 4000000 in
set_option maxRecDepth 100000 in
theorem c_X5_nextG (l : Launch) (D : va_G) (cI : ClassId) (aK aV : Nat → Nat) (k k0 : Nat) (sz : Nat) (c1 : Int32) (c2 : Int32) (c3 : Int32) (c4 : Int32) (c5 : Int32) (c6 : Int32) (c7 : Int32) (c0 : Nat → Int32) : Met l yX5_next (gW yX5_next cX5_next 1 (some .int)) ({ frames := 0, cells := 0, slots := 0, locals := 0 } : Room) (kPreX D cI aK aV [.ref k] [(k, .inr (5, [.ref k0, .int c1, .int c2, .int c3, .int c4, .int c5, .int c6, .int c7])), (k0, .inl (cI, 50, .inl c0))] sz) (va_Qi (fun (r : Int32) (u : Unit) => True) (fun u t => kWd D cI (va_A [(k, .inr (5, [.ref k0, .int c1, .int c2, .int c3, .int c4, .int c5, .int c6, .int c7])), (k0, .inl (cI, 50, .inl c0))] sz) [(k, .inr (5, [.ref k0, .int c1, .int c2, .int c3, .int c4, .int c5, .int c6, .int c7])), (k0, .inl (cI, 50, .inl c0))] t) (va_A [(k, .inr (5, [.ref k0, .int c1, .int c2, .int c3, .int c4, .int c5, .int c6, .int c7])), (k0, .inl (cI, 50, .inl c0))] sz)) 0 0 (va_A [(k, .inr (5, [.ref k0, .int c1, .int c2, .int c3, .int c4, .int c5, .int c6, .int c7])), (k0, .inl (cI, 50, .inl c0))] sz) := by
  refine kMetIX (own := RX5) (by decide) rfl (Nat.le_of_ble_eq_true rfl) ?_
  intro p e s m args below meth c hx hb hT hown hname hml A Q hK hP hD hS hA hN hXS hRet ls hl
  have hl : lv_has ls 1 [(0, .ref k)] := hl
  have lo_c1 := k_lo c1
  have hi_c1 := k_hi c1
  have lo_c2 := k_lo c2
  have hi_c2 := k_hi c2
  have lo_c3 := k_lo c3
  have hi_c3 := k_hi c3
  refine lv_aload_n hx hb dX5_next_0 rfl (lv_at hl 0 rfl) ?_
  refine va_get (D := D) (ci := 5) (v := .int c3) (C := RX5) (T := TX5) (N := 8) hx hb hT giX5 hown hK hP 0 rfl rfl 3 (by decide) (hT (Cond.fieldLink RX5 22 "DesertWire$Reader" "bad" "Z") mw_171) (fun _ h9 => h9) rfl dX5_next_1 ?_
  refine b_if_ne hx hb rfl (tgt := 46) dX5_next_4 (by decide) (fun c_1 => ?_) (fun c_1 => ?_)
  · refine lv_iconst (v := (-1)) hx hb dX5_next_46 (by decide) ?_
    exact hRet () [0, 1] trivial hP hD (by decide) rfl hS rfl dX5_next_47
  · refine lv_aload_n hx hb dX5_next_7 rfl (lv_at hl 0 rfl) ?_
    refine va_get (D := D) (ci := 5) (v := .int c2) (C := RX5) (T := TX5) (N := 8) hx hb hT giX5 hown hK hP 0 rfl rfl 2 (by decide) (hT (Cond.fieldLink RX5 19 "DesertWire$Reader" "at" "I") mw_170) (fun _ h9 => h9) rfl dX5_next_8 ?_
    refine b_if_lt hx hb rfl (tgt := 46) dX5_next_11 (by decide) (fun c_2 => ?_) (fun c_2 => ?_)
    · refine lv_iconst (v := (-1)) hx hb dX5_next_46 (by decide) ?_
      exact hRet () [0, 1] trivial hP hD (by decide) rfl hS rfl dX5_next_47
    · refine lv_aload_n hx hb dX5_next_14 rfl (lv_at hl 0 rfl) ?_
      refine va_get (D := D) (ci := 5) (v := .int c2) (C := RX5) (T := TX5) (N := 8) hx hb hT giX5 hown hK hP 0 rfl rfl 2 (by decide) (hT (Cond.fieldLink RX5 19 "DesertWire$Reader" "at" "I") mw_170) (fun _ h9 => h9) rfl dX5_next_15 ?_
      refine lv_aload_n hx hb dX5_next_18 rfl (lv_at hl 0 rfl) ?_
      refine va_get (D := D) (ci := 5) (v := .int c1) (C := RX5) (T := TX5) (N := 8) hx hb hT giX5 hown hK hP 0 rfl rfl 1 (by decide) (hT (Cond.fieldLink RX5 15 "DesertWire$Reader" "length" "I") mw_169) (fun _ h9 => h9) rfl dX5_next_19 ?_
      refine b_icmp_ge hx hb rfl rfl (tgt := 46) dX5_next_22 (by decide) (fun c_3 => ?_) (fun c_3 => ?_)
      · refine lv_iconst (v := (-1)) hx hb dX5_next_46 (by decide) ?_
        exact hRet () [0, 1] trivial hP hD (by decide) rfl hS rfl dX5_next_47
      · refine lv_aload_n hx hb dX5_next_25 rfl (lv_at hl 0 rfl) ?_
        refine va_get (D := D) (ci := 5) (v := .int c2) (C := RX5) (T := TX5) (N := 8) hx hb hT giX5 hown hK hP 0 rfl rfl 2 (by decide) (hT (Cond.fieldLink RX5 19 "DesertWire$Reader" "at" "I") mw_170) (fun _ h9 => h9) rfl dX5_next_26 ?_
        refine lv_bipush (v := 50) hx hb dX5_next_29 (by decide) ?_
        refine b_icmp_ge hx hb rfl zl_50 (tgt := 46) dX5_next_31 (by decide) (fun c_4 => ?_) (fun c_4 => ?_)
        · refine lv_iconst (v := (-1)) hx hb dX5_next_46 (by decide) ?_
          exact hRet () [0, 1] trivial hP hD (by decide) rfl hS rfl dX5_next_47
        · refine lv_aload_n hx hb dX5_next_34 rfl (lv_at hl 0 rfl) ?_
          refine va_get (D := D) (ci := 5) (v := .ref k0) (C := RX5) (T := TX5) (N := 8) hx hb hT giX5 hown hK hP 0 rfl rfl 0 (by decide) (hT (Cond.fieldLink RX5 9 "DesertWire$Reader" "text" "[I") mw_168) (fun _ h9 => h9) rfl dX5_next_35 ?_
          refine lv_aload_n hx hb dX5_next_38 rfl (lv_at hl 0 rfl) ?_
          refine va_get (D := D) (ci := 5) (v := .int c2) (C := RX5) (T := TX5) (N := 8) hx hb hT giX5 hown hK hP 0 rfl rfl 2 (by decide) (hT (Cond.fieldLink RX5 19 "DesertWire$Reader" "at" "I") mw_170) (fun _ h9 => h9) rfl dX5_next_39 ?_
          refine k_iald (v := (c0 c2.toNatClampNeg)) hx hb hK hP 1 0 rfl rfl (k_in (by omega) (by omega)) rfl dX5_next_42 ?_
          refine lv_topi (fun v_5 ev_5 => ?_)
          have lo_v_5 := k_lo v_5
          have hi_v_5 := k_hi v_5
          have tv_5 : v_5.toInt = (c0 c2.toNatClampNeg).toInt := by rw [ev_5]
          refine lv_goto (tgt := 47) hx hb dX5_next_43 (by decide) ?_
          exact hRet () [0, 1] trivial hP hD (by decide) rfl hS rfl dX5_next_47
theorem dX5_fail_0 : decode cX5_fail 0 = .ok (.aload_n 0, 1) := by decide +kernel
theorem dX5_fail_1 : decode cX5_fail 1 = .ok (.iconst 1, 1) := by decide +kernel
theorem dX5_fail_2 : decode cX5_fail 2 = .ok (.putfield 22, 3) := by decide +kernel
theorem dX5_fail_5 : decode cX5_fail 5 = .ok (.iconst 0, 1) := by decide +kernel
theorem dX5_fail_6 : decode cX5_fail 6 = .ok (.ireturn, 1) := by decide +kernel
set_option maxHeartbeats 4000000 in
set_option maxRecDepth 100000 in
theorem c_X5_failG (l : Launch) (D : va_G) (cI : ClassId) (aK aV : Nat → Nat) (k k0 : Nat) (sz : Nat) (c1 : Int32) (c2 : Int32) (c3 : Int32) (c4 : Int32) (c5 : Int32) (c6 : Int32) (c7 : Int32) : Met l yX5_fail (gW yX5_fail cX5_fail 1 (some .int)) ({ frames := 0, cells := 0, slots := 0, locals := 0 } : Room) (kPreX D cI aK aV [.ref k] [(k, .inr (5, [.ref k0, .int c1, .int c2, .int c3, .int c4, .int c5, .int c6, .int c7]))] sz) (va_Qi (fun (r : Int32) (u : Int32) => True) (fun u t => kWd D cI (va_A [(k, .inr (5, [.ref k0, .int c1, .int c2, .int c3, .int c4, .int c5, .int c6, .int c7]))] sz) [(k, .inr (5, [.ref k0, .int c1, .int c2, .int u, .int c4, .int c5, .int c6, .int c7]))] t) (va_A [(k, .inr (5, [.ref k0, .int c1, .int c2, .int c3, .int c4, .int c5, .int c6, .int c7]))] sz)) 0 0 (va_A [(k, .inr (5, [.ref k0, .int c1, .int c2, .int c3, .int c4, .int c5, .int c6, .int c7]))] sz) := by
  refine kMetIX (own := RX5) (by decide) rfl (Nat.le_of_ble_eq_true rfl) ?_
  intro p e s m args below meth c hx hb hT hown hname hml A Q hK hP hD hS hA hN hXS hRet ls hl
  have hl : lv_has ls 1 [(0, .ref k)] := hl
  refine lv_aload_n hx hb dX5_fail_0 rfl (lv_at hl 0 rfl) ?_
  refine lv_iconst (v := 1) hx hb dX5_fail_1 (by decide) ?_
  refine va_put (D := D) (ci := 5) (v := .int 1) (ty := .boolean) (C := RX5) (T := TX5) (N := 8) hx hb hT giX5 tyX5 tyX5_ok nmX5 hown hK hP hD hS 0 rfl rfl 3 (by decide) (hT (Cond.fieldLink RX5 22 "DesertWire$Reader" "bad" "Z") mw_171) (fun _ h9 => h9) rfl (by decide +kernel) rfl rfl (Nat.le_of_ble_eq_true rfl) dX5_fail_2 ?_
  clear hP hD hS
  intro H locs hP hD hS
  replace hP : va_P D vwCl [(k, .inr (5, [.ref k0, .int c1, .int c2, .int 1, .int c4, .int c5, .int c6, .int c7]))] H := hP
  replace hD : va_D A [(k, .inr (5, [.ref k0, .int c1, .int c2, .int 1, .int c4, .int c5, .int c6, .int c7]))] := hD
  refine lv_iconst (v := 0) hx hb dX5_fail_5 (by decide) ?_
  exact hRet 1 [0] trivial hP hD (by decide) rfl hS rfl dX5_fail_6
theorem dX5_truth_0 : decode cX5_truth 0 = .ok (.iload_n 0, 1) := by decide +kernel
theorem dX5_truth_1 : decode cX5_truth 1 = .ok (.ifCond .eq 7, 3) := by decide +kernel
theorem dX5_truth_4 : decode cX5_truth 4 = .ok (.iconst 1, 1) := by decide +kernel
theorem dX5_truth_5 : decode cX5_truth 5 = .ok (.goto 4, 3) := by decide +kernel
theorem dX5_truth_8 : decode cX5_truth 8 = .ok (.iconst 0, 1) := by decide +kernel
theorem dX5_truth_9 : decode cX5_truth 9 = .ok (.ireturn, 1) := by decide +kernel
set_option maxHeartbeats 4000000 in
set_option maxRecDepth 100000 in
theorem c_X5_truthG (l : Launch) (D : va_G) (cI : ClassId) (aK aV : Nat → Nat) (sz : Nat) (a0 : Int32) : Met l yX5_truth (gW yX5_truth cX5_truth 1 (some .int)) ({ frames := 0, cells := 0, slots := 0, locals := 0 } : Room) (kPreX D cI aK aV [.int a0] [] sz) (va_Qi (fun (r : Int32) (u : Unit) => True) (fun u t => kWd D cI (va_A [] sz) [] t) (va_A [] sz)) 0 0 (va_A [] sz) := by
  refine kMetIX (own := RX5) (by decide) rfl (Nat.le_of_ble_eq_true rfl) ?_
  intro p e s m args below meth c hx hb hT hown hname hml A Q hK hP hD hS hA hN hXS hRet ls hl
  have hl : lv_has ls 1 [(0, .int a0)] := hl
  refine lv_iload_n hx hb dX5_truth_0 rfl (lv_at hl 0 rfl) ?_
  refine b_if_eq hx hb rfl (tgt := 8) dX5_truth_1 (by decide) (fun c_1 => ?_) (fun c_1 => ?_)
  · refine lv_iconst (v := 0) hx hb dX5_truth_8 (by decide) ?_
    exact hRet () [] trivial hP hD (by decide) rfl hS rfl dX5_truth_9
  · refine lv_iconst (v := 1) hx hb dX5_truth_4 (by decide) ?_
    refine lv_goto (tgt := 9) hx hb dX5_truth_5 (by decide) ?_
    exact hRet () [] trivial hP hD (by decide) rfl hS rfl dX5_truth_9
theorem dX5_isDigit_0 : decode cX5_isDigit 0 = .ok (.iload_n 0, 1) := by decide +kernel
theorem dX5_isDigit_1 : decode cX5_isDigit 1 = .ok (.bipush 48, 2) := by decide +kernel
theorem dX5_isDigit_3 : decode cX5_isDigit 3 = .ok (.if_icmp .lt 13, 3) := by decide +kernel
theorem dX5_isDigit_6 : decode cX5_isDigit 6 = .ok (.iload_n 0, 1) := by decide +kernel
theorem dX5_isDigit_7 : decode cX5_isDigit 7 = .ok (.bipush 57, 2) := by decide +kernel
theorem dX5_isDigit_9 : decode cX5_isDigit 9 = .ok (.if_icmp .gt 7, 3) := by decide +kernel
theorem dX5_isDigit_12 : decode cX5_isDigit 12 = .ok (.iconst 1, 1) := by decide +kernel
theorem dX5_isDigit_13 : decode cX5_isDigit 13 = .ok (.goto 4, 3) := by decide +kernel
theorem dX5_isDigit_16 : decode cX5_isDigit 16 = .ok (.iconst 0, 1) := by decide +kernel
theorem dX5_isDigit_17 : decode cX5_isDigit 17 = .ok (.ireturn, 1) := by decide +kernel
set_option maxHeartbeats 4000000 in
set_option maxRecDepth 100000 in
theorem c_X5_isDigitG (l : Launch) (D : va_G) (cI : ClassId) (aK aV : Nat → Nat) (sz : Nat) (a0 : Int32) : Met l yX5_isDigit (gW yX5_isDigit cX5_isDigit 1 (some .boolean)) ({ frames := 0, cells := 0, slots := 0, locals := 0 } : Room) (kPreX D cI aK aV [.int a0] [] sz) (va_Qi (fun (r : Int32) (u : Unit) => (r = 1 ∧ 48 ≤ a0.toInt ∧ a0.toInt ≤ 57) ∨ (r = 0 ∧ (a0.toInt < 48 ∨ 57 < a0.toInt))) (fun u t => kWd D cI (va_A [] sz) [] t) (va_A [] sz)) 0 0 (va_A [] sz) := by
  refine kMetIX (own := RX5) (by decide) rfl (Nat.le_of_ble_eq_true rfl) ?_
  intro p e s m args below meth c hx hb hT hown hname hml A Q hK hP hD hS hA hN hXS hRet ls hl
  have hl : lv_has ls 1 [(0, .int a0)] := hl
  refine lv_iload_n hx hb dX5_isDigit_0 rfl (lv_at hl 0 rfl) ?_
  refine lv_bipush (v := 48) hx hb dX5_isDigit_1 (by decide) ?_
  refine b_icmp_lt hx hb rfl zl_48 (tgt := 16) dX5_isDigit_3 (by decide) (fun c_1 => ?_) (fun c_1 => ?_)
  · refine lv_iconst (v := 0) hx hb dX5_isDigit_16 (by decide) ?_
    exact hRet () [] (Or.inr (⟨rfl, (by omega)⟩)) hP hD (by decide) rfl hS rfl dX5_isDigit_17
  · refine lv_iload_n hx hb dX5_isDigit_6 rfl (lv_at hl 0 rfl) ?_
    refine lv_bipush (v := 57) hx hb dX5_isDigit_7 (by decide) ?_
    refine b_icmp_gt hx hb rfl zl_57 (tgt := 16) dX5_isDigit_9 (by decide) (fun c_2 => ?_) (fun c_2 => ?_)
    · refine lv_iconst (v := 0) hx hb dX5_isDigit_16 (by decide) ?_
      exact hRet () [] (Or.inr (⟨rfl, (by omega)⟩)) hP hD (by decide) rfl hS rfl dX5_isDigit_17
    · refine lv_iconst (v := 1) hx hb dX5_isDigit_12 (by decide) ?_
      refine lv_goto (tgt := 17) hx hb dX5_isDigit_13 (by decide) ?_
      exact hRet () [] (Or.inl ⟨rfl, (by omega), (by omega)⟩) hP hD (by decide) rfl hS rfl dX5_isDigit_17
theorem dX5_numeral_0 : decode cX5_numeral 0 = .ok (.iconst 0, 1) := by decide +kernel
theorem dX5_numeral_1 : decode cX5_numeral 1 = .ok (.istore_n 1, 1) := by decide +kernel
theorem dX5_numeral_2 : decode cX5_numeral 2 = .ok (.iconst 0, 1) := by decide +kernel
theorem dX5_numeral_3 : decode cX5_numeral 3 = .ok (.istore_n 2, 1) := by decide +kernel
theorem dX5_numeral_4 : decode cX5_numeral 4 = .ok (.iload_n 2, 1) := by decide +kernel
theorem dX5_numeral_5 : decode cX5_numeral 5 = .ok (.iconst 4, 1) := by decide +kernel
theorem dX5_numeral_6 : decode cX5_numeral 6 = .ok (.if_icmp .ge 42, 3) := by decide +kernel
theorem dX5_numeral_9 : decode cX5_numeral 9 = .ok (.aload_n 0, 1) := by decide +kernel
theorem dX5_numeral_10 : decode cX5_numeral 10 = .ok (.invokevirtual 45, 3) := by decide +kernel
theorem dX5_numeral_13 : decode cX5_numeral 13 = .ok (.invokestatic 65, 3) := by decide +kernel
theorem dX5_numeral_16 : decode cX5_numeral 16 = .ok (.ifCond .eq 32, 3) := by decide +kernel
theorem dX5_numeral_19 : decode cX5_numeral 19 = .ok (.bipush 10, 2) := by decide +kernel
theorem dX5_numeral_21 : decode cX5_numeral 21 = .ok (.iload_n 1, 1) := by decide +kernel
theorem dX5_numeral_22 : decode cX5_numeral 22 = .ok (.imul, 1) := by decide +kernel
theorem dX5_numeral_23 : decode cX5_numeral 23 = .ok (.aload_n 0, 1) := by decide +kernel
theorem dX5_numeral_24 : decode cX5_numeral 24 = .ok (.invokevirtual 45, 3) := by decide +kernel
theorem dX5_numeral_27 : decode cX5_numeral 27 = .ok (.iadd, 1) := by decide +kernel
theorem dX5_numeral_28 : decode cX5_numeral 28 = .ok (.bipush 48, 2) := by decide +kernel
theorem dX5_numeral_30 : decode cX5_numeral 30 = .ok (.isub, 1) := by decide +kernel
theorem dX5_numeral_31 : decode cX5_numeral 31 = .ok (.istore_n 1, 1) := by decide +kernel
theorem dX5_numeral_32 : decode cX5_numeral 32 = .ok (.aload_n 0, 1) := by decide +kernel
theorem dX5_numeral_33 : decode cX5_numeral 33 = .ok (.dup, 1) := by decide +kernel
theorem dX5_numeral_34 : decode cX5_numeral 34 = .ok (.getfield 19, 3) := by decide +kernel
theorem dX5_numeral_37 : decode cX5_numeral 37 = .ok (.iconst 1, 1) := by decide +kernel
theorem dX5_numeral_38 : decode cX5_numeral 38 = .ok (.iadd, 1) := by decide +kernel
theorem dX5_numeral_39 : decode cX5_numeral 39 = .ok (.putfield 19, 3) := by decide +kernel
theorem dX5_numeral_42 : decode cX5_numeral 42 = .ok (.iinc 2 1, 3) := by decide +kernel
theorem dX5_numeral_45 : decode cX5_numeral 45 = .ok (.goto (-41), 3) := by decide +kernel
theorem dX5_numeral_48 : decode cX5_numeral 48 = .ok (.iload_n 1, 1) := by decide +kernel
theorem dX5_numeral_49 : decode cX5_numeral 49 = .ok (.ireturn, 1) := by decide +kernel
set_option maxHeartbeats 4000000 in
set_option maxRecDepth 100000 in
theorem c_X5_numeralG (l : Launch) (D : va_G) (cI : ClassId) (aK aV : Nat → Nat) (k k0 : Nat) (sz : Nat) (c1 : Int32) (c2 : Int32) (c3 : Int32) (c4 : Int32) (c5 : Int32) (c6 : Int32) (c7 : Int32) (c0 : Nat → Int32) : Met l yX5_numeral (gW yX5_numeral cX5_numeral 3 (some .int)) ({ frames := 1, cells := 0, slots := 0, locals := 20 } : Room) (kPreX D cI aK aV [.ref k] [(k, .inr (5, [.ref k0, .int c1, .int c2, .int c3, .int c4, .int c5, .int c6, .int c7])), (k0, .inl (cI, 50, .inl c0))] sz) (va_Qi (fun (r : Int32) (u : Int32) => True) (fun u t => kWd D cI (va_A [(k, .inr (5, [.ref k0, .int c1, .int c2, .int c3, .int c4, .int c5, .int c6, .int c7])), (k0, .inl (cI, 50, .inl c0))] sz) [(k, .inr (5, [.ref k0, .int c1, .int u, .int c3, .int c4, .int c5, .int c6, .int c7])), (k0, .inl (cI, 50, .inl c0))] t) (va_A [(k, .inr (5, [.ref k0, .int c1, .int c2, .int c3, .int c4, .int c5, .int c6, .int c7])), (k0, .inl (cI, 50, .inl c0))] sz)) 0 0 (va_A [(k, .inr (5, [.ref k0, .int c1, .int c2, .int c3, .int c4, .int c5, .int c6, .int c7])), (k0, .inl (cI, 50, .inl c0))] sz) := by
  refine kMetIX (own := RX5) (by decide) rfl (Nat.le_of_ble_eq_true rfl) ?_
  intro p e s m args below meth c hx hb hT hown hname hml A Q hK hP hD hS hA hN hXS hRet ls hl
  have hl : lv_has ls 3 [(0, .ref k)] := hl
  refine lv_iconst (v := 0) hx hb dX5_numeral_0 (by decide) ?_
  refine lv_istore_n (lv' := [(1, .int 0), (0, .ref k)]) hx hb dX5_numeral_1 rfl hl (by decide) rfl ?_
  clear hl
  intro ls hl
  refine lv_iconst (v := 0) hx hb dX5_numeral_2 (by decide) ?_
  refine lv_istore_n (lv' := [(2, .int 0), (1, .int 0), (0, .ref k)]) hx hb dX5_numeral_3 rfl hl (by decide) rfl ?_
  clear hl
  intro ls hl
  have hloop_4 : ∀ (fu_ : Nat) (l4_1 : Int32) (l4_2 : Int32) (f4_k2 : Int32), 0 ≤ l4_2.toInt → (4 - l4_2.toInt).toNat < fu_ → ∀ (ls : Array Slot) (H : Heap) (locs : List Loc), lv_has ls 3 [(2, .int l4_2), (1, .int l4_1), (0, .ref k)] → va_P D vwCl [(k, .inr (5, [.ref k0, .int c1, .int f4_k2, .int c3, .int c4, .int c5, .int c6, .int c7])), (k0, .inl (cI, 50, .inl c0))] H → va_D A [(k, .inr (5, [.ref k0, .int c1, .int f4_k2, .int c3, .int c4, .int c5, .int c6, .int c7])), (k0, .inl (cI, 50, .inl c0))] → va_S A s.heap H locs → W p l e ({ frames := 1, cells := 0, slots := 0, locals := 20 } : Room) s m args below meth c H locs 0 0 Q (F0 m 4 ls []) := by
    intro fu_; induction fu_ with
    | zero => intro l4_1 l4_2 f4_k2 i4_0 hm; exact absurd hm (by omega)
    | succ fu_ ih4 =>
        intro l4_1 l4_2 f4_k2 i4_0 hm ls H locs hl hP hD hS
        have lo_l4_1 := k_lo l4_1
        have hi_l4_1 := k_hi l4_1
        have lo_l4_2 := k_lo l4_2
        have hi_l4_2 := k_hi l4_2
        have lo_f4_k2 := k_lo f4_k2
        have hi_f4_k2 := k_hi f4_k2
        refine lv_iload_n hx hb dX5_numeral_4 rfl (lv_at hl 0 rfl) ?_
        refine lv_iconst (v := 4) hx hb dX5_numeral_5 (by decide) ?_
        refine b_icmp_ge hx hb rfl zl_4 (tgt := 48) dX5_numeral_6 (by decide) (fun c_1 => ?_) (fun c_1 => ?_)
        · refine lv_iload_n hx hb dX5_numeral_48 rfl (lv_at hl 1 rfl) ?_
          exact hRet f4_k2 [0, 1] trivial hP hD (by decide) rfl hS rfl dX5_numeral_49
        · refine lv_aload_n hx hb dX5_numeral_9 rfl (lv_at hl 2 rfl) ?_
          refine kJi (wr := []) (va_runV (As := []) (rest := []) ⟨hx, hb, hml, hown, hT⟩ (c_X5_nextG l D cI aK aV k k0 H.size c1 f4_k2 c3 c4 c5 c6 c7 c0) (cwV 0 hT (gV_in mw_484 mw_481 mw_483 mw_p1_11 mw_6) rfl rfl rfl (by decide +kernel) ⟨Nat.le_of_ble_eq_true rfl, Nat.le_of_ble_eq_true rfl⟩) (kRecvX (q0 := 0) (ci := 5) hK hP hD hN hXS hS hA rfl rfl [0, 1] rfl (by decide)) rfl rfl hl.1 rfl (lv_room (Nat.le_of_ble_eq_true rfl)) dX5_numeral_10 ⟨Nat.le_of_ble_eq_true rfl, Nat.le_of_ble_eq_true rfl⟩) hP hD hS hA [0, 1] [] rfl rfl (by decide) (by decide) ?_
          clear hP hD hS
          intro r_2 u_4 H locs w_3 hP hD hS
          replace hP : va_P D vwCl [(k, .inr (5, [.ref k0, .int c1, .int f4_k2, .int c3, .int c4, .int c5, .int c6, .int c7])), (k0, .inl (cI, 50, .inl c0))] H := hP
          replace hD : va_D A [(k, .inr (5, [.ref k0, .int c1, .int f4_k2, .int c3, .int c4, .int c5, .int c6, .int c7])), (k0, .inl (cI, 50, .inl c0))] := hD
          have lo_r_2 := k_lo r_2
          have hi_r_2 := k_hi r_2
          refine kJi (wr := [(k, .inr (5, [.ref k0, .int c1, .int f4_k2, .int c3, .int c4, .int c5, .int c6, .int c7])), (k0, .inl (cI, 50, .inl c0))]) (va_runS (As := [.int r_2]) (rest := []) ⟨hx, hb, hml, hown, hT⟩ (c_X5_isDigitG l D cI aK aV H.size r_2) (cwS 1 hT (gS_in mw_487 mw_485 mw_486 mw_6) rfl rfl rfl (by decide +kernel) ⟨Nat.le_of_ble_eq_true rfl, Nat.le_of_ble_eq_true rfl⟩) (kStatX hK hP hD hN hXS hS hA [] rfl (by decide)) rfl rfl hl.1 rfl (lv_room (Nat.le_of_ble_eq_true rfl)) dX5_numeral_13 ⟨Nat.le_of_ble_eq_true rfl, Nat.le_of_ble_eq_true rfl⟩) hP hD hS hA [] [0, 1] rfl rfl (by decide) (by decide) ?_
          clear hP hD hS
          intro r_5 u_7 H locs w_6 hP hD hS
          replace hP : va_P D vwCl [(k, .inr (5, [.ref k0, .int c1, .int f4_k2, .int c3, .int c4, .int c5, .int c6, .int c7])), (k0, .inl (cI, 50, .inl c0))] H := hP
          replace hD : va_D A [(k, .inr (5, [.ref k0, .int c1, .int f4_k2, .int c3, .int c4, .int c5, .int c6, .int c7])), (k0, .inl (cI, 50, .inl c0))] := hD
          rcases w_6 with ⟨hr_5, h_8, h_9⟩ | ⟨hr_5, h_10⟩
          · have h_8 : 48 ≤ r_2.toInt := h_8
            have h_9 : r_2.toInt ≤ 57 := h_9
            obtain rfl : r_5 = 1 := hr_5.trans (by decide)
            refine b_if_eq hx hb zl_1 (tgt := 48) dX5_numeral_16 (by decide) (fun c_11 => by exfalso; omega) (fun c_11 => ?_)
            refine lv_bipush (v := 10) hx hb dX5_numeral_19 (by decide) ?_
            refine lv_iload_n hx hb dX5_numeral_21 rfl (lv_at hl 1 rfl) ?_
            refine lv_imul hx hb dX5_numeral_22 ?_
            refine lv_topi (fun v_12 ev_12 => ?_)
            have lo_v_12 := k_lo v_12
            have hi_v_12 := k_hi v_12
            refine lv_aload_n hx hb dX5_numeral_23 rfl (lv_at hl 2 rfl) ?_
            refine kJi (wr := []) (va_runV (As := []) (rest := [.int v_12]) ⟨hx, hb, hml, hown, hT⟩ (c_X5_nextG l D cI aK aV k k0 H.size c1 f4_k2 c3 c4 c5 c6 c7 c0) (cwV 0 hT (gV_in mw_484 mw_481 mw_483 mw_p1_11 mw_6) rfl rfl rfl (by decide +kernel) ⟨Nat.le_of_ble_eq_true rfl, Nat.le_of_ble_eq_true rfl⟩) (kRecvX (q0 := 0) (ci := 5) hK hP hD hN hXS hS hA rfl rfl [0, 1] rfl (by decide)) rfl rfl hl.1 rfl (lv_room (Nat.le_of_ble_eq_true rfl)) dX5_numeral_24 ⟨Nat.le_of_ble_eq_true rfl, Nat.le_of_ble_eq_true rfl⟩) hP hD hS hA [0, 1] [] rfl rfl (by decide) (by decide) ?_
            clear hP hD hS
            intro r_13 u_15 H locs w_14 hP hD hS
            replace hP : va_P D vwCl [(k, .inr (5, [.ref k0, .int c1, .int f4_k2, .int c3, .int c4, .int c5, .int c6, .int c7])), (k0, .inl (cI, 50, .inl c0))] H := hP
            replace hD : va_D A [(k, .inr (5, [.ref k0, .int c1, .int f4_k2, .int c3, .int c4, .int c5, .int c6, .int c7])), (k0, .inl (cI, 50, .inl c0))] := hD
            have lo_r_13 := k_lo r_13
            have hi_r_13 := k_hi r_13
            refine lv_iadd hx hb dX5_numeral_27 ?_
            refine lv_topi (fun v_16 ev_16 => ?_)
            have lo_v_16 := k_lo v_16
            have hi_v_16 := k_hi v_16
            refine lv_bipush (v := 48) hx hb dX5_numeral_28 (by decide) ?_
            refine lv_isub hx hb dX5_numeral_30 ?_
            refine lv_topi (fun v_17 ev_17 => ?_)
            have lo_v_17 := k_lo v_17
            have hi_v_17 := k_hi v_17
            refine lv_istore_n (lv' := [(1, .int v_17), (2, .int l4_2), (0, .ref k)]) hx hb dX5_numeral_31 rfl hl (by decide) rfl ?_
            clear hl
            intro ls hl
            refine lv_aload_n hx hb dX5_numeral_32 rfl (lv_at hl 2 rfl) ?_
            refine lv_dup hx hb dX5_numeral_33 rfl ?_
            refine va_get (D := D) (ci := 5) (v := .int f4_k2) (C := RX5) (T := TX5) (N := 8) hx hb hT giX5 hown hK hP 0 rfl rfl 2 (by decide) (hT (Cond.fieldLink RX5 19 "DesertWire$Reader" "at" "I") mw_170) (fun _ h9 => h9) rfl dX5_numeral_34 ?_
            refine lv_iconst (v := 1) hx hb dX5_numeral_37 (by decide) ?_
            refine lv_iadd hx hb dX5_numeral_38 ?_
            refine lv_topi (fun v_18 ev_18 => ?_)
            have lo_v_18 := k_lo v_18
            have hi_v_18 := k_hi v_18
            refine va_put (D := D) (ci := 5) (v := .int v_18) (ty := .int) (C := RX5) (T := TX5) (N := 8) hx hb hT giX5 tyX5 tyX5_ok nmX5 hown hK hP hD hS 0 rfl rfl 2 (by decide) (hT (Cond.fieldLink RX5 19 "DesertWire$Reader" "at" "I") mw_170) (fun _ h9 => h9) rfl (by decide +kernel) rfl rfl (Nat.le_of_ble_eq_true rfl) dX5_numeral_39 ?_
            clear hP hD hS
            intro H locs hP hD hS
            replace hP : va_P D vwCl [(k, .inr (5, [.ref k0, .int c1, .int v_18, .int c3, .int c4, .int c5, .int c6, .int c7])), (k0, .inl (cI, 50, .inl c0))] H := hP
            replace hD : va_D A [(k, .inr (5, [.ref k0, .int c1, .int v_18, .int c3, .int c4, .int c5, .int c6, .int c7])), (k0, .inl (cI, 50, .inl c0))] := hD
            obtain ⟨v_19, ev_19⟩ : ∃ y : Int32, y = l4_2 + 1 := ⟨_, rfl⟩
            have tv_19 : v_19.toInt = l4_2.toInt + 1 := by rw [ev_19]; exact k_addv rfl zl_1 (by omega) (by omega)
            refine lv_iinc (v := v_19) (lv' := [(2, .int v_19), (1, .int v_17), (0, .ref k)]) hx hb dX5_numeral_42 hl (k := 1) rfl (by rw [ev_19]; rfl) (by decide) rfl ?_
            clear hl
            intro ls hl
            refine lv_goto (tgt := 4) hx hb dX5_numeral_45 (by decide) ?_
            exact ih4 v_17 v_19 v_18 (by first | omega | decide | assumption | rfl) (by omega) ls _ _ (lv_sub hl [0, 1, 2] rfl) (hP.sub [0, 1] rfl) (hD.sub [0, 1] (by decide) rfl) hS
          · have h_10 : r_2.toInt < 48 ∨ 57 < r_2.toInt := h_10
            obtain rfl : r_5 = 0 := hr_5.trans (by decide)
            refine b_if_eq hx hb zl_0 (tgt := 48) dX5_numeral_16 (by decide) (fun c_20 => ?_) (fun c_20 => by exfalso; omega)
            refine lv_iload_n hx hb dX5_numeral_48 rfl (lv_at hl 1 rfl) ?_
            exact hRet f4_k2 [0, 1] trivial hP hD (by decide) rfl hS rfl dX5_numeral_49
  exact hloop_4 _ 0 0 c2 (by first | omega | (simp only [zl_0] <;> omega) | decide | assumption | rfl) (Nat.lt_succ_self _) ls _ _ (lv_sub hl [0, 1, 2] rfl) hP hD hS
theorem dX5_part_0 : decode cX5_part 0 = .ok (.aload_n 0, 1) := by decide +kernel
theorem dX5_part_1 : decode cX5_part 1 = .ok (.invokevirtual 45, 3) := by decide +kernel
theorem dX5_part_4 : decode cX5_part 4 = .ok (.istore_n 2, 1) := by decide +kernel
theorem dX5_part_5 : decode cX5_part 5 = .ok (.iload_n 2, 1) := by decide +kernel
theorem dX5_part_6 : decode cX5_part 6 = .ok (.invokestatic 65, 3) := by decide +kernel
theorem dX5_part_9 : decode cX5_part 9 = .ok (.ifCond .eq 8, 3) := by decide +kernel
theorem dX5_part_12 : decode cX5_part 12 = .ok (.aload_n 0, 1) := by decide +kernel
theorem dX5_part_13 : decode cX5_part 13 = .ok (.invokevirtual 69, 3) := by decide +kernel
theorem dX5_part_16 : decode cX5_part 16 = .ok (.ireturn, 1) := by decide +kernel
theorem dX5_part_17 : decode cX5_part 17 = .ok (.iload_n 2, 1) := by decide +kernel
theorem dX5_part_18 : decode cX5_part 18 = .ok (.bipush 45, 2) := by decide +kernel
theorem dX5_part_20 : decode cX5_part 20 = .ok (.if_icmp .eq 15, 3) := by decide +kernel
theorem dX5_part_23 : decode cX5_part 23 = .ok (.iload_n 2, 1) := by decide +kernel
theorem dX5_part_24 : decode cX5_part 24 = .ok (.bipush 33, 2) := by decide +kernel
theorem dX5_part_26 : decode cX5_part 26 = .ok (.if_icmp .eq 9, 3) := by decide +kernel
theorem dX5_part_29 : decode cX5_part 29 = .ok (.iload_n 2, 1) := by decide +kernel
theorem dX5_part_30 : decode cX5_part 30 = .ok (.bipush 40, 2) := by decide +kernel
theorem dX5_part_32 : decode cX5_part 32 = .ok (.if_icmp .ne 24, 3) := by decide +kernel
theorem dX5_part_35 : decode cX5_part 35 = .ok (.iload_n 1, 1) := by decide +kernel
theorem dX5_part_36 : decode cX5_part 36 = .ok (.iconst 4, 1) := by decide +kernel
theorem dX5_part_37 : decode cX5_part 37 = .ok (.if_icmp .lt 10, 3) := by decide +kernel
theorem dX5_part_40 : decode cX5_part 40 = .ok (.aload_n 0, 1) := by decide +kernel
theorem dX5_part_41 : decode cX5_part 41 = .ok (.invokevirtual 72, 3) := by decide +kernel
theorem dX5_part_44 : decode cX5_part 44 = .ok (.goto 11, 3) := by decide +kernel
theorem dX5_part_55 : decode cX5_part 55 = .ok (.ireturn, 1) := by decide +kernel
theorem dX5_part_56 : decode cX5_part 56 = .ok (.aload_n 0, 1) := by decide +kernel
theorem dX5_part_57 : decode cX5_part 57 = .ok (.iload_n 2, 1) := by decide +kernel
theorem dX5_part_58 : decode cX5_part 58 = .ok (.invokevirtual 79, 3) := by decide +kernel
theorem dX5_part_61 : decode cX5_part 61 = .ok (.istore_n 3, 1) := by decide +kernel
theorem dX5_part_62 : decode cX5_part 62 = .ok (.iload_n 3, 1) := by decide +kernel
theorem dX5_part_63 : decode cX5_part 63 = .ok (.ifCond .ge 8, 3) := by decide +kernel
theorem dX5_part_66 : decode cX5_part 66 = .ok (.aload_n 0, 1) := by decide +kernel
theorem dX5_part_67 : decode cX5_part 67 = .ok (.invokevirtual 72, 3) := by decide +kernel
theorem dX5_part_70 : decode cX5_part 70 = .ok (.ireturn, 1) := by decide +kernel
theorem dX5_part_71 : decode cX5_part 71 = .ok (.aload_n 0, 1) := by decide +kernel
theorem dX5_part_72 : decode cX5_part 72 = .ok (.dup, 1) := by decide +kernel
theorem dX5_part_73 : decode cX5_part 73 = .ok (.getfield 19, 3) := by decide +kernel
theorem dX5_part_76 : decode cX5_part 76 = .ok (.iconst 1, 1) := by decide +kernel
theorem dX5_part_77 : decode cX5_part 77 = .ok (.iadd, 1) := by decide +kernel
theorem dX5_part_78 : decode cX5_part 78 = .ok (.putfield 19, 3) := by decide +kernel
theorem dX5_part_81 : decode cX5_part 81 = .ok (.iload_n 3, 1) := by decide +kernel
theorem dX5_part_82 : decode cX5_part 82 = .ok (.ifCond .ne 10, 3) := by decide +kernel
theorem dX5_part_85 : decode cX5_part 85 = .ok (.aload_n 0, 1) := by decide +kernel
theorem dX5_part_86 : decode cX5_part 86 = .ok (.getfield 29, 3) := by decide +kernel
theorem dX5_part_89 : decode cX5_part 89 = .ok (.goto 19, 3) := by decide +kernel
theorem dX5_part_92 : decode cX5_part 92 = .ok (.iload_n 3, 1) := by decide +kernel
theorem dX5_part_93 : decode cX5_part 93 = .ok (.iconst 1, 1) := by decide +kernel
theorem dX5_part_94 : decode cX5_part 94 = .ok (.if_icmp .ne 10, 3) := by decide +kernel
theorem dX5_part_97 : decode cX5_part 97 = .ok (.aload_n 0, 1) := by decide +kernel
theorem dX5_part_98 : decode cX5_part 98 = .ok (.getfield 32, 3) := by decide +kernel
theorem dX5_part_101 : decode cX5_part 101 = .ok (.goto 7, 3) := by decide +kernel
theorem dX5_part_104 : decode cX5_part 104 = .ok (.aload_n 0, 1) := by decide +kernel
theorem dX5_part_105 : decode cX5_part 105 = .ok (.getfield 35, 3) := by decide +kernel
theorem dX5_part_108 : decode cX5_part 108 = .ok (.ireturn, 1) := by decide +kernel
set_option maxHeartbeats 4000000 in
set_option maxRecDepth 100000 in
theorem c_X5_partG4 (l : Launch) (D : va_G) (cI : ClassId) (aK aV : Nat → Nat) (k k0 : Nat) (sz : Nat) (c1 : Int32) (c2 : Int32) (c3 : Int32) (c4 : Int32) (c5 : Int32) (c6 : Int32) (c7 : Int32) (c0 : Nat → Int32) (a0 : Int32) (pre0 : a0 = 4) : Met l yX5_part (gW yX5_part cX5_part 4 (some .int)) ({ frames := 5, cells := 0, slots := 0, locals := 127 } : Room) (kPreX D cI aK aV [.ref k, .int 4] [(k, .inr (5, [.ref k0, .int c1, .int c2, .int c3, .int c4, .int c5, .int c6, .int c7])), (k0, .inl (cI, 50, .inl c0))] sz) (va_Qi (fun (r : Int32) (u : Int32 × Int32) => True) (fun u t => kWd D cI (va_A [(k, .inr (5, [.ref k0, .int c1, .int c2, .int c3, .int c4, .int c5, .int c6, .int c7])), (k0, .inl (cI, 50, .inl c0))] sz) [(k, .inr (5, [.ref k0, .int c1, .int u.1, .int u.2, .int c4, .int c5, .int c6, .int c7])), (k0, .inl (cI, 50, .inl c0))] t) (va_A [(k, .inr (5, [.ref k0, .int c1, .int c2, .int c3, .int c4, .int c5, .int c6, .int c7])), (k0, .inl (cI, 50, .inl c0))] sz)) 0 0 (va_A [(k, .inr (5, [.ref k0, .int c1, .int c2, .int c3, .int c4, .int c5, .int c6, .int c7])), (k0, .inl (cI, 50, .inl c0))] sz) := by
  refine kMetIX (own := RX5) (by decide) rfl (Nat.le_of_ble_eq_true rfl) ?_
  intro p e s m args below meth c hx hb hT hown hname hml A Q hK hP hD hS hA hN hXS hRet ls hl
  subst pre0
  have hl : lv_has ls 4 [(0, .ref k), (1, .int 4)] := hl
  have lo_c2 := k_lo c2
  have hi_c2 := k_hi c2
  have lo_c5 := k_lo c5
  have hi_c5 := k_hi c5
  have lo_c6 := k_lo c6
  have hi_c6 := k_hi c6
  have lo_c7 := k_lo c7
  have hi_c7 := k_hi c7
  refine lv_aload_n hx hb dX5_part_0 rfl (lv_at hl 0 rfl) ?_
  refine kJi (wr := []) (va_runV (As := []) (rest := []) ⟨hx, hb, hml, hown, hT⟩ (c_X5_nextG l D cI aK aV k k0 s.heap.size c1 c2 c3 c4 c5 c6 c7 c0) (cwV 0 hT (gV_in mw_484 mw_481 mw_483 mw_p1_11 mw_6) rfl rfl rfl (by decide +kernel) ⟨Nat.le_of_ble_eq_true rfl, Nat.le_of_ble_eq_true rfl⟩) (kRecvX (q0 := 0) (ci := 5) hK hP hD hN hXS hS hA rfl rfl [0, 1] rfl (by decide)) rfl rfl hl.1 rfl (lv_room (Nat.le_of_ble_eq_true rfl)) dX5_part_1 ⟨Nat.le_of_ble_eq_true rfl, Nat.le_of_ble_eq_true rfl⟩) hP hD hS hA [0, 1] [] rfl rfl (by decide) (by decide) ?_
  clear hP hD hS
  intro r_1 u_3 H locs w_2 hP hD hS
  replace hP : va_P D vwCl [(k, .inr (5, [.ref k0, .int c1, .int c2, .int c3, .int c4, .int c5, .int c6, .int c7])), (k0, .inl (cI, 50, .inl c0))] H := hP
  replace hD : va_D A [(k, .inr (5, [.ref k0, .int c1, .int c2, .int c3, .int c4, .int c5, .int c6, .int c7])), (k0, .inl (cI, 50, .inl c0))] := hD
  have lo_r_1 := k_lo r_1
  have hi_r_1 := k_hi r_1
  refine lv_istore_n (lv' := [(2, .int r_1), (0, .ref k), (1, .int 4)]) hx hb dX5_part_4 rfl hl (by decide) rfl ?_
  clear hl
  intro ls hl
  refine lv_iload_n hx hb dX5_part_5 rfl (lv_at hl 0 rfl) ?_
  refine kJi (wr := [(k, .inr (5, [.ref k0, .int c1, .int c2, .int c3, .int c4, .int c5, .int c6, .int c7])), (k0, .inl (cI, 50, .inl c0))]) (va_runS (As := [.int r_1]) (rest := []) ⟨hx, hb, hml, hown, hT⟩ (c_X5_isDigitG l D cI aK aV H.size r_1) (cwS 1 hT (gS_in mw_487 mw_485 mw_486 mw_6) rfl rfl rfl (by decide +kernel) ⟨Nat.le_of_ble_eq_true rfl, Nat.le_of_ble_eq_true rfl⟩) (kStatX hK hP hD hN hXS hS hA [] rfl (by decide)) rfl rfl hl.1 rfl (lv_room (Nat.le_of_ble_eq_true rfl)) dX5_part_6 ⟨Nat.le_of_ble_eq_true rfl, Nat.le_of_ble_eq_true rfl⟩) hP hD hS hA [] [0, 1] rfl rfl (by decide) (by decide) ?_
  clear hP hD hS
  intro r_4 u_6 H locs w_5 hP hD hS
  replace hP : va_P D vwCl [(k, .inr (5, [.ref k0, .int c1, .int c2, .int c3, .int c4, .int c5, .int c6, .int c7])), (k0, .inl (cI, 50, .inl c0))] H := hP
  replace hD : va_D A [(k, .inr (5, [.ref k0, .int c1, .int c2, .int c3, .int c4, .int c5, .int c6, .int c7])), (k0, .inl (cI, 50, .inl c0))] := hD
  rcases w_5 with ⟨hr_4, h_7, h_8⟩ | ⟨hr_4, h_9⟩
  · have h_7 : 48 ≤ r_1.toInt := h_7
    have h_8 : r_1.toInt ≤ 57 := h_8
    obtain rfl : r_4 = 1 := hr_4.trans (by decide)
    refine b_if_eq hx hb zl_1 (tgt := 17) dX5_part_9 (by decide) (fun c_10 => by exfalso; omega) (fun c_10 => ?_)
    refine lv_aload_n hx hb dX5_part_12 rfl (lv_at hl 1 rfl) ?_
    refine kJi (wr := []) (va_runV (As := []) (rest := []) ⟨hx, hb, hml, hown, hT⟩ (c_X5_numeralG l D cI aK aV k k0 H.size c1 c2 c3 c4 c5 c6 c7 c0) (cwV 0 hT (gV_in mw_491 mw_488 mw_490 mw_p1_12 mw_6) rfl rfl rfl (by decide +kernel) ⟨Nat.le_of_ble_eq_true rfl, Nat.le_of_ble_eq_true rfl⟩) (kRecvX (q0 := 0) (ci := 5) hK hP hD hN hXS hS hA rfl rfl [0, 1] rfl (by decide)) rfl rfl hl.1 rfl (lv_room (Nat.le_of_ble_eq_true rfl)) dX5_part_13 ⟨Nat.le_of_ble_eq_true rfl, Nat.le_of_ble_eq_true rfl⟩) hP hD hS hA [0, 1] [] rfl rfl (by decide) (by decide) ?_
    clear hP hD hS
    intro r_11 sc2_13 H locs w_12 hP hD hS
    replace hP : va_P D vwCl [(k, .inr (5, [.ref k0, .int c1, .int sc2_13, .int c3, .int c4, .int c5, .int c6, .int c7])), (k0, .inl (cI, 50, .inl c0))] H := hP
    replace hD : va_D A [(k, .inr (5, [.ref k0, .int c1, .int sc2_13, .int c3, .int c4, .int c5, .int c6, .int c7])), (k0, .inl (cI, 50, .inl c0))] := hD
    have lo_sc2_13 := k_lo sc2_13
    have hi_sc2_13 := k_hi sc2_13
    have lo_r_11 := k_lo r_11
    have hi_r_11 := k_hi r_11
    exact hRet (sc2_13, c3) [0, 1] trivial hP hD (by decide) rfl hS rfl dX5_part_16
  · have h_9 : r_1.toInt < 48 ∨ 57 < r_1.toInt := h_9
    obtain rfl : r_4 = 0 := hr_4.trans (by decide)
    refine b_if_eq hx hb zl_0 (tgt := 17) dX5_part_9 (by decide) (fun c_14 => ?_) (fun c_14 => by exfalso; omega)
    refine lv_iload_n hx hb dX5_part_17 rfl (lv_at hl 0 rfl) ?_
    refine lv_bipush (v := 45) hx hb dX5_part_18 (by decide) ?_
    refine b_icmp_eq hx hb rfl zl_45 (tgt := 35) dX5_part_20 (by decide) (fun c_15 => ?_) (fun c_15 => ?_)
    · refine lv_iload_n hx hb dX5_part_35 rfl (lv_at hl 2 rfl) ?_
      refine lv_iconst (v := 4) hx hb dX5_part_36 (by decide) ?_
      refine b_icmp_lt hx hb zl_4 zl_4 (tgt := 47) dX5_part_37 (by decide) (fun c_16 => by exfalso; omega) (fun c_16 => ?_)
      refine lv_aload_n hx hb dX5_part_40 rfl (lv_at hl 1 rfl) ?_
      refine kJi (wr := [(k0, .inl (cI, 50, .inl c0))]) (va_runV (As := []) (rest := []) ⟨hx, hb, hml, hown, hT⟩ (c_X5_failG l D cI aK aV k k0 H.size c1 c2 c3 c4 c5 c6 c7) (cwV 0 hT (gV_in mw_495 mw_492 mw_494 mw_p1_13 mw_6) rfl rfl rfl (by decide +kernel) ⟨Nat.le_of_ble_eq_true rfl, Nat.le_of_ble_eq_true rfl⟩) (kRecvX (q0 := 0) (ci := 5) hK hP hD hN hXS hS hA rfl rfl [0] rfl (by decide)) rfl rfl hl.1 rfl (lv_room (Nat.le_of_ble_eq_true rfl)) dX5_part_41 ⟨Nat.le_of_ble_eq_true rfl, Nat.le_of_ble_eq_true rfl⟩) hP hD hS hA [0] [1] rfl rfl (by decide) (by decide) ?_
      clear hP hD hS
      intro r_17 sc3_19 H locs w_18 hP hD hS
      replace hP : va_P D vwCl [(k0, .inl (cI, 50, .inl c0)), (k, .inr (5, [.ref k0, .int c1, .int c2, .int sc3_19, .int c4, .int c5, .int c6, .int c7]))] H := hP
      replace hD : va_D A [(k0, .inl (cI, 50, .inl c0)), (k, .inr (5, [.ref k0, .int c1, .int c2, .int sc3_19, .int c4, .int c5, .int c6, .int c7]))] := hD
      have lo_sc3_19 := k_lo sc3_19
      have hi_sc3_19 := k_hi sc3_19
      have lo_r_17 := k_lo r_17
      have hi_r_17 := k_hi r_17
      refine lv_goto (tgt := 55) hx hb dX5_part_44 (by decide) ?_
      exact hRet (c2, sc3_19) [1, 0] trivial hP hD (by decide) rfl hS rfl dX5_part_55
    · refine lv_iload_n hx hb dX5_part_23 rfl (lv_at hl 0 rfl) ?_
      refine lv_bipush (v := 33) hx hb dX5_part_24 (by decide) ?_
      refine b_icmp_eq hx hb rfl zl_33 (tgt := 35) dX5_part_26 (by decide) (fun c_20 => ?_) (fun c_20 => ?_)
      · refine lv_iload_n hx hb dX5_part_35 rfl (lv_at hl 2 rfl) ?_
        refine lv_iconst (v := 4) hx hb dX5_part_36 (by decide) ?_
        refine b_icmp_lt hx hb zl_4 zl_4 (tgt := 47) dX5_part_37 (by decide) (fun c_21 => by exfalso; omega) (fun c_21 => ?_)
        refine lv_aload_n hx hb dX5_part_40 rfl (lv_at hl 1 rfl) ?_
        refine kJi (wr := [(k0, .inl (cI, 50, .inl c0))]) (va_runV (As := []) (rest := []) ⟨hx, hb, hml, hown, hT⟩ (c_X5_failG l D cI aK aV k k0 H.size c1 c2 c3 c4 c5 c6 c7) (cwV 0 hT (gV_in mw_495 mw_492 mw_494 mw_p1_13 mw_6) rfl rfl rfl (by decide +kernel) ⟨Nat.le_of_ble_eq_true rfl, Nat.le_of_ble_eq_true rfl⟩) (kRecvX (q0 := 0) (ci := 5) hK hP hD hN hXS hS hA rfl rfl [0] rfl (by decide)) rfl rfl hl.1 rfl (lv_room (Nat.le_of_ble_eq_true rfl)) dX5_part_41 ⟨Nat.le_of_ble_eq_true rfl, Nat.le_of_ble_eq_true rfl⟩) hP hD hS hA [0] [1] rfl rfl (by decide) (by decide) ?_
        clear hP hD hS
        intro r_22 sc3_24 H locs w_23 hP hD hS
        replace hP : va_P D vwCl [(k0, .inl (cI, 50, .inl c0)), (k, .inr (5, [.ref k0, .int c1, .int c2, .int sc3_24, .int c4, .int c5, .int c6, .int c7]))] H := hP
        replace hD : va_D A [(k0, .inl (cI, 50, .inl c0)), (k, .inr (5, [.ref k0, .int c1, .int c2, .int sc3_24, .int c4, .int c5, .int c6, .int c7]))] := hD
        have lo_sc3_24 := k_lo sc3_24
        have hi_sc3_24 := k_hi sc3_24
        have lo_r_22 := k_lo r_22
        have hi_r_22 := k_hi r_22
        refine lv_goto (tgt := 55) hx hb dX5_part_44 (by decide) ?_
        exact hRet (c2, sc3_24) [1, 0] trivial hP hD (by decide) rfl hS rfl dX5_part_55
      · refine lv_iload_n hx hb dX5_part_29 rfl (lv_at hl 0 rfl) ?_
        refine lv_bipush (v := 40) hx hb dX5_part_30 (by decide) ?_
        refine b_icmp_ne hx hb rfl zl_40 (tgt := 56) dX5_part_32 (by decide) (fun c_25 => ?_) (fun c_25 => ?_)
        · refine lv_aload_n hx hb dX5_part_56 rfl (lv_at hl 1 rfl) ?_
          refine lv_iload_n hx hb dX5_part_57 rfl (lv_at hl 0 rfl) ?_
          refine kJi (wr := [(k0, .inl (cI, 50, .inl c0))]) (va_runV (As := [.int r_1]) (rest := []) ⟨hx, hb, hml, hown, hT⟩ (c_X5_nameOfG l D cI aK aV k k0 H.size c1 c2 c3 c4 c5 c6 c7 r_1) (cwV 1 hT (gV_in mw_506 mw_503 mw_505 mw_p1_15 mw_6) rfl rfl rfl (by decide +kernel) ⟨Nat.le_of_ble_eq_true rfl, Nat.le_of_ble_eq_true rfl⟩) (kRecvX (q0 := 0) (ci := 5) hK hP hD hN hXS hS hA rfl rfl [0] rfl (by decide)) rfl rfl hl.1 rfl (lv_room (Nat.le_of_ble_eq_true rfl)) dX5_part_58 ⟨Nat.le_of_ble_eq_true rfl, Nat.le_of_ble_eq_true rfl⟩) hP hD hS hA [0] [1] rfl rfl (by decide) (by decide) ?_
          clear hP hD hS
          intro r_26 u_28 H locs w_27 hP hD hS
          replace hP : va_P D vwCl [(k0, .inl (cI, 50, .inl c0)), (k, .inr (5, [.ref k0, .int c1, .int c2, .int c3, .int c4, .int c5, .int c6, .int c7]))] H := hP
          replace hD : va_D A [(k0, .inl (cI, 50, .inl c0)), (k, .inr (5, [.ref k0, .int c1, .int c2, .int c3, .int c4, .int c5, .int c6, .int c7]))] := hD
          have lo_r_26 := k_lo r_26
          have hi_r_26 := k_hi r_26
          refine lv_istore_n (lv' := [(3, .int r_26), (2, .int r_1), (0, .ref k), (1, .int 4)]) hx hb dX5_part_61 rfl hl (by decide) rfl ?_
          clear hl
          intro ls hl
          refine lv_iload_n hx hb dX5_part_62 rfl (lv_at hl 0 rfl) ?_
          refine b_if_ge hx hb rfl (tgt := 71) dX5_part_63 (by decide) (fun c_29 => ?_) (fun c_29 => ?_)
          · refine lv_aload_n hx hb dX5_part_71 rfl (lv_at hl 2 rfl) ?_
            refine lv_dup hx hb dX5_part_72 rfl ?_
            refine va_get (D := D) (ci := 5) (v := .int c2) (C := RX5) (T := TX5) (N := 8) hx hb hT giX5 hown hK hP 1 rfl rfl 2 (by decide) (hT (Cond.fieldLink RX5 19 "DesertWire$Reader" "at" "I") mw_170) (fun _ h9 => h9) rfl dX5_part_73 ?_
            refine lv_iconst (v := 1) hx hb dX5_part_76 (by decide) ?_
            refine lv_iadd hx hb dX5_part_77 ?_
            refine lv_topi (fun v_30 ev_30 => ?_)
            have lo_v_30 := k_lo v_30
            have hi_v_30 := k_hi v_30
            refine va_put (D := D) (ci := 5) (v := .int v_30) (ty := .int) (C := RX5) (T := TX5) (N := 8) hx hb hT giX5 tyX5 tyX5_ok nmX5 hown hK hP hD hS 1 rfl rfl 2 (by decide) (hT (Cond.fieldLink RX5 19 "DesertWire$Reader" "at" "I") mw_170) (fun _ h9 => h9) rfl (by decide +kernel) rfl rfl (Nat.le_of_ble_eq_true rfl) dX5_part_78 ?_
            clear hP hD hS
            intro H locs hP hD hS
            replace hP : va_P D vwCl [(k0, .inl (cI, 50, .inl c0)), (k, .inr (5, [.ref k0, .int c1, .int v_30, .int c3, .int c4, .int c5, .int c6, .int c7]))] H := hP
            replace hD : va_D A [(k0, .inl (cI, 50, .inl c0)), (k, .inr (5, [.ref k0, .int c1, .int v_30, .int c3, .int c4, .int c5, .int c6, .int c7]))] := hD
            refine lv_iload_n hx hb dX5_part_81 rfl (lv_at hl 0 rfl) ?_
            refine b_if_ne hx hb rfl (tgt := 92) dX5_part_82 (by decide) (fun c_31 => ?_) (fun c_31 => ?_)
            · refine lv_iload_n hx hb dX5_part_92 rfl (lv_at hl 0 rfl) ?_
              refine lv_iconst (v := 1) hx hb dX5_part_93 (by decide) ?_
              refine b_icmp_ne hx hb rfl zl_1 (tgt := 104) dX5_part_94 (by decide) (fun c_32 => ?_) (fun c_32 => ?_)
              · refine lv_aload_n hx hb dX5_part_104 rfl (lv_at hl 2 rfl) ?_
                refine va_get (D := D) (ci := 5) (v := .int c7) (C := RX5) (T := TX5) (N := 8) hx hb hT giX5 hown hK hP 1 rfl rfl 7 (by decide) (hT (Cond.fieldLink RX5 35 "DesertWire$Reader" "third" "I") mw_175) (fun _ h9 => h9) rfl dX5_part_105 ?_
                exact hRet (v_30, c3) [1, 0] trivial hP hD (by decide) rfl hS rfl dX5_part_108
              · refine lv_aload_n hx hb dX5_part_97 rfl (lv_at hl 2 rfl) ?_
                refine va_get (D := D) (ci := 5) (v := .int c6) (C := RX5) (T := TX5) (N := 8) hx hb hT giX5 hown hK hP 1 rfl rfl 6 (by decide) (hT (Cond.fieldLink RX5 32 "DesertWire$Reader" "second" "I") mw_174) (fun _ h9 => h9) rfl dX5_part_98 ?_
                refine lv_goto (tgt := 108) hx hb dX5_part_101 (by decide) ?_
                exact hRet (v_30, c3) [1, 0] trivial hP hD (by decide) rfl hS rfl dX5_part_108
            · refine lv_aload_n hx hb dX5_part_85 rfl (lv_at hl 2 rfl) ?_
              refine va_get (D := D) (ci := 5) (v := .int c5) (C := RX5) (T := TX5) (N := 8) hx hb hT giX5 hown hK hP 1 rfl rfl 5 (by decide) (hT (Cond.fieldLink RX5 29 "DesertWire$Reader" "first" "I") mw_173) (fun _ h9 => h9) rfl dX5_part_86 ?_
              refine lv_goto (tgt := 108) hx hb dX5_part_89 (by decide) ?_
              exact hRet (v_30, c3) [1, 0] trivial hP hD (by decide) rfl hS rfl dX5_part_108
          · refine lv_aload_n hx hb dX5_part_66 rfl (lv_at hl 2 rfl) ?_
            refine kJi (wr := [(k0, .inl (cI, 50, .inl c0))]) (va_runV (As := []) (rest := []) ⟨hx, hb, hml, hown, hT⟩ (c_X5_failG l D cI aK aV k k0 H.size c1 c2 c3 c4 c5 c6 c7) (cwV 0 hT (gV_in mw_495 mw_492 mw_494 mw_p1_13 mw_6) rfl rfl rfl (by decide +kernel) ⟨Nat.le_of_ble_eq_true rfl, Nat.le_of_ble_eq_true rfl⟩) (kRecvX (q0 := 1) (ci := 5) hK hP hD hN hXS hS hA rfl rfl [1] rfl (by decide)) rfl rfl hl.1 rfl (lv_room (Nat.le_of_ble_eq_true rfl)) dX5_part_67 ⟨Nat.le_of_ble_eq_true rfl, Nat.le_of_ble_eq_true rfl⟩) hP hD hS hA [1] [0] rfl rfl (by decide) (by decide) ?_
            clear hP hD hS
            intro r_33 sc3_35 H locs w_34 hP hD hS
            replace hP : va_P D vwCl [(k0, .inl (cI, 50, .inl c0)), (k, .inr (5, [.ref k0, .int c1, .int c2, .int sc3_35, .int c4, .int c5, .int c6, .int c7]))] H := hP
            replace hD : va_D A [(k0, .inl (cI, 50, .inl c0)), (k, .inr (5, [.ref k0, .int c1, .int c2, .int sc3_35, .int c4, .int c5, .int c6, .int c7]))] := hD
            have lo_sc3_35 := k_lo sc3_35
            have hi_sc3_35 := k_hi sc3_35
            have lo_r_33 := k_lo r_33
            have hi_r_33 := k_hi r_33
            exact hRet (c2, sc3_35) [1, 0] trivial hP hD (by decide) rfl hS rfl dX5_part_70
        · refine lv_iload_n hx hb dX5_part_35 rfl (lv_at hl 2 rfl) ?_
          refine lv_iconst (v := 4) hx hb dX5_part_36 (by decide) ?_
          refine b_icmp_lt hx hb zl_4 zl_4 (tgt := 47) dX5_part_37 (by decide) (fun c_36 => by exfalso; omega) (fun c_36 => ?_)
          refine lv_aload_n hx hb dX5_part_40 rfl (lv_at hl 1 rfl) ?_
          refine kJi (wr := [(k0, .inl (cI, 50, .inl c0))]) (va_runV (As := []) (rest := []) ⟨hx, hb, hml, hown, hT⟩ (c_X5_failG l D cI aK aV k k0 H.size c1 c2 c3 c4 c5 c6 c7) (cwV 0 hT (gV_in mw_495 mw_492 mw_494 mw_p1_13 mw_6) rfl rfl rfl (by decide +kernel) ⟨Nat.le_of_ble_eq_true rfl, Nat.le_of_ble_eq_true rfl⟩) (kRecvX (q0 := 0) (ci := 5) hK hP hD hN hXS hS hA rfl rfl [0] rfl (by decide)) rfl rfl hl.1 rfl (lv_room (Nat.le_of_ble_eq_true rfl)) dX5_part_41 ⟨Nat.le_of_ble_eq_true rfl, Nat.le_of_ble_eq_true rfl⟩) hP hD hS hA [0] [1] rfl rfl (by decide) (by decide) ?_
          clear hP hD hS
          intro r_37 sc3_39 H locs w_38 hP hD hS
          replace hP : va_P D vwCl [(k0, .inl (cI, 50, .inl c0)), (k, .inr (5, [.ref k0, .int c1, .int c2, .int sc3_39, .int c4, .int c5, .int c6, .int c7]))] H := hP
          replace hD : va_D A [(k0, .inl (cI, 50, .inl c0)), (k, .inr (5, [.ref k0, .int c1, .int c2, .int sc3_39, .int c4, .int c5, .int c6, .int c7]))] := hD
          have lo_sc3_39 := k_lo sc3_39
          have hi_sc3_39 := k_hi sc3_39
          have lo_r_37 := k_lo r_37
          have hi_r_37 := k_hi r_37
          refine lv_goto (tgt := 55) hx hb dX5_part_44 (by decide) ?_
          exact hRet (c2, sc3_39) [1, 0] trivial hP hD (by decide) rfl hS rfl dX5_part_55
theorem dX5_product_0 : decode cX5_product 0 = .ok (.aload_n 0, 1) := by decide +kernel
theorem dX5_product_1 : decode cX5_product 1 = .ok (.iload_n 1, 1) := by decide +kernel
theorem dX5_product_2 : decode cX5_product 2 = .ok (.invokevirtual 62, 3) := by decide +kernel
theorem dX5_product_5 : decode cX5_product 5 = .ok (.istore_n 2, 1) := by decide +kernel
theorem dX5_product_6 : decode cX5_product 6 = .ok (.iconst 0, 1) := by decide +kernel
theorem dX5_product_7 : decode cX5_product 7 = .ok (.istore_n 3, 1) := by decide +kernel
theorem dX5_product_8 : decode cX5_product 8 = .ok (.iload_n 3, 1) := by decide +kernel
theorem dX5_product_9 : decode cX5_product 9 = .ok (.bipush 50, 2) := by decide +kernel
theorem dX5_product_11 : decode cX5_product 11 = .ok (.if_icmp .ge 78, 3) := by decide +kernel
theorem dX5_product_14 : decode cX5_product 14 = .ok (.aload_n 0, 1) := by decide +kernel
theorem dX5_product_15 : decode cX5_product 15 = .ok (.invokevirtual 45, 3) := by decide +kernel
theorem dX5_product_18 : decode cX5_product 18 = .ok (.bipush 42, 2) := by decide +kernel
theorem dX5_product_20 : decode cX5_product 20 = .ok (.if_icmp .eq 12, 3) := by decide +kernel
theorem dX5_product_23 : decode cX5_product 23 = .ok (.aload_n 0, 1) := by decide +kernel
theorem dX5_product_24 : decode cX5_product 24 = .ok (.invokevirtual 45, 3) := by decide +kernel
theorem dX5_product_27 : decode cX5_product 27 = .ok (.bipush 37, 2) := by decide +kernel
theorem dX5_product_29 : decode cX5_product 29 = .ok (.if_icmp .ne 60, 3) := by decide +kernel
theorem dX5_product_32 : decode cX5_product 32 = .ok (.aload_n 0, 1) := by decide +kernel
theorem dX5_product_33 : decode cX5_product 33 = .ok (.invokevirtual 45, 3) := by decide +kernel
theorem dX5_product_36 : decode cX5_product 36 = .ok (.istore 4, 2) := by decide +kernel
theorem dX5_product_38 : decode cX5_product 38 = .ok (.aload_n 0, 1) := by decide +kernel
theorem dX5_product_39 : decode cX5_product 39 = .ok (.dup, 1) := by decide +kernel
theorem dX5_product_40 : decode cX5_product 40 = .ok (.getfield 19, 3) := by decide +kernel
theorem dX5_product_43 : decode cX5_product 43 = .ok (.iconst 1, 1) := by decide +kernel
theorem dX5_product_44 : decode cX5_product 44 = .ok (.iadd, 1) := by decide +kernel
theorem dX5_product_45 : decode cX5_product 45 = .ok (.putfield 19, 3) := by decide +kernel
theorem dX5_product_48 : decode cX5_product 48 = .ok (.aload_n 0, 1) := by decide +kernel
theorem dX5_product_49 : decode cX5_product 49 = .ok (.iload_n 1, 1) := by decide +kernel
theorem dX5_product_50 : decode cX5_product 50 = .ok (.invokevirtual 62, 3) := by decide +kernel
theorem dX5_product_53 : decode cX5_product 53 = .ok (.istore 5, 2) := by decide +kernel
theorem dX5_product_55 : decode cX5_product 55 = .ok (.iload 4, 2) := by decide +kernel
theorem dX5_product_57 : decode cX5_product 57 = .ok (.bipush 42, 2) := by decide +kernel
theorem dX5_product_59 : decode cX5_product 59 = .ok (.if_icmp .ne 10, 3) := by decide +kernel
theorem dX5_product_62 : decode cX5_product 62 = .ok (.iload_n 2, 1) := by decide +kernel
theorem dX5_product_63 : decode cX5_product 63 = .ok (.iload 5, 2) := by decide +kernel
theorem dX5_product_65 : decode cX5_product 65 = .ok (.imul, 1) := by decide +kernel
theorem dX5_product_66 : decode cX5_product 66 = .ok (.goto 16, 3) := by decide +kernel
theorem dX5_product_69 : decode cX5_product 69 = .ok (.iload 5, 2) := by decide +kernel
theorem dX5_product_71 : decode cX5_product 71 = .ok (.ifCond .ne 7, 3) := by decide +kernel
theorem dX5_product_74 : decode cX5_product 74 = .ok (.iconst 0, 1) := by decide +kernel
theorem dX5_product_75 : decode cX5_product 75 = .ok (.goto 7, 3) := by decide +kernel
theorem dX5_product_78 : decode cX5_product 78 = .ok (.iload_n 2, 1) := by decide +kernel
theorem dX5_product_79 : decode cX5_product 79 = .ok (.iload 5, 2) := by decide +kernel
theorem dX5_product_81 : decode cX5_product 81 = .ok (.irem, 1) := by decide +kernel
theorem dX5_product_82 : decode cX5_product 82 = .ok (.istore_n 2, 1) := by decide +kernel
theorem dX5_product_83 : decode cX5_product 83 = .ok (.iinc 3 1, 3) := by decide +kernel
theorem dX5_product_86 : decode cX5_product 86 = .ok (.goto (-78), 3) := by decide +kernel
theorem dX5_product_89 : decode cX5_product 89 = .ok (.iload_n 2, 1) := by decide +kernel
theorem dX5_product_90 : decode cX5_product 90 = .ok (.ireturn, 1) := by decide +kernel
set_option maxHeartbeats 4000000 in
set_option maxRecDepth 100000 in
theorem c_X5_productG4 (l : Launch) (D : va_G) (cI : ClassId) (aK aV : Nat → Nat) (k k0 : Nat) (sz : Nat) (c1 : Int32) (c2 : Int32) (c3 : Int32) (c4 : Int32) (c5 : Int32) (c6 : Int32) (c7 : Int32) (c0 : Nat → Int32) (a0 : Int32) (pre0 : a0 = 4) : Met l yX5_product (gW yX5_product cX5_product 6 (some .int)) ({ frames := 6, cells := 0, slots := 0, locals := 150 } : Room) (kPreX D cI aK aV [.ref k, .int 4] [(k, .inr (5, [.ref k0, .int c1, .int c2, .int c3, .int c4, .int c5, .int c6, .int c7])), (k0, .inl (cI, 50, .inl c0))] sz) (va_Qi (fun (r : Int32) (u : Int32 × Int32) => True) (fun u t => kWd D cI (va_A [(k, .inr (5, [.ref k0, .int c1, .int c2, .int c3, .int c4, .int c5, .int c6, .int c7])), (k0, .inl (cI, 50, .inl c0))] sz) [(k, .inr (5, [.ref k0, .int c1, .int u.1, .int u.2, .int c4, .int c5, .int c6, .int c7])), (k0, .inl (cI, 50, .inl c0))] t) (va_A [(k, .inr (5, [.ref k0, .int c1, .int c2, .int c3, .int c4, .int c5, .int c6, .int c7])), (k0, .inl (cI, 50, .inl c0))] sz)) 0 0 (va_A [(k, .inr (5, [.ref k0, .int c1, .int c2, .int c3, .int c4, .int c5, .int c6, .int c7])), (k0, .inl (cI, 50, .inl c0))] sz) := by
  refine kMetIX (own := RX5) (by decide) rfl (Nat.le_of_ble_eq_true rfl) ?_
  intro p e s m args below meth c hx hb hT hown hname hml A Q hK hP hD hS hA hN hXS hRet ls hl
  subst pre0
  have hl : lv_has ls 6 [(0, .ref k), (1, .int 4)] := hl
  refine lv_aload_n hx hb dX5_product_0 rfl (lv_at hl 0 rfl) ?_
  refine lv_iload_n hx hb dX5_product_1 rfl (lv_at hl 1 rfl) ?_
  refine kJi (wr := []) (va_runV (As := [.int 4]) (rest := []) ⟨hx, hb, hml, hown, hT⟩ (c_X5_partG4 l D cI aK aV k k0 s.heap.size c1 c2 c3 c4 c5 c6 c7 c0 4 (by first | omega | (simp only [zl_4] <;> omega) | decide | assumption | rfl)) (cwV 1 hT (gV_in mw_480 mw_477 mw_479 mw_p1_10 mw_6) rfl rfl rfl (by decide +kernel) ⟨Nat.le_of_ble_eq_true rfl, Nat.le_of_ble_eq_true rfl⟩) (kRecvX (q0 := 0) (ci := 5) hK hP hD hN hXS hS hA rfl rfl [0, 1] rfl (by decide)) rfl rfl hl.1 rfl (lv_room (Nat.le_of_ble_eq_true rfl)) dX5_product_2 ⟨Nat.le_of_ble_eq_true rfl, Nat.le_of_ble_eq_true rfl⟩) hP hD hS hA [0, 1] [] rfl rfl (by decide) (by decide) ?_
  clear hP hD hS
  intro r_1 u_5 H locs w_2 hP hD hS
  obtain ⟨sc2_3, sc3_4⟩ := u_5
  replace hP : va_P D vwCl [(k, .inr (5, [.ref k0, .int c1, .int sc2_3, .int sc3_4, .int c4, .int c5, .int c6, .int c7])), (k0, .inl (cI, 50, .inl c0))] H := hP
  replace hD : va_D A [(k, .inr (5, [.ref k0, .int c1, .int sc2_3, .int sc3_4, .int c4, .int c5, .int c6, .int c7])), (k0, .inl (cI, 50, .inl c0))] := hD
  have lo_r_1 := k_lo r_1
  have hi_r_1 := k_hi r_1
  refine lv_istore_n (lv' := [(2, .int r_1), (0, .ref k), (1, .int 4)]) hx hb dX5_product_5 rfl hl (by decide) rfl ?_
  clear hl
  intro ls hl
  refine lv_iconst (v := 0) hx hb dX5_product_6 (by decide) ?_
  refine lv_istore_n (lv' := [(3, .int 0), (2, .int r_1), (0, .ref k), (1, .int 4)]) hx hb dX5_product_7 rfl hl (by decide) rfl ?_
  clear hl
  intro ls hl
  have hloop_8 : ∀ (fu_ : Nat) (l8_2 : Int32) (l8_3 : Int32) (f8_k2 : Int32) (f8_k3 : Int32), 0 ≤ l8_3.toInt → (50 - l8_3.toInt).toNat < fu_ → ∀ (ls : Array Slot) (H : Heap) (locs : List Loc), lv_has ls 6 [(3, .int l8_3), (2, .int l8_2), (0, .ref k), (1, .int 4)] → va_P D vwCl [(k, .inr (5, [.ref k0, .int c1, .int f8_k2, .int f8_k3, .int c4, .int c5, .int c6, .int c7])), (k0, .inl (cI, 50, .inl c0))] H → va_D A [(k, .inr (5, [.ref k0, .int c1, .int f8_k2, .int f8_k3, .int c4, .int c5, .int c6, .int c7])), (k0, .inl (cI, 50, .inl c0))] → va_S A s.heap H locs → W p l e ({ frames := 6, cells := 0, slots := 0, locals := 150 } : Room) s m args below meth c H locs 0 0 Q (F0 m 8 ls []) := by
    intro fu_; induction fu_ with
    | zero => intro l8_2 l8_3 f8_k2 f8_k3 i8_0 hm; exact absurd hm (by omega)
    | succ fu_ ih8 =>
        intro l8_2 l8_3 f8_k2 f8_k3 i8_0 hm ls H locs hl hP hD hS
        have lo_l8_2 := k_lo l8_2
        have hi_l8_2 := k_hi l8_2
        have lo_l8_3 := k_lo l8_3
        have hi_l8_3 := k_hi l8_3
        have lo_f8_k2 := k_lo f8_k2
        have hi_f8_k2 := k_hi f8_k2
        have lo_f8_k3 := k_lo f8_k3
        have hi_f8_k3 := k_hi f8_k3
        refine lv_iload_n hx hb dX5_product_8 rfl (lv_at hl 0 rfl) ?_
        refine lv_bipush (v := 50) hx hb dX5_product_9 (by decide) ?_
        refine b_icmp_ge hx hb rfl zl_50 (tgt := 89) dX5_product_11 (by decide) (fun c_6 => ?_) (fun c_6 => ?_)
        · refine lv_iload_n hx hb dX5_product_89 rfl (lv_at hl 1 rfl) ?_
          exact hRet (f8_k2, f8_k3) [0, 1] trivial hP hD (by decide) rfl hS rfl dX5_product_90
        · refine lv_aload_n hx hb dX5_product_14 rfl (lv_at hl 2 rfl) ?_
          refine kJi (wr := []) (va_runV (As := []) (rest := []) ⟨hx, hb, hml, hown, hT⟩ (c_X5_nextG l D cI aK aV k k0 H.size c1 f8_k2 f8_k3 c4 c5 c6 c7 c0) (cwV 0 hT (gV_in mw_484 mw_481 mw_483 mw_p1_11 mw_6) rfl rfl rfl (by decide +kernel) ⟨Nat.le_of_ble_eq_true rfl, Nat.le_of_ble_eq_true rfl⟩) (kRecvX (q0 := 0) (ci := 5) hK hP hD hN hXS hS hA rfl rfl [0, 1] rfl (by decide)) rfl rfl hl.1 rfl (lv_room (Nat.le_of_ble_eq_true rfl)) dX5_product_15 ⟨Nat.le_of_ble_eq_true rfl, Nat.le_of_ble_eq_true rfl⟩) hP hD hS hA [0, 1] [] rfl rfl (by decide) (by decide) ?_
          clear hP hD hS
          intro r_7 u_9 H locs w_8 hP hD hS
          replace hP : va_P D vwCl [(k, .inr (5, [.ref k0, .int c1, .int f8_k2, .int f8_k3, .int c4, .int c5, .int c6, .int c7])), (k0, .inl (cI, 50, .inl c0))] H := hP
          replace hD : va_D A [(k, .inr (5, [.ref k0, .int c1, .int f8_k2, .int f8_k3, .int c4, .int c5, .int c6, .int c7])), (k0, .inl (cI, 50, .inl c0))] := hD
          have lo_r_7 := k_lo r_7
          have hi_r_7 := k_hi r_7
          refine lv_bipush (v := 42) hx hb dX5_product_18 (by decide) ?_
          refine b_icmp_eq hx hb rfl zl_42 (tgt := 32) dX5_product_20 (by decide) (fun c_10 => ?_) (fun c_10 => ?_)
          · refine lv_aload_n hx hb dX5_product_32 rfl (lv_at hl 2 rfl) ?_
            refine kJi (wr := []) (va_runV (As := []) (rest := []) ⟨hx, hb, hml, hown, hT⟩ (c_X5_nextG l D cI aK aV k k0 H.size c1 f8_k2 f8_k3 c4 c5 c6 c7 c0) (cwV 0 hT (gV_in mw_484 mw_481 mw_483 mw_p1_11 mw_6) rfl rfl rfl (by decide +kernel) ⟨Nat.le_of_ble_eq_true rfl, Nat.le_of_ble_eq_true rfl⟩) (kRecvX (q0 := 0) (ci := 5) hK hP hD hN hXS hS hA rfl rfl [0, 1] rfl (by decide)) rfl rfl hl.1 rfl (lv_room (Nat.le_of_ble_eq_true rfl)) dX5_product_33 ⟨Nat.le_of_ble_eq_true rfl, Nat.le_of_ble_eq_true rfl⟩) hP hD hS hA [0, 1] [] rfl rfl (by decide) (by decide) ?_
            clear hP hD hS
            intro r_11 u_13 H locs w_12 hP hD hS
            replace hP : va_P D vwCl [(k, .inr (5, [.ref k0, .int c1, .int f8_k2, .int f8_k3, .int c4, .int c5, .int c6, .int c7])), (k0, .inl (cI, 50, .inl c0))] H := hP
            replace hD : va_D A [(k, .inr (5, [.ref k0, .int c1, .int f8_k2, .int f8_k3, .int c4, .int c5, .int c6, .int c7])), (k0, .inl (cI, 50, .inl c0))] := hD
            have lo_r_11 := k_lo r_11
            have hi_r_11 := k_hi r_11
            refine lv_istore (lv' := [(4, .int r_11), (3, .int l8_3), (2, .int l8_2), (0, .ref k), (1, .int 4)]) hx hb dX5_product_36 hl (by decide) rfl ?_
            clear hl
            intro ls hl
            refine lv_aload_n hx hb dX5_product_38 rfl (lv_at hl 3 rfl) ?_
            refine lv_dup hx hb dX5_product_39 rfl ?_
            refine va_get (D := D) (ci := 5) (v := .int f8_k2) (C := RX5) (T := TX5) (N := 8) hx hb hT giX5 hown hK hP 0 rfl rfl 2 (by decide) (hT (Cond.fieldLink RX5 19 "DesertWire$Reader" "at" "I") mw_170) (fun _ h9 => h9) rfl dX5_product_40 ?_
            refine lv_iconst (v := 1) hx hb dX5_product_43 (by decide) ?_
            refine lv_iadd hx hb dX5_product_44 ?_
            refine lv_topi (fun v_14 ev_14 => ?_)
            have lo_v_14 := k_lo v_14
            have hi_v_14 := k_hi v_14
            refine va_put (D := D) (ci := 5) (v := .int v_14) (ty := .int) (C := RX5) (T := TX5) (N := 8) hx hb hT giX5 tyX5 tyX5_ok nmX5 hown hK hP hD hS 0 rfl rfl 2 (by decide) (hT (Cond.fieldLink RX5 19 "DesertWire$Reader" "at" "I") mw_170) (fun _ h9 => h9) rfl (by decide +kernel) rfl rfl (Nat.le_of_ble_eq_true rfl) dX5_product_45 ?_
            clear hP hD hS
            intro H locs hP hD hS
            replace hP : va_P D vwCl [(k, .inr (5, [.ref k0, .int c1, .int v_14, .int f8_k3, .int c4, .int c5, .int c6, .int c7])), (k0, .inl (cI, 50, .inl c0))] H := hP
            replace hD : va_D A [(k, .inr (5, [.ref k0, .int c1, .int v_14, .int f8_k3, .int c4, .int c5, .int c6, .int c7])), (k0, .inl (cI, 50, .inl c0))] := hD
            refine lv_aload_n hx hb dX5_product_48 rfl (lv_at hl 3 rfl) ?_
            refine lv_iload_n hx hb dX5_product_49 rfl (lv_at hl 4 rfl) ?_
            refine kJi (wr := []) (va_runV (As := [.int 4]) (rest := []) ⟨hx, hb, hml, hown, hT⟩ (c_X5_partG4 l D cI aK aV k k0 H.size c1 v_14 f8_k3 c4 c5 c6 c7 c0 4 (by first | omega | (simp only [zl_4] <;> omega) | decide | assumption | rfl)) (cwV 1 hT (gV_in mw_480 mw_477 mw_479 mw_p1_10 mw_6) rfl rfl rfl (by decide +kernel) ⟨Nat.le_of_ble_eq_true rfl, Nat.le_of_ble_eq_true rfl⟩) (kRecvX (q0 := 0) (ci := 5) hK hP hD hN hXS hS hA rfl rfl [0, 1] rfl (by decide)) rfl rfl hl.1 rfl (lv_room (Nat.le_of_ble_eq_true rfl)) dX5_product_50 ⟨Nat.le_of_ble_eq_true rfl, Nat.le_of_ble_eq_true rfl⟩) hP hD hS hA [0, 1] [] rfl rfl (by decide) (by decide) ?_
            clear hP hD hS
            intro r_15 u_19 H locs w_16 hP hD hS
            obtain ⟨sc2_17, sc3_18⟩ := u_19
            replace hP : va_P D vwCl [(k, .inr (5, [.ref k0, .int c1, .int sc2_17, .int sc3_18, .int c4, .int c5, .int c6, .int c7])), (k0, .inl (cI, 50, .inl c0))] H := hP
            replace hD : va_D A [(k, .inr (5, [.ref k0, .int c1, .int sc2_17, .int sc3_18, .int c4, .int c5, .int c6, .int c7])), (k0, .inl (cI, 50, .inl c0))] := hD
            have lo_r_15 := k_lo r_15
            have hi_r_15 := k_hi r_15
            refine lv_istore (lv' := [(5, .int r_15), (4, .int r_11), (3, .int l8_3), (2, .int l8_2), (0, .ref k), (1, .int 4)]) hx hb dX5_product_53 hl (by decide) rfl ?_
            clear hl
            intro ls hl
            refine lv_iload hx hb dX5_product_55 (lv_at hl 1 rfl) ?_
            refine lv_bipush (v := 42) hx hb dX5_product_57 (by decide) ?_
            refine b_icmp_ne hx hb rfl zl_42 (tgt := 69) dX5_product_59 (by decide) (fun c_20 => ?_) (fun c_20 => ?_)
            · refine lv_iload hx hb dX5_product_69 (lv_at hl 0 rfl) ?_
              refine b_if_ne hx hb rfl (tgt := 78) dX5_product_71 (by decide) (fun c_21 => ?_) (fun c_21 => ?_)
              · refine lv_iload_n hx hb dX5_product_78 rfl (lv_at hl 3 rfl) ?_
                refine lv_iload hx hb dX5_product_79 (lv_at hl 0 rfl) ?_
                refine lv_irem hx hb dX5_product_81 (k_ne0 (by omega)) ?_
                refine lv_topi (fun v_22 ev_22 => ?_)
                have lo_v_22 := k_lo v_22
                have hi_v_22 := k_hi v_22
                refine lv_istore_n (lv' := [(2, .int v_22), (5, .int r_15), (4, .int r_11), (3, .int l8_3), (0, .ref k), (1, .int 4)]) hx hb dX5_product_82 rfl hl (by decide) rfl ?_
                clear hl
                intro ls hl
                obtain ⟨v_23, ev_23⟩ : ∃ y : Int32, y = l8_3 + 1 := ⟨_, rfl⟩
                have tv_23 : v_23.toInt = l8_3.toInt + 1 := by rw [ev_23]; exact k_addv rfl zl_1 (by omega) (by omega)
                refine lv_iinc (v := v_23) (lv' := [(3, .int v_23), (2, .int v_22), (5, .int r_15), (4, .int r_11), (0, .ref k), (1, .int 4)]) hx hb dX5_product_83 hl (k := 3) rfl (by rw [ev_23]; rfl) (by decide) rfl ?_
                clear hl
                intro ls hl
                refine lv_goto (tgt := 8) hx hb dX5_product_86 (by decide) ?_
                exact ih8 v_22 v_23 sc2_17 sc3_18 (by first | omega | decide | assumption | rfl) (by omega) ls _ _ (lv_sub hl [0, 1, 4, 5] rfl) (hP.sub [0, 1] rfl) (hD.sub [0, 1] (by decide) rfl) hS
              · refine lv_iconst (v := 0) hx hb dX5_product_74 (by decide) ?_
                refine lv_goto (tgt := 82) hx hb dX5_product_75 (by decide) ?_
                refine lv_istore_n (lv' := [(2, .int 0), (5, .int r_15), (4, .int r_11), (3, .int l8_3), (0, .ref k), (1, .int 4)]) hx hb dX5_product_82 rfl hl (by decide) rfl ?_
                clear hl
                intro ls hl
                obtain ⟨v_24, ev_24⟩ : ∃ y : Int32, y = l8_3 + 1 := ⟨_, rfl⟩
                have tv_24 : v_24.toInt = l8_3.toInt + 1 := by rw [ev_24]; exact k_addv rfl zl_1 (by omega) (by omega)
                refine lv_iinc (v := v_24) (lv' := [(3, .int v_24), (2, .int 0), (5, .int r_15), (4, .int r_11), (0, .ref k), (1, .int 4)]) hx hb dX5_product_83 hl (k := 3) rfl (by rw [ev_24]; rfl) (by decide) rfl ?_
                clear hl
                intro ls hl
                refine lv_goto (tgt := 8) hx hb dX5_product_86 (by decide) ?_
                exact ih8 0 v_24 sc2_17 sc3_18 (by first | omega | (simp only [zl_0] <;> omega) | decide | assumption | rfl) (by omega) ls _ _ (lv_sub hl [0, 1, 4, 5] rfl) (hP.sub [0, 1] rfl) (hD.sub [0, 1] (by decide) rfl) hS
            · refine lv_iload_n hx hb dX5_product_62 rfl (lv_at hl 3 rfl) ?_
              refine lv_iload hx hb dX5_product_63 (lv_at hl 0 rfl) ?_
              refine lv_imul hx hb dX5_product_65 ?_
              refine lv_topi (fun v_25 ev_25 => ?_)
              have lo_v_25 := k_lo v_25
              have hi_v_25 := k_hi v_25
              refine lv_goto (tgt := 82) hx hb dX5_product_66 (by decide) ?_
              refine lv_istore_n (lv' := [(2, .int v_25), (5, .int r_15), (4, .int r_11), (3, .int l8_3), (0, .ref k), (1, .int 4)]) hx hb dX5_product_82 rfl hl (by decide) rfl ?_
              clear hl
              intro ls hl
              obtain ⟨v_26, ev_26⟩ : ∃ y : Int32, y = l8_3 + 1 := ⟨_, rfl⟩
              have tv_26 : v_26.toInt = l8_3.toInt + 1 := by rw [ev_26]; exact k_addv rfl zl_1 (by omega) (by omega)
              refine lv_iinc (v := v_26) (lv' := [(3, .int v_26), (2, .int v_25), (5, .int r_15), (4, .int r_11), (0, .ref k), (1, .int 4)]) hx hb dX5_product_83 hl (k := 3) rfl (by rw [ev_26]; rfl) (by decide) rfl ?_
              clear hl
              intro ls hl
              refine lv_goto (tgt := 8) hx hb dX5_product_86 (by decide) ?_
              exact ih8 v_25 v_26 sc2_17 sc3_18 (by first | omega | decide | assumption | rfl) (by omega) ls _ _ (lv_sub hl [0, 1, 4, 5] rfl) (hP.sub [0, 1] rfl) (hD.sub [0, 1] (by decide) rfl) hS
          · refine lv_aload_n hx hb dX5_product_23 rfl (lv_at hl 2 rfl) ?_
            refine kJi (wr := []) (va_runV (As := []) (rest := []) ⟨hx, hb, hml, hown, hT⟩ (c_X5_nextG l D cI aK aV k k0 H.size c1 f8_k2 f8_k3 c4 c5 c6 c7 c0) (cwV 0 hT (gV_in mw_484 mw_481 mw_483 mw_p1_11 mw_6) rfl rfl rfl (by decide +kernel) ⟨Nat.le_of_ble_eq_true rfl, Nat.le_of_ble_eq_true rfl⟩) (kRecvX (q0 := 0) (ci := 5) hK hP hD hN hXS hS hA rfl rfl [0, 1] rfl (by decide)) rfl rfl hl.1 rfl (lv_room (Nat.le_of_ble_eq_true rfl)) dX5_product_24 ⟨Nat.le_of_ble_eq_true rfl, Nat.le_of_ble_eq_true rfl⟩) hP hD hS hA [0, 1] [] rfl rfl (by decide) (by decide) ?_
            clear hP hD hS
            intro r_27 u_29 H locs w_28 hP hD hS
            replace hP : va_P D vwCl [(k, .inr (5, [.ref k0, .int c1, .int f8_k2, .int f8_k3, .int c4, .int c5, .int c6, .int c7])), (k0, .inl (cI, 50, .inl c0))] H := hP
            replace hD : va_D A [(k, .inr (5, [.ref k0, .int c1, .int f8_k2, .int f8_k3, .int c4, .int c5, .int c6, .int c7])), (k0, .inl (cI, 50, .inl c0))] := hD
            have lo_r_27 := k_lo r_27
            have hi_r_27 := k_hi r_27
            refine lv_bipush (v := 37) hx hb dX5_product_27 (by decide) ?_
            refine b_icmp_ne hx hb rfl zl_37 (tgt := 89) dX5_product_29 (by decide) (fun c_30 => ?_) (fun c_30 => ?_)
            · refine lv_iload_n hx hb dX5_product_89 rfl (lv_at hl 1 rfl) ?_
              exact hRet (f8_k2, f8_k3) [0, 1] trivial hP hD (by decide) rfl hS rfl dX5_product_90
            · refine lv_aload_n hx hb dX5_product_32 rfl (lv_at hl 2 rfl) ?_
              refine kJi (wr := []) (va_runV (As := []) (rest := []) ⟨hx, hb, hml, hown, hT⟩ (c_X5_nextG l D cI aK aV k k0 H.size c1 f8_k2 f8_k3 c4 c5 c6 c7 c0) (cwV 0 hT (gV_in mw_484 mw_481 mw_483 mw_p1_11 mw_6) rfl rfl rfl (by decide +kernel) ⟨Nat.le_of_ble_eq_true rfl, Nat.le_of_ble_eq_true rfl⟩) (kRecvX (q0 := 0) (ci := 5) hK hP hD hN hXS hS hA rfl rfl [0, 1] rfl (by decide)) rfl rfl hl.1 rfl (lv_room (Nat.le_of_ble_eq_true rfl)) dX5_product_33 ⟨Nat.le_of_ble_eq_true rfl, Nat.le_of_ble_eq_true rfl⟩) hP hD hS hA [0, 1] [] rfl rfl (by decide) (by decide) ?_
              clear hP hD hS
              intro r_31 u_33 H locs w_32 hP hD hS
              replace hP : va_P D vwCl [(k, .inr (5, [.ref k0, .int c1, .int f8_k2, .int f8_k3, .int c4, .int c5, .int c6, .int c7])), (k0, .inl (cI, 50, .inl c0))] H := hP
              replace hD : va_D A [(k, .inr (5, [.ref k0, .int c1, .int f8_k2, .int f8_k3, .int c4, .int c5, .int c6, .int c7])), (k0, .inl (cI, 50, .inl c0))] := hD
              have lo_r_31 := k_lo r_31
              have hi_r_31 := k_hi r_31
              refine lv_istore (lv' := [(4, .int r_31), (3, .int l8_3), (2, .int l8_2), (0, .ref k), (1, .int 4)]) hx hb dX5_product_36 hl (by decide) rfl ?_
              clear hl
              intro ls hl
              refine lv_aload_n hx hb dX5_product_38 rfl (lv_at hl 3 rfl) ?_
              refine lv_dup hx hb dX5_product_39 rfl ?_
              refine va_get (D := D) (ci := 5) (v := .int f8_k2) (C := RX5) (T := TX5) (N := 8) hx hb hT giX5 hown hK hP 0 rfl rfl 2 (by decide) (hT (Cond.fieldLink RX5 19 "DesertWire$Reader" "at" "I") mw_170) (fun _ h9 => h9) rfl dX5_product_40 ?_
              refine lv_iconst (v := 1) hx hb dX5_product_43 (by decide) ?_
              refine lv_iadd hx hb dX5_product_44 ?_
              refine lv_topi (fun v_34 ev_34 => ?_)
              have lo_v_34 := k_lo v_34
              have hi_v_34 := k_hi v_34
              refine va_put (D := D) (ci := 5) (v := .int v_34) (ty := .int) (C := RX5) (T := TX5) (N := 8) hx hb hT giX5 tyX5 tyX5_ok nmX5 hown hK hP hD hS 0 rfl rfl 2 (by decide) (hT (Cond.fieldLink RX5 19 "DesertWire$Reader" "at" "I") mw_170) (fun _ h9 => h9) rfl (by decide +kernel) rfl rfl (Nat.le_of_ble_eq_true rfl) dX5_product_45 ?_
              clear hP hD hS
              intro H locs hP hD hS
              replace hP : va_P D vwCl [(k, .inr (5, [.ref k0, .int c1, .int v_34, .int f8_k3, .int c4, .int c5, .int c6, .int c7])), (k0, .inl (cI, 50, .inl c0))] H := hP
              replace hD : va_D A [(k, .inr (5, [.ref k0, .int c1, .int v_34, .int f8_k3, .int c4, .int c5, .int c6, .int c7])), (k0, .inl (cI, 50, .inl c0))] := hD
              refine lv_aload_n hx hb dX5_product_48 rfl (lv_at hl 3 rfl) ?_
              refine lv_iload_n hx hb dX5_product_49 rfl (lv_at hl 4 rfl) ?_
              refine kJi (wr := []) (va_runV (As := [.int 4]) (rest := []) ⟨hx, hb, hml, hown, hT⟩ (c_X5_partG4 l D cI aK aV k k0 H.size c1 v_34 f8_k3 c4 c5 c6 c7 c0 4 (by first | omega | (simp only [zl_4] <;> omega) | decide | assumption | rfl)) (cwV 1 hT (gV_in mw_480 mw_477 mw_479 mw_p1_10 mw_6) rfl rfl rfl (by decide +kernel) ⟨Nat.le_of_ble_eq_true rfl, Nat.le_of_ble_eq_true rfl⟩) (kRecvX (q0 := 0) (ci := 5) hK hP hD hN hXS hS hA rfl rfl [0, 1] rfl (by decide)) rfl rfl hl.1 rfl (lv_room (Nat.le_of_ble_eq_true rfl)) dX5_product_50 ⟨Nat.le_of_ble_eq_true rfl, Nat.le_of_ble_eq_true rfl⟩) hP hD hS hA [0, 1] [] rfl rfl (by decide) (by decide) ?_
              clear hP hD hS
              intro r_35 u_39 H locs w_36 hP hD hS
              obtain ⟨sc2_37, sc3_38⟩ := u_39
              replace hP : va_P D vwCl [(k, .inr (5, [.ref k0, .int c1, .int sc2_37, .int sc3_38, .int c4, .int c5, .int c6, .int c7])), (k0, .inl (cI, 50, .inl c0))] H := hP
              replace hD : va_D A [(k, .inr (5, [.ref k0, .int c1, .int sc2_37, .int sc3_38, .int c4, .int c5, .int c6, .int c7])), (k0, .inl (cI, 50, .inl c0))] := hD
              have lo_r_35 := k_lo r_35
              have hi_r_35 := k_hi r_35
              refine lv_istore (lv' := [(5, .int r_35), (4, .int r_31), (3, .int l8_3), (2, .int l8_2), (0, .ref k), (1, .int 4)]) hx hb dX5_product_53 hl (by decide) rfl ?_
              clear hl
              intro ls hl
              refine lv_iload hx hb dX5_product_55 (lv_at hl 1 rfl) ?_
              refine lv_bipush (v := 42) hx hb dX5_product_57 (by decide) ?_
              refine b_icmp_ne hx hb rfl zl_42 (tgt := 69) dX5_product_59 (by decide) (fun c_40 => ?_) (fun c_40 => ?_)
              · refine lv_iload hx hb dX5_product_69 (lv_at hl 0 rfl) ?_
                refine b_if_ne hx hb rfl (tgt := 78) dX5_product_71 (by decide) (fun c_41 => ?_) (fun c_41 => ?_)
                · refine lv_iload_n hx hb dX5_product_78 rfl (lv_at hl 3 rfl) ?_
                  refine lv_iload hx hb dX5_product_79 (lv_at hl 0 rfl) ?_
                  refine lv_irem hx hb dX5_product_81 (k_ne0 (by omega)) ?_
                  refine lv_topi (fun v_42 ev_42 => ?_)
                  have lo_v_42 := k_lo v_42
                  have hi_v_42 := k_hi v_42
                  refine lv_istore_n (lv' := [(2, .int v_42), (5, .int r_35), (4, .int r_31), (3, .int l8_3), (0, .ref k), (1, .int 4)]) hx hb dX5_product_82 rfl hl (by decide) rfl ?_
                  clear hl
                  intro ls hl
                  obtain ⟨v_43, ev_43⟩ : ∃ y : Int32, y = l8_3 + 1 := ⟨_, rfl⟩
                  have tv_43 : v_43.toInt = l8_3.toInt + 1 := by rw [ev_43]; exact k_addv rfl zl_1 (by omega) (by omega)
                  refine lv_iinc (v := v_43) (lv' := [(3, .int v_43), (2, .int v_42), (5, .int r_35), (4, .int r_31), (0, .ref k), (1, .int 4)]) hx hb dX5_product_83 hl (k := 3) rfl (by rw [ev_43]; rfl) (by decide) rfl ?_
                  clear hl
                  intro ls hl
                  refine lv_goto (tgt := 8) hx hb dX5_product_86 (by decide) ?_
                  exact ih8 v_42 v_43 sc2_37 sc3_38 (by first | omega | decide | assumption | rfl) (by omega) ls _ _ (lv_sub hl [0, 1, 4, 5] rfl) (hP.sub [0, 1] rfl) (hD.sub [0, 1] (by decide) rfl) hS
                · refine lv_iconst (v := 0) hx hb dX5_product_74 (by decide) ?_
                  refine lv_goto (tgt := 82) hx hb dX5_product_75 (by decide) ?_
                  refine lv_istore_n (lv' := [(2, .int 0), (5, .int r_35), (4, .int r_31), (3, .int l8_3), (0, .ref k), (1, .int 4)]) hx hb dX5_product_82 rfl hl (by decide) rfl ?_
                  clear hl
                  intro ls hl
                  obtain ⟨v_44, ev_44⟩ : ∃ y : Int32, y = l8_3 + 1 := ⟨_, rfl⟩
                  have tv_44 : v_44.toInt = l8_3.toInt + 1 := by rw [ev_44]; exact k_addv rfl zl_1 (by omega) (by omega)
                  refine lv_iinc (v := v_44) (lv' := [(3, .int v_44), (2, .int 0), (5, .int r_35), (4, .int r_31), (0, .ref k), (1, .int 4)]) hx hb dX5_product_83 hl (k := 3) rfl (by rw [ev_44]; rfl) (by decide) rfl ?_
                  clear hl
                  intro ls hl
                  refine lv_goto (tgt := 8) hx hb dX5_product_86 (by decide) ?_
                  exact ih8 0 v_44 sc2_37 sc3_38 (by first | omega | (simp only [zl_0] <;> omega) | decide | assumption | rfl) (by omega) ls _ _ (lv_sub hl [0, 1, 4, 5] rfl) (hP.sub [0, 1] rfl) (hD.sub [0, 1] (by decide) rfl) hS
              · refine lv_iload_n hx hb dX5_product_62 rfl (lv_at hl 3 rfl) ?_
                refine lv_iload hx hb dX5_product_63 (lv_at hl 0 rfl) ?_
                refine lv_imul hx hb dX5_product_65 ?_
                refine lv_topi (fun v_45 ev_45 => ?_)
                have lo_v_45 := k_lo v_45
                have hi_v_45 := k_hi v_45
                refine lv_goto (tgt := 82) hx hb dX5_product_66 (by decide) ?_
                refine lv_istore_n (lv' := [(2, .int v_45), (5, .int r_35), (4, .int r_31), (3, .int l8_3), (0, .ref k), (1, .int 4)]) hx hb dX5_product_82 rfl hl (by decide) rfl ?_
                clear hl
                intro ls hl
                obtain ⟨v_46, ev_46⟩ : ∃ y : Int32, y = l8_3 + 1 := ⟨_, rfl⟩
                have tv_46 : v_46.toInt = l8_3.toInt + 1 := by rw [ev_46]; exact k_addv rfl zl_1 (by omega) (by omega)
                refine lv_iinc (v := v_46) (lv' := [(3, .int v_46), (2, .int v_45), (5, .int r_35), (4, .int r_31), (0, .ref k), (1, .int 4)]) hx hb dX5_product_83 hl (k := 3) rfl (by rw [ev_46]; rfl) (by decide) rfl ?_
                clear hl
                intro ls hl
                refine lv_goto (tgt := 8) hx hb dX5_product_86 (by decide) ?_
                exact ih8 v_45 v_46 sc2_37 sc3_38 (by first | omega | decide | assumption | rfl) (by omega) ls _ _ (lv_sub hl [0, 1, 4, 5] rfl) (hP.sub [0, 1] rfl) (hD.sub [0, 1] (by decide) rfl) hS
  exact hloop_8 _ r_1 0 sc2_3 sc3_4 (by first | omega | (simp only [zl_0] <;> omega) | decide | assumption | rfl) (Nat.lt_succ_self _) ls _ _ (lv_sub hl [0, 1, 2, 3] rfl) hP hD hS
theorem dX5_sum_0 : decode cX5_sum 0 = .ok (.aload_n 0, 1) := by decide +kernel
theorem dX5_sum_1 : decode cX5_sum 1 = .ok (.iload_n 1, 1) := by decide +kernel
theorem dX5_sum_2 : decode cX5_sum 2 = .ok (.invokevirtual 59, 3) := by decide +kernel
theorem dX5_sum_5 : decode cX5_sum 5 = .ok (.istore_n 2, 1) := by decide +kernel
theorem dX5_sum_6 : decode cX5_sum 6 = .ok (.iconst 0, 1) := by decide +kernel
theorem dX5_sum_7 : decode cX5_sum 7 = .ok (.istore_n 3, 1) := by decide +kernel
theorem dX5_sum_8 : decode cX5_sum 8 = .ok (.iload_n 3, 1) := by decide +kernel
theorem dX5_sum_9 : decode cX5_sum 9 = .ok (.bipush 50, 2) := by decide +kernel
theorem dX5_sum_11 : decode cX5_sum 11 = .ok (.if_icmp .ge 69, 3) := by decide +kernel
theorem dX5_sum_14 : decode cX5_sum 14 = .ok (.aload_n 0, 1) := by decide +kernel
theorem dX5_sum_15 : decode cX5_sum 15 = .ok (.invokevirtual 45, 3) := by decide +kernel
theorem dX5_sum_18 : decode cX5_sum 18 = .ok (.bipush 43, 2) := by decide +kernel
theorem dX5_sum_20 : decode cX5_sum 20 = .ok (.if_icmp .eq 12, 3) := by decide +kernel
theorem dX5_sum_23 : decode cX5_sum 23 = .ok (.aload_n 0, 1) := by decide +kernel
theorem dX5_sum_24 : decode cX5_sum 24 = .ok (.invokevirtual 45, 3) := by decide +kernel
theorem dX5_sum_27 : decode cX5_sum 27 = .ok (.bipush 45, 2) := by decide +kernel
theorem dX5_sum_29 : decode cX5_sum 29 = .ok (.if_icmp .ne 51, 3) := by decide +kernel
theorem dX5_sum_32 : decode cX5_sum 32 = .ok (.aload_n 0, 1) := by decide +kernel
theorem dX5_sum_33 : decode cX5_sum 33 = .ok (.invokevirtual 45, 3) := by decide +kernel
theorem dX5_sum_36 : decode cX5_sum 36 = .ok (.istore 4, 2) := by decide +kernel
theorem dX5_sum_38 : decode cX5_sum 38 = .ok (.aload_n 0, 1) := by decide +kernel
theorem dX5_sum_39 : decode cX5_sum 39 = .ok (.dup, 1) := by decide +kernel
theorem dX5_sum_40 : decode cX5_sum 40 = .ok (.getfield 19, 3) := by decide +kernel
theorem dX5_sum_43 : decode cX5_sum 43 = .ok (.iconst 1, 1) := by decide +kernel
theorem dX5_sum_44 : decode cX5_sum 44 = .ok (.iadd, 1) := by decide +kernel
theorem dX5_sum_45 : decode cX5_sum 45 = .ok (.putfield 19, 3) := by decide +kernel
theorem dX5_sum_48 : decode cX5_sum 48 = .ok (.aload_n 0, 1) := by decide +kernel
theorem dX5_sum_49 : decode cX5_sum 49 = .ok (.iload_n 1, 1) := by decide +kernel
theorem dX5_sum_50 : decode cX5_sum 50 = .ok (.invokevirtual 59, 3) := by decide +kernel
theorem dX5_sum_53 : decode cX5_sum 53 = .ok (.istore 5, 2) := by decide +kernel
theorem dX5_sum_55 : decode cX5_sum 55 = .ok (.iload 4, 2) := by decide +kernel
theorem dX5_sum_57 : decode cX5_sum 57 = .ok (.bipush 43, 2) := by decide +kernel
theorem dX5_sum_59 : decode cX5_sum 59 = .ok (.if_icmp .ne 10, 3) := by decide +kernel
theorem dX5_sum_62 : decode cX5_sum 62 = .ok (.iload_n 2, 1) := by decide +kernel
theorem dX5_sum_63 : decode cX5_sum 63 = .ok (.iload 5, 2) := by decide +kernel
theorem dX5_sum_65 : decode cX5_sum 65 = .ok (.iadd, 1) := by decide +kernel
theorem dX5_sum_66 : decode cX5_sum 66 = .ok (.goto 7, 3) := by decide +kernel
theorem dX5_sum_69 : decode cX5_sum 69 = .ok (.iload_n 2, 1) := by decide +kernel
theorem dX5_sum_70 : decode cX5_sum 70 = .ok (.iload 5, 2) := by decide +kernel
theorem dX5_sum_72 : decode cX5_sum 72 = .ok (.isub, 1) := by decide +kernel
theorem dX5_sum_73 : decode cX5_sum 73 = .ok (.istore_n 2, 1) := by decide +kernel
theorem dX5_sum_74 : decode cX5_sum 74 = .ok (.iinc 3 1, 3) := by decide +kernel
theorem dX5_sum_77 : decode cX5_sum 77 = .ok (.goto (-69), 3) := by decide +kernel
theorem dX5_sum_80 : decode cX5_sum 80 = .ok (.iload_n 2, 1) := by decide +kernel
theorem dX5_sum_81 : decode cX5_sum 81 = .ok (.ireturn, 1) := by decide +kernel
set_option maxHeartbeats 4000000 in
set_option maxRecDepth 100000 in
theorem c_X5_sumG4 (l : Launch) (D : va_G) (cI : ClassId) (aK aV : Nat → Nat) (k k0 : Nat) (sz : Nat) (c1 : Int32) (c2 : Int32) (c3 : Int32) (c4 : Int32) (c5 : Int32) (c6 : Int32) (c7 : Int32) (c0 : Nat → Int32) (a0 : Int32) (pre0 : a0 = 4) : Met l yX5_sum (gW yX5_sum cX5_sum 6 (some .int)) ({ frames := 7, cells := 0, slots := 0, locals := 175 } : Room) (kPreX D cI aK aV [.ref k, .int 4] [(k, .inr (5, [.ref k0, .int c1, .int c2, .int c3, .int c4, .int c5, .int c6, .int c7])), (k0, .inl (cI, 50, .inl c0))] sz) (va_Qi (fun (r : Int32) (u : Int32 × Int32) => True) (fun u t => kWd D cI (va_A [(k, .inr (5, [.ref k0, .int c1, .int c2, .int c3, .int c4, .int c5, .int c6, .int c7])), (k0, .inl (cI, 50, .inl c0))] sz) [(k, .inr (5, [.ref k0, .int c1, .int u.1, .int u.2, .int c4, .int c5, .int c6, .int c7])), (k0, .inl (cI, 50, .inl c0))] t) (va_A [(k, .inr (5, [.ref k0, .int c1, .int c2, .int c3, .int c4, .int c5, .int c6, .int c7])), (k0, .inl (cI, 50, .inl c0))] sz)) 0 0 (va_A [(k, .inr (5, [.ref k0, .int c1, .int c2, .int c3, .int c4, .int c5, .int c6, .int c7])), (k0, .inl (cI, 50, .inl c0))] sz) := by
  refine kMetIX (own := RX5) (by decide) rfl (Nat.le_of_ble_eq_true rfl) ?_
  intro p e s m args below meth c hx hb hT hown hname hml A Q hK hP hD hS hA hN hXS hRet ls hl
  subst pre0
  have hl : lv_has ls 6 [(0, .ref k), (1, .int 4)] := hl
  refine lv_aload_n hx hb dX5_sum_0 rfl (lv_at hl 0 rfl) ?_
  refine lv_iload_n hx hb dX5_sum_1 rfl (lv_at hl 1 rfl) ?_
  refine kJi (wr := []) (va_runV (As := [.int 4]) (rest := []) ⟨hx, hb, hml, hown, hT⟩ (c_X5_productG4 l D cI aK aV k k0 s.heap.size c1 c2 c3 c4 c5 c6 c7 c0 4 (by first | omega | (simp only [zl_4] <;> omega) | decide | assumption | rfl)) (cwV 1 hT (gV_in mw_476 mw_473 mw_475 mw_p1_9 mw_6) rfl rfl rfl (by decide +kernel) ⟨Nat.le_of_ble_eq_true rfl, Nat.le_of_ble_eq_true rfl⟩) (kRecvX (q0 := 0) (ci := 5) hK hP hD hN hXS hS hA rfl rfl [0, 1] rfl (by decide)) rfl rfl hl.1 rfl (lv_room (Nat.le_of_ble_eq_true rfl)) dX5_sum_2 ⟨Nat.le_of_ble_eq_true rfl, Nat.le_of_ble_eq_true rfl⟩) hP hD hS hA [0, 1] [] rfl rfl (by decide) (by decide) ?_
  clear hP hD hS
  intro r_1 u_5 H locs w_2 hP hD hS
  obtain ⟨sc2_3, sc3_4⟩ := u_5
  replace hP : va_P D vwCl [(k, .inr (5, [.ref k0, .int c1, .int sc2_3, .int sc3_4, .int c4, .int c5, .int c6, .int c7])), (k0, .inl (cI, 50, .inl c0))] H := hP
  replace hD : va_D A [(k, .inr (5, [.ref k0, .int c1, .int sc2_3, .int sc3_4, .int c4, .int c5, .int c6, .int c7])), (k0, .inl (cI, 50, .inl c0))] := hD
  have lo_r_1 := k_lo r_1
  have hi_r_1 := k_hi r_1
  refine lv_istore_n (lv' := [(2, .int r_1), (0, .ref k), (1, .int 4)]) hx hb dX5_sum_5 rfl hl (by decide) rfl ?_
  clear hl
  intro ls hl
  refine lv_iconst (v := 0) hx hb dX5_sum_6 (by decide) ?_
  refine lv_istore_n (lv' := [(3, .int 0), (2, .int r_1), (0, .ref k), (1, .int 4)]) hx hb dX5_sum_7 rfl hl (by decide) rfl ?_
  clear hl
  intro ls hl
  have hloop_8 : ∀ (fu_ : Nat) (l8_2 : Int32) (l8_3 : Int32) (f8_k2 : Int32) (f8_k3 : Int32), 0 ≤ l8_3.toInt → (50 - l8_3.toInt).toNat < fu_ → ∀ (ls : Array Slot) (H : Heap) (locs : List Loc), lv_has ls 6 [(3, .int l8_3), (2, .int l8_2), (0, .ref k), (1, .int 4)] → va_P D vwCl [(k, .inr (5, [.ref k0, .int c1, .int f8_k2, .int f8_k3, .int c4, .int c5, .int c6, .int c7])), (k0, .inl (cI, 50, .inl c0))] H → va_D A [(k, .inr (5, [.ref k0, .int c1, .int f8_k2, .int f8_k3, .int c4, .int c5, .int c6, .int c7])), (k0, .inl (cI, 50, .inl c0))] → va_S A s.heap H locs → W p l e ({ frames := 7, cells := 0, slots := 0, locals := 175 } : Room) s m args below meth c H locs 0 0 Q (F0 m 8 ls []) := by
    intro fu_; induction fu_ with
    | zero => intro l8_2 l8_3 f8_k2 f8_k3 i8_0 hm; exact absurd hm (by omega)
    | succ fu_ ih8 =>
        intro l8_2 l8_3 f8_k2 f8_k3 i8_0 hm ls H locs hl hP hD hS
        have lo_l8_2 := k_lo l8_2
        have hi_l8_2 := k_hi l8_2
        have lo_l8_3 := k_lo l8_3
        have hi_l8_3 := k_hi l8_3
        have lo_f8_k2 := k_lo f8_k2
        have hi_f8_k2 := k_hi f8_k2
        have lo_f8_k3 := k_lo f8_k3
        have hi_f8_k3 := k_hi f8_k3
        refine lv_iload_n hx hb dX5_sum_8 rfl (lv_at hl 0 rfl) ?_
        refine lv_bipush (v := 50) hx hb dX5_sum_9 (by decide) ?_
        refine b_icmp_ge hx hb rfl zl_50 (tgt := 80) dX5_sum_11 (by decide) (fun c_6 => ?_) (fun c_6 => ?_)
        · refine lv_iload_n hx hb dX5_sum_80 rfl (lv_at hl 1 rfl) ?_
          exact hRet (f8_k2, f8_k3) [0, 1] trivial hP hD (by decide) rfl hS rfl dX5_sum_81
        · refine lv_aload_n hx hb dX5_sum_14 rfl (lv_at hl 2 rfl) ?_
          refine kJi (wr := []) (va_runV (As := []) (rest := []) ⟨hx, hb, hml, hown, hT⟩ (c_X5_nextG l D cI aK aV k k0 H.size c1 f8_k2 f8_k3 c4 c5 c6 c7 c0) (cwV 0 hT (gV_in mw_484 mw_481 mw_483 mw_p1_11 mw_6) rfl rfl rfl (by decide +kernel) ⟨Nat.le_of_ble_eq_true rfl, Nat.le_of_ble_eq_true rfl⟩) (kRecvX (q0 := 0) (ci := 5) hK hP hD hN hXS hS hA rfl rfl [0, 1] rfl (by decide)) rfl rfl hl.1 rfl (lv_room (Nat.le_of_ble_eq_true rfl)) dX5_sum_15 ⟨Nat.le_of_ble_eq_true rfl, Nat.le_of_ble_eq_true rfl⟩) hP hD hS hA [0, 1] [] rfl rfl (by decide) (by decide) ?_
          clear hP hD hS
          intro r_7 u_9 H locs w_8 hP hD hS
          replace hP : va_P D vwCl [(k, .inr (5, [.ref k0, .int c1, .int f8_k2, .int f8_k3, .int c4, .int c5, .int c6, .int c7])), (k0, .inl (cI, 50, .inl c0))] H := hP
          replace hD : va_D A [(k, .inr (5, [.ref k0, .int c1, .int f8_k2, .int f8_k3, .int c4, .int c5, .int c6, .int c7])), (k0, .inl (cI, 50, .inl c0))] := hD
          have lo_r_7 := k_lo r_7
          have hi_r_7 := k_hi r_7
          refine lv_bipush (v := 43) hx hb dX5_sum_18 (by decide) ?_
          refine b_icmp_eq hx hb rfl zl_43 (tgt := 32) dX5_sum_20 (by decide) (fun c_10 => ?_) (fun c_10 => ?_)
          · refine lv_aload_n hx hb dX5_sum_32 rfl (lv_at hl 2 rfl) ?_
            refine kJi (wr := []) (va_runV (As := []) (rest := []) ⟨hx, hb, hml, hown, hT⟩ (c_X5_nextG l D cI aK aV k k0 H.size c1 f8_k2 f8_k3 c4 c5 c6 c7 c0) (cwV 0 hT (gV_in mw_484 mw_481 mw_483 mw_p1_11 mw_6) rfl rfl rfl (by decide +kernel) ⟨Nat.le_of_ble_eq_true rfl, Nat.le_of_ble_eq_true rfl⟩) (kRecvX (q0 := 0) (ci := 5) hK hP hD hN hXS hS hA rfl rfl [0, 1] rfl (by decide)) rfl rfl hl.1 rfl (lv_room (Nat.le_of_ble_eq_true rfl)) dX5_sum_33 ⟨Nat.le_of_ble_eq_true rfl, Nat.le_of_ble_eq_true rfl⟩) hP hD hS hA [0, 1] [] rfl rfl (by decide) (by decide) ?_
            clear hP hD hS
            intro r_11 u_13 H locs w_12 hP hD hS
            replace hP : va_P D vwCl [(k, .inr (5, [.ref k0, .int c1, .int f8_k2, .int f8_k3, .int c4, .int c5, .int c6, .int c7])), (k0, .inl (cI, 50, .inl c0))] H := hP
            replace hD : va_D A [(k, .inr (5, [.ref k0, .int c1, .int f8_k2, .int f8_k3, .int c4, .int c5, .int c6, .int c7])), (k0, .inl (cI, 50, .inl c0))] := hD
            have lo_r_11 := k_lo r_11
            have hi_r_11 := k_hi r_11
            refine lv_istore (lv' := [(4, .int r_11), (3, .int l8_3), (2, .int l8_2), (0, .ref k), (1, .int 4)]) hx hb dX5_sum_36 hl (by decide) rfl ?_
            clear hl
            intro ls hl
            refine lv_aload_n hx hb dX5_sum_38 rfl (lv_at hl 3 rfl) ?_
            refine lv_dup hx hb dX5_sum_39 rfl ?_
            refine va_get (D := D) (ci := 5) (v := .int f8_k2) (C := RX5) (T := TX5) (N := 8) hx hb hT giX5 hown hK hP 0 rfl rfl 2 (by decide) (hT (Cond.fieldLink RX5 19 "DesertWire$Reader" "at" "I") mw_170) (fun _ h9 => h9) rfl dX5_sum_40 ?_
            refine lv_iconst (v := 1) hx hb dX5_sum_43 (by decide) ?_
            refine lv_iadd hx hb dX5_sum_44 ?_
            refine lv_topi (fun v_14 ev_14 => ?_)
            have lo_v_14 := k_lo v_14
            have hi_v_14 := k_hi v_14
            refine va_put (D := D) (ci := 5) (v := .int v_14) (ty := .int) (C := RX5) (T := TX5) (N := 8) hx hb hT giX5 tyX5 tyX5_ok nmX5 hown hK hP hD hS 0 rfl rfl 2 (by decide) (hT (Cond.fieldLink RX5 19 "DesertWire$Reader" "at" "I") mw_170) (fun _ h9 => h9) rfl (by decide +kernel) rfl rfl (Nat.le_of_ble_eq_true rfl) dX5_sum_45 ?_
            clear hP hD hS
            intro H locs hP hD hS
            replace hP : va_P D vwCl [(k, .inr (5, [.ref k0, .int c1, .int v_14, .int f8_k3, .int c4, .int c5, .int c6, .int c7])), (k0, .inl (cI, 50, .inl c0))] H := hP
            replace hD : va_D A [(k, .inr (5, [.ref k0, .int c1, .int v_14, .int f8_k3, .int c4, .int c5, .int c6, .int c7])), (k0, .inl (cI, 50, .inl c0))] := hD
            refine lv_aload_n hx hb dX5_sum_48 rfl (lv_at hl 3 rfl) ?_
            refine lv_iload_n hx hb dX5_sum_49 rfl (lv_at hl 4 rfl) ?_
            refine kJi (wr := []) (va_runV (As := [.int 4]) (rest := []) ⟨hx, hb, hml, hown, hT⟩ (c_X5_productG4 l D cI aK aV k k0 H.size c1 v_14 f8_k3 c4 c5 c6 c7 c0 4 (by first | omega | (simp only [zl_4] <;> omega) | decide | assumption | rfl)) (cwV 1 hT (gV_in mw_476 mw_473 mw_475 mw_p1_9 mw_6) rfl rfl rfl (by decide +kernel) ⟨Nat.le_of_ble_eq_true rfl, Nat.le_of_ble_eq_true rfl⟩) (kRecvX (q0 := 0) (ci := 5) hK hP hD hN hXS hS hA rfl rfl [0, 1] rfl (by decide)) rfl rfl hl.1 rfl (lv_room (Nat.le_of_ble_eq_true rfl)) dX5_sum_50 ⟨Nat.le_of_ble_eq_true rfl, Nat.le_of_ble_eq_true rfl⟩) hP hD hS hA [0, 1] [] rfl rfl (by decide) (by decide) ?_
            clear hP hD hS
            intro r_15 u_19 H locs w_16 hP hD hS
            obtain ⟨sc2_17, sc3_18⟩ := u_19
            replace hP : va_P D vwCl [(k, .inr (5, [.ref k0, .int c1, .int sc2_17, .int sc3_18, .int c4, .int c5, .int c6, .int c7])), (k0, .inl (cI, 50, .inl c0))] H := hP
            replace hD : va_D A [(k, .inr (5, [.ref k0, .int c1, .int sc2_17, .int sc3_18, .int c4, .int c5, .int c6, .int c7])), (k0, .inl (cI, 50, .inl c0))] := hD
            have lo_r_15 := k_lo r_15
            have hi_r_15 := k_hi r_15
            refine lv_istore (lv' := [(5, .int r_15), (4, .int r_11), (3, .int l8_3), (2, .int l8_2), (0, .ref k), (1, .int 4)]) hx hb dX5_sum_53 hl (by decide) rfl ?_
            clear hl
            intro ls hl
            refine lv_iload hx hb dX5_sum_55 (lv_at hl 1 rfl) ?_
            refine lv_bipush (v := 43) hx hb dX5_sum_57 (by decide) ?_
            refine b_icmp_ne hx hb rfl zl_43 (tgt := 69) dX5_sum_59 (by decide) (fun c_20 => ?_) (fun c_20 => ?_)
            · refine lv_iload_n hx hb dX5_sum_69 rfl (lv_at hl 3 rfl) ?_
              refine lv_iload hx hb dX5_sum_70 (lv_at hl 0 rfl) ?_
              refine lv_isub hx hb dX5_sum_72 ?_
              refine lv_topi (fun v_21 ev_21 => ?_)
              have lo_v_21 := k_lo v_21
              have hi_v_21 := k_hi v_21
              refine lv_istore_n (lv' := [(2, .int v_21), (5, .int r_15), (4, .int r_11), (3, .int l8_3), (0, .ref k), (1, .int 4)]) hx hb dX5_sum_73 rfl hl (by decide) rfl ?_
              clear hl
              intro ls hl
              obtain ⟨v_22, ev_22⟩ : ∃ y : Int32, y = l8_3 + 1 := ⟨_, rfl⟩
              have tv_22 : v_22.toInt = l8_3.toInt + 1 := by rw [ev_22]; exact k_addv rfl zl_1 (by omega) (by omega)
              refine lv_iinc (v := v_22) (lv' := [(3, .int v_22), (2, .int v_21), (5, .int r_15), (4, .int r_11), (0, .ref k), (1, .int 4)]) hx hb dX5_sum_74 hl (k := 3) rfl (by rw [ev_22]; rfl) (by decide) rfl ?_
              clear hl
              intro ls hl
              refine lv_goto (tgt := 8) hx hb dX5_sum_77 (by decide) ?_
              exact ih8 v_21 v_22 sc2_17 sc3_18 (by first | omega | decide | assumption | rfl) (by omega) ls _ _ (lv_sub hl [0, 1, 4, 5] rfl) (hP.sub [0, 1] rfl) (hD.sub [0, 1] (by decide) rfl) hS
            · refine lv_iload_n hx hb dX5_sum_62 rfl (lv_at hl 3 rfl) ?_
              refine lv_iload hx hb dX5_sum_63 (lv_at hl 0 rfl) ?_
              refine lv_iadd hx hb dX5_sum_65 ?_
              refine lv_topi (fun v_23 ev_23 => ?_)
              have lo_v_23 := k_lo v_23
              have hi_v_23 := k_hi v_23
              refine lv_goto (tgt := 73) hx hb dX5_sum_66 (by decide) ?_
              refine lv_istore_n (lv' := [(2, .int v_23), (5, .int r_15), (4, .int r_11), (3, .int l8_3), (0, .ref k), (1, .int 4)]) hx hb dX5_sum_73 rfl hl (by decide) rfl ?_
              clear hl
              intro ls hl
              obtain ⟨v_24, ev_24⟩ : ∃ y : Int32, y = l8_3 + 1 := ⟨_, rfl⟩
              have tv_24 : v_24.toInt = l8_3.toInt + 1 := by rw [ev_24]; exact k_addv rfl zl_1 (by omega) (by omega)
              refine lv_iinc (v := v_24) (lv' := [(3, .int v_24), (2, .int v_23), (5, .int r_15), (4, .int r_11), (0, .ref k), (1, .int 4)]) hx hb dX5_sum_74 hl (k := 3) rfl (by rw [ev_24]; rfl) (by decide) rfl ?_
              clear hl
              intro ls hl
              refine lv_goto (tgt := 8) hx hb dX5_sum_77 (by decide) ?_
              exact ih8 v_23 v_24 sc2_17 sc3_18 (by first | omega | decide | assumption | rfl) (by omega) ls _ _ (lv_sub hl [0, 1, 4, 5] rfl) (hP.sub [0, 1] rfl) (hD.sub [0, 1] (by decide) rfl) hS
          · refine lv_aload_n hx hb dX5_sum_23 rfl (lv_at hl 2 rfl) ?_
            refine kJi (wr := []) (va_runV (As := []) (rest := []) ⟨hx, hb, hml, hown, hT⟩ (c_X5_nextG l D cI aK aV k k0 H.size c1 f8_k2 f8_k3 c4 c5 c6 c7 c0) (cwV 0 hT (gV_in mw_484 mw_481 mw_483 mw_p1_11 mw_6) rfl rfl rfl (by decide +kernel) ⟨Nat.le_of_ble_eq_true rfl, Nat.le_of_ble_eq_true rfl⟩) (kRecvX (q0 := 0) (ci := 5) hK hP hD hN hXS hS hA rfl rfl [0, 1] rfl (by decide)) rfl rfl hl.1 rfl (lv_room (Nat.le_of_ble_eq_true rfl)) dX5_sum_24 ⟨Nat.le_of_ble_eq_true rfl, Nat.le_of_ble_eq_true rfl⟩) hP hD hS hA [0, 1] [] rfl rfl (by decide) (by decide) ?_
            clear hP hD hS
            intro r_25 u_27 H locs w_26 hP hD hS
            replace hP : va_P D vwCl [(k, .inr (5, [.ref k0, .int c1, .int f8_k2, .int f8_k3, .int c4, .int c5, .int c6, .int c7])), (k0, .inl (cI, 50, .inl c0))] H := hP
            replace hD : va_D A [(k, .inr (5, [.ref k0, .int c1, .int f8_k2, .int f8_k3, .int c4, .int c5, .int c6, .int c7])), (k0, .inl (cI, 50, .inl c0))] := hD
            have lo_r_25 := k_lo r_25
            have hi_r_25 := k_hi r_25
            refine lv_bipush (v := 45) hx hb dX5_sum_27 (by decide) ?_
            refine b_icmp_ne hx hb rfl zl_45 (tgt := 80) dX5_sum_29 (by decide) (fun c_28 => ?_) (fun c_28 => ?_)
            · refine lv_iload_n hx hb dX5_sum_80 rfl (lv_at hl 1 rfl) ?_
              exact hRet (f8_k2, f8_k3) [0, 1] trivial hP hD (by decide) rfl hS rfl dX5_sum_81
            · refine lv_aload_n hx hb dX5_sum_32 rfl (lv_at hl 2 rfl) ?_
              refine kJi (wr := []) (va_runV (As := []) (rest := []) ⟨hx, hb, hml, hown, hT⟩ (c_X5_nextG l D cI aK aV k k0 H.size c1 f8_k2 f8_k3 c4 c5 c6 c7 c0) (cwV 0 hT (gV_in mw_484 mw_481 mw_483 mw_p1_11 mw_6) rfl rfl rfl (by decide +kernel) ⟨Nat.le_of_ble_eq_true rfl, Nat.le_of_ble_eq_true rfl⟩) (kRecvX (q0 := 0) (ci := 5) hK hP hD hN hXS hS hA rfl rfl [0, 1] rfl (by decide)) rfl rfl hl.1 rfl (lv_room (Nat.le_of_ble_eq_true rfl)) dX5_sum_33 ⟨Nat.le_of_ble_eq_true rfl, Nat.le_of_ble_eq_true rfl⟩) hP hD hS hA [0, 1] [] rfl rfl (by decide) (by decide) ?_
              clear hP hD hS
              intro r_29 u_31 H locs w_30 hP hD hS
              replace hP : va_P D vwCl [(k, .inr (5, [.ref k0, .int c1, .int f8_k2, .int f8_k3, .int c4, .int c5, .int c6, .int c7])), (k0, .inl (cI, 50, .inl c0))] H := hP
              replace hD : va_D A [(k, .inr (5, [.ref k0, .int c1, .int f8_k2, .int f8_k3, .int c4, .int c5, .int c6, .int c7])), (k0, .inl (cI, 50, .inl c0))] := hD
              have lo_r_29 := k_lo r_29
              have hi_r_29 := k_hi r_29
              refine lv_istore (lv' := [(4, .int r_29), (3, .int l8_3), (2, .int l8_2), (0, .ref k), (1, .int 4)]) hx hb dX5_sum_36 hl (by decide) rfl ?_
              clear hl
              intro ls hl
              refine lv_aload_n hx hb dX5_sum_38 rfl (lv_at hl 3 rfl) ?_
              refine lv_dup hx hb dX5_sum_39 rfl ?_
              refine va_get (D := D) (ci := 5) (v := .int f8_k2) (C := RX5) (T := TX5) (N := 8) hx hb hT giX5 hown hK hP 0 rfl rfl 2 (by decide) (hT (Cond.fieldLink RX5 19 "DesertWire$Reader" "at" "I") mw_170) (fun _ h9 => h9) rfl dX5_sum_40 ?_
              refine lv_iconst (v := 1) hx hb dX5_sum_43 (by decide) ?_
              refine lv_iadd hx hb dX5_sum_44 ?_
              refine lv_topi (fun v_32 ev_32 => ?_)
              have lo_v_32 := k_lo v_32
              have hi_v_32 := k_hi v_32
              refine va_put (D := D) (ci := 5) (v := .int v_32) (ty := .int) (C := RX5) (T := TX5) (N := 8) hx hb hT giX5 tyX5 tyX5_ok nmX5 hown hK hP hD hS 0 rfl rfl 2 (by decide) (hT (Cond.fieldLink RX5 19 "DesertWire$Reader" "at" "I") mw_170) (fun _ h9 => h9) rfl (by decide +kernel) rfl rfl (Nat.le_of_ble_eq_true rfl) dX5_sum_45 ?_
              clear hP hD hS
              intro H locs hP hD hS
              replace hP : va_P D vwCl [(k, .inr (5, [.ref k0, .int c1, .int v_32, .int f8_k3, .int c4, .int c5, .int c6, .int c7])), (k0, .inl (cI, 50, .inl c0))] H := hP
              replace hD : va_D A [(k, .inr (5, [.ref k0, .int c1, .int v_32, .int f8_k3, .int c4, .int c5, .int c6, .int c7])), (k0, .inl (cI, 50, .inl c0))] := hD
              refine lv_aload_n hx hb dX5_sum_48 rfl (lv_at hl 3 rfl) ?_
              refine lv_iload_n hx hb dX5_sum_49 rfl (lv_at hl 4 rfl) ?_
              refine kJi (wr := []) (va_runV (As := [.int 4]) (rest := []) ⟨hx, hb, hml, hown, hT⟩ (c_X5_productG4 l D cI aK aV k k0 H.size c1 v_32 f8_k3 c4 c5 c6 c7 c0 4 (by first | omega | (simp only [zl_4] <;> omega) | decide | assumption | rfl)) (cwV 1 hT (gV_in mw_476 mw_473 mw_475 mw_p1_9 mw_6) rfl rfl rfl (by decide +kernel) ⟨Nat.le_of_ble_eq_true rfl, Nat.le_of_ble_eq_true rfl⟩) (kRecvX (q0 := 0) (ci := 5) hK hP hD hN hXS hS hA rfl rfl [0, 1] rfl (by decide)) rfl rfl hl.1 rfl (lv_room (Nat.le_of_ble_eq_true rfl)) dX5_sum_50 ⟨Nat.le_of_ble_eq_true rfl, Nat.le_of_ble_eq_true rfl⟩) hP hD hS hA [0, 1] [] rfl rfl (by decide) (by decide) ?_
              clear hP hD hS
              intro r_33 u_37 H locs w_34 hP hD hS
              obtain ⟨sc2_35, sc3_36⟩ := u_37
              replace hP : va_P D vwCl [(k, .inr (5, [.ref k0, .int c1, .int sc2_35, .int sc3_36, .int c4, .int c5, .int c6, .int c7])), (k0, .inl (cI, 50, .inl c0))] H := hP
              replace hD : va_D A [(k, .inr (5, [.ref k0, .int c1, .int sc2_35, .int sc3_36, .int c4, .int c5, .int c6, .int c7])), (k0, .inl (cI, 50, .inl c0))] := hD
              have lo_r_33 := k_lo r_33
              have hi_r_33 := k_hi r_33
              refine lv_istore (lv' := [(5, .int r_33), (4, .int r_29), (3, .int l8_3), (2, .int l8_2), (0, .ref k), (1, .int 4)]) hx hb dX5_sum_53 hl (by decide) rfl ?_
              clear hl
              intro ls hl
              refine lv_iload hx hb dX5_sum_55 (lv_at hl 1 rfl) ?_
              refine lv_bipush (v := 43) hx hb dX5_sum_57 (by decide) ?_
              refine b_icmp_ne hx hb rfl zl_43 (tgt := 69) dX5_sum_59 (by decide) (fun c_38 => ?_) (fun c_38 => ?_)
              · refine lv_iload_n hx hb dX5_sum_69 rfl (lv_at hl 3 rfl) ?_
                refine lv_iload hx hb dX5_sum_70 (lv_at hl 0 rfl) ?_
                refine lv_isub hx hb dX5_sum_72 ?_
                refine lv_topi (fun v_39 ev_39 => ?_)
                have lo_v_39 := k_lo v_39
                have hi_v_39 := k_hi v_39
                refine lv_istore_n (lv' := [(2, .int v_39), (5, .int r_33), (4, .int r_29), (3, .int l8_3), (0, .ref k), (1, .int 4)]) hx hb dX5_sum_73 rfl hl (by decide) rfl ?_
                clear hl
                intro ls hl
                obtain ⟨v_40, ev_40⟩ : ∃ y : Int32, y = l8_3 + 1 := ⟨_, rfl⟩
                have tv_40 : v_40.toInt = l8_3.toInt + 1 := by rw [ev_40]; exact k_addv rfl zl_1 (by omega) (by omega)
                refine lv_iinc (v := v_40) (lv' := [(3, .int v_40), (2, .int v_39), (5, .int r_33), (4, .int r_29), (0, .ref k), (1, .int 4)]) hx hb dX5_sum_74 hl (k := 3) rfl (by rw [ev_40]; rfl) (by decide) rfl ?_
                clear hl
                intro ls hl
                refine lv_goto (tgt := 8) hx hb dX5_sum_77 (by decide) ?_
                exact ih8 v_39 v_40 sc2_35 sc3_36 (by first | omega | decide | assumption | rfl) (by omega) ls _ _ (lv_sub hl [0, 1, 4, 5] rfl) (hP.sub [0, 1] rfl) (hD.sub [0, 1] (by decide) rfl) hS
              · refine lv_iload_n hx hb dX5_sum_62 rfl (lv_at hl 3 rfl) ?_
                refine lv_iload hx hb dX5_sum_63 (lv_at hl 0 rfl) ?_
                refine lv_iadd hx hb dX5_sum_65 ?_
                refine lv_topi (fun v_41 ev_41 => ?_)
                have lo_v_41 := k_lo v_41
                have hi_v_41 := k_hi v_41
                refine lv_goto (tgt := 73) hx hb dX5_sum_66 (by decide) ?_
                refine lv_istore_n (lv' := [(2, .int v_41), (5, .int r_33), (4, .int r_29), (3, .int l8_3), (0, .ref k), (1, .int 4)]) hx hb dX5_sum_73 rfl hl (by decide) rfl ?_
                clear hl
                intro ls hl
                obtain ⟨v_42, ev_42⟩ : ∃ y : Int32, y = l8_3 + 1 := ⟨_, rfl⟩
                have tv_42 : v_42.toInt = l8_3.toInt + 1 := by rw [ev_42]; exact k_addv rfl zl_1 (by omega) (by omega)
                refine lv_iinc (v := v_42) (lv' := [(3, .int v_42), (2, .int v_41), (5, .int r_33), (4, .int r_29), (0, .ref k), (1, .int 4)]) hx hb dX5_sum_74 hl (k := 3) rfl (by rw [ev_42]; rfl) (by decide) rfl ?_
                clear hl
                intro ls hl
                refine lv_goto (tgt := 8) hx hb dX5_sum_77 (by decide) ?_
                exact ih8 v_41 v_42 sc2_35 sc3_36 (by first | omega | decide | assumption | rfl) (by omega) ls _ _ (lv_sub hl [0, 1, 4, 5] rfl) (hP.sub [0, 1] rfl) (hD.sub [0, 1] (by decide) rfl) hS
  exact hloop_8 _ r_1 0 sc2_3 sc3_4 (by first | omega | (simp only [zl_0] <;> omega) | decide | assumption | rfl) (Nat.lt_succ_self _) ls _ _ (lv_sub hl [0, 1, 2, 3] rfl) hP hD hS
theorem dX5_compared_0 : decode cX5_compared 0 = .ok (.aload_n 0, 1) := by decide +kernel
theorem dX5_compared_1 : decode cX5_compared 1 = .ok (.iload_n 1, 1) := by decide +kernel
theorem dX5_compared_2 : decode cX5_compared 2 = .ok (.invokevirtual 56, 3) := by decide +kernel
theorem dX5_compared_5 : decode cX5_compared 5 = .ok (.istore_n 2, 1) := by decide +kernel
theorem dX5_compared_6 : decode cX5_compared 6 = .ok (.aload_n 0, 1) := by decide +kernel
theorem dX5_compared_7 : decode cX5_compared 7 = .ok (.invokevirtual 45, 3) := by decide +kernel
theorem dX5_compared_10 : decode cX5_compared 10 = .ok (.istore_n 3, 1) := by decide +kernel
theorem dX5_compared_11 : decode cX5_compared 11 = .ok (.iload_n 3, 1) := by decide +kernel
theorem dX5_compared_12 : decode cX5_compared 12 = .ok (.bipush 60, 2) := by decide +kernel
theorem dX5_compared_14 : decode cX5_compared 14 = .ok (.if_icmp .eq 17, 3) := by decide +kernel
theorem dX5_compared_17 : decode cX5_compared 17 = .ok (.iload_n 3, 1) := by decide +kernel
theorem dX5_compared_18 : decode cX5_compared 18 = .ok (.bipush 61, 2) := by decide +kernel
theorem dX5_compared_20 : decode cX5_compared 20 = .ok (.if_icmp .eq 11, 3) := by decide +kernel
theorem dX5_compared_23 : decode cX5_compared 23 = .ok (.iload_n 3, 1) := by decide +kernel
theorem dX5_compared_24 : decode cX5_compared 24 = .ok (.bipush 62, 2) := by decide +kernel
theorem dX5_compared_26 : decode cX5_compared 26 = .ok (.if_icmp .eq 5, 3) := by decide +kernel
theorem dX5_compared_29 : decode cX5_compared 29 = .ok (.iload_n 2, 1) := by decide +kernel
theorem dX5_compared_30 : decode cX5_compared 30 = .ok (.ireturn, 1) := by decide +kernel
theorem dX5_compared_31 : decode cX5_compared 31 = .ok (.aload_n 0, 1) := by decide +kernel
theorem dX5_compared_32 : decode cX5_compared 32 = .ok (.dup, 1) := by decide +kernel
theorem dX5_compared_33 : decode cX5_compared 33 = .ok (.getfield 19, 3) := by decide +kernel
theorem dX5_compared_36 : decode cX5_compared 36 = .ok (.iconst 1, 1) := by decide +kernel
theorem dX5_compared_37 : decode cX5_compared 37 = .ok (.iadd, 1) := by decide +kernel
theorem dX5_compared_38 : decode cX5_compared 38 = .ok (.putfield 19, 3) := by decide +kernel
theorem dX5_compared_41 : decode cX5_compared 41 = .ok (.aload_n 0, 1) := by decide +kernel
theorem dX5_compared_42 : decode cX5_compared 42 = .ok (.iload_n 1, 1) := by decide +kernel
theorem dX5_compared_43 : decode cX5_compared 43 = .ok (.invokevirtual 56, 3) := by decide +kernel
theorem dX5_compared_46 : decode cX5_compared 46 = .ok (.istore 4, 2) := by decide +kernel
theorem dX5_compared_48 : decode cX5_compared 48 = .ok (.iload_n 3, 1) := by decide +kernel
theorem dX5_compared_49 : decode cX5_compared 49 = .ok (.bipush 60, 2) := by decide +kernel
theorem dX5_compared_51 : decode cX5_compared 51 = .ok (.if_icmp .ne 17, 3) := by decide +kernel
theorem dX5_compared_54 : decode cX5_compared 54 = .ok (.iload_n 2, 1) := by decide +kernel
theorem dX5_compared_55 : decode cX5_compared 55 = .ok (.iload 4, 2) := by decide +kernel
theorem dX5_compared_57 : decode cX5_compared 57 = .ok (.if_icmp .ge 7, 3) := by decide +kernel
theorem dX5_compared_60 : decode cX5_compared 60 = .ok (.iconst 1, 1) := by decide +kernel
theorem dX5_compared_61 : decode cX5_compared 61 = .ok (.goto 38, 3) := by decide +kernel
theorem dX5_compared_64 : decode cX5_compared 64 = .ok (.iconst 0, 1) := by decide +kernel
theorem dX5_compared_65 : decode cX5_compared 65 = .ok (.goto 34, 3) := by decide +kernel
theorem dX5_compared_68 : decode cX5_compared 68 = .ok (.iload_n 3, 1) := by decide +kernel
theorem dX5_compared_69 : decode cX5_compared 69 = .ok (.bipush 61, 2) := by decide +kernel
theorem dX5_compared_71 : decode cX5_compared 71 = .ok (.if_icmp .ne 17, 3) := by decide +kernel
theorem dX5_compared_74 : decode cX5_compared 74 = .ok (.iload_n 2, 1) := by decide +kernel
theorem dX5_compared_75 : decode cX5_compared 75 = .ok (.iload 4, 2) := by decide +kernel
theorem dX5_compared_77 : decode cX5_compared 77 = .ok (.if_icmp .ne 7, 3) := by decide +kernel
theorem dX5_compared_80 : decode cX5_compared 80 = .ok (.iconst 1, 1) := by decide +kernel
theorem dX5_compared_81 : decode cX5_compared 81 = .ok (.goto 18, 3) := by decide +kernel
theorem dX5_compared_84 : decode cX5_compared 84 = .ok (.iconst 0, 1) := by decide +kernel
theorem dX5_compared_85 : decode cX5_compared 85 = .ok (.goto 14, 3) := by decide +kernel
theorem dX5_compared_88 : decode cX5_compared 88 = .ok (.iload_n 2, 1) := by decide +kernel
theorem dX5_compared_89 : decode cX5_compared 89 = .ok (.iload 4, 2) := by decide +kernel
theorem dX5_compared_91 : decode cX5_compared 91 = .ok (.if_icmp .le 7, 3) := by decide +kernel
theorem dX5_compared_94 : decode cX5_compared 94 = .ok (.iconst 1, 1) := by decide +kernel
theorem dX5_compared_95 : decode cX5_compared 95 = .ok (.goto 4, 3) := by decide +kernel
theorem dX5_compared_98 : decode cX5_compared 98 = .ok (.iconst 0, 1) := by decide +kernel
theorem dX5_compared_99 : decode cX5_compared 99 = .ok (.invokestatic 49, 3) := by decide +kernel
theorem dX5_compared_102 : decode cX5_compared 102 = .ok (.ireturn, 1) := by decide +kernel
set_option maxHeartbeats 4000000 in
set_option maxRecDepth 100000 in
theorem c_X5_comparedG4 (l : Launch) (D : va_G) (cI : ClassId) (aK aV : Nat → Nat) (k k0 : Nat) (sz : Nat) (c1 : Int32) (c2 : Int32) (c3 : Int32) (c4 : Int32) (c5 : Int32) (c6 : Int32) (c7 : Int32) (c0 : Nat → Int32) (a0 : Int32) (pre0 : a0 = 4) : Met l yX5_compared (gW yX5_compared cX5_compared 5 (some .int)) ({ frames := 8, cells := 0, slots := 0, locals := 200 } : Room) (kPreX D cI aK aV [.ref k, .int 4] [(k, .inr (5, [.ref k0, .int c1, .int c2, .int c3, .int c4, .int c5, .int c6, .int c7])), (k0, .inl (cI, 50, .inl c0))] sz) (va_Qi (fun (r : Int32) (u : Int32 × Int32) => True) (fun u t => kWd D cI (va_A [(k, .inr (5, [.ref k0, .int c1, .int c2, .int c3, .int c4, .int c5, .int c6, .int c7])), (k0, .inl (cI, 50, .inl c0))] sz) [(k, .inr (5, [.ref k0, .int c1, .int u.1, .int u.2, .int c4, .int c5, .int c6, .int c7])), (k0, .inl (cI, 50, .inl c0))] t) (va_A [(k, .inr (5, [.ref k0, .int c1, .int c2, .int c3, .int c4, .int c5, .int c6, .int c7])), (k0, .inl (cI, 50, .inl c0))] sz)) 0 0 (va_A [(k, .inr (5, [.ref k0, .int c1, .int c2, .int c3, .int c4, .int c5, .int c6, .int c7])), (k0, .inl (cI, 50, .inl c0))] sz) := by
  refine kMetIX (own := RX5) (by decide) rfl (Nat.le_of_ble_eq_true rfl) ?_
  intro p e s m args below meth c hx hb hT hown hname hml A Q hK hP hD hS hA hN hXS hRet ls hl
  subst pre0
  have hl : lv_has ls 5 [(0, .ref k), (1, .int 4)] := hl
  refine lv_aload_n hx hb dX5_compared_0 rfl (lv_at hl 0 rfl) ?_
  refine lv_iload_n hx hb dX5_compared_1 rfl (lv_at hl 1 rfl) ?_
  refine kJi (wr := []) (va_runV (As := [.int 4]) (rest := []) ⟨hx, hb, hml, hown, hT⟩ (c_X5_sumG4 l D cI aK aV k k0 s.heap.size c1 c2 c3 c4 c5 c6 c7 c0 4 (by first | omega | (simp only [zl_4] <;> omega) | decide | assumption | rfl)) (cwV 1 hT (gV_in mw_472 mw_469 mw_471 mw_p1_8 mw_6) rfl rfl rfl (by decide +kernel) ⟨Nat.le_of_ble_eq_true rfl, Nat.le_of_ble_eq_true rfl⟩) (kRecvX (q0 := 0) (ci := 5) hK hP hD hN hXS hS hA rfl rfl [0, 1] rfl (by decide)) rfl rfl hl.1 rfl (lv_room (Nat.le_of_ble_eq_true rfl)) dX5_compared_2 ⟨Nat.le_of_ble_eq_true rfl, Nat.le_of_ble_eq_true rfl⟩) hP hD hS hA [0, 1] [] rfl rfl (by decide) (by decide) ?_
  clear hP hD hS
  intro r_1 u_5 H locs w_2 hP hD hS
  obtain ⟨sc2_3, sc3_4⟩ := u_5
  replace hP : va_P D vwCl [(k, .inr (5, [.ref k0, .int c1, .int sc2_3, .int sc3_4, .int c4, .int c5, .int c6, .int c7])), (k0, .inl (cI, 50, .inl c0))] H := hP
  replace hD : va_D A [(k, .inr (5, [.ref k0, .int c1, .int sc2_3, .int sc3_4, .int c4, .int c5, .int c6, .int c7])), (k0, .inl (cI, 50, .inl c0))] := hD
  have lo_sc2_3 := k_lo sc2_3
  have hi_sc2_3 := k_hi sc2_3
  have lo_r_1 := k_lo r_1
  have hi_r_1 := k_hi r_1
  refine lv_istore_n (lv' := [(2, .int r_1), (0, .ref k), (1, .int 4)]) hx hb dX5_compared_5 rfl hl (by decide) rfl ?_
  clear hl
  intro ls hl
  refine lv_aload_n hx hb dX5_compared_6 rfl (lv_at hl 1 rfl) ?_
  refine kJi (wr := []) (va_runV (As := []) (rest := []) ⟨hx, hb, hml, hown, hT⟩ (c_X5_nextG l D cI aK aV k k0 H.size c1 sc2_3 sc3_4 c4 c5 c6 c7 c0) (cwV 0 hT (gV_in mw_484 mw_481 mw_483 mw_p1_11 mw_6) rfl rfl rfl (by decide +kernel) ⟨Nat.le_of_ble_eq_true rfl, Nat.le_of_ble_eq_true rfl⟩) (kRecvX (q0 := 0) (ci := 5) hK hP hD hN hXS hS hA rfl rfl [0, 1] rfl (by decide)) rfl rfl hl.1 rfl (lv_room (Nat.le_of_ble_eq_true rfl)) dX5_compared_7 ⟨Nat.le_of_ble_eq_true rfl, Nat.le_of_ble_eq_true rfl⟩) hP hD hS hA [0, 1] [] rfl rfl (by decide) (by decide) ?_
  clear hP hD hS
  intro r_6 u_8 H locs w_7 hP hD hS
  replace hP : va_P D vwCl [(k, .inr (5, [.ref k0, .int c1, .int sc2_3, .int sc3_4, .int c4, .int c5, .int c6, .int c7])), (k0, .inl (cI, 50, .inl c0))] H := hP
  replace hD : va_D A [(k, .inr (5, [.ref k0, .int c1, .int sc2_3, .int sc3_4, .int c4, .int c5, .int c6, .int c7])), (k0, .inl (cI, 50, .inl c0))] := hD
  have lo_r_6 := k_lo r_6
  have hi_r_6 := k_hi r_6
  refine lv_istore_n (lv' := [(3, .int r_6), (2, .int r_1), (0, .ref k), (1, .int 4)]) hx hb dX5_compared_10 rfl hl (by decide) rfl ?_
  clear hl
  intro ls hl
  refine lv_iload_n hx hb dX5_compared_11 rfl (lv_at hl 0 rfl) ?_
  refine lv_bipush (v := 60) hx hb dX5_compared_12 (by decide) ?_
  refine b_icmp_eq hx hb rfl zl_60 (tgt := 31) dX5_compared_14 (by decide) (fun c_9 => ?_) (fun c_9 => ?_)
  · refine lv_aload_n hx hb dX5_compared_31 rfl (lv_at hl 2 rfl) ?_
    refine lv_dup hx hb dX5_compared_32 rfl ?_
    refine va_get (D := D) (ci := 5) (v := .int sc2_3) (C := RX5) (T := TX5) (N := 8) hx hb hT giX5 hown hK hP 0 rfl rfl 2 (by decide) (hT (Cond.fieldLink RX5 19 "DesertWire$Reader" "at" "I") mw_170) (fun _ h9 => h9) rfl dX5_compared_33 ?_
    refine lv_iconst (v := 1) hx hb dX5_compared_36 (by decide) ?_
    refine lv_iadd hx hb dX5_compared_37 ?_
    refine lv_topi (fun v_10 ev_10 => ?_)
    have lo_v_10 := k_lo v_10
    have hi_v_10 := k_hi v_10
    refine va_put (D := D) (ci := 5) (v := .int v_10) (ty := .int) (C := RX5) (T := TX5) (N := 8) hx hb hT giX5 tyX5 tyX5_ok nmX5 hown hK hP hD hS 0 rfl rfl 2 (by decide) (hT (Cond.fieldLink RX5 19 "DesertWire$Reader" "at" "I") mw_170) (fun _ h9 => h9) rfl (by decide +kernel) rfl rfl (Nat.le_of_ble_eq_true rfl) dX5_compared_38 ?_
    clear hP hD hS
    intro H locs hP hD hS
    replace hP : va_P D vwCl [(k, .inr (5, [.ref k0, .int c1, .int v_10, .int sc3_4, .int c4, .int c5, .int c6, .int c7])), (k0, .inl (cI, 50, .inl c0))] H := hP
    replace hD : va_D A [(k, .inr (5, [.ref k0, .int c1, .int v_10, .int sc3_4, .int c4, .int c5, .int c6, .int c7])), (k0, .inl (cI, 50, .inl c0))] := hD
    refine lv_aload_n hx hb dX5_compared_41 rfl (lv_at hl 2 rfl) ?_
    refine lv_iload_n hx hb dX5_compared_42 rfl (lv_at hl 3 rfl) ?_
    refine kJi (wr := []) (va_runV (As := [.int 4]) (rest := []) ⟨hx, hb, hml, hown, hT⟩ (c_X5_sumG4 l D cI aK aV k k0 H.size c1 v_10 sc3_4 c4 c5 c6 c7 c0 4 (by first | omega | (simp only [zl_4] <;> omega) | decide | assumption | rfl)) (cwV 1 hT (gV_in mw_472 mw_469 mw_471 mw_p1_8 mw_6) rfl rfl rfl (by decide +kernel) ⟨Nat.le_of_ble_eq_true rfl, Nat.le_of_ble_eq_true rfl⟩) (kRecvX (q0 := 0) (ci := 5) hK hP hD hN hXS hS hA rfl rfl [0, 1] rfl (by decide)) rfl rfl hl.1 rfl (lv_room (Nat.le_of_ble_eq_true rfl)) dX5_compared_43 ⟨Nat.le_of_ble_eq_true rfl, Nat.le_of_ble_eq_true rfl⟩) hP hD hS hA [0, 1] [] rfl rfl (by decide) (by decide) ?_
    clear hP hD hS
    intro r_11 u_15 H locs w_12 hP hD hS
    obtain ⟨sc2_13, sc3_14⟩ := u_15
    replace hP : va_P D vwCl [(k, .inr (5, [.ref k0, .int c1, .int sc2_13, .int sc3_14, .int c4, .int c5, .int c6, .int c7])), (k0, .inl (cI, 50, .inl c0))] H := hP
    replace hD : va_D A [(k, .inr (5, [.ref k0, .int c1, .int sc2_13, .int sc3_14, .int c4, .int c5, .int c6, .int c7])), (k0, .inl (cI, 50, .inl c0))] := hD
    have lo_r_11 := k_lo r_11
    have hi_r_11 := k_hi r_11
    refine lv_istore (lv' := [(4, .int r_11), (3, .int r_6), (2, .int r_1), (0, .ref k), (1, .int 4)]) hx hb dX5_compared_46 hl (by decide) rfl ?_
    clear hl
    intro ls hl
    refine lv_iload_n hx hb dX5_compared_48 rfl (lv_at hl 1 rfl) ?_
    refine lv_bipush (v := 60) hx hb dX5_compared_49 (by decide) ?_
    refine b_icmp_ne hx hb rfl zl_60 (tgt := 68) dX5_compared_51 (by decide) (fun c_16 => by exfalso; omega) (fun c_16 => ?_)
    refine lv_iload_n hx hb dX5_compared_54 rfl (lv_at hl 2 rfl) ?_
    refine lv_iload hx hb dX5_compared_55 (lv_at hl 0 rfl) ?_
    refine b_icmp_ge hx hb rfl rfl (tgt := 64) dX5_compared_57 (by decide) (fun c_17 => ?_) (fun c_17 => ?_)
    · refine lv_iconst (v := 0) hx hb dX5_compared_64 (by decide) ?_
      refine lv_goto (tgt := 99) hx hb dX5_compared_65 (by decide) ?_
      refine kJi (wr := [(k, .inr (5, [.ref k0, .int c1, .int sc2_13, .int sc3_14, .int c4, .int c5, .int c6, .int c7])), (k0, .inl (cI, 50, .inl c0))]) (va_runS (As := [.int 0]) (rest := []) ⟨hx, hb, hml, hown, hT⟩ (c_X5_truthG l D cI aK aV H.size 0) (cwS 1 hT (gS_in mw_502 mw_500 mw_501 mw_6) rfl rfl rfl (by decide +kernel) ⟨Nat.le_of_ble_eq_true rfl, Nat.le_of_ble_eq_true rfl⟩) (kStatX hK hP hD hN hXS hS hA [] rfl (by decide)) rfl rfl hl.1 rfl (lv_room (Nat.le_of_ble_eq_true rfl)) dX5_compared_99 ⟨Nat.le_of_ble_eq_true rfl, Nat.le_of_ble_eq_true rfl⟩) hP hD hS hA [] [0, 1] rfl rfl (by decide) (by decide) ?_
      clear hP hD hS
      intro r_18 u_20 H locs w_19 hP hD hS
      replace hP : va_P D vwCl [(k, .inr (5, [.ref k0, .int c1, .int sc2_13, .int sc3_14, .int c4, .int c5, .int c6, .int c7])), (k0, .inl (cI, 50, .inl c0))] H := hP
      replace hD : va_D A [(k, .inr (5, [.ref k0, .int c1, .int sc2_13, .int sc3_14, .int c4, .int c5, .int c6, .int c7])), (k0, .inl (cI, 50, .inl c0))] := hD
      have lo_r_18 := k_lo r_18
      have hi_r_18 := k_hi r_18
      exact hRet (sc2_13, sc3_14) [0, 1] trivial hP hD (by decide) rfl hS rfl dX5_compared_102
    · refine lv_iconst (v := 1) hx hb dX5_compared_60 (by decide) ?_
      refine lv_goto (tgt := 99) hx hb dX5_compared_61 (by decide) ?_
      refine kJi (wr := [(k, .inr (5, [.ref k0, .int c1, .int sc2_13, .int sc3_14, .int c4, .int c5, .int c6, .int c7])), (k0, .inl (cI, 50, .inl c0))]) (va_runS (As := [.int 1]) (rest := []) ⟨hx, hb, hml, hown, hT⟩ (c_X5_truthG l D cI aK aV H.size 1) (cwS 1 hT (gS_in mw_502 mw_500 mw_501 mw_6) rfl rfl rfl (by decide +kernel) ⟨Nat.le_of_ble_eq_true rfl, Nat.le_of_ble_eq_true rfl⟩) (kStatX hK hP hD hN hXS hS hA [] rfl (by decide)) rfl rfl hl.1 rfl (lv_room (Nat.le_of_ble_eq_true rfl)) dX5_compared_99 ⟨Nat.le_of_ble_eq_true rfl, Nat.le_of_ble_eq_true rfl⟩) hP hD hS hA [] [0, 1] rfl rfl (by decide) (by decide) ?_
      clear hP hD hS
      intro r_21 u_23 H locs w_22 hP hD hS
      replace hP : va_P D vwCl [(k, .inr (5, [.ref k0, .int c1, .int sc2_13, .int sc3_14, .int c4, .int c5, .int c6, .int c7])), (k0, .inl (cI, 50, .inl c0))] H := hP
      replace hD : va_D A [(k, .inr (5, [.ref k0, .int c1, .int sc2_13, .int sc3_14, .int c4, .int c5, .int c6, .int c7])), (k0, .inl (cI, 50, .inl c0))] := hD
      have lo_r_21 := k_lo r_21
      have hi_r_21 := k_hi r_21
      exact hRet (sc2_13, sc3_14) [0, 1] trivial hP hD (by decide) rfl hS rfl dX5_compared_102
  · refine lv_iload_n hx hb dX5_compared_17 rfl (lv_at hl 0 rfl) ?_
    refine lv_bipush (v := 61) hx hb dX5_compared_18 (by decide) ?_
    refine b_icmp_eq hx hb rfl zl_61 (tgt := 31) dX5_compared_20 (by decide) (fun c_24 => ?_) (fun c_24 => ?_)
    · refine lv_aload_n hx hb dX5_compared_31 rfl (lv_at hl 2 rfl) ?_
      refine lv_dup hx hb dX5_compared_32 rfl ?_
      refine va_get (D := D) (ci := 5) (v := .int sc2_3) (C := RX5) (T := TX5) (N := 8) hx hb hT giX5 hown hK hP 0 rfl rfl 2 (by decide) (hT (Cond.fieldLink RX5 19 "DesertWire$Reader" "at" "I") mw_170) (fun _ h9 => h9) rfl dX5_compared_33 ?_
      refine lv_iconst (v := 1) hx hb dX5_compared_36 (by decide) ?_
      refine lv_iadd hx hb dX5_compared_37 ?_
      refine lv_topi (fun v_25 ev_25 => ?_)
      have lo_v_25 := k_lo v_25
      have hi_v_25 := k_hi v_25
      refine va_put (D := D) (ci := 5) (v := .int v_25) (ty := .int) (C := RX5) (T := TX5) (N := 8) hx hb hT giX5 tyX5 tyX5_ok nmX5 hown hK hP hD hS 0 rfl rfl 2 (by decide) (hT (Cond.fieldLink RX5 19 "DesertWire$Reader" "at" "I") mw_170) (fun _ h9 => h9) rfl (by decide +kernel) rfl rfl (Nat.le_of_ble_eq_true rfl) dX5_compared_38 ?_
      clear hP hD hS
      intro H locs hP hD hS
      replace hP : va_P D vwCl [(k, .inr (5, [.ref k0, .int c1, .int v_25, .int sc3_4, .int c4, .int c5, .int c6, .int c7])), (k0, .inl (cI, 50, .inl c0))] H := hP
      replace hD : va_D A [(k, .inr (5, [.ref k0, .int c1, .int v_25, .int sc3_4, .int c4, .int c5, .int c6, .int c7])), (k0, .inl (cI, 50, .inl c0))] := hD
      refine lv_aload_n hx hb dX5_compared_41 rfl (lv_at hl 2 rfl) ?_
      refine lv_iload_n hx hb dX5_compared_42 rfl (lv_at hl 3 rfl) ?_
      refine kJi (wr := []) (va_runV (As := [.int 4]) (rest := []) ⟨hx, hb, hml, hown, hT⟩ (c_X5_sumG4 l D cI aK aV k k0 H.size c1 v_25 sc3_4 c4 c5 c6 c7 c0 4 (by first | omega | (simp only [zl_4] <;> omega) | decide | assumption | rfl)) (cwV 1 hT (gV_in mw_472 mw_469 mw_471 mw_p1_8 mw_6) rfl rfl rfl (by decide +kernel) ⟨Nat.le_of_ble_eq_true rfl, Nat.le_of_ble_eq_true rfl⟩) (kRecvX (q0 := 0) (ci := 5) hK hP hD hN hXS hS hA rfl rfl [0, 1] rfl (by decide)) rfl rfl hl.1 rfl (lv_room (Nat.le_of_ble_eq_true rfl)) dX5_compared_43 ⟨Nat.le_of_ble_eq_true rfl, Nat.le_of_ble_eq_true rfl⟩) hP hD hS hA [0, 1] [] rfl rfl (by decide) (by decide) ?_
      clear hP hD hS
      intro r_26 u_30 H locs w_27 hP hD hS
      obtain ⟨sc2_28, sc3_29⟩ := u_30
      replace hP : va_P D vwCl [(k, .inr (5, [.ref k0, .int c1, .int sc2_28, .int sc3_29, .int c4, .int c5, .int c6, .int c7])), (k0, .inl (cI, 50, .inl c0))] H := hP
      replace hD : va_D A [(k, .inr (5, [.ref k0, .int c1, .int sc2_28, .int sc3_29, .int c4, .int c5, .int c6, .int c7])), (k0, .inl (cI, 50, .inl c0))] := hD
      have lo_r_26 := k_lo r_26
      have hi_r_26 := k_hi r_26
      refine lv_istore (lv' := [(4, .int r_26), (3, .int r_6), (2, .int r_1), (0, .ref k), (1, .int 4)]) hx hb dX5_compared_46 hl (by decide) rfl ?_
      clear hl
      intro ls hl
      refine lv_iload_n hx hb dX5_compared_48 rfl (lv_at hl 1 rfl) ?_
      refine lv_bipush (v := 60) hx hb dX5_compared_49 (by decide) ?_
      refine b_icmp_ne hx hb rfl zl_60 (tgt := 68) dX5_compared_51 (by decide) (fun c_31 => ?_) (fun c_31 => by exfalso; omega)
      refine lv_iload_n hx hb dX5_compared_68 rfl (lv_at hl 1 rfl) ?_
      refine lv_bipush (v := 61) hx hb dX5_compared_69 (by decide) ?_
      refine b_icmp_ne hx hb rfl zl_61 (tgt := 88) dX5_compared_71 (by decide) (fun c_32 => by exfalso; omega) (fun c_32 => ?_)
      refine lv_iload_n hx hb dX5_compared_74 rfl (lv_at hl 2 rfl) ?_
      refine lv_iload hx hb dX5_compared_75 (lv_at hl 0 rfl) ?_
      refine b_icmp_ne hx hb rfl rfl (tgt := 84) dX5_compared_77 (by decide) (fun c_33 => ?_) (fun c_33 => ?_)
      · refine lv_iconst (v := 0) hx hb dX5_compared_84 (by decide) ?_
        refine lv_goto (tgt := 99) hx hb dX5_compared_85 (by decide) ?_
        refine kJi (wr := [(k, .inr (5, [.ref k0, .int c1, .int sc2_28, .int sc3_29, .int c4, .int c5, .int c6, .int c7])), (k0, .inl (cI, 50, .inl c0))]) (va_runS (As := [.int 0]) (rest := []) ⟨hx, hb, hml, hown, hT⟩ (c_X5_truthG l D cI aK aV H.size 0) (cwS 1 hT (gS_in mw_502 mw_500 mw_501 mw_6) rfl rfl rfl (by decide +kernel) ⟨Nat.le_of_ble_eq_true rfl, Nat.le_of_ble_eq_true rfl⟩) (kStatX hK hP hD hN hXS hS hA [] rfl (by decide)) rfl rfl hl.1 rfl (lv_room (Nat.le_of_ble_eq_true rfl)) dX5_compared_99 ⟨Nat.le_of_ble_eq_true rfl, Nat.le_of_ble_eq_true rfl⟩) hP hD hS hA [] [0, 1] rfl rfl (by decide) (by decide) ?_
        clear hP hD hS
        intro r_34 u_36 H locs w_35 hP hD hS
        replace hP : va_P D vwCl [(k, .inr (5, [.ref k0, .int c1, .int sc2_28, .int sc3_29, .int c4, .int c5, .int c6, .int c7])), (k0, .inl (cI, 50, .inl c0))] H := hP
        replace hD : va_D A [(k, .inr (5, [.ref k0, .int c1, .int sc2_28, .int sc3_29, .int c4, .int c5, .int c6, .int c7])), (k0, .inl (cI, 50, .inl c0))] := hD
        have lo_r_34 := k_lo r_34
        have hi_r_34 := k_hi r_34
        exact hRet (sc2_28, sc3_29) [0, 1] trivial hP hD (by decide) rfl hS rfl dX5_compared_102
      · refine lv_iconst (v := 1) hx hb dX5_compared_80 (by decide) ?_
        refine lv_goto (tgt := 99) hx hb dX5_compared_81 (by decide) ?_
        refine kJi (wr := [(k, .inr (5, [.ref k0, .int c1, .int sc2_28, .int sc3_29, .int c4, .int c5, .int c6, .int c7])), (k0, .inl (cI, 50, .inl c0))]) (va_runS (As := [.int 1]) (rest := []) ⟨hx, hb, hml, hown, hT⟩ (c_X5_truthG l D cI aK aV H.size 1) (cwS 1 hT (gS_in mw_502 mw_500 mw_501 mw_6) rfl rfl rfl (by decide +kernel) ⟨Nat.le_of_ble_eq_true rfl, Nat.le_of_ble_eq_true rfl⟩) (kStatX hK hP hD hN hXS hS hA [] rfl (by decide)) rfl rfl hl.1 rfl (lv_room (Nat.le_of_ble_eq_true rfl)) dX5_compared_99 ⟨Nat.le_of_ble_eq_true rfl, Nat.le_of_ble_eq_true rfl⟩) hP hD hS hA [] [0, 1] rfl rfl (by decide) (by decide) ?_
        clear hP hD hS
        intro r_37 u_39 H locs w_38 hP hD hS
        replace hP : va_P D vwCl [(k, .inr (5, [.ref k0, .int c1, .int sc2_28, .int sc3_29, .int c4, .int c5, .int c6, .int c7])), (k0, .inl (cI, 50, .inl c0))] H := hP
        replace hD : va_D A [(k, .inr (5, [.ref k0, .int c1, .int sc2_28, .int sc3_29, .int c4, .int c5, .int c6, .int c7])), (k0, .inl (cI, 50, .inl c0))] := hD
        have lo_r_37 := k_lo r_37
        have hi_r_37 := k_hi r_37
        exact hRet (sc2_28, sc3_29) [0, 1] trivial hP hD (by decide) rfl hS rfl dX5_compared_102
    · refine lv_iload_n hx hb dX5_compared_23 rfl (lv_at hl 0 rfl) ?_
      refine lv_bipush (v := 62) hx hb dX5_compared_24 (by decide) ?_
      refine b_icmp_eq hx hb rfl zl_62 (tgt := 31) dX5_compared_26 (by decide) (fun c_40 => ?_) (fun c_40 => ?_)
      · refine lv_aload_n hx hb dX5_compared_31 rfl (lv_at hl 2 rfl) ?_
        refine lv_dup hx hb dX5_compared_32 rfl ?_
        refine va_get (D := D) (ci := 5) (v := .int sc2_3) (C := RX5) (T := TX5) (N := 8) hx hb hT giX5 hown hK hP 0 rfl rfl 2 (by decide) (hT (Cond.fieldLink RX5 19 "DesertWire$Reader" "at" "I") mw_170) (fun _ h9 => h9) rfl dX5_compared_33 ?_
        refine lv_iconst (v := 1) hx hb dX5_compared_36 (by decide) ?_
        refine lv_iadd hx hb dX5_compared_37 ?_
        refine lv_topi (fun v_41 ev_41 => ?_)
        have lo_v_41 := k_lo v_41
        have hi_v_41 := k_hi v_41
        refine va_put (D := D) (ci := 5) (v := .int v_41) (ty := .int) (C := RX5) (T := TX5) (N := 8) hx hb hT giX5 tyX5 tyX5_ok nmX5 hown hK hP hD hS 0 rfl rfl 2 (by decide) (hT (Cond.fieldLink RX5 19 "DesertWire$Reader" "at" "I") mw_170) (fun _ h9 => h9) rfl (by decide +kernel) rfl rfl (Nat.le_of_ble_eq_true rfl) dX5_compared_38 ?_
        clear hP hD hS
        intro H locs hP hD hS
        replace hP : va_P D vwCl [(k, .inr (5, [.ref k0, .int c1, .int v_41, .int sc3_4, .int c4, .int c5, .int c6, .int c7])), (k0, .inl (cI, 50, .inl c0))] H := hP
        replace hD : va_D A [(k, .inr (5, [.ref k0, .int c1, .int v_41, .int sc3_4, .int c4, .int c5, .int c6, .int c7])), (k0, .inl (cI, 50, .inl c0))] := hD
        refine lv_aload_n hx hb dX5_compared_41 rfl (lv_at hl 2 rfl) ?_
        refine lv_iload_n hx hb dX5_compared_42 rfl (lv_at hl 3 rfl) ?_
        refine kJi (wr := []) (va_runV (As := [.int 4]) (rest := []) ⟨hx, hb, hml, hown, hT⟩ (c_X5_sumG4 l D cI aK aV k k0 H.size c1 v_41 sc3_4 c4 c5 c6 c7 c0 4 (by first | omega | (simp only [zl_4] <;> omega) | decide | assumption | rfl)) (cwV 1 hT (gV_in mw_472 mw_469 mw_471 mw_p1_8 mw_6) rfl rfl rfl (by decide +kernel) ⟨Nat.le_of_ble_eq_true rfl, Nat.le_of_ble_eq_true rfl⟩) (kRecvX (q0 := 0) (ci := 5) hK hP hD hN hXS hS hA rfl rfl [0, 1] rfl (by decide)) rfl rfl hl.1 rfl (lv_room (Nat.le_of_ble_eq_true rfl)) dX5_compared_43 ⟨Nat.le_of_ble_eq_true rfl, Nat.le_of_ble_eq_true rfl⟩) hP hD hS hA [0, 1] [] rfl rfl (by decide) (by decide) ?_
        clear hP hD hS
        intro r_42 u_46 H locs w_43 hP hD hS
        obtain ⟨sc2_44, sc3_45⟩ := u_46
        replace hP : va_P D vwCl [(k, .inr (5, [.ref k0, .int c1, .int sc2_44, .int sc3_45, .int c4, .int c5, .int c6, .int c7])), (k0, .inl (cI, 50, .inl c0))] H := hP
        replace hD : va_D A [(k, .inr (5, [.ref k0, .int c1, .int sc2_44, .int sc3_45, .int c4, .int c5, .int c6, .int c7])), (k0, .inl (cI, 50, .inl c0))] := hD
        have lo_r_42 := k_lo r_42
        have hi_r_42 := k_hi r_42
        refine lv_istore (lv' := [(4, .int r_42), (3, .int r_6), (2, .int r_1), (0, .ref k), (1, .int 4)]) hx hb dX5_compared_46 hl (by decide) rfl ?_
        clear hl
        intro ls hl
        refine lv_iload_n hx hb dX5_compared_48 rfl (lv_at hl 1 rfl) ?_
        refine lv_bipush (v := 60) hx hb dX5_compared_49 (by decide) ?_
        refine b_icmp_ne hx hb rfl zl_60 (tgt := 68) dX5_compared_51 (by decide) (fun c_47 => ?_) (fun c_47 => by exfalso; omega)
        refine lv_iload_n hx hb dX5_compared_68 rfl (lv_at hl 1 rfl) ?_
        refine lv_bipush (v := 61) hx hb dX5_compared_69 (by decide) ?_
        refine b_icmp_ne hx hb rfl zl_61 (tgt := 88) dX5_compared_71 (by decide) (fun c_48 => ?_) (fun c_48 => by exfalso; omega)
        refine lv_iload_n hx hb dX5_compared_88 rfl (lv_at hl 2 rfl) ?_
        refine lv_iload hx hb dX5_compared_89 (lv_at hl 0 rfl) ?_
        refine b_icmp_le hx hb rfl rfl (tgt := 98) dX5_compared_91 (by decide) (fun c_49 => ?_) (fun c_49 => ?_)
        · refine lv_iconst (v := 0) hx hb dX5_compared_98 (by decide) ?_
          refine kJi (wr := [(k, .inr (5, [.ref k0, .int c1, .int sc2_44, .int sc3_45, .int c4, .int c5, .int c6, .int c7])), (k0, .inl (cI, 50, .inl c0))]) (va_runS (As := [.int 0]) (rest := []) ⟨hx, hb, hml, hown, hT⟩ (c_X5_truthG l D cI aK aV H.size 0) (cwS 1 hT (gS_in mw_502 mw_500 mw_501 mw_6) rfl rfl rfl (by decide +kernel) ⟨Nat.le_of_ble_eq_true rfl, Nat.le_of_ble_eq_true rfl⟩) (kStatX hK hP hD hN hXS hS hA [] rfl (by decide)) rfl rfl hl.1 rfl (lv_room (Nat.le_of_ble_eq_true rfl)) dX5_compared_99 ⟨Nat.le_of_ble_eq_true rfl, Nat.le_of_ble_eq_true rfl⟩) hP hD hS hA [] [0, 1] rfl rfl (by decide) (by decide) ?_
          clear hP hD hS
          intro r_50 u_52 H locs w_51 hP hD hS
          replace hP : va_P D vwCl [(k, .inr (5, [.ref k0, .int c1, .int sc2_44, .int sc3_45, .int c4, .int c5, .int c6, .int c7])), (k0, .inl (cI, 50, .inl c0))] H := hP
          replace hD : va_D A [(k, .inr (5, [.ref k0, .int c1, .int sc2_44, .int sc3_45, .int c4, .int c5, .int c6, .int c7])), (k0, .inl (cI, 50, .inl c0))] := hD
          have lo_r_50 := k_lo r_50
          have hi_r_50 := k_hi r_50
          exact hRet (sc2_44, sc3_45) [0, 1] trivial hP hD (by decide) rfl hS rfl dX5_compared_102
        · refine lv_iconst (v := 1) hx hb dX5_compared_94 (by decide) ?_
          refine lv_goto (tgt := 99) hx hb dX5_compared_95 (by decide) ?_
          refine kJi (wr := [(k, .inr (5, [.ref k0, .int c1, .int sc2_44, .int sc3_45, .int c4, .int c5, .int c6, .int c7])), (k0, .inl (cI, 50, .inl c0))]) (va_runS (As := [.int 1]) (rest := []) ⟨hx, hb, hml, hown, hT⟩ (c_X5_truthG l D cI aK aV H.size 1) (cwS 1 hT (gS_in mw_502 mw_500 mw_501 mw_6) rfl rfl rfl (by decide +kernel) ⟨Nat.le_of_ble_eq_true rfl, Nat.le_of_ble_eq_true rfl⟩) (kStatX hK hP hD hN hXS hS hA [] rfl (by decide)) rfl rfl hl.1 rfl (lv_room (Nat.le_of_ble_eq_true rfl)) dX5_compared_99 ⟨Nat.le_of_ble_eq_true rfl, Nat.le_of_ble_eq_true rfl⟩) hP hD hS hA [] [0, 1] rfl rfl (by decide) (by decide) ?_
          clear hP hD hS
          intro r_53 u_55 H locs w_54 hP hD hS
          replace hP : va_P D vwCl [(k, .inr (5, [.ref k0, .int c1, .int sc2_44, .int sc3_45, .int c4, .int c5, .int c6, .int c7])), (k0, .inl (cI, 50, .inl c0))] H := hP
          replace hD : va_D A [(k, .inr (5, [.ref k0, .int c1, .int sc2_44, .int sc3_45, .int c4, .int c5, .int c6, .int c7])), (k0, .inl (cI, 50, .inl c0))] := hD
          have lo_r_53 := k_lo r_53
          have hi_r_53 := k_hi r_53
          exact hRet (sc2_44, sc3_45) [0, 1] trivial hP hD (by decide) rfl hS rfl dX5_compared_102
      · refine lv_iload_n hx hb dX5_compared_29 rfl (lv_at hl 1 rfl) ?_
        exact hRet (sc2_3, sc3_4) [0, 1] trivial hP hD (by decide) rfl hS rfl dX5_compared_30
theorem dX5_both_0 : decode cX5_both 0 = .ok (.aload_n 0, 1) := by decide +kernel
theorem dX5_both_1 : decode cX5_both 1 = .ok (.iload_n 1, 1) := by decide +kernel
theorem dX5_both_2 : decode cX5_both 2 = .ok (.invokevirtual 53, 3) := by decide +kernel
theorem dX5_both_5 : decode cX5_both 5 = .ok (.istore_n 2, 1) := by decide +kernel
theorem dX5_both_6 : decode cX5_both 6 = .ok (.iconst 0, 1) := by decide +kernel
theorem dX5_both_7 : decode cX5_both 7 = .ok (.istore_n 3, 1) := by decide +kernel
theorem dX5_both_8 : decode cX5_both 8 = .ok (.iload_n 3, 1) := by decide +kernel
theorem dX5_both_9 : decode cX5_both 9 = .ok (.bipush 50, 2) := by decide +kernel
theorem dX5_both_11 : decode cX5_both 11 = .ok (.if_icmp .ge 53, 3) := by decide +kernel
theorem dX5_both_14 : decode cX5_both 14 = .ok (.aload_n 0, 1) := by decide +kernel
theorem dX5_both_15 : decode cX5_both 15 = .ok (.invokevirtual 45, 3) := by decide +kernel
theorem dX5_both_18 : decode cX5_both 18 = .ok (.bipush 38, 2) := by decide +kernel
theorem dX5_both_20 : decode cX5_both 20 = .ok (.if_icmp .ne 44, 3) := by decide +kernel
theorem dX5_both_23 : decode cX5_both 23 = .ok (.aload_n 0, 1) := by decide +kernel
theorem dX5_both_24 : decode cX5_both 24 = .ok (.dup, 1) := by decide +kernel
theorem dX5_both_25 : decode cX5_both 25 = .ok (.getfield 19, 3) := by decide +kernel
theorem dX5_both_28 : decode cX5_both 28 = .ok (.iconst 1, 1) := by decide +kernel
theorem dX5_both_29 : decode cX5_both 29 = .ok (.iadd, 1) := by decide +kernel
theorem dX5_both_30 : decode cX5_both 30 = .ok (.putfield 19, 3) := by decide +kernel
theorem dX5_both_33 : decode cX5_both 33 = .ok (.aload_n 0, 1) := by decide +kernel
theorem dX5_both_34 : decode cX5_both 34 = .ok (.iload_n 1, 1) := by decide +kernel
theorem dX5_both_35 : decode cX5_both 35 = .ok (.invokevirtual 53, 3) := by decide +kernel
theorem dX5_both_38 : decode cX5_both 38 = .ok (.istore 4, 2) := by decide +kernel
theorem dX5_both_40 : decode cX5_both 40 = .ok (.iload_n 2, 1) := by decide +kernel
theorem dX5_both_41 : decode cX5_both 41 = .ok (.ifCond .eq 12, 3) := by decide +kernel
theorem dX5_both_44 : decode cX5_both 44 = .ok (.iload 4, 2) := by decide +kernel
theorem dX5_both_46 : decode cX5_both 46 = .ok (.ifCond .eq 7, 3) := by decide +kernel
theorem dX5_both_49 : decode cX5_both 49 = .ok (.iconst 1, 1) := by decide +kernel
theorem dX5_both_50 : decode cX5_both 50 = .ok (.goto 4, 3) := by decide +kernel
theorem dX5_both_53 : decode cX5_both 53 = .ok (.iconst 0, 1) := by decide +kernel
theorem dX5_both_54 : decode cX5_both 54 = .ok (.invokestatic 49, 3) := by decide +kernel
theorem dX5_both_57 : decode cX5_both 57 = .ok (.istore_n 2, 1) := by decide +kernel
theorem dX5_both_58 : decode cX5_both 58 = .ok (.iinc 3 1, 3) := by decide +kernel
theorem dX5_both_61 : decode cX5_both 61 = .ok (.goto (-53), 3) := by decide +kernel
theorem dX5_both_64 : decode cX5_both 64 = .ok (.iload_n 2, 1) := by decide +kernel
theorem dX5_both_65 : decode cX5_both 65 = .ok (.ireturn, 1) := by decide +kernel
set_option maxHeartbeats 4000000 in
set_option maxRecDepth 100000 in
theorem c_X5_bothG4 (l : Launch) (D : va_G) (cI : ClassId) (aK aV : Nat → Nat) (k k0 : Nat) (sz : Nat) (c1 : Int32) (c2 : Int32) (c3 : Int32) (c4 : Int32) (c5 : Int32) (c6 : Int32) (c7 : Int32) (c0 : Nat → Int32) (a0 : Int32) (pre0 : a0 = 4) : Met l yX5_both (gW yX5_both cX5_both 5 (some .int)) ({ frames := 9, cells := 0, slots := 0, locals := 224 } : Room) (kPreX D cI aK aV [.ref k, .int 4] [(k, .inr (5, [.ref k0, .int c1, .int c2, .int c3, .int c4, .int c5, .int c6, .int c7])), (k0, .inl (cI, 50, .inl c0))] sz) (va_Qi (fun (r : Int32) (u : Int32 × Int32) => True) (fun u t => kWd D cI (va_A [(k, .inr (5, [.ref k0, .int c1, .int c2, .int c3, .int c4, .int c5, .int c6, .int c7])), (k0, .inl (cI, 50, .inl c0))] sz) [(k, .inr (5, [.ref k0, .int c1, .int u.1, .int u.2, .int c4, .int c5, .int c6, .int c7])), (k0, .inl (cI, 50, .inl c0))] t) (va_A [(k, .inr (5, [.ref k0, .int c1, .int c2, .int c3, .int c4, .int c5, .int c6, .int c7])), (k0, .inl (cI, 50, .inl c0))] sz)) 0 0 (va_A [(k, .inr (5, [.ref k0, .int c1, .int c2, .int c3, .int c4, .int c5, .int c6, .int c7])), (k0, .inl (cI, 50, .inl c0))] sz) := by
  refine kMetIX (own := RX5) (by decide) rfl (Nat.le_of_ble_eq_true rfl) ?_
  intro p e s m args below meth c hx hb hT hown hname hml A Q hK hP hD hS hA hN hXS hRet ls hl
  subst pre0
  have hl : lv_has ls 5 [(0, .ref k), (1, .int 4)] := hl
  refine lv_aload_n hx hb dX5_both_0 rfl (lv_at hl 0 rfl) ?_
  refine lv_iload_n hx hb dX5_both_1 rfl (lv_at hl 1 rfl) ?_
  refine kJi (wr := []) (va_runV (As := [.int 4]) (rest := []) ⟨hx, hb, hml, hown, hT⟩ (c_X5_comparedG4 l D cI aK aV k k0 s.heap.size c1 c2 c3 c4 c5 c6 c7 c0 4 (by first | omega | (simp only [zl_4] <;> omega) | decide | assumption | rfl)) (cwV 1 hT (gV_in mw_468 mw_465 mw_467 mw_p1_7 mw_6) rfl rfl rfl (by decide +kernel) ⟨Nat.le_of_ble_eq_true rfl, Nat.le_of_ble_eq_true rfl⟩) (kRecvX (q0 := 0) (ci := 5) hK hP hD hN hXS hS hA rfl rfl [0, 1] rfl (by decide)) rfl rfl hl.1 rfl (lv_room (Nat.le_of_ble_eq_true rfl)) dX5_both_2 ⟨Nat.le_of_ble_eq_true rfl, Nat.le_of_ble_eq_true rfl⟩) hP hD hS hA [0, 1] [] rfl rfl (by decide) (by decide) ?_
  clear hP hD hS
  intro r_1 u_5 H locs w_2 hP hD hS
  obtain ⟨sc2_3, sc3_4⟩ := u_5
  replace hP : va_P D vwCl [(k, .inr (5, [.ref k0, .int c1, .int sc2_3, .int sc3_4, .int c4, .int c5, .int c6, .int c7])), (k0, .inl (cI, 50, .inl c0))] H := hP
  replace hD : va_D A [(k, .inr (5, [.ref k0, .int c1, .int sc2_3, .int sc3_4, .int c4, .int c5, .int c6, .int c7])), (k0, .inl (cI, 50, .inl c0))] := hD
  have lo_r_1 := k_lo r_1
  have hi_r_1 := k_hi r_1
  refine lv_istore_n (lv' := [(2, .int r_1), (0, .ref k), (1, .int 4)]) hx hb dX5_both_5 rfl hl (by decide) rfl ?_
  clear hl
  intro ls hl
  refine lv_iconst (v := 0) hx hb dX5_both_6 (by decide) ?_
  refine lv_istore_n (lv' := [(3, .int 0), (2, .int r_1), (0, .ref k), (1, .int 4)]) hx hb dX5_both_7 rfl hl (by decide) rfl ?_
  clear hl
  intro ls hl
  have hloop_8 : ∀ (fu_ : Nat) (l8_2 : Int32) (l8_3 : Int32) (f8_k2 : Int32) (f8_k3 : Int32), 0 ≤ l8_3.toInt → (50 - l8_3.toInt).toNat < fu_ → ∀ (ls : Array Slot) (H : Heap) (locs : List Loc), lv_has ls 5 [(3, .int l8_3), (2, .int l8_2), (0, .ref k), (1, .int 4)] → va_P D vwCl [(k, .inr (5, [.ref k0, .int c1, .int f8_k2, .int f8_k3, .int c4, .int c5, .int c6, .int c7])), (k0, .inl (cI, 50, .inl c0))] H → va_D A [(k, .inr (5, [.ref k0, .int c1, .int f8_k2, .int f8_k3, .int c4, .int c5, .int c6, .int c7])), (k0, .inl (cI, 50, .inl c0))] → va_S A s.heap H locs → W p l e ({ frames := 9, cells := 0, slots := 0, locals := 224 } : Room) s m args below meth c H locs 0 0 Q (F0 m 8 ls []) := by
    intro fu_; induction fu_ with
    | zero => intro l8_2 l8_3 f8_k2 f8_k3 i8_0 hm; exact absurd hm (by omega)
    | succ fu_ ih8 =>
        intro l8_2 l8_3 f8_k2 f8_k3 i8_0 hm ls H locs hl hP hD hS
        have lo_l8_2 := k_lo l8_2
        have hi_l8_2 := k_hi l8_2
        have lo_l8_3 := k_lo l8_3
        have hi_l8_3 := k_hi l8_3
        have lo_f8_k2 := k_lo f8_k2
        have hi_f8_k2 := k_hi f8_k2
        have lo_f8_k3 := k_lo f8_k3
        have hi_f8_k3 := k_hi f8_k3
        refine lv_iload_n hx hb dX5_both_8 rfl (lv_at hl 0 rfl) ?_
        refine lv_bipush (v := 50) hx hb dX5_both_9 (by decide) ?_
        refine b_icmp_ge hx hb rfl zl_50 (tgt := 64) dX5_both_11 (by decide) (fun c_6 => ?_) (fun c_6 => ?_)
        · refine lv_iload_n hx hb dX5_both_64 rfl (lv_at hl 1 rfl) ?_
          exact hRet (f8_k2, f8_k3) [0, 1] trivial hP hD (by decide) rfl hS rfl dX5_both_65
        · refine lv_aload_n hx hb dX5_both_14 rfl (lv_at hl 2 rfl) ?_
          refine kJi (wr := []) (va_runV (As := []) (rest := []) ⟨hx, hb, hml, hown, hT⟩ (c_X5_nextG l D cI aK aV k k0 H.size c1 f8_k2 f8_k3 c4 c5 c6 c7 c0) (cwV 0 hT (gV_in mw_484 mw_481 mw_483 mw_p1_11 mw_6) rfl rfl rfl (by decide +kernel) ⟨Nat.le_of_ble_eq_true rfl, Nat.le_of_ble_eq_true rfl⟩) (kRecvX (q0 := 0) (ci := 5) hK hP hD hN hXS hS hA rfl rfl [0, 1] rfl (by decide)) rfl rfl hl.1 rfl (lv_room (Nat.le_of_ble_eq_true rfl)) dX5_both_15 ⟨Nat.le_of_ble_eq_true rfl, Nat.le_of_ble_eq_true rfl⟩) hP hD hS hA [0, 1] [] rfl rfl (by decide) (by decide) ?_
          clear hP hD hS
          intro r_7 u_9 H locs w_8 hP hD hS
          replace hP : va_P D vwCl [(k, .inr (5, [.ref k0, .int c1, .int f8_k2, .int f8_k3, .int c4, .int c5, .int c6, .int c7])), (k0, .inl (cI, 50, .inl c0))] H := hP
          replace hD : va_D A [(k, .inr (5, [.ref k0, .int c1, .int f8_k2, .int f8_k3, .int c4, .int c5, .int c6, .int c7])), (k0, .inl (cI, 50, .inl c0))] := hD
          have lo_r_7 := k_lo r_7
          have hi_r_7 := k_hi r_7
          refine lv_bipush (v := 38) hx hb dX5_both_18 (by decide) ?_
          refine b_icmp_ne hx hb rfl zl_38 (tgt := 64) dX5_both_20 (by decide) (fun c_10 => ?_) (fun c_10 => ?_)
          · refine lv_iload_n hx hb dX5_both_64 rfl (lv_at hl 1 rfl) ?_
            exact hRet (f8_k2, f8_k3) [0, 1] trivial hP hD (by decide) rfl hS rfl dX5_both_65
          · refine lv_aload_n hx hb dX5_both_23 rfl (lv_at hl 2 rfl) ?_
            refine lv_dup hx hb dX5_both_24 rfl ?_
            refine va_get (D := D) (ci := 5) (v := .int f8_k2) (C := RX5) (T := TX5) (N := 8) hx hb hT giX5 hown hK hP 0 rfl rfl 2 (by decide) (hT (Cond.fieldLink RX5 19 "DesertWire$Reader" "at" "I") mw_170) (fun _ h9 => h9) rfl dX5_both_25 ?_
            refine lv_iconst (v := 1) hx hb dX5_both_28 (by decide) ?_
            refine lv_iadd hx hb dX5_both_29 ?_
            refine lv_topi (fun v_11 ev_11 => ?_)
            have lo_v_11 := k_lo v_11
            have hi_v_11 := k_hi v_11
            refine va_put (D := D) (ci := 5) (v := .int v_11) (ty := .int) (C := RX5) (T := TX5) (N := 8) hx hb hT giX5 tyX5 tyX5_ok nmX5 hown hK hP hD hS 0 rfl rfl 2 (by decide) (hT (Cond.fieldLink RX5 19 "DesertWire$Reader" "at" "I") mw_170) (fun _ h9 => h9) rfl (by decide +kernel) rfl rfl (Nat.le_of_ble_eq_true rfl) dX5_both_30 ?_
            clear hP hD hS
            intro H locs hP hD hS
            replace hP : va_P D vwCl [(k, .inr (5, [.ref k0, .int c1, .int v_11, .int f8_k3, .int c4, .int c5, .int c6, .int c7])), (k0, .inl (cI, 50, .inl c0))] H := hP
            replace hD : va_D A [(k, .inr (5, [.ref k0, .int c1, .int v_11, .int f8_k3, .int c4, .int c5, .int c6, .int c7])), (k0, .inl (cI, 50, .inl c0))] := hD
            refine lv_aload_n hx hb dX5_both_33 rfl (lv_at hl 2 rfl) ?_
            refine lv_iload_n hx hb dX5_both_34 rfl (lv_at hl 3 rfl) ?_
            refine kJi (wr := []) (va_runV (As := [.int 4]) (rest := []) ⟨hx, hb, hml, hown, hT⟩ (c_X5_comparedG4 l D cI aK aV k k0 H.size c1 v_11 f8_k3 c4 c5 c6 c7 c0 4 (by first | omega | (simp only [zl_4] <;> omega) | decide | assumption | rfl)) (cwV 1 hT (gV_in mw_468 mw_465 mw_467 mw_p1_7 mw_6) rfl rfl rfl (by decide +kernel) ⟨Nat.le_of_ble_eq_true rfl, Nat.le_of_ble_eq_true rfl⟩) (kRecvX (q0 := 0) (ci := 5) hK hP hD hN hXS hS hA rfl rfl [0, 1] rfl (by decide)) rfl rfl hl.1 rfl (lv_room (Nat.le_of_ble_eq_true rfl)) dX5_both_35 ⟨Nat.le_of_ble_eq_true rfl, Nat.le_of_ble_eq_true rfl⟩) hP hD hS hA [0, 1] [] rfl rfl (by decide) (by decide) ?_
            clear hP hD hS
            intro r_12 u_16 H locs w_13 hP hD hS
            obtain ⟨sc2_14, sc3_15⟩ := u_16
            replace hP : va_P D vwCl [(k, .inr (5, [.ref k0, .int c1, .int sc2_14, .int sc3_15, .int c4, .int c5, .int c6, .int c7])), (k0, .inl (cI, 50, .inl c0))] H := hP
            replace hD : va_D A [(k, .inr (5, [.ref k0, .int c1, .int sc2_14, .int sc3_15, .int c4, .int c5, .int c6, .int c7])), (k0, .inl (cI, 50, .inl c0))] := hD
            have lo_r_12 := k_lo r_12
            have hi_r_12 := k_hi r_12
            refine lv_istore (lv' := [(4, .int r_12), (3, .int l8_3), (2, .int l8_2), (0, .ref k), (1, .int 4)]) hx hb dX5_both_38 hl (by decide) rfl ?_
            clear hl
            intro ls hl
            refine lv_iload_n hx hb dX5_both_40 rfl (lv_at hl 2 rfl) ?_
            refine b_if_eq hx hb rfl (tgt := 53) dX5_both_41 (by decide) (fun c_17 => ?_) (fun c_17 => ?_)
            · refine lv_iconst (v := 0) hx hb dX5_both_53 (by decide) ?_
              refine kJi (wr := [(k, .inr (5, [.ref k0, .int c1, .int sc2_14, .int sc3_15, .int c4, .int c5, .int c6, .int c7])), (k0, .inl (cI, 50, .inl c0))]) (va_runS (As := [.int 0]) (rest := []) ⟨hx, hb, hml, hown, hT⟩ (c_X5_truthG l D cI aK aV H.size 0) (cwS 1 hT (gS_in mw_502 mw_500 mw_501 mw_6) rfl rfl rfl (by decide +kernel) ⟨Nat.le_of_ble_eq_true rfl, Nat.le_of_ble_eq_true rfl⟩) (kStatX hK hP hD hN hXS hS hA [] rfl (by decide)) rfl rfl hl.1 rfl (lv_room (Nat.le_of_ble_eq_true rfl)) dX5_both_54 ⟨Nat.le_of_ble_eq_true rfl, Nat.le_of_ble_eq_true rfl⟩) hP hD hS hA [] [0, 1] rfl rfl (by decide) (by decide) ?_
              clear hP hD hS
              intro r_18 u_20 H locs w_19 hP hD hS
              replace hP : va_P D vwCl [(k, .inr (5, [.ref k0, .int c1, .int sc2_14, .int sc3_15, .int c4, .int c5, .int c6, .int c7])), (k0, .inl (cI, 50, .inl c0))] H := hP
              replace hD : va_D A [(k, .inr (5, [.ref k0, .int c1, .int sc2_14, .int sc3_15, .int c4, .int c5, .int c6, .int c7])), (k0, .inl (cI, 50, .inl c0))] := hD
              have lo_r_18 := k_lo r_18
              have hi_r_18 := k_hi r_18
              refine lv_istore_n (lv' := [(2, .int r_18), (4, .int r_12), (3, .int l8_3), (0, .ref k), (1, .int 4)]) hx hb dX5_both_57 rfl hl (by decide) rfl ?_
              clear hl
              intro ls hl
              obtain ⟨v_21, ev_21⟩ : ∃ y : Int32, y = l8_3 + 1 := ⟨_, rfl⟩
              have tv_21 : v_21.toInt = l8_3.toInt + 1 := by rw [ev_21]; exact k_addv rfl zl_1 (by omega) (by omega)
              refine lv_iinc (v := v_21) (lv' := [(3, .int v_21), (2, .int r_18), (4, .int r_12), (0, .ref k), (1, .int 4)]) hx hb dX5_both_58 hl (k := 2) rfl (by rw [ev_21]; rfl) (by decide) rfl ?_
              clear hl
              intro ls hl
              refine lv_goto (tgt := 8) hx hb dX5_both_61 (by decide) ?_
              exact ih8 r_18 v_21 sc2_14 sc3_15 (by first | omega | decide | assumption | rfl) (by omega) ls _ _ (lv_sub hl [0, 1, 3, 4] rfl) (hP.sub [0, 1] rfl) (hD.sub [0, 1] (by decide) rfl) hS
            · refine lv_iload hx hb dX5_both_44 (lv_at hl 0 rfl) ?_
              refine b_if_eq hx hb rfl (tgt := 53) dX5_both_46 (by decide) (fun c_22 => ?_) (fun c_22 => ?_)
              · refine lv_iconst (v := 0) hx hb dX5_both_53 (by decide) ?_
                refine kJi (wr := [(k, .inr (5, [.ref k0, .int c1, .int sc2_14, .int sc3_15, .int c4, .int c5, .int c6, .int c7])), (k0, .inl (cI, 50, .inl c0))]) (va_runS (As := [.int 0]) (rest := []) ⟨hx, hb, hml, hown, hT⟩ (c_X5_truthG l D cI aK aV H.size 0) (cwS 1 hT (gS_in mw_502 mw_500 mw_501 mw_6) rfl rfl rfl (by decide +kernel) ⟨Nat.le_of_ble_eq_true rfl, Nat.le_of_ble_eq_true rfl⟩) (kStatX hK hP hD hN hXS hS hA [] rfl (by decide)) rfl rfl hl.1 rfl (lv_room (Nat.le_of_ble_eq_true rfl)) dX5_both_54 ⟨Nat.le_of_ble_eq_true rfl, Nat.le_of_ble_eq_true rfl⟩) hP hD hS hA [] [0, 1] rfl rfl (by decide) (by decide) ?_
                clear hP hD hS
                intro r_23 u_25 H locs w_24 hP hD hS
                replace hP : va_P D vwCl [(k, .inr (5, [.ref k0, .int c1, .int sc2_14, .int sc3_15, .int c4, .int c5, .int c6, .int c7])), (k0, .inl (cI, 50, .inl c0))] H := hP
                replace hD : va_D A [(k, .inr (5, [.ref k0, .int c1, .int sc2_14, .int sc3_15, .int c4, .int c5, .int c6, .int c7])), (k0, .inl (cI, 50, .inl c0))] := hD
                have lo_r_23 := k_lo r_23
                have hi_r_23 := k_hi r_23
                refine lv_istore_n (lv' := [(2, .int r_23), (4, .int r_12), (3, .int l8_3), (0, .ref k), (1, .int 4)]) hx hb dX5_both_57 rfl hl (by decide) rfl ?_
                clear hl
                intro ls hl
                obtain ⟨v_26, ev_26⟩ : ∃ y : Int32, y = l8_3 + 1 := ⟨_, rfl⟩
                have tv_26 : v_26.toInt = l8_3.toInt + 1 := by rw [ev_26]; exact k_addv rfl zl_1 (by omega) (by omega)
                refine lv_iinc (v := v_26) (lv' := [(3, .int v_26), (2, .int r_23), (4, .int r_12), (0, .ref k), (1, .int 4)]) hx hb dX5_both_58 hl (k := 2) rfl (by rw [ev_26]; rfl) (by decide) rfl ?_
                clear hl
                intro ls hl
                refine lv_goto (tgt := 8) hx hb dX5_both_61 (by decide) ?_
                exact ih8 r_23 v_26 sc2_14 sc3_15 (by first | omega | decide | assumption | rfl) (by omega) ls _ _ (lv_sub hl [0, 1, 3, 4] rfl) (hP.sub [0, 1] rfl) (hD.sub [0, 1] (by decide) rfl) hS
              · refine lv_iconst (v := 1) hx hb dX5_both_49 (by decide) ?_
                refine lv_goto (tgt := 54) hx hb dX5_both_50 (by decide) ?_
                refine kJi (wr := [(k, .inr (5, [.ref k0, .int c1, .int sc2_14, .int sc3_15, .int c4, .int c5, .int c6, .int c7])), (k0, .inl (cI, 50, .inl c0))]) (va_runS (As := [.int 1]) (rest := []) ⟨hx, hb, hml, hown, hT⟩ (c_X5_truthG l D cI aK aV H.size 1) (cwS 1 hT (gS_in mw_502 mw_500 mw_501 mw_6) rfl rfl rfl (by decide +kernel) ⟨Nat.le_of_ble_eq_true rfl, Nat.le_of_ble_eq_true rfl⟩) (kStatX hK hP hD hN hXS hS hA [] rfl (by decide)) rfl rfl hl.1 rfl (lv_room (Nat.le_of_ble_eq_true rfl)) dX5_both_54 ⟨Nat.le_of_ble_eq_true rfl, Nat.le_of_ble_eq_true rfl⟩) hP hD hS hA [] [0, 1] rfl rfl (by decide) (by decide) ?_
                clear hP hD hS
                intro r_27 u_29 H locs w_28 hP hD hS
                replace hP : va_P D vwCl [(k, .inr (5, [.ref k0, .int c1, .int sc2_14, .int sc3_15, .int c4, .int c5, .int c6, .int c7])), (k0, .inl (cI, 50, .inl c0))] H := hP
                replace hD : va_D A [(k, .inr (5, [.ref k0, .int c1, .int sc2_14, .int sc3_15, .int c4, .int c5, .int c6, .int c7])), (k0, .inl (cI, 50, .inl c0))] := hD
                have lo_r_27 := k_lo r_27
                have hi_r_27 := k_hi r_27
                refine lv_istore_n (lv' := [(2, .int r_27), (4, .int r_12), (3, .int l8_3), (0, .ref k), (1, .int 4)]) hx hb dX5_both_57 rfl hl (by decide) rfl ?_
                clear hl
                intro ls hl
                obtain ⟨v_30, ev_30⟩ : ∃ y : Int32, y = l8_3 + 1 := ⟨_, rfl⟩
                have tv_30 : v_30.toInt = l8_3.toInt + 1 := by rw [ev_30]; exact k_addv rfl zl_1 (by omega) (by omega)
                refine lv_iinc (v := v_30) (lv' := [(3, .int v_30), (2, .int r_27), (4, .int r_12), (0, .ref k), (1, .int 4)]) hx hb dX5_both_58 hl (k := 2) rfl (by rw [ev_30]; rfl) (by decide) rfl ?_
                clear hl
                intro ls hl
                refine lv_goto (tgt := 8) hx hb dX5_both_61 (by decide) ?_
                exact ih8 r_27 v_30 sc2_14 sc3_15 (by first | omega | decide | assumption | rfl) (by omega) ls _ _ (lv_sub hl [0, 1, 3, 4] rfl) (hP.sub [0, 1] rfl) (hD.sub [0, 1] (by decide) rfl) hS
  exact hloop_8 _ r_1 0 sc2_3 sc3_4 (by first | omega | (simp only [zl_0] <;> omega) | decide | assumption | rfl) (Nat.lt_succ_self _) ls _ _ (lv_sub hl [0, 1, 2, 3] rfl) hP hD hS
theorem dX5_either_0 : decode cX5_either 0 = .ok (.aload_n 0, 1) := by decide +kernel
theorem dX5_either_1 : decode cX5_either 1 = .ok (.iload_n 1, 1) := by decide +kernel
theorem dX5_either_2 : decode cX5_either 2 = .ok (.invokevirtual 42, 3) := by decide +kernel
theorem dX5_either_5 : decode cX5_either 5 = .ok (.istore_n 2, 1) := by decide +kernel
theorem dX5_either_6 : decode cX5_either 6 = .ok (.iconst 0, 1) := by decide +kernel
theorem dX5_either_7 : decode cX5_either 7 = .ok (.istore_n 3, 1) := by decide +kernel
theorem dX5_either_8 : decode cX5_either 8 = .ok (.iload_n 3, 1) := by decide +kernel
theorem dX5_either_9 : decode cX5_either 9 = .ok (.bipush 50, 2) := by decide +kernel
theorem dX5_either_11 : decode cX5_either 11 = .ok (.if_icmp .ge 53, 3) := by decide +kernel
theorem dX5_either_14 : decode cX5_either 14 = .ok (.aload_n 0, 1) := by decide +kernel
theorem dX5_either_15 : decode cX5_either 15 = .ok (.invokevirtual 45, 3) := by decide +kernel
theorem dX5_either_18 : decode cX5_either 18 = .ok (.bipush 124, 2) := by decide +kernel
theorem dX5_either_20 : decode cX5_either 20 = .ok (.if_icmp .ne 44, 3) := by decide +kernel
theorem dX5_either_23 : decode cX5_either 23 = .ok (.aload_n 0, 1) := by decide +kernel
theorem dX5_either_24 : decode cX5_either 24 = .ok (.dup, 1) := by decide +kernel
theorem dX5_either_25 : decode cX5_either 25 = .ok (.getfield 19, 3) := by decide +kernel
theorem dX5_either_28 : decode cX5_either 28 = .ok (.iconst 1, 1) := by decide +kernel
theorem dX5_either_29 : decode cX5_either 29 = .ok (.iadd, 1) := by decide +kernel
theorem dX5_either_30 : decode cX5_either 30 = .ok (.putfield 19, 3) := by decide +kernel
theorem dX5_either_33 : decode cX5_either 33 = .ok (.aload_n 0, 1) := by decide +kernel
theorem dX5_either_34 : decode cX5_either 34 = .ok (.iload_n 1, 1) := by decide +kernel
theorem dX5_either_35 : decode cX5_either 35 = .ok (.invokevirtual 42, 3) := by decide +kernel
theorem dX5_either_38 : decode cX5_either 38 = .ok (.istore 4, 2) := by decide +kernel
theorem dX5_either_40 : decode cX5_either 40 = .ok (.iload_n 2, 1) := by decide +kernel
theorem dX5_either_41 : decode cX5_either 41 = .ok (.ifCond .ne 8, 3) := by decide +kernel
theorem dX5_either_44 : decode cX5_either 44 = .ok (.iload 4, 2) := by decide +kernel
theorem dX5_either_46 : decode cX5_either 46 = .ok (.ifCond .eq 7, 3) := by decide +kernel
theorem dX5_either_49 : decode cX5_either 49 = .ok (.iconst 1, 1) := by decide +kernel
theorem dX5_either_50 : decode cX5_either 50 = .ok (.goto 4, 3) := by decide +kernel
theorem dX5_either_53 : decode cX5_either 53 = .ok (.iconst 0, 1) := by decide +kernel
theorem dX5_either_54 : decode cX5_either 54 = .ok (.invokestatic 49, 3) := by decide +kernel
theorem dX5_either_57 : decode cX5_either 57 = .ok (.istore_n 2, 1) := by decide +kernel
theorem dX5_either_58 : decode cX5_either 58 = .ok (.iinc 3 1, 3) := by decide +kernel
theorem dX5_either_61 : decode cX5_either 61 = .ok (.goto (-53), 3) := by decide +kernel
theorem dX5_either_64 : decode cX5_either 64 = .ok (.iload_n 2, 1) := by decide +kernel
theorem dX5_either_65 : decode cX5_either 65 = .ok (.ireturn, 1) := by decide +kernel
set_option maxHeartbeats 4000000 in
set_option maxRecDepth 100000 in
theorem c_X5_eitherG4 (l : Launch) (D : va_G) (cI : ClassId) (aK aV : Nat → Nat) (k k0 : Nat) (sz : Nat) (c1 : Int32) (c2 : Int32) (c3 : Int32) (c4 : Int32) (c5 : Int32) (c6 : Int32) (c7 : Int32) (c0 : Nat → Int32) (a0 : Int32) (pre0 : a0 = 4) : Met l yX5_either (gW yX5_either cX5_either 5 (some .int)) ({ frames := 10, cells := 0, slots := 0, locals := 248 } : Room) (kPreX D cI aK aV [.ref k, .int 4] [(k, .inr (5, [.ref k0, .int c1, .int c2, .int c3, .int c4, .int c5, .int c6, .int c7])), (k0, .inl (cI, 50, .inl c0))] sz) (va_Qi (fun (r : Int32) (u : Int32 × Int32) => True) (fun u t => kWd D cI (va_A [(k, .inr (5, [.ref k0, .int c1, .int c2, .int c3, .int c4, .int c5, .int c6, .int c7])), (k0, .inl (cI, 50, .inl c0))] sz) [(k, .inr (5, [.ref k0, .int c1, .int u.1, .int u.2, .int c4, .int c5, .int c6, .int c7])), (k0, .inl (cI, 50, .inl c0))] t) (va_A [(k, .inr (5, [.ref k0, .int c1, .int c2, .int c3, .int c4, .int c5, .int c6, .int c7])), (k0, .inl (cI, 50, .inl c0))] sz)) 0 0 (va_A [(k, .inr (5, [.ref k0, .int c1, .int c2, .int c3, .int c4, .int c5, .int c6, .int c7])), (k0, .inl (cI, 50, .inl c0))] sz) := by
  refine kMetIX (own := RX5) (by decide) rfl (Nat.le_of_ble_eq_true rfl) ?_
  intro p e s m args below meth c hx hb hT hown hname hml A Q hK hP hD hS hA hN hXS hRet ls hl
  subst pre0
  have hl : lv_has ls 5 [(0, .ref k), (1, .int 4)] := hl
  refine lv_aload_n hx hb dX5_either_0 rfl (lv_at hl 0 rfl) ?_
  refine lv_iload_n hx hb dX5_either_1 rfl (lv_at hl 1 rfl) ?_
  refine kJi (wr := []) (va_runV (As := [.int 4]) (rest := []) ⟨hx, hb, hml, hown, hT⟩ (c_X5_bothG4 l D cI aK aV k k0 s.heap.size c1 c2 c3 c4 c5 c6 c7 c0 4 (by first | omega | (simp only [zl_4] <;> omega) | decide | assumption | rfl)) (cwV 1 hT (gV_in mw_464 mw_461 mw_463 mw_p1_6 mw_6) rfl rfl rfl (by decide +kernel) ⟨Nat.le_of_ble_eq_true rfl, Nat.le_of_ble_eq_true rfl⟩) (kRecvX (q0 := 0) (ci := 5) hK hP hD hN hXS hS hA rfl rfl [0, 1] rfl (by decide)) rfl rfl hl.1 rfl (lv_room (Nat.le_of_ble_eq_true rfl)) dX5_either_2 ⟨Nat.le_of_ble_eq_true rfl, Nat.le_of_ble_eq_true rfl⟩) hP hD hS hA [0, 1] [] rfl rfl (by decide) (by decide) ?_
  clear hP hD hS
  intro r_1 u_5 H locs w_2 hP hD hS
  obtain ⟨sc2_3, sc3_4⟩ := u_5
  replace hP : va_P D vwCl [(k, .inr (5, [.ref k0, .int c1, .int sc2_3, .int sc3_4, .int c4, .int c5, .int c6, .int c7])), (k0, .inl (cI, 50, .inl c0))] H := hP
  replace hD : va_D A [(k, .inr (5, [.ref k0, .int c1, .int sc2_3, .int sc3_4, .int c4, .int c5, .int c6, .int c7])), (k0, .inl (cI, 50, .inl c0))] := hD
  have lo_r_1 := k_lo r_1
  have hi_r_1 := k_hi r_1
  refine lv_istore_n (lv' := [(2, .int r_1), (0, .ref k), (1, .int 4)]) hx hb dX5_either_5 rfl hl (by decide) rfl ?_
  clear hl
  intro ls hl
  refine lv_iconst (v := 0) hx hb dX5_either_6 (by decide) ?_
  refine lv_istore_n (lv' := [(3, .int 0), (2, .int r_1), (0, .ref k), (1, .int 4)]) hx hb dX5_either_7 rfl hl (by decide) rfl ?_
  clear hl
  intro ls hl
  have hloop_8 : ∀ (fu_ : Nat) (l8_2 : Int32) (l8_3 : Int32) (f8_k2 : Int32) (f8_k3 : Int32), 0 ≤ l8_3.toInt → (50 - l8_3.toInt).toNat < fu_ → ∀ (ls : Array Slot) (H : Heap) (locs : List Loc), lv_has ls 5 [(3, .int l8_3), (2, .int l8_2), (0, .ref k), (1, .int 4)] → va_P D vwCl [(k, .inr (5, [.ref k0, .int c1, .int f8_k2, .int f8_k3, .int c4, .int c5, .int c6, .int c7])), (k0, .inl (cI, 50, .inl c0))] H → va_D A [(k, .inr (5, [.ref k0, .int c1, .int f8_k2, .int f8_k3, .int c4, .int c5, .int c6, .int c7])), (k0, .inl (cI, 50, .inl c0))] → va_S A s.heap H locs → W p l e ({ frames := 10, cells := 0, slots := 0, locals := 248 } : Room) s m args below meth c H locs 0 0 Q (F0 m 8 ls []) := by
    intro fu_; induction fu_ with
    | zero => intro l8_2 l8_3 f8_k2 f8_k3 i8_0 hm; exact absurd hm (by omega)
    | succ fu_ ih8 =>
        intro l8_2 l8_3 f8_k2 f8_k3 i8_0 hm ls H locs hl hP hD hS
        have lo_l8_2 := k_lo l8_2
        have hi_l8_2 := k_hi l8_2
        have lo_l8_3 := k_lo l8_3
        have hi_l8_3 := k_hi l8_3
        have lo_f8_k2 := k_lo f8_k2
        have hi_f8_k2 := k_hi f8_k2
        have lo_f8_k3 := k_lo f8_k3
        have hi_f8_k3 := k_hi f8_k3
        refine lv_iload_n hx hb dX5_either_8 rfl (lv_at hl 0 rfl) ?_
        refine lv_bipush (v := 50) hx hb dX5_either_9 (by decide) ?_
        refine b_icmp_ge hx hb rfl zl_50 (tgt := 64) dX5_either_11 (by decide) (fun c_6 => ?_) (fun c_6 => ?_)
        · refine lv_iload_n hx hb dX5_either_64 rfl (lv_at hl 1 rfl) ?_
          exact hRet (f8_k2, f8_k3) [0, 1] trivial hP hD (by decide) rfl hS rfl dX5_either_65
        · refine lv_aload_n hx hb dX5_either_14 rfl (lv_at hl 2 rfl) ?_
          refine kJi (wr := []) (va_runV (As := []) (rest := []) ⟨hx, hb, hml, hown, hT⟩ (c_X5_nextG l D cI aK aV k k0 H.size c1 f8_k2 f8_k3 c4 c5 c6 c7 c0) (cwV 0 hT (gV_in mw_484 mw_481 mw_483 mw_p1_11 mw_6) rfl rfl rfl (by decide +kernel) ⟨Nat.le_of_ble_eq_true rfl, Nat.le_of_ble_eq_true rfl⟩) (kRecvX (q0 := 0) (ci := 5) hK hP hD hN hXS hS hA rfl rfl [0, 1] rfl (by decide)) rfl rfl hl.1 rfl (lv_room (Nat.le_of_ble_eq_true rfl)) dX5_either_15 ⟨Nat.le_of_ble_eq_true rfl, Nat.le_of_ble_eq_true rfl⟩) hP hD hS hA [0, 1] [] rfl rfl (by decide) (by decide) ?_
          clear hP hD hS
          intro r_7 u_9 H locs w_8 hP hD hS
          replace hP : va_P D vwCl [(k, .inr (5, [.ref k0, .int c1, .int f8_k2, .int f8_k3, .int c4, .int c5, .int c6, .int c7])), (k0, .inl (cI, 50, .inl c0))] H := hP
          replace hD : va_D A [(k, .inr (5, [.ref k0, .int c1, .int f8_k2, .int f8_k3, .int c4, .int c5, .int c6, .int c7])), (k0, .inl (cI, 50, .inl c0))] := hD
          have lo_r_7 := k_lo r_7
          have hi_r_7 := k_hi r_7
          refine lv_bipush (v := 124) hx hb dX5_either_18 (by decide) ?_
          refine b_icmp_ne hx hb rfl zl_124 (tgt := 64) dX5_either_20 (by decide) (fun c_10 => ?_) (fun c_10 => ?_)
          · refine lv_iload_n hx hb dX5_either_64 rfl (lv_at hl 1 rfl) ?_
            exact hRet (f8_k2, f8_k3) [0, 1] trivial hP hD (by decide) rfl hS rfl dX5_either_65
          · refine lv_aload_n hx hb dX5_either_23 rfl (lv_at hl 2 rfl) ?_
            refine lv_dup hx hb dX5_either_24 rfl ?_
            refine va_get (D := D) (ci := 5) (v := .int f8_k2) (C := RX5) (T := TX5) (N := 8) hx hb hT giX5 hown hK hP 0 rfl rfl 2 (by decide) (hT (Cond.fieldLink RX5 19 "DesertWire$Reader" "at" "I") mw_170) (fun _ h9 => h9) rfl dX5_either_25 ?_
            refine lv_iconst (v := 1) hx hb dX5_either_28 (by decide) ?_
            refine lv_iadd hx hb dX5_either_29 ?_
            refine lv_topi (fun v_11 ev_11 => ?_)
            have lo_v_11 := k_lo v_11
            have hi_v_11 := k_hi v_11
            refine va_put (D := D) (ci := 5) (v := .int v_11) (ty := .int) (C := RX5) (T := TX5) (N := 8) hx hb hT giX5 tyX5 tyX5_ok nmX5 hown hK hP hD hS 0 rfl rfl 2 (by decide) (hT (Cond.fieldLink RX5 19 "DesertWire$Reader" "at" "I") mw_170) (fun _ h9 => h9) rfl (by decide +kernel) rfl rfl (Nat.le_of_ble_eq_true rfl) dX5_either_30 ?_
            clear hP hD hS
            intro H locs hP hD hS
            replace hP : va_P D vwCl [(k, .inr (5, [.ref k0, .int c1, .int v_11, .int f8_k3, .int c4, .int c5, .int c6, .int c7])), (k0, .inl (cI, 50, .inl c0))] H := hP
            replace hD : va_D A [(k, .inr (5, [.ref k0, .int c1, .int v_11, .int f8_k3, .int c4, .int c5, .int c6, .int c7])), (k0, .inl (cI, 50, .inl c0))] := hD
            refine lv_aload_n hx hb dX5_either_33 rfl (lv_at hl 2 rfl) ?_
            refine lv_iload_n hx hb dX5_either_34 rfl (lv_at hl 3 rfl) ?_
            refine kJi (wr := []) (va_runV (As := [.int 4]) (rest := []) ⟨hx, hb, hml, hown, hT⟩ (c_X5_bothG4 l D cI aK aV k k0 H.size c1 v_11 f8_k3 c4 c5 c6 c7 c0 4 (by first | omega | (simp only [zl_4] <;> omega) | decide | assumption | rfl)) (cwV 1 hT (gV_in mw_464 mw_461 mw_463 mw_p1_6 mw_6) rfl rfl rfl (by decide +kernel) ⟨Nat.le_of_ble_eq_true rfl, Nat.le_of_ble_eq_true rfl⟩) (kRecvX (q0 := 0) (ci := 5) hK hP hD hN hXS hS hA rfl rfl [0, 1] rfl (by decide)) rfl rfl hl.1 rfl (lv_room (Nat.le_of_ble_eq_true rfl)) dX5_either_35 ⟨Nat.le_of_ble_eq_true rfl, Nat.le_of_ble_eq_true rfl⟩) hP hD hS hA [0, 1] [] rfl rfl (by decide) (by decide) ?_
            clear hP hD hS
            intro r_12 u_16 H locs w_13 hP hD hS
            obtain ⟨sc2_14, sc3_15⟩ := u_16
            replace hP : va_P D vwCl [(k, .inr (5, [.ref k0, .int c1, .int sc2_14, .int sc3_15, .int c4, .int c5, .int c6, .int c7])), (k0, .inl (cI, 50, .inl c0))] H := hP
            replace hD : va_D A [(k, .inr (5, [.ref k0, .int c1, .int sc2_14, .int sc3_15, .int c4, .int c5, .int c6, .int c7])), (k0, .inl (cI, 50, .inl c0))] := hD
            have lo_r_12 := k_lo r_12
            have hi_r_12 := k_hi r_12
            refine lv_istore (lv' := [(4, .int r_12), (3, .int l8_3), (2, .int l8_2), (0, .ref k), (1, .int 4)]) hx hb dX5_either_38 hl (by decide) rfl ?_
            clear hl
            intro ls hl
            refine lv_iload_n hx hb dX5_either_40 rfl (lv_at hl 2 rfl) ?_
            refine b_if_ne hx hb rfl (tgt := 49) dX5_either_41 (by decide) (fun c_17 => ?_) (fun c_17 => ?_)
            · refine lv_iconst (v := 1) hx hb dX5_either_49 (by decide) ?_
              refine lv_goto (tgt := 54) hx hb dX5_either_50 (by decide) ?_
              refine kJi (wr := [(k, .inr (5, [.ref k0, .int c1, .int sc2_14, .int sc3_15, .int c4, .int c5, .int c6, .int c7])), (k0, .inl (cI, 50, .inl c0))]) (va_runS (As := [.int 1]) (rest := []) ⟨hx, hb, hml, hown, hT⟩ (c_X5_truthG l D cI aK aV H.size 1) (cwS 1 hT (gS_in mw_502 mw_500 mw_501 mw_6) rfl rfl rfl (by decide +kernel) ⟨Nat.le_of_ble_eq_true rfl, Nat.le_of_ble_eq_true rfl⟩) (kStatX hK hP hD hN hXS hS hA [] rfl (by decide)) rfl rfl hl.1 rfl (lv_room (Nat.le_of_ble_eq_true rfl)) dX5_either_54 ⟨Nat.le_of_ble_eq_true rfl, Nat.le_of_ble_eq_true rfl⟩) hP hD hS hA [] [0, 1] rfl rfl (by decide) (by decide) ?_
              clear hP hD hS
              intro r_18 u_20 H locs w_19 hP hD hS
              replace hP : va_P D vwCl [(k, .inr (5, [.ref k0, .int c1, .int sc2_14, .int sc3_15, .int c4, .int c5, .int c6, .int c7])), (k0, .inl (cI, 50, .inl c0))] H := hP
              replace hD : va_D A [(k, .inr (5, [.ref k0, .int c1, .int sc2_14, .int sc3_15, .int c4, .int c5, .int c6, .int c7])), (k0, .inl (cI, 50, .inl c0))] := hD
              have lo_r_18 := k_lo r_18
              have hi_r_18 := k_hi r_18
              refine lv_istore_n (lv' := [(2, .int r_18), (4, .int r_12), (3, .int l8_3), (0, .ref k), (1, .int 4)]) hx hb dX5_either_57 rfl hl (by decide) rfl ?_
              clear hl
              intro ls hl
              obtain ⟨v_21, ev_21⟩ : ∃ y : Int32, y = l8_3 + 1 := ⟨_, rfl⟩
              have tv_21 : v_21.toInt = l8_3.toInt + 1 := by rw [ev_21]; exact k_addv rfl zl_1 (by omega) (by omega)
              refine lv_iinc (v := v_21) (lv' := [(3, .int v_21), (2, .int r_18), (4, .int r_12), (0, .ref k), (1, .int 4)]) hx hb dX5_either_58 hl (k := 2) rfl (by rw [ev_21]; rfl) (by decide) rfl ?_
              clear hl
              intro ls hl
              refine lv_goto (tgt := 8) hx hb dX5_either_61 (by decide) ?_
              exact ih8 r_18 v_21 sc2_14 sc3_15 (by first | omega | decide | assumption | rfl) (by omega) ls _ _ (lv_sub hl [0, 1, 3, 4] rfl) (hP.sub [0, 1] rfl) (hD.sub [0, 1] (by decide) rfl) hS
            · refine lv_iload hx hb dX5_either_44 (lv_at hl 0 rfl) ?_
              refine b_if_eq hx hb rfl (tgt := 53) dX5_either_46 (by decide) (fun c_22 => ?_) (fun c_22 => ?_)
              · refine lv_iconst (v := 0) hx hb dX5_either_53 (by decide) ?_
                refine kJi (wr := [(k, .inr (5, [.ref k0, .int c1, .int sc2_14, .int sc3_15, .int c4, .int c5, .int c6, .int c7])), (k0, .inl (cI, 50, .inl c0))]) (va_runS (As := [.int 0]) (rest := []) ⟨hx, hb, hml, hown, hT⟩ (c_X5_truthG l D cI aK aV H.size 0) (cwS 1 hT (gS_in mw_502 mw_500 mw_501 mw_6) rfl rfl rfl (by decide +kernel) ⟨Nat.le_of_ble_eq_true rfl, Nat.le_of_ble_eq_true rfl⟩) (kStatX hK hP hD hN hXS hS hA [] rfl (by decide)) rfl rfl hl.1 rfl (lv_room (Nat.le_of_ble_eq_true rfl)) dX5_either_54 ⟨Nat.le_of_ble_eq_true rfl, Nat.le_of_ble_eq_true rfl⟩) hP hD hS hA [] [0, 1] rfl rfl (by decide) (by decide) ?_
                clear hP hD hS
                intro r_23 u_25 H locs w_24 hP hD hS
                replace hP : va_P D vwCl [(k, .inr (5, [.ref k0, .int c1, .int sc2_14, .int sc3_15, .int c4, .int c5, .int c6, .int c7])), (k0, .inl (cI, 50, .inl c0))] H := hP
                replace hD : va_D A [(k, .inr (5, [.ref k0, .int c1, .int sc2_14, .int sc3_15, .int c4, .int c5, .int c6, .int c7])), (k0, .inl (cI, 50, .inl c0))] := hD
                have lo_r_23 := k_lo r_23
                have hi_r_23 := k_hi r_23
                refine lv_istore_n (lv' := [(2, .int r_23), (4, .int r_12), (3, .int l8_3), (0, .ref k), (1, .int 4)]) hx hb dX5_either_57 rfl hl (by decide) rfl ?_
                clear hl
                intro ls hl
                obtain ⟨v_26, ev_26⟩ : ∃ y : Int32, y = l8_3 + 1 := ⟨_, rfl⟩
                have tv_26 : v_26.toInt = l8_3.toInt + 1 := by rw [ev_26]; exact k_addv rfl zl_1 (by omega) (by omega)
                refine lv_iinc (v := v_26) (lv' := [(3, .int v_26), (2, .int r_23), (4, .int r_12), (0, .ref k), (1, .int 4)]) hx hb dX5_either_58 hl (k := 2) rfl (by rw [ev_26]; rfl) (by decide) rfl ?_
                clear hl
                intro ls hl
                refine lv_goto (tgt := 8) hx hb dX5_either_61 (by decide) ?_
                exact ih8 r_23 v_26 sc2_14 sc3_15 (by first | omega | decide | assumption | rfl) (by omega) ls _ _ (lv_sub hl [0, 1, 3, 4] rfl) (hP.sub [0, 1] rfl) (hD.sub [0, 1] (by decide) rfl) hS
              · refine lv_iconst (v := 1) hx hb dX5_either_49 (by decide) ?_
                refine lv_goto (tgt := 54) hx hb dX5_either_50 (by decide) ?_
                refine kJi (wr := [(k, .inr (5, [.ref k0, .int c1, .int sc2_14, .int sc3_15, .int c4, .int c5, .int c6, .int c7])), (k0, .inl (cI, 50, .inl c0))]) (va_runS (As := [.int 1]) (rest := []) ⟨hx, hb, hml, hown, hT⟩ (c_X5_truthG l D cI aK aV H.size 1) (cwS 1 hT (gS_in mw_502 mw_500 mw_501 mw_6) rfl rfl rfl (by decide +kernel) ⟨Nat.le_of_ble_eq_true rfl, Nat.le_of_ble_eq_true rfl⟩) (kStatX hK hP hD hN hXS hS hA [] rfl (by decide)) rfl rfl hl.1 rfl (lv_room (Nat.le_of_ble_eq_true rfl)) dX5_either_54 ⟨Nat.le_of_ble_eq_true rfl, Nat.le_of_ble_eq_true rfl⟩) hP hD hS hA [] [0, 1] rfl rfl (by decide) (by decide) ?_
                clear hP hD hS
                intro r_27 u_29 H locs w_28 hP hD hS
                replace hP : va_P D vwCl [(k, .inr (5, [.ref k0, .int c1, .int sc2_14, .int sc3_15, .int c4, .int c5, .int c6, .int c7])), (k0, .inl (cI, 50, .inl c0))] H := hP
                replace hD : va_D A [(k, .inr (5, [.ref k0, .int c1, .int sc2_14, .int sc3_15, .int c4, .int c5, .int c6, .int c7])), (k0, .inl (cI, 50, .inl c0))] := hD
                have lo_r_27 := k_lo r_27
                have hi_r_27 := k_hi r_27
                refine lv_istore_n (lv' := [(2, .int r_27), (4, .int r_12), (3, .int l8_3), (0, .ref k), (1, .int 4)]) hx hb dX5_either_57 rfl hl (by decide) rfl ?_
                clear hl
                intro ls hl
                obtain ⟨v_30, ev_30⟩ : ∃ y : Int32, y = l8_3 + 1 := ⟨_, rfl⟩
                have tv_30 : v_30.toInt = l8_3.toInt + 1 := by rw [ev_30]; exact k_addv rfl zl_1 (by omega) (by omega)
                refine lv_iinc (v := v_30) (lv' := [(3, .int v_30), (2, .int r_27), (4, .int r_12), (0, .ref k), (1, .int 4)]) hx hb dX5_either_58 hl (k := 2) rfl (by rw [ev_30]; rfl) (by decide) rfl ?_
                clear hl
                intro ls hl
                refine lv_goto (tgt := 8) hx hb dX5_either_61 (by decide) ?_
                exact ih8 r_27 v_30 sc2_14 sc3_15 (by first | omega | decide | assumption | rfl) (by omega) ls _ _ (lv_sub hl [0, 1, 3, 4] rfl) (hP.sub [0, 1] rfl) (hD.sub [0, 1] (by decide) rfl) hS
  exact hloop_8 _ r_1 0 sc2_3 sc3_4 (by first | omega | (simp only [zl_0] <;> omega) | decide | assumption | rfl) (Nat.lt_succ_self _) ls _ _ (lv_sub hl [0, 1, 2, 3] rfl) hP hD hS
theorem dX5_opened_0 : decode cX5_opened 0 = .ok (.aload_n 0, 1) := by decide +kernel
theorem dX5_opened_1 : decode cX5_opened 1 = .ok (.dup, 1) := by decide +kernel
theorem dX5_opened_2 : decode cX5_opened 2 = .ok (.getfield 19, 3) := by decide +kernel
theorem dX5_opened_5 : decode cX5_opened 5 = .ok (.iconst 1, 1) := by decide +kernel
theorem dX5_opened_6 : decode cX5_opened 6 = .ok (.iadd, 1) := by decide +kernel
theorem dX5_opened_7 : decode cX5_opened 7 = .ok (.putfield 19, 3) := by decide +kernel
theorem dX5_opened_10 : decode cX5_opened 10 = .ok (.iload_n 1, 1) := by decide +kernel
theorem dX5_opened_11 : decode cX5_opened 11 = .ok (.bipush 45, 2) := by decide +kernel
theorem dX5_opened_13 : decode cX5_opened 13 = .ok (.if_icmp .ne 10, 3) := by decide +kernel
theorem dX5_opened_16 : decode cX5_opened 16 = .ok (.aload_n 0, 1) := by decide +kernel
theorem dX5_opened_17 : decode cX5_opened 17 = .ok (.iload_n 2, 1) := by decide +kernel
theorem dX5_opened_18 : decode cX5_opened 18 = .ok (.invokevirtual 62, 3) := by decide +kernel
theorem dX5_opened_21 : decode cX5_opened 21 = .ok (.ineg, 1) := by decide +kernel
theorem dX5_opened_22 : decode cX5_opened 22 = .ok (.ireturn, 1) := by decide +kernel
theorem dX5_opened_23 : decode cX5_opened 23 = .ok (.iload_n 1, 1) := by decide +kernel
theorem dX5_opened_24 : decode cX5_opened 24 = .ok (.bipush 33, 2) := by decide +kernel
theorem dX5_opened_26 : decode cX5_opened 26 = .ok (.if_icmp .ne 20, 3) := by decide +kernel
theorem dX5_opened_29 : decode cX5_opened 29 = .ok (.aload_n 0, 1) := by decide +kernel
theorem dX5_opened_30 : decode cX5_opened 30 = .ok (.iload_n 2, 1) := by decide +kernel
theorem dX5_opened_31 : decode cX5_opened 31 = .ok (.invokevirtual 62, 3) := by decide +kernel
theorem dX5_opened_34 : decode cX5_opened 34 = .ok (.ifCond .ne 7, 3) := by decide +kernel
theorem dX5_opened_37 : decode cX5_opened 37 = .ok (.iconst 1, 1) := by decide +kernel
theorem dX5_opened_38 : decode cX5_opened 38 = .ok (.goto 4, 3) := by decide +kernel
theorem dX5_opened_41 : decode cX5_opened 41 = .ok (.iconst 0, 1) := by decide +kernel
theorem dX5_opened_42 : decode cX5_opened 42 = .ok (.invokestatic 49, 3) := by decide +kernel
theorem dX5_opened_45 : decode cX5_opened 45 = .ok (.ireturn, 1) := by decide +kernel
theorem dX5_opened_46 : decode cX5_opened 46 = .ok (.aload_n 0, 1) := by decide +kernel
theorem dX5_opened_47 : decode cX5_opened 47 = .ok (.iload_n 2, 1) := by decide +kernel
theorem dX5_opened_48 : decode cX5_opened 48 = .ok (.invokevirtual 38, 3) := by decide +kernel
theorem dX5_opened_51 : decode cX5_opened 51 = .ok (.istore_n 3, 1) := by decide +kernel
theorem dX5_opened_52 : decode cX5_opened 52 = .ok (.aload_n 0, 1) := by decide +kernel
theorem dX5_opened_53 : decode cX5_opened 53 = .ok (.invokevirtual 45, 3) := by decide +kernel
theorem dX5_opened_56 : decode cX5_opened 56 = .ok (.bipush 41, 2) := by decide +kernel
theorem dX5_opened_58 : decode cX5_opened 58 = .ok (.if_icmp .eq 8, 3) := by decide +kernel
theorem dX5_opened_61 : decode cX5_opened 61 = .ok (.aload_n 0, 1) := by decide +kernel
theorem dX5_opened_62 : decode cX5_opened 62 = .ok (.invokevirtual 72, 3) := by decide +kernel
theorem dX5_opened_65 : decode cX5_opened 65 = .ok (.ireturn, 1) := by decide +kernel
theorem dX5_opened_66 : decode cX5_opened 66 = .ok (.aload_n 0, 1) := by decide +kernel
theorem dX5_opened_67 : decode cX5_opened 67 = .ok (.dup, 1) := by decide +kernel
theorem dX5_opened_68 : decode cX5_opened 68 = .ok (.getfield 19, 3) := by decide +kernel
theorem dX5_opened_71 : decode cX5_opened 71 = .ok (.iconst 1, 1) := by decide +kernel
theorem dX5_opened_72 : decode cX5_opened 72 = .ok (.iadd, 1) := by decide +kernel
theorem dX5_opened_73 : decode cX5_opened 73 = .ok (.putfield 19, 3) := by decide +kernel
theorem dX5_opened_76 : decode cX5_opened 76 = .ok (.iload_n 3, 1) := by decide +kernel
theorem dX5_opened_77 : decode cX5_opened 77 = .ok (.ireturn, 1) := by decide +kernel
set_option maxHeartbeats 4000000 in
set_option maxRecDepth 100000 in
theorem c_X5_openedG4 (l : Launch) (D : va_G) (cI : ClassId) (aK aV : Nat → Nat) (k k0 : Nat) (sz : Nat) (c1 : Int32) (c2 : Int32) (c3 : Int32) (c4 : Int32) (c5 : Int32) (c6 : Int32) (c7 : Int32) (c0 : Nat → Int32) (a0 : Int32) (a1 : Int32) (pre0 : a1 = 4) : Met l yX5_opened (gW yX5_opened cX5_opened 4 (some .int)) ({ frames := 11, cells := 0, slots := 0, locals := 272 } : Room) (kPreX D cI aK aV [.ref k, .int a0, .int 4] [(k, .inr (5, [.ref k0, .int c1, .int c2, .int c3, .int c4, .int c5, .int c6, .int c7])), (k0, .inl (cI, 50, .inl c0))] sz) (va_Qi (fun (r : Int32) (u : Int32 × Int32) => True) (fun u t => kWd D cI (va_A [(k, .inr (5, [.ref k0, .int c1, .int c2, .int c3, .int c4, .int c5, .int c6, .int c7])), (k0, .inl (cI, 50, .inl c0))] sz) [(k, .inr (5, [.ref k0, .int c1, .int u.1, .int u.2, .int c4, .int c5, .int c6, .int c7])), (k0, .inl (cI, 50, .inl c0))] t) (va_A [(k, .inr (5, [.ref k0, .int c1, .int c2, .int c3, .int c4, .int c5, .int c6, .int c7])), (k0, .inl (cI, 50, .inl c0))] sz)) 0 0 (va_A [(k, .inr (5, [.ref k0, .int c1, .int c2, .int c3, .int c4, .int c5, .int c6, .int c7])), (k0, .inl (cI, 50, .inl c0))] sz) := by
  refine kMetIX (own := RX5) (by decide) rfl (Nat.le_of_ble_eq_true rfl) ?_
  intro p e s m args below meth c hx hb hT hown hname hml A Q hK hP hD hS hA hN hXS hRet ls hl
  subst pre0
  have hl : lv_has ls 4 [(0, .ref k), (1, .int a0), (2, .int 4)] := hl
  have lo_a0 := k_lo a0
  have hi_a0 := k_hi a0
  have lo_c2 := k_lo c2
  have hi_c2 := k_hi c2
  refine lv_aload_n hx hb dX5_opened_0 rfl (lv_at hl 0 rfl) ?_
  refine lv_dup hx hb dX5_opened_1 rfl ?_
  refine va_get (D := D) (ci := 5) (v := .int c2) (C := RX5) (T := TX5) (N := 8) hx hb hT giX5 hown hK hP 0 rfl rfl 2 (by decide) (hT (Cond.fieldLink RX5 19 "DesertWire$Reader" "at" "I") mw_170) (fun _ h9 => h9) rfl dX5_opened_2 ?_
  refine lv_iconst (v := 1) hx hb dX5_opened_5 (by decide) ?_
  refine lv_iadd hx hb dX5_opened_6 ?_
  refine lv_topi (fun v_1 ev_1 => ?_)
  have lo_v_1 := k_lo v_1
  have hi_v_1 := k_hi v_1
  refine va_put (D := D) (ci := 5) (v := .int v_1) (ty := .int) (C := RX5) (T := TX5) (N := 8) hx hb hT giX5 tyX5 tyX5_ok nmX5 hown hK hP hD hS 0 rfl rfl 2 (by decide) (hT (Cond.fieldLink RX5 19 "DesertWire$Reader" "at" "I") mw_170) (fun _ h9 => h9) rfl (by decide +kernel) rfl rfl (Nat.le_of_ble_eq_true rfl) dX5_opened_7 ?_
  clear hP hD hS
  intro H locs hP hD hS
  replace hP : va_P D vwCl [(k, .inr (5, [.ref k0, .int c1, .int v_1, .int c3, .int c4, .int c5, .int c6, .int c7])), (k0, .inl (cI, 50, .inl c0))] H := hP
  replace hD : va_D A [(k, .inr (5, [.ref k0, .int c1, .int v_1, .int c3, .int c4, .int c5, .int c6, .int c7])), (k0, .inl (cI, 50, .inl c0))] := hD
  refine lv_iload_n hx hb dX5_opened_10 rfl (lv_at hl 1 rfl) ?_
  refine lv_bipush (v := 45) hx hb dX5_opened_11 (by decide) ?_
  refine b_icmp_ne hx hb rfl zl_45 (tgt := 23) dX5_opened_13 (by decide) (fun c_2 => ?_) (fun c_2 => ?_)
  · refine lv_iload_n hx hb dX5_opened_23 rfl (lv_at hl 1 rfl) ?_
    refine lv_bipush (v := 33) hx hb dX5_opened_24 (by decide) ?_
    refine b_icmp_ne hx hb rfl zl_33 (tgt := 46) dX5_opened_26 (by decide) (fun c_3 => ?_) (fun c_3 => ?_)
    · refine lv_aload_n hx hb dX5_opened_46 rfl (lv_at hl 0 rfl) ?_
      refine lv_iload_n hx hb dX5_opened_47 rfl (lv_at hl 2 rfl) ?_
      refine kJi (wr := []) (va_runV (As := [.int 4]) (rest := []) ⟨hx, hb, hml, hown, hT⟩ (c_X5_eitherG4 l D cI aK aV k k0 H.size c1 v_1 c3 c4 c5 c6 c7 c0 4 (by first | omega | (simp only [zl_4] <;> omega) | decide | assumption | rfl)) (cwV 1 hT (gV_in mw_460 mw_457 mw_459 mw_p1_5 mw_6) rfl rfl rfl (by decide +kernel) ⟨Nat.le_of_ble_eq_true rfl, Nat.le_of_ble_eq_true rfl⟩) (kRecvX (q0 := 0) (ci := 5) hK hP hD hN hXS hS hA rfl rfl [0, 1] rfl (by decide)) rfl rfl hl.1 rfl (lv_room (Nat.le_of_ble_eq_true rfl)) dX5_opened_48 ⟨Nat.le_of_ble_eq_true rfl, Nat.le_of_ble_eq_true rfl⟩) hP hD hS hA [0, 1] [] rfl rfl (by decide) (by decide) ?_
      clear hP hD hS
      intro r_4 u_8 H locs w_5 hP hD hS
      obtain ⟨sc2_6, sc3_7⟩ := u_8
      replace hP : va_P D vwCl [(k, .inr (5, [.ref k0, .int c1, .int sc2_6, .int sc3_7, .int c4, .int c5, .int c6, .int c7])), (k0, .inl (cI, 50, .inl c0))] H := hP
      replace hD : va_D A [(k, .inr (5, [.ref k0, .int c1, .int sc2_6, .int sc3_7, .int c4, .int c5, .int c6, .int c7])), (k0, .inl (cI, 50, .inl c0))] := hD
      have lo_sc2_6 := k_lo sc2_6
      have hi_sc2_6 := k_hi sc2_6
      have lo_r_4 := k_lo r_4
      have hi_r_4 := k_hi r_4
      refine lv_istore_n (lv' := [(3, .int r_4), (0, .ref k), (1, .int a0), (2, .int 4)]) hx hb dX5_opened_51 rfl hl (by decide) rfl ?_
      clear hl
      intro ls hl
      refine lv_aload_n hx hb dX5_opened_52 rfl (lv_at hl 1 rfl) ?_
      refine kJi (wr := []) (va_runV (As := []) (rest := []) ⟨hx, hb, hml, hown, hT⟩ (c_X5_nextG l D cI aK aV k k0 H.size c1 sc2_6 sc3_7 c4 c5 c6 c7 c0) (cwV 0 hT (gV_in mw_484 mw_481 mw_483 mw_p1_11 mw_6) rfl rfl rfl (by decide +kernel) ⟨Nat.le_of_ble_eq_true rfl, Nat.le_of_ble_eq_true rfl⟩) (kRecvX (q0 := 0) (ci := 5) hK hP hD hN hXS hS hA rfl rfl [0, 1] rfl (by decide)) rfl rfl hl.1 rfl (lv_room (Nat.le_of_ble_eq_true rfl)) dX5_opened_53 ⟨Nat.le_of_ble_eq_true rfl, Nat.le_of_ble_eq_true rfl⟩) hP hD hS hA [0, 1] [] rfl rfl (by decide) (by decide) ?_
      clear hP hD hS
      intro r_9 u_11 H locs w_10 hP hD hS
      replace hP : va_P D vwCl [(k, .inr (5, [.ref k0, .int c1, .int sc2_6, .int sc3_7, .int c4, .int c5, .int c6, .int c7])), (k0, .inl (cI, 50, .inl c0))] H := hP
      replace hD : va_D A [(k, .inr (5, [.ref k0, .int c1, .int sc2_6, .int sc3_7, .int c4, .int c5, .int c6, .int c7])), (k0, .inl (cI, 50, .inl c0))] := hD
      have lo_r_9 := k_lo r_9
      have hi_r_9 := k_hi r_9
      refine lv_bipush (v := 41) hx hb dX5_opened_56 (by decide) ?_
      refine b_icmp_eq hx hb rfl zl_41 (tgt := 66) dX5_opened_58 (by decide) (fun c_12 => ?_) (fun c_12 => ?_)
      · refine lv_aload_n hx hb dX5_opened_66 rfl (lv_at hl 1 rfl) ?_
        refine lv_dup hx hb dX5_opened_67 rfl ?_
        refine va_get (D := D) (ci := 5) (v := .int sc2_6) (C := RX5) (T := TX5) (N := 8) hx hb hT giX5 hown hK hP 0 rfl rfl 2 (by decide) (hT (Cond.fieldLink RX5 19 "DesertWire$Reader" "at" "I") mw_170) (fun _ h9 => h9) rfl dX5_opened_68 ?_
        refine lv_iconst (v := 1) hx hb dX5_opened_71 (by decide) ?_
        refine lv_iadd hx hb dX5_opened_72 ?_
        refine lv_topi (fun v_13 ev_13 => ?_)
        have lo_v_13 := k_lo v_13
        have hi_v_13 := k_hi v_13
        refine va_put (D := D) (ci := 5) (v := .int v_13) (ty := .int) (C := RX5) (T := TX5) (N := 8) hx hb hT giX5 tyX5 tyX5_ok nmX5 hown hK hP hD hS 0 rfl rfl 2 (by decide) (hT (Cond.fieldLink RX5 19 "DesertWire$Reader" "at" "I") mw_170) (fun _ h9 => h9) rfl (by decide +kernel) rfl rfl (Nat.le_of_ble_eq_true rfl) dX5_opened_73 ?_
        clear hP hD hS
        intro H locs hP hD hS
        replace hP : va_P D vwCl [(k, .inr (5, [.ref k0, .int c1, .int v_13, .int sc3_7, .int c4, .int c5, .int c6, .int c7])), (k0, .inl (cI, 50, .inl c0))] H := hP
        replace hD : va_D A [(k, .inr (5, [.ref k0, .int c1, .int v_13, .int sc3_7, .int c4, .int c5, .int c6, .int c7])), (k0, .inl (cI, 50, .inl c0))] := hD
        refine lv_iload_n hx hb dX5_opened_76 rfl (lv_at hl 0 rfl) ?_
        exact hRet (v_13, sc3_7) [0, 1] trivial hP hD (by decide) rfl hS rfl dX5_opened_77
      · refine lv_aload_n hx hb dX5_opened_61 rfl (lv_at hl 1 rfl) ?_
        refine kJi (wr := [(k0, .inl (cI, 50, .inl c0))]) (va_runV (As := []) (rest := []) ⟨hx, hb, hml, hown, hT⟩ (c_X5_failG l D cI aK aV k k0 H.size c1 sc2_6 sc3_7 c4 c5 c6 c7) (cwV 0 hT (gV_in mw_495 mw_492 mw_494 mw_p1_13 mw_6) rfl rfl rfl (by decide +kernel) ⟨Nat.le_of_ble_eq_true rfl, Nat.le_of_ble_eq_true rfl⟩) (kRecvX (q0 := 0) (ci := 5) hK hP hD hN hXS hS hA rfl rfl [0] rfl (by decide)) rfl rfl hl.1 rfl (lv_room (Nat.le_of_ble_eq_true rfl)) dX5_opened_62 ⟨Nat.le_of_ble_eq_true rfl, Nat.le_of_ble_eq_true rfl⟩) hP hD hS hA [0] [1] rfl rfl (by decide) (by decide) ?_
        clear hP hD hS
        intro r_14 sc3_16 H locs w_15 hP hD hS
        replace hP : va_P D vwCl [(k0, .inl (cI, 50, .inl c0)), (k, .inr (5, [.ref k0, .int c1, .int sc2_6, .int sc3_16, .int c4, .int c5, .int c6, .int c7]))] H := hP
        replace hD : va_D A [(k0, .inl (cI, 50, .inl c0)), (k, .inr (5, [.ref k0, .int c1, .int sc2_6, .int sc3_16, .int c4, .int c5, .int c6, .int c7]))] := hD
        have lo_sc3_16 := k_lo sc3_16
        have hi_sc3_16 := k_hi sc3_16
        have lo_r_14 := k_lo r_14
        have hi_r_14 := k_hi r_14
        exact hRet (sc2_6, sc3_16) [1, 0] trivial hP hD (by decide) rfl hS rfl dX5_opened_65
    · refine lv_aload_n hx hb dX5_opened_29 rfl (lv_at hl 0 rfl) ?_
      refine lv_iload_n hx hb dX5_opened_30 rfl (lv_at hl 2 rfl) ?_
      refine kJi (wr := []) (va_runV (As := [.int 4]) (rest := []) ⟨hx, hb, hml, hown, hT⟩ (c_X5_partG4 l D cI aK aV k k0 H.size c1 v_1 c3 c4 c5 c6 c7 c0 4 (by first | omega | (simp only [zl_4] <;> omega) | decide | assumption | rfl)) (cwV 1 hT (gV_in mw_480 mw_477 mw_479 mw_p1_10 mw_6) rfl rfl rfl (by decide +kernel) ⟨Nat.le_of_ble_eq_true rfl, Nat.le_of_ble_eq_true rfl⟩) (kRecvX (q0 := 0) (ci := 5) hK hP hD hN hXS hS hA rfl rfl [0, 1] rfl (by decide)) rfl rfl hl.1 rfl (lv_room (Nat.le_of_ble_eq_true rfl)) dX5_opened_31 ⟨Nat.le_of_ble_eq_true rfl, Nat.le_of_ble_eq_true rfl⟩) hP hD hS hA [0, 1] [] rfl rfl (by decide) (by decide) ?_
      clear hP hD hS
      intro r_17 u_21 H locs w_18 hP hD hS
      obtain ⟨sc2_19, sc3_20⟩ := u_21
      replace hP : va_P D vwCl [(k, .inr (5, [.ref k0, .int c1, .int sc2_19, .int sc3_20, .int c4, .int c5, .int c6, .int c7])), (k0, .inl (cI, 50, .inl c0))] H := hP
      replace hD : va_D A [(k, .inr (5, [.ref k0, .int c1, .int sc2_19, .int sc3_20, .int c4, .int c5, .int c6, .int c7])), (k0, .inl (cI, 50, .inl c0))] := hD
      have lo_r_17 := k_lo r_17
      have hi_r_17 := k_hi r_17
      refine b_if_ne hx hb rfl (tgt := 41) dX5_opened_34 (by decide) (fun c_22 => ?_) (fun c_22 => ?_)
      · refine lv_iconst (v := 0) hx hb dX5_opened_41 (by decide) ?_
        refine kJi (wr := [(k, .inr (5, [.ref k0, .int c1, .int sc2_19, .int sc3_20, .int c4, .int c5, .int c6, .int c7])), (k0, .inl (cI, 50, .inl c0))]) (va_runS (As := [.int 0]) (rest := []) ⟨hx, hb, hml, hown, hT⟩ (c_X5_truthG l D cI aK aV H.size 0) (cwS 1 hT (gS_in mw_502 mw_500 mw_501 mw_6) rfl rfl rfl (by decide +kernel) ⟨Nat.le_of_ble_eq_true rfl, Nat.le_of_ble_eq_true rfl⟩) (kStatX hK hP hD hN hXS hS hA [] rfl (by decide)) rfl rfl hl.1 rfl (lv_room (Nat.le_of_ble_eq_true rfl)) dX5_opened_42 ⟨Nat.le_of_ble_eq_true rfl, Nat.le_of_ble_eq_true rfl⟩) hP hD hS hA [] [0, 1] rfl rfl (by decide) (by decide) ?_
        clear hP hD hS
        intro r_23 u_25 H locs w_24 hP hD hS
        replace hP : va_P D vwCl [(k, .inr (5, [.ref k0, .int c1, .int sc2_19, .int sc3_20, .int c4, .int c5, .int c6, .int c7])), (k0, .inl (cI, 50, .inl c0))] H := hP
        replace hD : va_D A [(k, .inr (5, [.ref k0, .int c1, .int sc2_19, .int sc3_20, .int c4, .int c5, .int c6, .int c7])), (k0, .inl (cI, 50, .inl c0))] := hD
        have lo_r_23 := k_lo r_23
        have hi_r_23 := k_hi r_23
        exact hRet (sc2_19, sc3_20) [0, 1] trivial hP hD (by decide) rfl hS rfl dX5_opened_45
      · refine lv_iconst (v := 1) hx hb dX5_opened_37 (by decide) ?_
        refine lv_goto (tgt := 42) hx hb dX5_opened_38 (by decide) ?_
        refine kJi (wr := [(k, .inr (5, [.ref k0, .int c1, .int sc2_19, .int sc3_20, .int c4, .int c5, .int c6, .int c7])), (k0, .inl (cI, 50, .inl c0))]) (va_runS (As := [.int 1]) (rest := []) ⟨hx, hb, hml, hown, hT⟩ (c_X5_truthG l D cI aK aV H.size 1) (cwS 1 hT (gS_in mw_502 mw_500 mw_501 mw_6) rfl rfl rfl (by decide +kernel) ⟨Nat.le_of_ble_eq_true rfl, Nat.le_of_ble_eq_true rfl⟩) (kStatX hK hP hD hN hXS hS hA [] rfl (by decide)) rfl rfl hl.1 rfl (lv_room (Nat.le_of_ble_eq_true rfl)) dX5_opened_42 ⟨Nat.le_of_ble_eq_true rfl, Nat.le_of_ble_eq_true rfl⟩) hP hD hS hA [] [0, 1] rfl rfl (by decide) (by decide) ?_
        clear hP hD hS
        intro r_26 u_28 H locs w_27 hP hD hS
        replace hP : va_P D vwCl [(k, .inr (5, [.ref k0, .int c1, .int sc2_19, .int sc3_20, .int c4, .int c5, .int c6, .int c7])), (k0, .inl (cI, 50, .inl c0))] H := hP
        replace hD : va_D A [(k, .inr (5, [.ref k0, .int c1, .int sc2_19, .int sc3_20, .int c4, .int c5, .int c6, .int c7])), (k0, .inl (cI, 50, .inl c0))] := hD
        have lo_r_26 := k_lo r_26
        have hi_r_26 := k_hi r_26
        exact hRet (sc2_19, sc3_20) [0, 1] trivial hP hD (by decide) rfl hS rfl dX5_opened_45
  · refine lv_aload_n hx hb dX5_opened_16 rfl (lv_at hl 0 rfl) ?_
    refine lv_iload_n hx hb dX5_opened_17 rfl (lv_at hl 2 rfl) ?_
    refine kJi (wr := []) (va_runV (As := [.int 4]) (rest := []) ⟨hx, hb, hml, hown, hT⟩ (c_X5_partG4 l D cI aK aV k k0 H.size c1 v_1 c3 c4 c5 c6 c7 c0 4 (by first | omega | (simp only [zl_4] <;> omega) | decide | assumption | rfl)) (cwV 1 hT (gV_in mw_480 mw_477 mw_479 mw_p1_10 mw_6) rfl rfl rfl (by decide +kernel) ⟨Nat.le_of_ble_eq_true rfl, Nat.le_of_ble_eq_true rfl⟩) (kRecvX (q0 := 0) (ci := 5) hK hP hD hN hXS hS hA rfl rfl [0, 1] rfl (by decide)) rfl rfl hl.1 rfl (lv_room (Nat.le_of_ble_eq_true rfl)) dX5_opened_18 ⟨Nat.le_of_ble_eq_true rfl, Nat.le_of_ble_eq_true rfl⟩) hP hD hS hA [0, 1] [] rfl rfl (by decide) (by decide) ?_
    clear hP hD hS
    intro r_29 u_33 H locs w_30 hP hD hS
    obtain ⟨sc2_31, sc3_32⟩ := u_33
    replace hP : va_P D vwCl [(k, .inr (5, [.ref k0, .int c1, .int sc2_31, .int sc3_32, .int c4, .int c5, .int c6, .int c7])), (k0, .inl (cI, 50, .inl c0))] H := hP
    replace hD : va_D A [(k, .inr (5, [.ref k0, .int c1, .int sc2_31, .int sc3_32, .int c4, .int c5, .int c6, .int c7])), (k0, .inl (cI, 50, .inl c0))] := hD
    have lo_r_29 := k_lo r_29
    have hi_r_29 := k_hi r_29
    refine lv_ineg hx hb dX5_opened_21 ?_
    refine lv_topi (fun v_34 ev_34 => ?_)
    have lo_v_34 := k_lo v_34
    have hi_v_34 := k_hi v_34
    exact hRet (sc2_31, sc3_32) [0, 1] trivial hP hD (by decide) rfl hS rfl dX5_opened_22
theorem dX5_part_47 : decode cX5_part 47 = .ok (.aload_n 0, 1) := by decide +kernel
theorem dX5_part_48 : decode cX5_part 48 = .ok (.iload_n 2, 1) := by decide +kernel
theorem dX5_part_49 : decode cX5_part 49 = .ok (.iload_n 1, 1) := by decide +kernel
theorem dX5_part_50 : decode cX5_part 50 = .ok (.iconst 1, 1) := by decide +kernel
theorem dX5_part_51 : decode cX5_part 51 = .ok (.iadd, 1) := by decide +kernel
theorem dX5_part_52 : decode cX5_part 52 = .ok (.invokevirtual 75, 3) := by decide +kernel
set_option maxHeartbeats 4000000 in
set_option maxRecDepth 100000 in
theorem c_X5_partG3 (l : Launch) (D : va_G) (cI : ClassId) (aK aV : Nat → Nat) (k k0 : Nat) (sz : Nat) (c1 : Int32) (c2 : Int32) (c3 : Int32) (c4 : Int32) (c5 : Int32) (c6 : Int32) (c7 : Int32) (c0 : Nat → Int32) (a0 : Int32) (pre0 : a0 = 3) : Met l yX5_part (gW yX5_part cX5_part 4 (some .int)) ({ frames := 12, cells := 0, slots := 0, locals := 295 } : Room) (kPreX D cI aK aV [.ref k, .int 3] [(k, .inr (5, [.ref k0, .int c1, .int c2, .int c3, .int c4, .int c5, .int c6, .int c7])), (k0, .inl (cI, 50, .inl c0))] sz) (va_Qi (fun (r : Int32) (u : Int32 × Int32) => True) (fun u t => kWd D cI (va_A [(k, .inr (5, [.ref k0, .int c1, .int c2, .int c3, .int c4, .int c5, .int c6, .int c7])), (k0, .inl (cI, 50, .inl c0))] sz) [(k, .inr (5, [.ref k0, .int c1, .int u.1, .int u.2, .int c4, .int c5, .int c6, .int c7])), (k0, .inl (cI, 50, .inl c0))] t) (va_A [(k, .inr (5, [.ref k0, .int c1, .int c2, .int c3, .int c4, .int c5, .int c6, .int c7])), (k0, .inl (cI, 50, .inl c0))] sz)) 0 0 (va_A [(k, .inr (5, [.ref k0, .int c1, .int c2, .int c3, .int c4, .int c5, .int c6, .int c7])), (k0, .inl (cI, 50, .inl c0))] sz) := by
  refine kMetIX (own := RX5) (by decide) rfl (Nat.le_of_ble_eq_true rfl) ?_
  intro p e s m args below meth c hx hb hT hown hname hml A Q hK hP hD hS hA hN hXS hRet ls hl
  subst pre0
  have hl : lv_has ls 4 [(0, .ref k), (1, .int 3)] := hl
  have lo_c2 := k_lo c2
  have hi_c2 := k_hi c2
  have lo_c5 := k_lo c5
  have hi_c5 := k_hi c5
  have lo_c6 := k_lo c6
  have hi_c6 := k_hi c6
  have lo_c7 := k_lo c7
  have hi_c7 := k_hi c7
  refine lv_aload_n hx hb dX5_part_0 rfl (lv_at hl 0 rfl) ?_
  refine kJi (wr := []) (va_runV (As := []) (rest := []) ⟨hx, hb, hml, hown, hT⟩ (c_X5_nextG l D cI aK aV k k0 s.heap.size c1 c2 c3 c4 c5 c6 c7 c0) (cwV 0 hT (gV_in mw_484 mw_481 mw_483 mw_p1_11 mw_6) rfl rfl rfl (by decide +kernel) ⟨Nat.le_of_ble_eq_true rfl, Nat.le_of_ble_eq_true rfl⟩) (kRecvX (q0 := 0) (ci := 5) hK hP hD hN hXS hS hA rfl rfl [0, 1] rfl (by decide)) rfl rfl hl.1 rfl (lv_room (Nat.le_of_ble_eq_true rfl)) dX5_part_1 ⟨Nat.le_of_ble_eq_true rfl, Nat.le_of_ble_eq_true rfl⟩) hP hD hS hA [0, 1] [] rfl rfl (by decide) (by decide) ?_
  clear hP hD hS
  intro r_1 u_3 H locs w_2 hP hD hS
  replace hP : va_P D vwCl [(k, .inr (5, [.ref k0, .int c1, .int c2, .int c3, .int c4, .int c5, .int c6, .int c7])), (k0, .inl (cI, 50, .inl c0))] H := hP
  replace hD : va_D A [(k, .inr (5, [.ref k0, .int c1, .int c2, .int c3, .int c4, .int c5, .int c6, .int c7])), (k0, .inl (cI, 50, .inl c0))] := hD
  have lo_r_1 := k_lo r_1
  have hi_r_1 := k_hi r_1
  refine lv_istore_n (lv' := [(2, .int r_1), (0, .ref k), (1, .int 3)]) hx hb dX5_part_4 rfl hl (by decide) rfl ?_
  clear hl
  intro ls hl
  refine lv_iload_n hx hb dX5_part_5 rfl (lv_at hl 0 rfl) ?_
  refine kJi (wr := [(k, .inr (5, [.ref k0, .int c1, .int c2, .int c3, .int c4, .int c5, .int c6, .int c7])), (k0, .inl (cI, 50, .inl c0))]) (va_runS (As := [.int r_1]) (rest := []) ⟨hx, hb, hml, hown, hT⟩ (c_X5_isDigitG l D cI aK aV H.size r_1) (cwS 1 hT (gS_in mw_487 mw_485 mw_486 mw_6) rfl rfl rfl (by decide +kernel) ⟨Nat.le_of_ble_eq_true rfl, Nat.le_of_ble_eq_true rfl⟩) (kStatX hK hP hD hN hXS hS hA [] rfl (by decide)) rfl rfl hl.1 rfl (lv_room (Nat.le_of_ble_eq_true rfl)) dX5_part_6 ⟨Nat.le_of_ble_eq_true rfl, Nat.le_of_ble_eq_true rfl⟩) hP hD hS hA [] [0, 1] rfl rfl (by decide) (by decide) ?_
  clear hP hD hS
  intro r_4 u_6 H locs w_5 hP hD hS
  replace hP : va_P D vwCl [(k, .inr (5, [.ref k0, .int c1, .int c2, .int c3, .int c4, .int c5, .int c6, .int c7])), (k0, .inl (cI, 50, .inl c0))] H := hP
  replace hD : va_D A [(k, .inr (5, [.ref k0, .int c1, .int c2, .int c3, .int c4, .int c5, .int c6, .int c7])), (k0, .inl (cI, 50, .inl c0))] := hD
  rcases w_5 with ⟨hr_4, h_7, h_8⟩ | ⟨hr_4, h_9⟩
  · have h_7 : 48 ≤ r_1.toInt := h_7
    have h_8 : r_1.toInt ≤ 57 := h_8
    obtain rfl : r_4 = 1 := hr_4.trans (by decide)
    refine b_if_eq hx hb zl_1 (tgt := 17) dX5_part_9 (by decide) (fun c_10 => by exfalso; omega) (fun c_10 => ?_)
    refine lv_aload_n hx hb dX5_part_12 rfl (lv_at hl 1 rfl) ?_
    refine kJi (wr := []) (va_runV (As := []) (rest := []) ⟨hx, hb, hml, hown, hT⟩ (c_X5_numeralG l D cI aK aV k k0 H.size c1 c2 c3 c4 c5 c6 c7 c0) (cwV 0 hT (gV_in mw_491 mw_488 mw_490 mw_p1_12 mw_6) rfl rfl rfl (by decide +kernel) ⟨Nat.le_of_ble_eq_true rfl, Nat.le_of_ble_eq_true rfl⟩) (kRecvX (q0 := 0) (ci := 5) hK hP hD hN hXS hS hA rfl rfl [0, 1] rfl (by decide)) rfl rfl hl.1 rfl (lv_room (Nat.le_of_ble_eq_true rfl)) dX5_part_13 ⟨Nat.le_of_ble_eq_true rfl, Nat.le_of_ble_eq_true rfl⟩) hP hD hS hA [0, 1] [] rfl rfl (by decide) (by decide) ?_
    clear hP hD hS
    intro r_11 sc2_13 H locs w_12 hP hD hS
    replace hP : va_P D vwCl [(k, .inr (5, [.ref k0, .int c1, .int sc2_13, .int c3, .int c4, .int c5, .int c6, .int c7])), (k0, .inl (cI, 50, .inl c0))] H := hP
    replace hD : va_D A [(k, .inr (5, [.ref k0, .int c1, .int sc2_13, .int c3, .int c4, .int c5, .int c6, .int c7])), (k0, .inl (cI, 50, .inl c0))] := hD
    have lo_sc2_13 := k_lo sc2_13
    have hi_sc2_13 := k_hi sc2_13
    have lo_r_11 := k_lo r_11
    have hi_r_11 := k_hi r_11
    exact hRet (sc2_13, c3) [0, 1] trivial hP hD (by decide) rfl hS rfl dX5_part_16
  · have h_9 : r_1.toInt < 48 ∨ 57 < r_1.toInt := h_9
    obtain rfl : r_4 = 0 := hr_4.trans (by decide)
    refine b_if_eq hx hb zl_0 (tgt := 17) dX5_part_9 (by decide) (fun c_14 => ?_) (fun c_14 => by exfalso; omega)
    refine lv_iload_n hx hb dX5_part_17 rfl (lv_at hl 0 rfl) ?_
    refine lv_bipush (v := 45) hx hb dX5_part_18 (by decide) ?_
    refine b_icmp_eq hx hb rfl zl_45 (tgt := 35) dX5_part_20 (by decide) (fun c_15 => ?_) (fun c_15 => ?_)
    · refine lv_iload_n hx hb dX5_part_35 rfl (lv_at hl 2 rfl) ?_
      refine lv_iconst (v := 4) hx hb dX5_part_36 (by decide) ?_
      refine b_icmp_lt hx hb zl_3 zl_4 (tgt := 47) dX5_part_37 (by decide) (fun c_16 => ?_) (fun c_16 => by exfalso; omega)
      refine lv_aload_n hx hb dX5_part_47 rfl (lv_at hl 1 rfl) ?_
      refine lv_iload_n hx hb dX5_part_48 rfl (lv_at hl 0 rfl) ?_
      refine lv_iload_n hx hb dX5_part_49 rfl (lv_at hl 2 rfl) ?_
      refine lv_iconst (v := 1) hx hb dX5_part_50 (by decide) ?_
      refine k_iadd (v := 4) hx hb dX5_part_51 (by decide) ?_
      refine kJi (wr := []) (va_runV (As := [.int r_1, .int 4]) (rest := []) ⟨hx, hb, hml, hown, hT⟩ (c_X5_openedG4 l D cI aK aV k k0 H.size c1 c2 c3 c4 c5 c6 c7 c0 r_1 4 (by first | omega | (simp only [zl_4] <;> omega) | decide | assumption | rfl)) (cwV 2 hT (gV_in mw_499 mw_496 mw_498 mw_p1_14 mw_6) rfl rfl rfl (by decide +kernel) ⟨Nat.le_of_ble_eq_true rfl, Nat.le_of_ble_eq_true rfl⟩) (kRecvX (q0 := 0) (ci := 5) hK hP hD hN hXS hS hA rfl rfl [0, 1] rfl (by decide)) rfl rfl hl.1 rfl (lv_room (Nat.le_of_ble_eq_true rfl)) dX5_part_52 ⟨Nat.le_of_ble_eq_true rfl, Nat.le_of_ble_eq_true rfl⟩) hP hD hS hA [0, 1] [] rfl rfl (by decide) (by decide) ?_
      clear hP hD hS
      intro r_17 u_21 H locs w_18 hP hD hS
      obtain ⟨sc2_19, sc3_20⟩ := u_21
      replace hP : va_P D vwCl [(k, .inr (5, [.ref k0, .int c1, .int sc2_19, .int sc3_20, .int c4, .int c5, .int c6, .int c7])), (k0, .inl (cI, 50, .inl c0))] H := hP
      replace hD : va_D A [(k, .inr (5, [.ref k0, .int c1, .int sc2_19, .int sc3_20, .int c4, .int c5, .int c6, .int c7])), (k0, .inl (cI, 50, .inl c0))] := hD
      have lo_r_17 := k_lo r_17
      have hi_r_17 := k_hi r_17
      exact hRet (sc2_19, sc3_20) [0, 1] trivial hP hD (by decide) rfl hS rfl dX5_part_55
    · refine lv_iload_n hx hb dX5_part_23 rfl (lv_at hl 0 rfl) ?_
      refine lv_bipush (v := 33) hx hb dX5_part_24 (by decide) ?_
      refine b_icmp_eq hx hb rfl zl_33 (tgt := 35) dX5_part_26 (by decide) (fun c_22 => ?_) (fun c_22 => ?_)
      · refine lv_iload_n hx hb dX5_part_35 rfl (lv_at hl 2 rfl) ?_
        refine lv_iconst (v := 4) hx hb dX5_part_36 (by decide) ?_
        refine b_icmp_lt hx hb zl_3 zl_4 (tgt := 47) dX5_part_37 (by decide) (fun c_23 => ?_) (fun c_23 => by exfalso; omega)
        refine lv_aload_n hx hb dX5_part_47 rfl (lv_at hl 1 rfl) ?_
        refine lv_iload_n hx hb dX5_part_48 rfl (lv_at hl 0 rfl) ?_
        refine lv_iload_n hx hb dX5_part_49 rfl (lv_at hl 2 rfl) ?_
        refine lv_iconst (v := 1) hx hb dX5_part_50 (by decide) ?_
        refine k_iadd (v := 4) hx hb dX5_part_51 (by decide) ?_
        refine kJi (wr := []) (va_runV (As := [.int r_1, .int 4]) (rest := []) ⟨hx, hb, hml, hown, hT⟩ (c_X5_openedG4 l D cI aK aV k k0 H.size c1 c2 c3 c4 c5 c6 c7 c0 r_1 4 (by first | omega | (simp only [zl_4] <;> omega) | decide | assumption | rfl)) (cwV 2 hT (gV_in mw_499 mw_496 mw_498 mw_p1_14 mw_6) rfl rfl rfl (by decide +kernel) ⟨Nat.le_of_ble_eq_true rfl, Nat.le_of_ble_eq_true rfl⟩) (kRecvX (q0 := 0) (ci := 5) hK hP hD hN hXS hS hA rfl rfl [0, 1] rfl (by decide)) rfl rfl hl.1 rfl (lv_room (Nat.le_of_ble_eq_true rfl)) dX5_part_52 ⟨Nat.le_of_ble_eq_true rfl, Nat.le_of_ble_eq_true rfl⟩) hP hD hS hA [0, 1] [] rfl rfl (by decide) (by decide) ?_
        clear hP hD hS
        intro r_24 u_28 H locs w_25 hP hD hS
        obtain ⟨sc2_26, sc3_27⟩ := u_28
        replace hP : va_P D vwCl [(k, .inr (5, [.ref k0, .int c1, .int sc2_26, .int sc3_27, .int c4, .int c5, .int c6, .int c7])), (k0, .inl (cI, 50, .inl c0))] H := hP
        replace hD : va_D A [(k, .inr (5, [.ref k0, .int c1, .int sc2_26, .int sc3_27, .int c4, .int c5, .int c6, .int c7])), (k0, .inl (cI, 50, .inl c0))] := hD
        have lo_r_24 := k_lo r_24
        have hi_r_24 := k_hi r_24
        exact hRet (sc2_26, sc3_27) [0, 1] trivial hP hD (by decide) rfl hS rfl dX5_part_55
      · refine lv_iload_n hx hb dX5_part_29 rfl (lv_at hl 0 rfl) ?_
        refine lv_bipush (v := 40) hx hb dX5_part_30 (by decide) ?_
        refine b_icmp_ne hx hb rfl zl_40 (tgt := 56) dX5_part_32 (by decide) (fun c_29 => ?_) (fun c_29 => ?_)
        · refine lv_aload_n hx hb dX5_part_56 rfl (lv_at hl 1 rfl) ?_
          refine lv_iload_n hx hb dX5_part_57 rfl (lv_at hl 0 rfl) ?_
          refine kJi (wr := [(k0, .inl (cI, 50, .inl c0))]) (va_runV (As := [.int r_1]) (rest := []) ⟨hx, hb, hml, hown, hT⟩ (c_X5_nameOfG l D cI aK aV k k0 H.size c1 c2 c3 c4 c5 c6 c7 r_1) (cwV 1 hT (gV_in mw_506 mw_503 mw_505 mw_p1_15 mw_6) rfl rfl rfl (by decide +kernel) ⟨Nat.le_of_ble_eq_true rfl, Nat.le_of_ble_eq_true rfl⟩) (kRecvX (q0 := 0) (ci := 5) hK hP hD hN hXS hS hA rfl rfl [0] rfl (by decide)) rfl rfl hl.1 rfl (lv_room (Nat.le_of_ble_eq_true rfl)) dX5_part_58 ⟨Nat.le_of_ble_eq_true rfl, Nat.le_of_ble_eq_true rfl⟩) hP hD hS hA [0] [1] rfl rfl (by decide) (by decide) ?_
          clear hP hD hS
          intro r_30 u_32 H locs w_31 hP hD hS
          replace hP : va_P D vwCl [(k0, .inl (cI, 50, .inl c0)), (k, .inr (5, [.ref k0, .int c1, .int c2, .int c3, .int c4, .int c5, .int c6, .int c7]))] H := hP
          replace hD : va_D A [(k0, .inl (cI, 50, .inl c0)), (k, .inr (5, [.ref k0, .int c1, .int c2, .int c3, .int c4, .int c5, .int c6, .int c7]))] := hD
          have lo_r_30 := k_lo r_30
          have hi_r_30 := k_hi r_30
          refine lv_istore_n (lv' := [(3, .int r_30), (2, .int r_1), (0, .ref k), (1, .int 3)]) hx hb dX5_part_61 rfl hl (by decide) rfl ?_
          clear hl
          intro ls hl
          refine lv_iload_n hx hb dX5_part_62 rfl (lv_at hl 0 rfl) ?_
          refine b_if_ge hx hb rfl (tgt := 71) dX5_part_63 (by decide) (fun c_33 => ?_) (fun c_33 => ?_)
          · refine lv_aload_n hx hb dX5_part_71 rfl (lv_at hl 2 rfl) ?_
            refine lv_dup hx hb dX5_part_72 rfl ?_
            refine va_get (D := D) (ci := 5) (v := .int c2) (C := RX5) (T := TX5) (N := 8) hx hb hT giX5 hown hK hP 1 rfl rfl 2 (by decide) (hT (Cond.fieldLink RX5 19 "DesertWire$Reader" "at" "I") mw_170) (fun _ h9 => h9) rfl dX5_part_73 ?_
            refine lv_iconst (v := 1) hx hb dX5_part_76 (by decide) ?_
            refine lv_iadd hx hb dX5_part_77 ?_
            refine lv_topi (fun v_34 ev_34 => ?_)
            have lo_v_34 := k_lo v_34
            have hi_v_34 := k_hi v_34
            refine va_put (D := D) (ci := 5) (v := .int v_34) (ty := .int) (C := RX5) (T := TX5) (N := 8) hx hb hT giX5 tyX5 tyX5_ok nmX5 hown hK hP hD hS 1 rfl rfl 2 (by decide) (hT (Cond.fieldLink RX5 19 "DesertWire$Reader" "at" "I") mw_170) (fun _ h9 => h9) rfl (by decide +kernel) rfl rfl (Nat.le_of_ble_eq_true rfl) dX5_part_78 ?_
            clear hP hD hS
            intro H locs hP hD hS
            replace hP : va_P D vwCl [(k0, .inl (cI, 50, .inl c0)), (k, .inr (5, [.ref k0, .int c1, .int v_34, .int c3, .int c4, .int c5, .int c6, .int c7]))] H := hP
            replace hD : va_D A [(k0, .inl (cI, 50, .inl c0)), (k, .inr (5, [.ref k0, .int c1, .int v_34, .int c3, .int c4, .int c5, .int c6, .int c7]))] := hD
            refine lv_iload_n hx hb dX5_part_81 rfl (lv_at hl 0 rfl) ?_
            refine b_if_ne hx hb rfl (tgt := 92) dX5_part_82 (by decide) (fun c_35 => ?_) (fun c_35 => ?_)
            · refine lv_iload_n hx hb dX5_part_92 rfl (lv_at hl 0 rfl) ?_
              refine lv_iconst (v := 1) hx hb dX5_part_93 (by decide) ?_
              refine b_icmp_ne hx hb rfl zl_1 (tgt := 104) dX5_part_94 (by decide) (fun c_36 => ?_) (fun c_36 => ?_)
              · refine lv_aload_n hx hb dX5_part_104 rfl (lv_at hl 2 rfl) ?_
                refine va_get (D := D) (ci := 5) (v := .int c7) (C := RX5) (T := TX5) (N := 8) hx hb hT giX5 hown hK hP 1 rfl rfl 7 (by decide) (hT (Cond.fieldLink RX5 35 "DesertWire$Reader" "third" "I") mw_175) (fun _ h9 => h9) rfl dX5_part_105 ?_
                exact hRet (v_34, c3) [1, 0] trivial hP hD (by decide) rfl hS rfl dX5_part_108
              · refine lv_aload_n hx hb dX5_part_97 rfl (lv_at hl 2 rfl) ?_
                refine va_get (D := D) (ci := 5) (v := .int c6) (C := RX5) (T := TX5) (N := 8) hx hb hT giX5 hown hK hP 1 rfl rfl 6 (by decide) (hT (Cond.fieldLink RX5 32 "DesertWire$Reader" "second" "I") mw_174) (fun _ h9 => h9) rfl dX5_part_98 ?_
                refine lv_goto (tgt := 108) hx hb dX5_part_101 (by decide) ?_
                exact hRet (v_34, c3) [1, 0] trivial hP hD (by decide) rfl hS rfl dX5_part_108
            · refine lv_aload_n hx hb dX5_part_85 rfl (lv_at hl 2 rfl) ?_
              refine va_get (D := D) (ci := 5) (v := .int c5) (C := RX5) (T := TX5) (N := 8) hx hb hT giX5 hown hK hP 1 rfl rfl 5 (by decide) (hT (Cond.fieldLink RX5 29 "DesertWire$Reader" "first" "I") mw_173) (fun _ h9 => h9) rfl dX5_part_86 ?_
              refine lv_goto (tgt := 108) hx hb dX5_part_89 (by decide) ?_
              exact hRet (v_34, c3) [1, 0] trivial hP hD (by decide) rfl hS rfl dX5_part_108
          · refine lv_aload_n hx hb dX5_part_66 rfl (lv_at hl 2 rfl) ?_
            refine kJi (wr := [(k0, .inl (cI, 50, .inl c0))]) (va_runV (As := []) (rest := []) ⟨hx, hb, hml, hown, hT⟩ (c_X5_failG l D cI aK aV k k0 H.size c1 c2 c3 c4 c5 c6 c7) (cwV 0 hT (gV_in mw_495 mw_492 mw_494 mw_p1_13 mw_6) rfl rfl rfl (by decide +kernel) ⟨Nat.le_of_ble_eq_true rfl, Nat.le_of_ble_eq_true rfl⟩) (kRecvX (q0 := 1) (ci := 5) hK hP hD hN hXS hS hA rfl rfl [1] rfl (by decide)) rfl rfl hl.1 rfl (lv_room (Nat.le_of_ble_eq_true rfl)) dX5_part_67 ⟨Nat.le_of_ble_eq_true rfl, Nat.le_of_ble_eq_true rfl⟩) hP hD hS hA [1] [0] rfl rfl (by decide) (by decide) ?_
            clear hP hD hS
            intro r_37 sc3_39 H locs w_38 hP hD hS
            replace hP : va_P D vwCl [(k0, .inl (cI, 50, .inl c0)), (k, .inr (5, [.ref k0, .int c1, .int c2, .int sc3_39, .int c4, .int c5, .int c6, .int c7]))] H := hP
            replace hD : va_D A [(k0, .inl (cI, 50, .inl c0)), (k, .inr (5, [.ref k0, .int c1, .int c2, .int sc3_39, .int c4, .int c5, .int c6, .int c7]))] := hD
            have lo_sc3_39 := k_lo sc3_39
            have hi_sc3_39 := k_hi sc3_39
            have lo_r_37 := k_lo r_37
            have hi_r_37 := k_hi r_37
            exact hRet (c2, sc3_39) [1, 0] trivial hP hD (by decide) rfl hS rfl dX5_part_70
        · refine lv_iload_n hx hb dX5_part_35 rfl (lv_at hl 2 rfl) ?_
          refine lv_iconst (v := 4) hx hb dX5_part_36 (by decide) ?_
          refine b_icmp_lt hx hb zl_3 zl_4 (tgt := 47) dX5_part_37 (by decide) (fun c_40 => ?_) (fun c_40 => by exfalso; omega)
          refine lv_aload_n hx hb dX5_part_47 rfl (lv_at hl 1 rfl) ?_
          refine lv_iload_n hx hb dX5_part_48 rfl (lv_at hl 0 rfl) ?_
          refine lv_iload_n hx hb dX5_part_49 rfl (lv_at hl 2 rfl) ?_
          refine lv_iconst (v := 1) hx hb dX5_part_50 (by decide) ?_
          refine k_iadd (v := 4) hx hb dX5_part_51 (by decide) ?_
          refine kJi (wr := []) (va_runV (As := [.int r_1, .int 4]) (rest := []) ⟨hx, hb, hml, hown, hT⟩ (c_X5_openedG4 l D cI aK aV k k0 H.size c1 c2 c3 c4 c5 c6 c7 c0 r_1 4 (by first | omega | (simp only [zl_4] <;> omega) | decide | assumption | rfl)) (cwV 2 hT (gV_in mw_499 mw_496 mw_498 mw_p1_14 mw_6) rfl rfl rfl (by decide +kernel) ⟨Nat.le_of_ble_eq_true rfl, Nat.le_of_ble_eq_true rfl⟩) (kRecvX (q0 := 0) (ci := 5) hK hP hD hN hXS hS hA rfl rfl [0, 1] rfl (by decide)) rfl rfl hl.1 rfl (lv_room (Nat.le_of_ble_eq_true rfl)) dX5_part_52 ⟨Nat.le_of_ble_eq_true rfl, Nat.le_of_ble_eq_true rfl⟩) hP hD hS hA [0, 1] [] rfl rfl (by decide) (by decide) ?_
          clear hP hD hS
          intro r_41 u_45 H locs w_42 hP hD hS
          obtain ⟨sc2_43, sc3_44⟩ := u_45
          replace hP : va_P D vwCl [(k, .inr (5, [.ref k0, .int c1, .int sc2_43, .int sc3_44, .int c4, .int c5, .int c6, .int c7])), (k0, .inl (cI, 50, .inl c0))] H := hP
          replace hD : va_D A [(k, .inr (5, [.ref k0, .int c1, .int sc2_43, .int sc3_44, .int c4, .int c5, .int c6, .int c7])), (k0, .inl (cI, 50, .inl c0))] := hD
          have lo_r_41 := k_lo r_41
          have hi_r_41 := k_hi r_41
          exact hRet (sc2_43, sc3_44) [0, 1] trivial hP hD (by decide) rfl hS rfl dX5_part_55
