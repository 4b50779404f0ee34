theorem bn_cX8_has_0 : BN cX8_has 0 0x568100a01540141001518f4221c07005462800ad4561c0b005381c := by
  unfold BN; decide +kernel
theorem dX8_has_0 : decode cX8_has 0 = .ok (.iload_n 1, 1) := dR0 (k := 0) (i := 0) bn_cX8_has_0 dop_27 (by decide +kernel)
theorem dX8_has_1 : decode cX8_has 1 = .ok (.ifCond .lt 21, 3) := dR2s (f := Instr.ifCond .lt) (k := 0) (i := 1) bn_cX8_has_0 dop_155 21 21 (by decide +kernel)
theorem dX8_has_4 : decode cX8_has 4 = .ok (.iload_n 1, 1) := dR0 (k := 0) (i := 4) bn_cX8_has_0 dop_27 (by decide +kernel)
theorem dX8_has_5 : decode cX8_has 5 = .ok (.aload_n 0, 1) := dR0 (k := 0) (i := 5) bn_cX8_has_0 dop_42 (by decide +kernel)
theorem dX8_has_6 : decode cX8_has 6 = .ok (.getfield 39, 3) := dR2 (f := Instr.getfield) (k := 0) (i := 6) bn_cX8_has_0 dop_180 39 (by decide +kernel)
theorem dX8_has_9 : decode cX8_has 9 = .ok (.if_icmp .ge 13, 3) := dR2s (f := Instr.if_icmp .ge) (k := 0) (i := 9) bn_cX8_has_0 dop_162 13 13 (by decide +kernel)
theorem dX8_has_12 : decode cX8_has 12 = .ok (.iload_n 1, 1) := dR0 (k := 0) (i := 12) bn_cX8_has_0 dop_27 (by decide +kernel)
theorem dX8_has_13 : decode cX8_has 13 = .ok (.bipush 60, 2) := dR1s (f := Instr.bipush) (k := 0) (i := 13) bn_cX8_has_0 dop_16 60 60 (by decide +kernel)
theorem dX8_has_15 : decode cX8_has 15 = .ok (.if_icmp .ge 7, 3) := dR2s (f := Instr.if_icmp .ge) (k := 0) (i := 15) bn_cX8_has_0 dop_162 7 7 (by decide +kernel)
theorem dX8_has_18 : decode cX8_has 18 = .ok (.iconst 1, 1) := dR0 (k := 0) (i := 18) bn_cX8_has_0 dop_4 (by decide +kernel)
theorem dX8_has_19 : decode cX8_has 19 = .ok (.goto 4, 3) := dR2s (f := Instr.goto) (k := 0) (i := 19) bn_cX8_has_0 dop_167 4 4 (by decide +kernel)
theorem dX8_has_22 : decode cX8_has 22 = .ok (.iconst 0, 1) := dR0 (k := 0) (i := 22) bn_cX8_has_0 dop_3 (by decide +kernel)
theorem dX8_has_23 : decode cX8_has 23 = .ok (.ireturn, 1) := dR0 (k := 0) (i := 23) bn_cX8_has_0 dop_172 (by decide +kernel)
set_option maxHeartbeats 4000000 in
set_option maxRecDepth 100000 in
theorem c_X8_hasG (l : Launch) (D : va_G) (cI : ClassId) (aK aV : Nat → Nat) (k k0 k1 k2 k3 k4 k5 k6 k7 k8 : Nat) (sz : Nat) (c9 : Int32) (a0 : Int32) : Met l yX8_has (gW yX8_has cX8_has 2 (some .boolean)) ({ frames := 0, cells := 0, slots := 0, locals := 0 } : Room) (kPreX D cI aK aV [.ref k, .int a0] [(k, .inr (8, [.ref k0, .ref k1, .ref k2, .ref k3, .ref k4, .ref k5, .ref k6, .ref k7, .ref k8, .int c9]))] sz) (va_Qi (fun (r : Int32) (u : Unit) => (r = 1 ∧ 0 ≤ a0.toInt ∧ a0.toInt < c9.toInt ∧ a0.toInt < 60) ∨ (r = 0 ∧ (a0.toInt < 0 ∨ c9.toInt ≤ a0.toInt ∨ 60 ≤ a0.toInt))) (fun u t => kWd D cI (va_A [(k, .inr (8, [.ref k0, .ref k1, .ref k2, .ref k3, .ref k4, .ref k5, .ref k6, .ref k7, .ref k8, .int c9]))] sz) [(k, .inr (8, [.ref k0, .ref k1, .ref k2, .ref k3, .ref k4, .ref k5, .ref k6, .ref k7, .ref k8, .int c9]))] t) (va_A [(k, .inr (8, [.ref k0, .ref k1, .ref k2, .ref k3, .ref k4, .ref k5, .ref k6, .ref k7, .ref k8, .int c9]))] sz)) 0 0 (va_A [(k, .inr (8, [.ref k0, .ref k1, .ref k2, .ref k3, .ref k4, .ref k5, .ref k6, .ref k7, .ref k8, .int c9]))] sz) := by
  refine kMetIX (own := RX8) (by decide +kernel) rfl (Nat.le_of_ble_eq_true rfl) ?_
  intro p e s m args below meth c hx hb hT hown hname hml A Q hK hP hD hS hA hN hXS hRet ls hl
  have hl : lv_has ls 2 [(0, .ref k), (1, .int a0)] := hl
  have lo_c9 := k_lo c9
  have hi_c9 := k_hi c9
  refine lv_iload_n hx hb dX8_has_0 rfl (lv_at hl 1 rfl) ?_
  refine b_if_lt hx hb rfl (tgt := 22) dX8_has_1 (by decide +kernel) (fun c_1 => ?_) (fun c_1 => ?_)
  · refine lv_iconst (v := 0) hx hb dX8_has_22 (by decide +kernel) ?_
    exact hRet () [0] (Or.inr (⟨rfl, (by omega)⟩)) hP hD (by decide +kernel) rfl hS rfl dX8_has_23
  · refine lv_iload_n hx hb dX8_has_4 rfl (lv_at hl 1 rfl) ?_
    refine lv_aload_n hx hb dX8_has_5 rfl (lv_at hl 0 rfl) ?_
    refine va_get (D := D) (ci := 8) (v := .int c9) (C := RX8) (T := TX8) (N := 10) hx hb hT giX8 hown hK hP 0 rfl rfl 9 (by decide +kernel) (hT (Cond.fieldLink RX8 39 "DesertWire$Works" "number" "I") mw_49) (fun _ h9 => h9) rfl dX8_has_6 ?_
    refine b_icmp_ge hx hb rfl rfl (tgt := 22) dX8_has_9 (by decide +kernel) (fun c_2 => ?_) (fun c_2 => ?_)
    · refine lv_iconst (v := 0) hx hb dX8_has_22 (by decide +kernel) ?_
      exact hRet () [0] (Or.inr (⟨rfl, (by omega)⟩)) hP hD (by decide +kernel) rfl hS rfl dX8_has_23
    · refine lv_iload_n hx hb dX8_has_12 rfl (lv_at hl 1 rfl) ?_
      refine lv_bipush (v := 60) hx hb dX8_has_13 (by decide +kernel) ?_
      refine b_icmp_ge hx hb rfl zl_60 (tgt := 22) dX8_has_15 (by decide +kernel) (fun c_3 => ?_) (fun c_3 => ?_)
      · refine lv_iconst (v := 0) hx hb dX8_has_22 (by decide +kernel) ?_
        exact hRet () [0] (Or.inr (⟨rfl, (by omega)⟩)) hP hD (by decide +kernel) rfl hS rfl dX8_has_23
      · refine lv_iconst (v := 1) hx hb dX8_has_18 (by decide +kernel) ?_
        refine lv_goto (tgt := 23) hx hb dX8_has_19 (by decide +kernel) ?_
        exact hRet () [0] (Or.inl ⟨rfl, (by omega), (by omega), (by omega)⟩) hP hD (by decide +kernel) rfl hS rfl dX8_has_23
theorem bn_cX8_hasRoom_0 : BN cX8_hasRoom 0 0x15a0402805500504005463d088a002b515844029c140056a2b := by
  unfold BN; decide +kernel
theorem dX8_hasRoom_0 : decode cX8_hasRoom 0 = .ok (.aload_n 0, 1) := dR0 (k := 0) (i := 0) bn_cX8_hasRoom_0 dop_42 (by decide +kernel)
theorem dX8_hasRoom_1 : decode cX8_hasRoom 1 = .ok (.getfield 39, 3) := dR2 (f := Instr.getfield) (k := 0) (i := 1) bn_cX8_hasRoom_0 dop_180 39 (by decide +kernel)
theorem dX8_hasRoom_4 : decode cX8_hasRoom 4 = .ok (.ifCond .lt 16, 3) := dR2s (f := Instr.ifCond .lt) (k := 0) (i := 4) bn_cX8_hasRoom_0 dop_155 16 16 (by decide +kernel)
theorem dX8_hasRoom_7 : decode cX8_hasRoom 7 = .ok (.aload_n 0, 1) := dR0 (k := 0) (i := 7) bn_cX8_hasRoom_0 dop_42 (by decide +kernel)
theorem dX8_hasRoom_8 : decode cX8_hasRoom 8 = .ok (.getfield 39, 3) := dR2 (f := Instr.getfield) (k := 0) (i := 8) bn_cX8_hasRoom_0 dop_180 39 (by decide +kernel)
theorem dX8_hasRoom_11 : decode cX8_hasRoom 11 = .ok (.bipush 60, 2) := dR1s (f := Instr.bipush) (k := 0) (i := 11) bn_cX8_hasRoom_0 dop_16 60 60 (by decide +kernel)
theorem dX8_hasRoom_13 : decode cX8_hasRoom 13 = .ok (.if_icmp .ge 7, 3) := dR2s (f := Instr.if_icmp .ge) (k := 0) (i := 13) bn_cX8_hasRoom_0 dop_162 7 7 (by decide +kernel)
theorem dX8_hasRoom_16 : decode cX8_hasRoom 16 = .ok (.iconst 1, 1) := dR0 (k := 0) (i := 16) bn_cX8_hasRoom_0 dop_4 (by decide +kernel)
theorem dX8_hasRoom_17 : decode cX8_hasRoom 17 = .ok (.goto 4, 3) := dR2s (f := Instr.goto) (k := 0) (i := 17) bn_cX8_hasRoom_0 dop_167 4 4 (by decide +kernel)
theorem dX8_hasRoom_20 : decode cX8_hasRoom 20 = .ok (.iconst 0, 1) := dR0 (k := 0) (i := 20) bn_cX8_hasRoom_0 dop_3 (by decide +kernel)
theorem dX8_hasRoom_21 : decode cX8_hasRoom 21 = .ok (.ireturn, 1) := dR0 (k := 0) (i := 21) bn_cX8_hasRoom_0 dop_172 (by decide +kernel)
set_option maxHeartbeats 4000000 in
set_option maxRecDepth 100000 in
theorem c_X8_hasRoomG (l : Launch) (D : va_G) (cI : ClassId) (aK aV : Nat → Nat) (k k0 k1 k2 k3 k4 k5 k6 k7 k8 : Nat) (sz : Nat) (c9 : Int32) : Met l yX8_hasRoom (gW yX8_hasRoom cX8_hasRoom 1 (some .boolean)) ({ frames := 0, cells := 0, slots := 0, locals := 0 } : Room) (kPreX D cI aK aV [.ref k] [(k, .inr (8, [.ref k0, .ref k1, .ref k2, .ref k3, .ref k4, .ref k5, .ref k6, .ref k7, .ref k8, .int c9]))] sz) (va_Qi (fun (r : Int32) (u : Unit) => (r = 1 ∧ 0 ≤ c9.toInt ∧ c9.toInt < 60) ∨ (r = 0 ∧ (c9.toInt < 0 ∨ 60 ≤ c9.toInt))) (fun u t => kWd D cI (va_A [(k, .inr (8, [.ref k0, .ref k1, .ref k2, .ref k3, .ref k4, .ref k5, .ref k6, .ref k7, .ref k8, .int c9]))] sz) [(k, .inr (8, [.ref k0, .ref k1, .ref k2, .ref k3, .ref k4, .ref k5, .ref k6, .ref k7, .ref k8, .int c9]))] t) (va_A [(k, .inr (8, [.ref k0, .ref k1, .ref k2, .ref k3, .ref k4, .ref k5, .ref k6, .ref k7, .ref k8, .int c9]))] sz)) 0 0 (va_A [(k, .inr (8, [.ref k0, .ref k1, .ref k2, .ref k3, .ref k4, .ref k5, .ref k6, .ref k7, .ref k8, .int c9]))] sz) := by
  refine kMetIX (own := RX8) (by decide +kernel) rfl (Nat.le_of_ble_eq_true rfl) ?_
  intro p e s m args below meth c hx hb hT hown hname hml A Q hK hP hD hS hA hN hXS hRet ls hl
  have hl : lv_has ls 1 [(0, .ref k)] := hl
  have lo_c9 := k_lo c9
  have hi_c9 := k_hi c9
  refine lv_aload_n hx hb dX8_hasRoom_0 rfl (lv_at hl 0 rfl) ?_
  refine va_get (D := D) (ci := 8) (v := .int c9) (C := RX8) (T := TX8) (N := 10) hx hb hT giX8 hown hK hP 0 rfl rfl 9 (by decide +kernel) (hT (Cond.fieldLink RX8 39 "DesertWire$Works" "number" "I") mw_49) (fun _ h9 => h9) rfl dX8_hasRoom_1 ?_
  refine b_if_lt hx hb rfl (tgt := 20) dX8_hasRoom_4 (by decide +kernel) (fun c_1 => ?_) (fun c_1 => ?_)
  · refine lv_iconst (v := 0) hx hb dX8_hasRoom_20 (by decide +kernel) ?_
    exact hRet () [0] (Or.inr (⟨rfl, (by omega)⟩)) hP hD (by decide +kernel) rfl hS rfl dX8_hasRoom_21
  · refine lv_aload_n hx hb dX8_hasRoom_7 rfl (lv_at hl 0 rfl) ?_
    refine va_get (D := D) (ci := 8) (v := .int c9) (C := RX8) (T := TX8) (N := 10) hx hb hT giX8 hown hK hP 0 rfl rfl 9 (by decide +kernel) (hT (Cond.fieldLink RX8 39 "DesertWire$Works" "number" "I") mw_49) (fun _ h9 => h9) rfl dX8_hasRoom_8 ?_
    refine lv_bipush (v := 60) hx hb dX8_hasRoom_11 (by decide +kernel) ?_
    refine b_icmp_ge hx hb rfl zl_60 (tgt := 20) dX8_hasRoom_13 (by decide +kernel) (fun c_2 => ?_) (fun c_2 => ?_)
    · refine lv_iconst (v := 0) hx hb dX8_hasRoom_20 (by decide +kernel) ?_
      exact hRet () [0] (Or.inr (⟨rfl, (by omega)⟩)) hP hD (by decide +kernel) rfl hS rfl dX8_hasRoom_21
    · refine lv_iconst (v := 1) hx hb dX8_hasRoom_16 (by decide +kernel) ?_
      refine lv_goto (tgt := 21) hx hb dX8_hasRoom_17 (by decide +kernel) ?_
      exact hRet () [0] (Or.inl ⟨rfl, (by omega), (by omega)⟩) hP hD (by decide +kernel) rfl hS rfl dX8_hasRoom_21
theorem bn_cX8_kindOf_0 : BN cX8_kindOf 0 0x2b4080500aa05e1c050056a2b06805343a00adc382b := by
  unfold BN; decide +kernel
theorem dX8_kindOf_0 : decode cX8_kindOf 0 = .ok (.aload_n 0, 1) := dR0 (k := 0) (i := 0) bn_cX8_kindOf_0 dop_42 (by decide +kernel)
theorem dX8_kindOf_1 : decode cX8_kindOf 1 = .ok (.iload_n 1, 1) := dR0 (k := 0) (i := 1) bn_cX8_kindOf_0 dop_27 (by decide +kernel)
theorem dX8_kindOf_2 : decode cX8_kindOf 2 = .ok (.invokevirtual 57, 3) := dR2 (f := Instr.invokevirtual) (k := 0) (i := 2) bn_cX8_kindOf_0 dop_182 57 (by decide +kernel)
theorem dX8_kindOf_5 : decode cX8_kindOf 5 = .ok (.ifCond .eq 12, 3) := dR2s (f := Instr.ifCond .eq) (k := 0) (i := 5) bn_cX8_kindOf_0 dop_153 12 12 (by decide +kernel)
theorem dX8_kindOf_8 : decode cX8_kindOf 8 = .ok (.aload_n 0, 1) := dR0 (k := 0) (i := 8) bn_cX8_kindOf_0 dop_42 (by decide +kernel)
theorem dX8_kindOf_9 : decode cX8_kindOf 9 = .ok (.getfield 9, 3) := dR2 (f := Instr.getfield) (k := 0) (i := 9) bn_cX8_kindOf_0 dop_180 9 (by decide +kernel)
theorem dX8_kindOf_12 : decode cX8_kindOf 12 = .ok (.iload_n 1, 1) := dR0 (k := 0) (i := 12) bn_cX8_kindOf_0 dop_27 (by decide +kernel)
theorem dX8_kindOf_13 : decode cX8_kindOf 13 = .ok (.iaload, 1) := dR0 (k := 0) (i := 13) bn_cX8_kindOf_0 dop_46 (by decide +kernel)
theorem dX8_kindOf_14 : decode cX8_kindOf 14 = .ok (.goto 4, 3) := dR2s (f := Instr.goto) (k := 0) (i := 14) bn_cX8_kindOf_0 dop_167 4 4 (by decide +kernel)
theorem dX8_kindOf_17 : decode cX8_kindOf 17 = .ok (.iconst 0, 1) := dR0 (k := 0) (i := 17) bn_cX8_kindOf_0 dop_3 (by decide +kernel)
theorem dX8_kindOf_18 : decode cX8_kindOf 18 = .ok (.ireturn, 1) := dR0 (k := 0) (i := 18) bn_cX8_kindOf_0 dop_172 (by decide +kernel)
set_option maxHeartbeats 4000000 in
set_option maxRecDepth 100000 in
theorem c_X8_kindOfG (l : Launch) (D : va_G) (cI : ClassId) (aK aV : Nat → Nat) (k k0 k1 k2 k3 k4 k5 k6 k7 k8 : Nat) (sz : Nat) (c9 : Int32) (c0 : Nat → Int32) (a0 : Int32) : Met l yX8_kindOf (gW yX8_kindOf cX8_kindOf 2 (some .int)) ({ frames := 1, cells := 0, slots := 0, locals := 21 } : Room) (kPreX D cI aK aV [.ref k, .int a0] [(k, .inr (8, [.ref k0, .ref k1, .ref k2, .ref k3, .ref k4, .ref k5, .ref k6, .ref k7, .ref k8, .int c9])), (k0, .inl (cI, 60, .inl c0))] sz) (va_Qi (fun (r : Int32) (u : Unit) => True) (fun u t => kWd D cI (va_A [(k, .inr (8, [.ref k0, .ref k1, .ref k2, .ref k3, .ref k4, .ref k5, .ref k6, .ref k7, .ref k8, .int c9])), (k0, .inl (cI, 60, .inl c0))] sz) [(k, .inr (8, [.ref k0, .ref k1, .ref k2, .ref k3, .ref k4, .ref k5, .ref k6, .ref k7, .ref k8, .int c9])), (k0, .inl (cI, 60, .inl c0))] t) (va_A [(k, .inr (8, [.ref k0, .ref k1, .ref k2, .ref k3, .ref k4, .ref k5, .ref k6, .ref k7, .ref k8, .int c9])), (k0, .inl (cI, 60, .inl c0))] sz)) 0 0 (va_A [(k, .inr (8, [.ref k0, .ref k1, .ref k2, .ref k3, .ref k4, .ref k5, .ref k6, .ref k7, .ref k8, .int c9])), (k0, .inl (cI, 60, .inl c0))] sz) := by
  refine kMetIX (own := RX8) (by decide +kernel) rfl (Nat.le_of_ble_eq_true rfl) ?_
  intro p e s m args below meth c hx hb hT hown hname hml A Q hK hP hD hS hA hN hXS hRet ls hl
  have hl : lv_has ls 2 [(0, .ref k), (1, .int a0)] := hl
  have lo_a0 := k_lo a0
  have hi_a0 := k_hi a0
  have lo_c9 := k_lo c9
  have hi_c9 := k_hi c9
  refine lv_aload_n hx hb dX8_kindOf_0 rfl (lv_at hl 0 rfl) ?_
  refine lv_iload_n hx hb dX8_kindOf_1 rfl (lv_at hl 1 rfl) ?_
  refine kJi (wr := [(k0, .inl (cI, 60, .inl c0))]) (va_runV (As := [.int a0]) (rest := []) ⟨hx, hb, hml, hown, hT⟩ (c_X8_hasG l D cI aK aV k k0 k1 k2 k3 k4 k5 k6 k7 k8 s.heap.size c9 a0) (cwV 1 hT (gV_in mw_371 mw_368 mw_369 mw_370 mw_3) rfl rfl rfl (by decide +kernel) ⟨Nat.le_of_ble_eq_true rfl, Nat.le_of_ble_eq_true rfl⟩) (kRecvX (q0 := 0) (ci := 8) hK hP hD hN hXS hS hA rfl rfl [0] rfl (by decide +kernel)) rfl rfl hl.1 rfl (lv_room (Nat.le_of_ble_eq_true rfl)) dX8_kindOf_2 ⟨Nat.le_of_ble_eq_true rfl, Nat.le_of_ble_eq_true rfl⟩) hP hD hS hA [0] [1] rfl rfl (by decide +kernel) (by decide +kernel) ?_
  clear hP hD hS
  intro r_1 u_3 H locs w_2 hP hD hS
  replace hP : va_P D vwCl [(k0, .inl (cI, 60, .inl c0)), (k, .inr (8, [.ref k0, .ref k1, .ref k2, .ref k3, .ref k4, .ref k5, .ref k6, .ref k7, .ref k8, .int c9]))] H := hP
  replace hD : va_D A [(k0, .inl (cI, 60, .inl c0)), (k, .inr (8, [.ref k0, .ref k1, .ref k2, .ref k3, .ref k4, .ref k5, .ref k6, .ref k7, .ref k8, .int c9]))] := hD
  rcases w_2 with ⟨hr_1, h_4, h_5, h_6⟩ | ⟨hr_1, h_7⟩
  · have h_4 : 0 ≤ a0.toInt := h_4
    have h_5 : a0.toInt < c9.toInt := h_5
    have h_6 : a0.toInt < 60 := h_6
    obtain rfl : r_1 = 1 := hr_1.trans (by decide +kernel)
    refine b_if_eq hx hb zl_1 (tgt := 17) dX8_kindOf_5 (by decide +kernel) (fun c_8 => by exfalso; omega) (fun c_8 => ?_)
    refine lv_aload_n hx hb dX8_kindOf_8 rfl (lv_at hl 0 rfl) ?_
    refine va_get (D := D) (ci := 8) (v := .ref k0) (C := RX8) (T := TX8) (N := 10) hx hb hT giX8 hown hK hP 1 rfl rfl 0 (by decide +kernel) (hT (Cond.fieldLink RX8 9 "DesertWire$Works" "kinds" "[I") mw_40) (fun _ h9 => h9) rfl dX8_kindOf_9 ?_
    refine lv_iload_n hx hb dX8_kindOf_12 rfl (lv_at hl 1 rfl) ?_
    refine k_iald (v := (c0 a0.toNatClampNeg)) hx hb hK hP 0 0 rfl rfl (k_in (by omega) (by omega)) rfl dX8_kindOf_13 ?_
    refine lv_topi (fun v_9 ev_9 => ?_)
    have lo_v_9 := k_lo v_9
    have hi_v_9 := k_hi v_9
    have tv_9 : v_9.toInt = (c0 a0.toNatClampNeg).toInt := by rw [ev_9]
    refine lv_goto (tgt := 18) hx hb dX8_kindOf_14 (by decide +kernel) ?_
    exact hRet () [1, 0] trivial hP hD (by decide +kernel) rfl hS rfl dX8_kindOf_18
  · have h_7 : a0.toInt < 0 ∨ c9.toInt ≤ a0.toInt ∨ 60 ≤ a0.toInt := h_7
    obtain rfl : r_1 = 0 := hr_1.trans (by decide +kernel)
    refine b_if_eq hx hb zl_0 (tgt := 17) dX8_kindOf_5 (by decide +kernel) (fun c_10 => ?_) (fun c_10 => by exfalso; omega)
    refine lv_iconst (v := 0) hx hb dX8_kindOf_17 (by decide +kernel) ?_
    exact hRet () [1, 0] trivial hP hD (by decide +kernel) rfl hS rfl dX8_kindOf_18
theorem bn_cX8_mileOf_0 : BN cX8_mileOf 0 0x2b4080500aa05e1c080056a2b06805343a00adc382b := by
  unfold BN; decide +kernel
theorem dX8_mileOf_0 : decode cX8_mileOf 0 = .ok (.aload_n 0, 1) := dR0 (k := 0) (i := 0) bn_cX8_mileOf_0 dop_42 (by decide +kernel)
theorem dX8_mileOf_1 : decode cX8_mileOf 1 = .ok (.iload_n 1, 1) := dR0 (k := 0) (i := 1) bn_cX8_mileOf_0 dop_27 (by decide +kernel)
theorem dX8_mileOf_2 : decode cX8_mileOf 2 = .ok (.invokevirtual 57, 3) := dR2 (f := Instr.invokevirtual) (k := 0) (i := 2) bn_cX8_mileOf_0 dop_182 57 (by decide +kernel)
theorem dX8_mileOf_5 : decode cX8_mileOf 5 = .ok (.ifCond .eq 12, 3) := dR2s (f := Instr.ifCond .eq) (k := 0) (i := 5) bn_cX8_mileOf_0 dop_153 12 12 (by decide +kernel)
theorem dX8_mileOf_8 : decode cX8_mileOf 8 = .ok (.aload_n 0, 1) := dR0 (k := 0) (i := 8) bn_cX8_mileOf_0 dop_42 (by decide +kernel)
theorem dX8_mileOf_9 : decode cX8_mileOf 9 = .ok (.getfield 15, 3) := dR2 (f := Instr.getfield) (k := 0) (i := 9) bn_cX8_mileOf_0 dop_180 15 (by decide +kernel)
theorem dX8_mileOf_12 : decode cX8_mileOf 12 = .ok (.iload_n 1, 1) := dR0 (k := 0) (i := 12) bn_cX8_mileOf_0 dop_27 (by decide +kernel)
theorem dX8_mileOf_13 : decode cX8_mileOf 13 = .ok (.iaload, 1) := dR0 (k := 0) (i := 13) bn_cX8_mileOf_0 dop_46 (by decide +kernel)
theorem dX8_mileOf_14 : decode cX8_mileOf 14 = .ok (.goto 4, 3) := dR2s (f := Instr.goto) (k := 0) (i := 14) bn_cX8_mileOf_0 dop_167 4 4 (by decide +kernel)
theorem dX8_mileOf_17 : decode cX8_mileOf 17 = .ok (.iconst 0, 1) := dR0 (k := 0) (i := 17) bn_cX8_mileOf_0 dop_3 (by decide +kernel)
theorem dX8_mileOf_18 : decode cX8_mileOf 18 = .ok (.ireturn, 1) := dR0 (k := 0) (i := 18) bn_cX8_mileOf_0 dop_172 (by decide +kernel)
set_option maxHeartbeats 4000000 in
set_option maxRecDepth 100000 in
theorem c_X8_mileOfG (l : Launch) (D : va_G) (cI : ClassId) (aK aV : Nat → Nat) (k k0 k1 k2 k3 k4 k5 k6 k7 k8 : Nat) (sz : Nat) (c9 : Int32) (c1 : Nat → Int32) (a0 : Int32) : Met l yX8_mileOf (gW yX8_mileOf cX8_mileOf 2 (some .int)) ({ frames := 1, cells := 0, slots := 0, locals := 21 } : Room) (kPreX D cI aK aV [.ref k, .int a0] [(k, .inr (8, [.ref k0, .ref k1, .ref k2, .ref k3, .ref k4, .ref k5, .ref k6, .ref k7, .ref k8, .int c9])), (k1, .inl (cI, 60, .inl c1))] sz) (va_Qi (fun (r : Int32) (u : Unit) => True) (fun u t => kWd D cI (va_A [(k, .inr (8, [.ref k0, .ref k1, .ref k2, .ref k3, .ref k4, .ref k5, .ref k6, .ref k7, .ref k8, .int c9])), (k1, .inl (cI, 60, .inl c1))] sz) [(k, .inr (8, [.ref k0, .ref k1, .ref k2, .ref k3, .ref k4, .ref k5, .ref k6, .ref k7, .ref k8, .int c9])), (k1, .inl (cI, 60, .inl c1))] t) (va_A [(k, .inr (8, [.ref k0, .ref k1, .ref k2, .ref k3, .ref k4, .ref k5, .ref k6, .ref k7, .ref k8, .int c9])), (k1, .inl (cI, 60, .inl c1))] sz)) 0 0 (va_A [(k, .inr (8, [.ref k0, .ref k1, .ref k2, .ref k3, .ref k4, .ref k5, .ref k6, .ref k7, .ref k8, .int c9])), (k1, .inl (cI, 60, .inl c1))] sz) := by
  refine kMetIX (own := RX8) (by decide +kernel) rfl (Nat.le_of_ble_eq_true rfl) ?_
  intro p e s m args below meth c hx hb hT hown hname hml A Q hK hP hD hS hA hN hXS hRet ls hl
  have hl : lv_has ls 2 [(0, .ref k), (1, .int a0)] := hl
  have lo_a0 := k_lo a0
  have hi_a0 := k_hi a0
  have lo_c9 := k_lo c9
  have hi_c9 := k_hi c9
  refine lv_aload_n hx hb dX8_mileOf_0 rfl (lv_at hl 0 rfl) ?_
  refine lv_iload_n hx hb dX8_mileOf_1 rfl (lv_at hl 1 rfl) ?_
  refine kJi (wr := [(k1, .inl (cI, 60, .inl c1))]) (va_runV (As := [.int a0]) (rest := []) ⟨hx, hb, hml, hown, hT⟩ (c_X8_hasG l D cI aK aV k k0 k1 k2 k3 k4 k5 k6 k7 k8 s.heap.size c9 a0) (cwV 1 hT (gV_in mw_371 mw_368 mw_369 mw_370 mw_3) rfl rfl rfl (by decide +kernel) ⟨Nat.le_of_ble_eq_true rfl, Nat.le_of_ble_eq_true rfl⟩) (kRecvX (q0 := 0) (ci := 8) hK hP hD hN hXS hS hA rfl rfl [0] rfl (by decide +kernel)) rfl rfl hl.1 rfl (lv_room (Nat.le_of_ble_eq_true rfl)) dX8_mileOf_2 ⟨Nat.le_of_ble_eq_true rfl, Nat.le_of_ble_eq_true rfl⟩) hP hD hS hA [0] [1] rfl rfl (by decide +kernel) (by decide +kernel) ?_
  clear hP hD hS
  intro r_1 u_3 H locs w_2 hP hD hS
  replace hP : va_P D vwCl [(k1, .inl (cI, 60, .inl c1)), (k, .inr (8, [.ref k0, .ref k1, .ref k2, .ref k3, .ref k4, .ref k5, .ref k6, .ref k7, .ref k8, .int c9]))] H := hP
  replace hD : va_D A [(k1, .inl (cI, 60, .inl c1)), (k, .inr (8, [.ref k0, .ref k1, .ref k2, .ref k3, .ref k4, .ref k5, .ref k6, .ref k7, .ref k8, .int c9]))] := hD
  rcases w_2 with ⟨hr_1, h_4, h_5, h_6⟩ | ⟨hr_1, h_7⟩
  · have h_4 : 0 ≤ a0.toInt := h_4
    have h_5 : a0.toInt < c9.toInt := h_5
    have h_6 : a0.toInt < 60 := h_6
    obtain rfl : r_1 = 1 := hr_1.trans (by decide +kernel)
    refine b_if_eq hx hb zl_1 (tgt := 17) dX8_mileOf_5 (by decide +kernel) (fun c_8 => by exfalso; omega) (fun c_8 => ?_)
    refine lv_aload_n hx hb dX8_mileOf_8 rfl (lv_at hl 0 rfl) ?_
    refine va_get (D := D) (ci := 8) (v := .ref k1) (C := RX8) (T := TX8) (N := 10) hx hb hT giX8 hown hK hP 1 rfl rfl 1 (by decide +kernel) (hT (Cond.fieldLink RX8 15 "DesertWire$Works" "miles" "[I") mw_41) (fun _ h9 => h9) rfl dX8_mileOf_9 ?_
    refine lv_iload_n hx hb dX8_mileOf_12 rfl (lv_at hl 1 rfl) ?_
    refine k_iald (v := (c1 a0.toNatClampNeg)) hx hb hK hP 0 0 rfl rfl (k_in (by omega) (by omega)) rfl dX8_mileOf_13 ?_
    refine lv_topi (fun v_9 ev_9 => ?_)
    have lo_v_9 := k_lo v_9
    have hi_v_9 := k_hi v_9
    have tv_9 : v_9.toInt = (c1 a0.toNatClampNeg).toInt := by rw [ev_9]
    refine lv_goto (tgt := 18) hx hb dX8_mileOf_14 (by decide +kernel) ?_
    exact hRet () [1, 0] trivial hP hD (by decide +kernel) rfl hS rfl dX8_mileOf_18
  · have h_7 : a0.toInt < 0 ∨ c9.toInt ≤ a0.toInt ∨ 60 ≤ a0.toInt := h_7
    obtain rfl : r_1 = 0 := hr_1.trans (by decide +kernel)
    refine b_if_eq hx hb zl_0 (tgt := 17) dX8_mileOf_5 (by decide +kernel) (fun c_10 => ?_) (fun c_10 => by exfalso; omega)
    refine lv_iconst (v := 0) hx hb dX8_mileOf_17 (by decide +kernel) ?_
    exact hRet () [1, 0] trivial hP hD (by decide +kernel) rfl hS rfl dX8_mileOf_18
theorem bn_cX8_sizeOf_0 : BN cX8_sizeOf 0 0x2b4080500aa05e1c098056a2b06805343a00adc382b := by
  unfold BN; decide +kernel
theorem dX8_sizeOf_0 : decode cX8_sizeOf 0 = .ok (.aload_n 0, 1) := dR0 (k := 0) (i := 0) bn_cX8_sizeOf_0 dop_42 (by decide +kernel)
theorem dX8_sizeOf_1 : decode cX8_sizeOf 1 = .ok (.iload_n 1, 1) := dR0 (k := 0) (i := 1) bn_cX8_sizeOf_0 dop_27 (by decide +kernel)
theorem dX8_sizeOf_2 : decode cX8_sizeOf 2 = .ok (.invokevirtual 57, 3) := dR2 (f := Instr.invokevirtual) (k := 0) (i := 2) bn_cX8_sizeOf_0 dop_182 57 (by decide +kernel)
theorem dX8_sizeOf_5 : decode cX8_sizeOf 5 = .ok (.ifCond .eq 12, 3) := dR2s (f := Instr.ifCond .eq) (k := 0) (i := 5) bn_cX8_sizeOf_0 dop_153 12 12 (by decide +kernel)
theorem dX8_sizeOf_8 : decode cX8_sizeOf 8 = .ok (.aload_n 0, 1) := dR0 (k := 0) (i := 8) bn_cX8_sizeOf_0 dop_42 (by decide +kernel)
theorem dX8_sizeOf_9 : decode cX8_sizeOf 9 = .ok (.getfield 18, 3) := dR2 (f := Instr.getfield) (k := 0) (i := 9) bn_cX8_sizeOf_0 dop_180 18 (by decide +kernel)
theorem dX8_sizeOf_12 : decode cX8_sizeOf 12 = .ok (.iload_n 1, 1) := dR0 (k := 0) (i := 12) bn_cX8_sizeOf_0 dop_27 (by decide +kernel)
theorem dX8_sizeOf_13 : decode cX8_sizeOf 13 = .ok (.iaload, 1) := dR0 (k := 0) (i := 13) bn_cX8_sizeOf_0 dop_46 (by decide +kernel)
theorem dX8_sizeOf_14 : decode cX8_sizeOf 14 = .ok (.goto 4, 3) := dR2s (f := Instr.goto) (k := 0) (i := 14) bn_cX8_sizeOf_0 dop_167 4 4 (by decide +kernel)
theorem dX8_sizeOf_17 : decode cX8_sizeOf 17 = .ok (.iconst 0, 1) := dR0 (k := 0) (i := 17) bn_cX8_sizeOf_0 dop_3 (by decide +kernel)
theorem dX8_sizeOf_18 : decode cX8_sizeOf 18 = .ok (.ireturn, 1) := dR0 (k := 0) (i := 18) bn_cX8_sizeOf_0 dop_172 (by decide +kernel)
set_option maxHeartbeats 4000000 in
set_option maxRecDepth 100000 in
theorem c_X8_sizeOfG (l : Launch) (D : va_G) (cI : ClassId) (aK aV : Nat → Nat) (k k0 k1 k2 k3 k4 k5 k6 k7 k8 : Nat) (sz : Nat) (c9 : Int32) (c2 : Nat → Int32) (a0 : Int32) : Met l yX8_sizeOf (gW yX8_sizeOf cX8_sizeOf 2 (some .int)) ({ frames := 1, cells := 0, slots := 0, locals := 21 } : Room) (kPreX D cI aK aV [.ref k, .int a0] [(k, .inr (8, [.ref k0, .ref k1, .ref k2, .ref k3, .ref k4, .ref k5, .ref k6, .ref k7, .ref k8, .int c9])), (k2, .inl (cI, 60, .inl c2))] sz) (va_Qi (fun (r : Int32) (u : Unit) => True) (fun u t => kWd D cI (va_A [(k, .inr (8, [.ref k0, .ref k1, .ref k2, .ref k3, .ref k4, .ref k5, .ref k6, .ref k7, .ref k8, .int c9])), (k2, .inl (cI, 60, .inl c2))] sz) [(k, .inr (8, [.ref k0, .ref k1, .ref k2, .ref k3, .ref k4, .ref k5, .ref k6, .ref k7, .ref k8, .int c9])), (k2, .inl (cI, 60, .inl c2))] t) (va_A [(k, .inr (8, [.ref k0, .ref k1, .ref k2, .ref k3, .ref k4, .ref k5, .ref k6, .ref k7, .ref k8, .int c9])), (k2, .inl (cI, 60, .inl c2))] sz)) 0 0 (va_A [(k, .inr (8, [.ref k0, .ref k1, .ref k2, .ref k3, .ref k4, .ref k5, .ref k6, .ref k7, .ref k8, .int c9])), (k2, .inl (cI, 60, .inl c2))] sz) := by
  refine kMetIX (own := RX8) (by decide +kernel) rfl (Nat.le_of_ble_eq_true rfl) ?_
  intro p e s m args below meth c hx hb hT hown hname hml A Q hK hP hD hS hA hN hXS hRet ls hl
  have hl : lv_has ls 2 [(0, .ref k), (1, .int a0)] := hl
  have lo_a0 := k_lo a0
  have hi_a0 := k_hi a0
  have lo_c9 := k_lo c9
  have hi_c9 := k_hi c9
  refine lv_aload_n hx hb dX8_sizeOf_0 rfl (lv_at hl 0 rfl) ?_
  refine lv_iload_n hx hb dX8_sizeOf_1 rfl (lv_at hl 1 rfl) ?_
  refine kJi (wr := [(k2, .inl (cI, 60, .inl c2))]) (va_runV (As := [.int a0]) (rest := []) ⟨hx, hb, hml, hown, hT⟩ (c_X8_hasG l D cI aK aV k k0 k1 k2 k3 k4 k5 k6 k7 k8 s.heap.size c9 a0) (cwV 1 hT (gV_in mw_371 mw_368 mw_369 mw_370 mw_3) rfl rfl rfl (by decide +kernel) ⟨Nat.le_of_ble_eq_true rfl, Nat.le_of_ble_eq_true rfl⟩) (kRecvX (q0 := 0) (ci := 8) hK hP hD hN hXS hS hA rfl rfl [0] rfl (by decide +kernel)) rfl rfl hl.1 rfl (lv_room (Nat.le_of_ble_eq_true rfl)) dX8_sizeOf_2 ⟨Nat.le_of_ble_eq_true rfl, Nat.le_of_ble_eq_true rfl⟩) hP hD hS hA [0] [1] rfl rfl (by decide +kernel) (by decide +kernel) ?_
  clear hP hD hS
  intro r_1 u_3 H locs w_2 hP hD hS
  replace hP : va_P D vwCl [(k2, .inl (cI, 60, .inl c2)), (k, .inr (8, [.ref k0, .ref k1, .ref k2, .ref k3, .ref k4, .ref k5, .ref k6, .ref k7, .ref k8, .int c9]))] H := hP
  replace hD : va_D A [(k2, .inl (cI, 60, .inl c2)), (k, .inr (8, [.ref k0, .ref k1, .ref k2, .ref k3, .ref k4, .ref k5, .ref k6, .ref k7, .ref k8, .int c9]))] := hD
  rcases w_2 with ⟨hr_1, h_4, h_5, h_6⟩ | ⟨hr_1, h_7⟩
  · have h_4 : 0 ≤ a0.toInt := h_4
    have h_5 : a0.toInt < c9.toInt := h_5
    have h_6 : a0.toInt < 60 := h_6
    obtain rfl : r_1 = 1 := hr_1.trans (by decide +kernel)
    refine b_if_eq hx hb zl_1 (tgt := 17) dX8_sizeOf_5 (by decide +kernel) (fun c_8 => by exfalso; omega) (fun c_8 => ?_)
    refine lv_aload_n hx hb dX8_sizeOf_8 rfl (lv_at hl 0 rfl) ?_
    refine va_get (D := D) (ci := 8) (v := .ref k2) (C := RX8) (T := TX8) (N := 10) hx hb hT giX8 hown hK hP 1 rfl rfl 2 (by decide +kernel) (hT (Cond.fieldLink RX8 18 "DesertWire$Works" "sizes" "[I") mw_42) (fun _ h9 => h9) rfl dX8_sizeOf_9 ?_
    refine lv_iload_n hx hb dX8_sizeOf_12 rfl (lv_at hl 1 rfl) ?_
    refine k_iald (v := (c2 a0.toNatClampNeg)) hx hb hK hP 0 0 rfl rfl (k_in (by omega) (by omega)) rfl dX8_sizeOf_13 ?_
    refine lv_topi (fun v_9 ev_9 => ?_)
    have lo_v_9 := k_lo v_9
    have hi_v_9 := k_hi v_9
    have tv_9 : v_9.toInt = (c2 a0.toNatClampNeg).toInt := by rw [ev_9]
    refine lv_goto (tgt := 18) hx hb dX8_sizeOf_14 (by decide +kernel) ?_
    exact hRet () [1, 0] trivial hP hD (by decide +kernel) rfl hS rfl dX8_sizeOf_18
  · have h_7 : a0.toInt < 0 ∨ c9.toInt ≤ a0.toInt ∨ 60 ≤ a0.toInt := h_7
    obtain rfl : r_1 = 0 := hr_1.trans (by decide +kernel)
    refine b_if_eq hx hb zl_0 (tgt := 17) dX8_sizeOf_5 (by decide +kernel) (fun c_10 => ?_) (fun c_10 => by exfalso; omega)
    refine lv_iconst (v := 0) hx hb dX8_sizeOf_17 (by decide +kernel) ?_
    exact hRet () [1, 0] trivial hP hD (by decide +kernel) rfl hS rfl dX8_sizeOf_18
theorem bn_cX8_sinceOf_0 : BN cX8_sinceOf 0 0x2b4080500aa05e1c0b0056a2b06805343a00adc382b := by
  unfold BN; decide +kernel
theorem dX8_sinceOf_0 : decode cX8_sinceOf 0 = .ok (.aload_n 0, 1) := dR0 (k := 0) (i := 0) bn_cX8_sinceOf_0 dop_42 (by decide +kernel)
theorem dX8_sinceOf_1 : decode cX8_sinceOf 1 = .ok (.iload_n 1, 1) := dR0 (k := 0) (i := 1) bn_cX8_sinceOf_0 dop_27 (by decide +kernel)
theorem dX8_sinceOf_2 : decode cX8_sinceOf 2 = .ok (.invokevirtual 57, 3) := dR2 (f := Instr.invokevirtual) (k := 0) (i := 2) bn_cX8_sinceOf_0 dop_182 57 (by decide +kernel)
theorem dX8_sinceOf_5 : decode cX8_sinceOf 5 = .ok (.ifCond .eq 12, 3) := dR2s (f := Instr.ifCond .eq) (k := 0) (i := 5) bn_cX8_sinceOf_0 dop_153 12 12 (by decide +kernel)
theorem dX8_sinceOf_8 : decode cX8_sinceOf 8 = .ok (.aload_n 0, 1) := dR0 (k := 0) (i := 8) bn_cX8_sinceOf_0 dop_42 (by decide +kernel)
theorem dX8_sinceOf_9 : decode cX8_sinceOf 9 = .ok (.getfield 21, 3) := dR2 (f := Instr.getfield) (k := 0) (i := 9) bn_cX8_sinceOf_0 dop_180 21 (by decide +kernel)
theorem dX8_sinceOf_12 : decode cX8_sinceOf 12 = .ok (.iload_n 1, 1) := dR0 (k := 0) (i := 12) bn_cX8_sinceOf_0 dop_27 (by decide +kernel)
theorem dX8_sinceOf_13 : decode cX8_sinceOf 13 = .ok (.iaload, 1) := dR0 (k := 0) (i := 13) bn_cX8_sinceOf_0 dop_46 (by decide +kernel)
theorem dX8_sinceOf_14 : decode cX8_sinceOf 14 = .ok (.goto 4, 3) := dR2s (f := Instr.goto) (k := 0) (i := 14) bn_cX8_sinceOf_0 dop_167 4 4 (by decide +kernel)
theorem dX8_sinceOf_17 : decode cX8_sinceOf 17 = .ok (.iconst 0, 1) := dR0 (k := 0) (i := 17) bn_cX8_sinceOf_0 dop_3 (by decide +kernel)
theorem dX8_sinceOf_18 : decode cX8_sinceOf 18 = .ok (.ireturn, 1) := dR0 (k := 0) (i := 18) bn_cX8_sinceOf_0 dop_172 (by decide +kernel)
set_option maxHeartbeats 4000000 in
set_option maxRecDepth 100000 in
theorem c_X8_sinceOfG (l : Launch) (D : va_G) (cI : ClassId) (aK aV : Nat → Nat) (k k0 k1 k2 k3 k4 k5 k6 k7 k8 : Nat) (sz : Nat) (c9 : Int32) (c3 : Nat → Int32) (a0 : Int32) : Met l yX8_sinceOf (gW yX8_sinceOf cX8_sinceOf 2 (some .int)) ({ frames := 1, cells := 0, slots := 0, locals := 21 } : Room) (kPreX D cI aK aV [.ref k, .int a0] [(k, .inr (8, [.ref k0, .ref k1, .ref k2, .ref k3, .ref k4, .ref k5, .ref k6, .ref k7, .ref k8, .int c9])), (k3, .inl (cI, 60, .inl c3))] sz) (va_Qi (fun (r : Int32) (u : Unit) => True) (fun u t => kWd D cI (va_A [(k, .inr (8, [.ref k0, .ref k1, .ref k2, .ref k3, .ref k4, .ref k5, .ref k6, .ref k7, .ref k8, .int c9])), (k3, .inl (cI, 60, .inl c3))] sz) [(k, .inr (8, [.ref k0, .ref k1, .ref k2, .ref k3, .ref k4, .ref k5, .ref k6, .ref k7, .ref k8, .int c9])), (k3, .inl (cI, 60, .inl c3))] t) (va_A [(k, .inr (8, [.ref k0, .ref k1, .ref k2, .ref k3, .ref k4, .ref k5, .ref k6, .ref k7, .ref k8, .int c9])), (k3, .inl (cI, 60, .inl c3))] sz)) 0 0 (va_A [(k, .inr (8, [.ref k0, .ref k1, .ref k2, .ref k3, .ref k4, .ref k5, .ref k6, .ref k7, .ref k8, .int c9])), (k3, .inl (cI, 60, .inl c3))] sz) := by
  refine kMetIX (own := RX8) (by decide +kernel) rfl (Nat.le_of_ble_eq_true rfl) ?_
  intro p e s m args below meth c hx hb hT hown hname hml A Q hK hP hD hS hA hN hXS hRet ls hl
  have hl : lv_has ls 2 [(0, .ref k), (1, .int a0)] := hl
  have lo_a0 := k_lo a0
  have hi_a0 := k_hi a0
  have lo_c9 := k_lo c9
  have hi_c9 := k_hi c9
  refine lv_aload_n hx hb dX8_sinceOf_0 rfl (lv_at hl 0 rfl) ?_
  refine lv_iload_n hx hb dX8_sinceOf_1 rfl (lv_at hl 1 rfl) ?_
  refine kJi (wr := [(k3, .inl (cI, 60, .inl c3))]) (va_runV (As := [.int a0]) (rest := []) ⟨hx, hb, hml, hown, hT⟩ (c_X8_hasG l D cI aK aV k k0 k1 k2 k3 k4 k5 k6 k7 k8 s.heap.size c9 a0) (cwV 1 hT (gV_in mw_371 mw_368 mw_369 mw_370 mw_3) rfl rfl rfl (by decide +kernel) ⟨Nat.le_of_ble_eq_true rfl, Nat.le_of_ble_eq_true rfl⟩) (kRecvX (q0 := 0) (ci := 8) hK hP hD hN hXS hS hA rfl rfl [0] rfl (by decide +kernel)) rfl rfl hl.1 rfl (lv_room (Nat.le_of_ble_eq_true rfl)) dX8_sinceOf_2 ⟨Nat.le_of_ble_eq_true rfl, Nat.le_of_ble_eq_true rfl⟩) hP hD hS hA [0] [1] rfl rfl (by decide +kernel) (by decide +kernel) ?_
  clear hP hD hS
  intro r_1 u_3 H locs w_2 hP hD hS
  replace hP : va_P D vwCl [(k3, .inl (cI, 60, .inl c3)), (k, .inr (8, [.ref k0, .ref k1, .ref k2, .ref k3, .ref k4, .ref k5, .ref k6, .ref k7, .ref k8, .int c9]))] H := hP
  replace hD : va_D A [(k3, .inl (cI, 60, .inl c3)), (k, .inr (8, [.ref k0, .ref k1, .ref k2, .ref k3, .ref k4, .ref k5, .ref k6, .ref k7, .ref k8, .int c9]))] := hD
  rcases w_2 with ⟨hr_1, h_4, h_5, h_6⟩ | ⟨hr_1, h_7⟩
  · have h_4 : 0 ≤ a0.toInt := h_4
    have h_5 : a0.toInt < c9.toInt := h_5
    have h_6 : a0.toInt < 60 := h_6
    obtain rfl : r_1 = 1 := hr_1.trans (by decide +kernel)
    refine b_if_eq hx hb zl_1 (tgt := 17) dX8_sinceOf_5 (by decide +kernel) (fun c_8 => by exfalso; omega) (fun c_8 => ?_)
    refine lv_aload_n hx hb dX8_sinceOf_8 rfl (lv_at hl 0 rfl) ?_
    refine va_get (D := D) (ci := 8) (v := .ref k3) (C := RX8) (T := TX8) (N := 10) hx hb hT giX8 hown hK hP 1 rfl rfl 3 (by decide +kernel) (hT (Cond.fieldLink RX8 21 "DesertWire$Works" "sinces" "[I") mw_43) (fun _ h9 => h9) rfl dX8_sinceOf_9 ?_
    refine lv_iload_n hx hb dX8_sinceOf_12 rfl (lv_at hl 1 rfl) ?_
    refine k_iald (v := (c3 a0.toNatClampNeg)) hx hb hK hP 0 0 rfl rfl (k_in (by omega) (by omega)) rfl dX8_sinceOf_13 ?_
    refine lv_topi (fun v_9 ev_9 => ?_)
    have lo_v_9 := k_lo v_9
    have hi_v_9 := k_hi v_9
    have tv_9 : v_9.toInt = (c3 a0.toNatClampNeg).toInt := by rw [ev_9]
    refine lv_goto (tgt := 18) hx hb dX8_sinceOf_14 (by decide +kernel) ?_
    exact hRet () [1, 0] trivial hP hD (by decide +kernel) rfl hS rfl dX8_sinceOf_18
  · have h_7 : a0.toInt < 0 ∨ c9.toInt ≤ a0.toInt ∨ 60 ≤ a0.toInt := h_7
    obtain rfl : r_1 = 0 := hr_1.trans (by decide +kernel)
    refine b_if_eq hx hb zl_0 (tgt := 17) dX8_sinceOf_5 (by decide +kernel) (fun c_10 => ?_) (fun c_10 => by exfalso; omega)
    refine lv_iconst (v := 0) hx hb dX8_sinceOf_17 (by decide +kernel) ?_
    exact hRet () [1, 0] trivial hP hD (by decide +kernel) rfl hS rfl dX8_sinceOf_18
theorem bn_cX8_foodOf_0 : BN cX8_foodOf 0 0x2b4080500aa05e1c0c8056a2b06805343a00adc382b := by
  unfold BN; decide +kernel
theorem dX8_foodOf_0 : decode cX8_foodOf 0 = .ok (.aload_n 0, 1) := dR0 (k := 0) (i := 0) bn_cX8_foodOf_0 dop_42 (by decide +kernel)
theorem dX8_foodOf_1 : decode cX8_foodOf 1 = .ok (.iload_n 1, 1) := dR0 (k := 0) (i := 1) bn_cX8_foodOf_0 dop_27 (by decide +kernel)
theorem dX8_foodOf_2 : decode cX8_foodOf 2 = .ok (.invokevirtual 57, 3) := dR2 (f := Instr.invokevirtual) (k := 0) (i := 2) bn_cX8_foodOf_0 dop_182 57 (by decide +kernel)
theorem dX8_foodOf_5 : decode cX8_foodOf 5 = .ok (.ifCond .eq 12, 3) := dR2s (f := Instr.ifCond .eq) (k := 0) (i := 5) bn_cX8_foodOf_0 dop_153 12 12 (by decide +kernel)
theorem dX8_foodOf_8 : decode cX8_foodOf 8 = .ok (.aload_n 0, 1) := dR0 (k := 0) (i := 8) bn_cX8_foodOf_0 dop_42 (by decide +kernel)
theorem dX8_foodOf_9 : decode cX8_foodOf 9 = .ok (.getfield 24, 3) := dR2 (f := Instr.getfield) (k := 0) (i := 9) bn_cX8_foodOf_0 dop_180 24 (by decide +kernel)
theorem dX8_foodOf_12 : decode cX8_foodOf 12 = .ok (.iload_n 1, 1) := dR0 (k := 0) (i := 12) bn_cX8_foodOf_0 dop_27 (by decide +kernel)
theorem dX8_foodOf_13 : decode cX8_foodOf 13 = .ok (.iaload, 1) := dR0 (k := 0) (i := 13) bn_cX8_foodOf_0 dop_46 (by decide +kernel)
theorem dX8_foodOf_14 : decode cX8_foodOf 14 = .ok (.goto 4, 3) := dR2s (f := Instr.goto) (k := 0) (i := 14) bn_cX8_foodOf_0 dop_167 4 4 (by decide +kernel)
theorem dX8_foodOf_17 : decode cX8_foodOf 17 = .ok (.iconst 0, 1) := dR0 (k := 0) (i := 17) bn_cX8_foodOf_0 dop_3 (by decide +kernel)
theorem dX8_foodOf_18 : decode cX8_foodOf 18 = .ok (.ireturn, 1) := dR0 (k := 0) (i := 18) bn_cX8_foodOf_0 dop_172 (by decide +kernel)
set_option maxHeartbeats 4000000 in
set_option maxRecDepth 100000 in
theorem c_X8_foodOfG (l : Launch) (D : va_G) (cI : ClassId) (aK aV : Nat → Nat) (k k0 k1 k2 k3 k4 k5 k6 k7 k8 : Nat) (sz : Nat) (c9 : Int32) (c4 : Nat → Int32) (a0 : Int32) : Met l yX8_foodOf (gW yX8_foodOf cX8_foodOf 2 (some .int)) ({ frames := 1, cells := 0, slots := 0, locals := 21 } : Room) (kPreX D cI aK aV [.ref k, .int a0] [(k, .inr (8, [.ref k0, .ref k1, .ref k2, .ref k3, .ref k4, .ref k5, .ref k6, .ref k7, .ref k8, .int c9])), (k4, .inl (cI, 60, .inl c4))] sz) (va_Qi (fun (r : Int32) (u : Unit) => True) (fun u t => kWd D cI (va_A [(k, .inr (8, [.ref k0, .ref k1, .ref k2, .ref k3, .ref k4, .ref k5, .ref k6, .ref k7, .ref k8, .int c9])), (k4, .inl (cI, 60, .inl c4))] sz) [(k, .inr (8, [.ref k0, .ref k1, .ref k2, .ref k3, .ref k4, .ref k5, .ref k6, .ref k7, .ref k8, .int c9])), (k4, .inl (cI, 60, .inl c4))] t) (va_A [(k, .inr (8, [.ref k0, .ref k1, .ref k2, .ref k3, .ref k4, .ref k5, .ref k6, .ref k7, .ref k8, .int c9])), (k4, .inl (cI, 60, .inl c4))] sz)) 0 0 (va_A [(k, .inr (8, [.ref k0, .ref k1, .ref k2, .ref k3, .ref k4, .ref k5, .ref k6, .ref k7, .ref k8, .int c9])), (k4, .inl (cI, 60, .inl c4))] sz) := by
  refine kMetIX (own := RX8) (by decide +kernel) rfl (Nat.le_of_ble_eq_true rfl) ?_
  intro p e s m args below meth c hx hb hT hown hname hml A Q hK hP hD hS hA hN hXS hRet ls hl
  have hl : lv_has ls 2 [(0, .ref k), (1, .int a0)] := hl
  have lo_a0 := k_lo a0
  have hi_a0 := k_hi a0
  have lo_c9 := k_lo c9
  have hi_c9 := k_hi c9
  refine lv_aload_n hx hb dX8_foodOf_0 rfl (lv_at hl 0 rfl) ?_
  refine lv_iload_n hx hb dX8_foodOf_1 rfl (lv_at hl 1 rfl) ?_
  refine kJi (wr := [(k4, .inl (cI, 60, .inl c4))]) (va_runV (As := [.int a0]) (rest := []) ⟨hx, hb, hml, hown, hT⟩ (c_X8_hasG l D cI aK aV k k0 k1 k2 k3 k4 k5 k6 k7 k8 s.heap.size c9 a0) (cwV 1 hT (gV_in mw_371 mw_368 mw_369 mw_370 mw_3) rfl rfl rfl (by decide +kernel) ⟨Nat.le_of_ble_eq_true rfl, Nat.le_of_ble_eq_true rfl⟩) (kRecvX (q0 := 0) (ci := 8) hK hP hD hN hXS hS hA rfl rfl [0] rfl (by decide +kernel)) rfl rfl hl.1 rfl (lv_room (Nat.le_of_ble_eq_true rfl)) dX8_foodOf_2 ⟨Nat.le_of_ble_eq_true rfl, Nat.le_of_ble_eq_true rfl⟩) hP hD hS hA [0] [1] rfl rfl (by decide +kernel) (by decide +kernel) ?_
  clear hP hD hS
  intro r_1 u_3 H locs w_2 hP hD hS
  replace hP : va_P D vwCl [(k4, .inl (cI, 60, .inl c4)), (k, .inr (8, [.ref k0, .ref k1, .ref k2, .ref k3, .ref k4, .ref k5, .ref k6, .ref k7, .ref k8, .int c9]))] H := hP
  replace hD : va_D A [(k4, .inl (cI, 60, .inl c4)), (k, .inr (8, [.ref k0, .ref k1, .ref k2, .ref k3, .ref k4, .ref k5, .ref k6, .ref k7, .ref k8, .int c9]))] := hD
  rcases w_2 with ⟨hr_1, h_4, h_5, h_6⟩ | ⟨hr_1, h_7⟩
  · have h_4 : 0 ≤ a0.toInt := h_4
    have h_5 : a0.toInt < c9.toInt := h_5
    have h_6 : a0.toInt < 60 := h_6
    obtain rfl : r_1 = 1 := hr_1.trans (by decide +kernel)
    refine b_if_eq hx hb zl_1 (tgt := 17) dX8_foodOf_5 (by decide +kernel) (fun c_8 => by exfalso; omega) (fun c_8 => ?_)
    refine lv_aload_n hx hb dX8_foodOf_8 rfl (lv_at hl 0 rfl) ?_
    refine va_get (D := D) (ci := 8) (v := .ref k4) (C := RX8) (T := TX8) (N := 10) hx hb hT giX8 hown hK hP 1 rfl rfl 4 (by decide +kernel) (hT (Cond.fieldLink RX8 24 "DesertWire$Works" "foods" "[I") mw_44) (fun _ h9 => h9) rfl dX8_foodOf_9 ?_
    refine lv_iload_n hx hb dX8_foodOf_12 rfl (lv_at hl 1 rfl) ?_
    refine k_iald (v := (c4 a0.toNatClampNeg)) hx hb hK hP 0 0 rfl rfl (k_in (by omega) (by omega)) rfl dX8_foodOf_13 ?_
    refine lv_topi (fun v_9 ev_9 => ?_)
    have lo_v_9 := k_lo v_9
    have hi_v_9 := k_hi v_9
    have tv_9 : v_9.toInt = (c4 a0.toNatClampNeg).toInt := by rw [ev_9]
    refine lv_goto (tgt := 18) hx hb dX8_foodOf_14 (by decide +kernel) ?_
    exact hRet () [1, 0] trivial hP hD (by decide +kernel) rfl hS rfl dX8_foodOf_18
  · have h_7 : a0.toInt < 0 ∨ c9.toInt ≤ a0.toInt ∨ 60 ≤ a0.toInt := h_7
    obtain rfl : r_1 = 0 := hr_1.trans (by decide +kernel)
    refine b_if_eq hx hb zl_0 (tgt := 17) dX8_foodOf_5 (by decide +kernel) (fun c_10 => ?_) (fun c_10 => by exfalso; omega)
    refine lv_iconst (v := 0) hx hb dX8_foodOf_17 (by decide +kernel) ?_
    exact hRet () [1, 0] trivial hP hD (by decide +kernel) rfl hS rfl dX8_foodOf_18
theorem bn_cX8_isDown_0 : BN cX8_isDown 0 0x2b4080500aa00a0800a685e1c0e0056a2b08805343a00adc382b := by
  unfold BN; decide +kernel
theorem dX8_isDown_0 : decode cX8_isDown 0 = .ok (.aload_n 0, 1) := dR0 (k := 0) (i := 0) bn_cX8_isDown_0 dop_42 (by decide +kernel)
theorem dX8_isDown_1 : decode cX8_isDown 1 = .ok (.iload_n 1, 1) := dR0 (k := 0) (i := 1) bn_cX8_isDown_0 dop_27 (by decide +kernel)
theorem dX8_isDown_2 : decode cX8_isDown 2 = .ok (.invokevirtual 57, 3) := dR2 (f := Instr.invokevirtual) (k := 0) (i := 2) bn_cX8_isDown_0 dop_182 57 (by decide +kernel)
theorem dX8_isDown_5 : decode cX8_isDown 5 = .ok (.ifCond .eq 16, 3) := dR2s (f := Instr.ifCond .eq) (k := 0) (i := 5) bn_cX8_isDown_0 dop_153 16 16 (by decide +kernel)
theorem dX8_isDown_8 : decode cX8_isDown 8 = .ok (.aload_n 0, 1) := dR0 (k := 0) (i := 8) bn_cX8_isDown_0 dop_42 (by decide +kernel)
theorem dX8_isDown_9 : decode cX8_isDown 9 = .ok (.getfield 27, 3) := dR2 (f := Instr.getfield) (k := 0) (i := 9) bn_cX8_isDown_0 dop_180 27 (by decide +kernel)
theorem dX8_isDown_12 : decode cX8_isDown 12 = .ok (.iload_n 1, 1) := dR0 (k := 0) (i := 12) bn_cX8_isDown_0 dop_27 (by decide +kernel)
theorem dX8_isDown_13 : decode cX8_isDown 13 = .ok (.iaload, 1) := dR0 (k := 0) (i := 13) bn_cX8_isDown_0 dop_46 (by decide +kernel)
theorem dX8_isDown_14 : decode cX8_isDown 14 = .ok (.ifCond .eq 7, 3) := dR2s (f := Instr.ifCond .eq) (k := 0) (i := 14) bn_cX8_isDown_0 dop_153 7 7 (by decide +kernel)
theorem dX8_isDown_17 : decode cX8_isDown 17 = .ok (.iconst 1, 1) := dR0 (k := 0) (i := 17) bn_cX8_isDown_0 dop_4 (by decide +kernel)
theorem dX8_isDown_18 : decode cX8_isDown 18 = .ok (.goto 4, 3) := dR2s (f := Instr.goto) (k := 0) (i := 18) bn_cX8_isDown_0 dop_167 4 4 (by decide +kernel)
theorem dX8_isDown_21 : decode cX8_isDown 21 = .ok (.iconst 0, 1) := dR0 (k := 0) (i := 21) bn_cX8_isDown_0 dop_3 (by decide +kernel)
theorem dX8_isDown_22 : decode cX8_isDown 22 = .ok (.ireturn, 1) := dR0 (k := 0) (i := 22) bn_cX8_isDown_0 dop_172 (by decide +kernel)
set_option maxHeartbeats 4000000 in
set_option maxRecDepth 100000 in
theorem c_X8_isDownG (l : Launch) (D : va_G) (cI : ClassId) (aK aV : Nat → Nat) (k k0 k1 k2 k3 k4 k5 k6 k7 k8 : Nat) (sz : Nat) (c9 : Int32) (c5 : Nat → Int32) (a0 : Int32) : Met l yX8_isDown (gW yX8_isDown cX8_isDown 2 (some .boolean)) ({ frames := 1, cells := 0, slots := 0, locals := 21 } : Room) (kPreX D cI aK aV [.ref k, .int a0] [(k, .inr (8, [.ref k0, .ref k1, .ref k2, .ref k3, .ref k4, .ref k5, .ref k6, .ref k7, .ref k8, .int c9])), (k5, .inl (cI, 60, .inl c5))] sz) (va_Qi (fun (r : Int32) (u : Unit) => True) (fun u t => kWd D cI (va_A [(k, .inr (8, [.ref k0, .ref k1, .ref k2, .ref k3, .ref k4, .ref k5, .ref k6, .ref k7, .ref k8, .int c9])), (k5, .inl (cI, 60, .inl c5))] sz) [(k, .inr (8, [.ref k0, .ref k1, .ref k2, .ref k3, .ref k4, .ref k5, .ref k6, .ref k7, .ref k8, .int c9])), (k5, .inl (cI, 60, .inl c5))] t) (va_A [(k, .inr (8, [.ref k0, .ref k1, .ref k2, .ref k3, .ref k4, .ref k5, .ref k6, .ref k7, .ref k8, .int c9])), (k5, .inl (cI, 60, .inl c5))] sz)) 0 0 (va_A [(k, .inr (8, [.ref k0, .ref k1, .ref k2, .ref k3, .ref k4, .ref k5, .ref k6, .ref k7, .ref k8, .int c9])), (k5, .inl (cI, 60, .inl c5))] sz) := by
  refine kMetIX (own := RX8) (by decide +kernel) rfl (Nat.le_of_ble_eq_true rfl) ?_
  intro p e s m args below meth c hx hb hT hown hname hml A Q hK hP hD hS hA hN hXS hRet ls hl
  have hl : lv_has ls 2 [(0, .ref k), (1, .int a0)] := hl
  have lo_a0 := k_lo a0
  have hi_a0 := k_hi a0
  have lo_c9 := k_lo c9
  have hi_c9 := k_hi c9
  refine lv_aload_n hx hb dX8_isDown_0 rfl (lv_at hl 0 rfl) ?_
  refine lv_iload_n hx hb dX8_isDown_1 rfl (lv_at hl 1 rfl) ?_
  refine kJi (wr := [(k5, .inl (cI, 60, .inl c5))]) (va_runV (As := [.int a0]) (rest := []) ⟨hx, hb, hml, hown, hT⟩ (c_X8_hasG l D cI aK aV k k0 k1 k2 k3 k4 k5 k6 k7 k8 s.heap.size c9 a0) (cwV 1 hT (gV_in mw_371 mw_368 mw_369 mw_370 mw_3) rfl rfl rfl (by decide +kernel) ⟨Nat.le_of_ble_eq_true rfl, Nat.le_of_ble_eq_true rfl⟩) (kRecvX (q0 := 0) (ci := 8) hK hP hD hN hXS hS hA rfl rfl [0] rfl (by decide +kernel)) rfl rfl hl.1 rfl (lv_room (Nat.le_of_ble_eq_true rfl)) dX8_isDown_2 ⟨Nat.le_of_ble_eq_true rfl, Nat.le_of_ble_eq_true rfl⟩) hP hD hS hA [0] [1] rfl rfl (by decide +kernel) (by decide +kernel) ?_
  clear hP hD hS
  intro r_1 u_3 H locs w_2 hP hD hS
  replace hP : va_P D vwCl [(k5, .inl (cI, 60, .inl c5)), (k, .inr (8, [.ref k0, .ref k1, .ref k2, .ref k3, .ref k4, .ref k5, .ref k6, .ref k7, .ref k8, .int c9]))] H := hP
  replace hD : va_D A [(k5, .inl (cI, 60, .inl c5)), (k, .inr (8, [.ref k0, .ref k1, .ref k2, .ref k3, .ref k4, .ref k5, .ref k6, .ref k7, .ref k8, .int c9]))] := hD
  rcases w_2 with ⟨hr_1, h_4, h_5, h_6⟩ | ⟨hr_1, h_7⟩
  · have h_4 : 0 ≤ a0.toInt := h_4
    have h_5 : a0.toInt < c9.toInt := h_5
    have h_6 : a0.toInt < 60 := h_6
    obtain rfl : r_1 = 1 := hr_1.trans (by decide +kernel)
    refine b_if_eq hx hb zl_1 (tgt := 21) dX8_isDown_5 (by decide +kernel) (fun c_8 => by exfalso; omega) (fun c_8 => ?_)
    refine lv_aload_n hx hb dX8_isDown_8 rfl (lv_at hl 0 rfl) ?_
    refine va_get (D := D) (ci := 8) (v := .ref k5) (C := RX8) (T := TX8) (N := 10) hx hb hT giX8 hown hK hP 1 rfl rfl 5 (by decide +kernel) (hT (Cond.fieldLink RX8 27 "DesertWire$Works" "downs" "[I") mw_45) (fun _ h9 => h9) rfl dX8_isDown_9 ?_
    refine lv_iload_n hx hb dX8_isDown_12 rfl (lv_at hl 1 rfl) ?_
    refine k_iald (v := (c5 a0.toNatClampNeg)) hx hb hK hP 0 0 rfl rfl (k_in (by omega) (by omega)) rfl dX8_isDown_13 ?_
    refine lv_topi (fun v_9 ev_9 => ?_)
    have lo_v_9 := k_lo v_9
    have hi_v_9 := k_hi v_9
    have tv_9 : v_9.toInt = (c5 a0.toNatClampNeg).toInt := by rw [ev_9]
    refine b_if_eq hx hb rfl (tgt := 21) dX8_isDown_14 (by decide +kernel) (fun c_10 => ?_) (fun c_10 => ?_)
    · refine lv_iconst (v := 0) hx hb dX8_isDown_21 (by decide +kernel) ?_
      exact hRet () [1, 0] trivial hP hD (by decide +kernel) rfl hS rfl dX8_isDown_22
    · refine lv_iconst (v := 1) hx hb dX8_isDown_17 (by decide +kernel) ?_
      refine lv_goto (tgt := 22) hx hb dX8_isDown_18 (by decide +kernel) ?_
      exact hRet () [1, 0] trivial hP hD (by decide +kernel) rfl hS rfl dX8_isDown_22
  · have h_7 : a0.toInt < 0 ∨ c9.toInt ≤ a0.toInt ∨ 60 ≤ a0.toInt := h_7
    obtain rfl : r_1 = 0 := hr_1.trans (by decide +kernel)
    refine b_if_eq hx hb zl_0 (tgt := 21) dX8_isDown_5 (by decide +kernel) (fun c_11 => ?_) (fun c_11 => by exfalso; omega)
    refine lv_iconst (v := 0) hx hb dX8_isDown_21 (by decide +kernel) ?_
    exact hRet () [1, 0] trivial hP hD (by decide +kernel) rfl hS rfl dX8_isDown_22
theorem bn_cX8_holdFood_0 : BN cX8_holdFood 0 0x591403a1c0c8056a2b05805343a00adc382b := by
  unfold BN; decide +kernel
theorem dX8_holdFood_0 : decode cX8_holdFood 0 = .ok (.aload_n 0, 1) := dR0 (k := 0) (i := 0) bn_cX8_holdFood_0 dop_42 (by decide +kernel)
theorem dX8_holdFood_1 : decode cX8_holdFood 1 = .ok (.iload_n 1, 1) := dR0 (k := 0) (i := 1) bn_cX8_holdFood_0 dop_27 (by decide +kernel)
theorem dX8_holdFood_2 : decode cX8_holdFood 2 = .ok (.invokevirtual 57, 3) := dR2 (f := Instr.invokevirtual) (k := 0) (i := 2) bn_cX8_holdFood_0 dop_182 57 (by decide +kernel)
theorem dX8_holdFood_5 : decode cX8_holdFood 5 = .ok (.ifCond .eq 10, 3) := dR2s (f := Instr.ifCond .eq) (k := 0) (i := 5) bn_cX8_holdFood_0 dop_153 10 10 (by decide +kernel)
theorem dX8_holdFood_8 : decode cX8_holdFood 8 = .ok (.aload_n 0, 1) := dR0 (k := 0) (i := 8) bn_cX8_holdFood_0 dop_42 (by decide +kernel)
theorem dX8_holdFood_9 : decode cX8_holdFood 9 = .ok (.getfield 24, 3) := dR2 (f := Instr.getfield) (k := 0) (i := 9) bn_cX8_holdFood_0 dop_180 24 (by decide +kernel)
theorem dX8_holdFood_12 : decode cX8_holdFood 12 = .ok (.iload_n 1, 1) := dR0 (k := 0) (i := 12) bn_cX8_holdFood_0 dop_27 (by decide +kernel)
theorem dX8_holdFood_13 : decode cX8_holdFood 13 = .ok (.iload_n 2, 1) := dR0 (k := 0) (i := 13) bn_cX8_holdFood_0 dop_28 (by decide +kernel)
theorem dX8_holdFood_14 : decode cX8_holdFood 14 = .ok (.iastore, 1) := dR0 (k := 0) (i := 14) bn_cX8_holdFood_0 dop_79 (by decide +kernel)
theorem dX8_holdFood_15 : decode cX8_holdFood 15 = .ok (.return_, 1) := dR0 (k := 0) (i := 15) bn_cX8_holdFood_0 dop_177 (by decide +kernel)

theorem bn_cX8_standsAsPole_0 : BN cX8_standsAsPole 0 0xad0201402a802820029a22805722f0e02802b51585002a10e8bc381000ad4561e00a6c5e1c0e0056a2b13805343a00adc382b := by
  unfold BN; decide +kernel
theorem dX8_standsAsPole_0 : decode cX8_standsAsPole 0 = .ok (.aload_n 0, 1) := dR0 (k := 0) (i := 0) bn_cX8_standsAsPole_0 dop_42 (by decide +kernel)
theorem dX8_standsAsPole_1 : decode cX8_standsAsPole 1 = .ok (.iload_n 1, 1) := dR0 (k := 0) (i := 1) bn_cX8_standsAsPole_0 dop_27 (by decide +kernel)
theorem dX8_standsAsPole_2 : decode cX8_standsAsPole 2 = .ok (.invokevirtual 57, 3) := dR2 (f := Instr.invokevirtual) (k := 0) (i := 2) bn_cX8_standsAsPole_0 dop_182 57 (by decide +kernel)
theorem dX8_standsAsPole_5 : decode cX8_standsAsPole 5 = .ok (.ifCond .eq 38, 3) := dR2s (f := Instr.ifCond .eq) (k := 0) (i := 5) bn_cX8_standsAsPole_0 dop_153 38 38 (by decide +kernel)
theorem dX8_standsAsPole_8 : decode cX8_standsAsPole 8 = .ok (.aload_n 0, 1) := dR0 (k := 0) (i := 8) bn_cX8_standsAsPole_0 dop_42 (by decide +kernel)
theorem dX8_standsAsPole_9 : decode cX8_standsAsPole 9 = .ok (.getfield 27, 3) := dR2 (f := Instr.getfield) (k := 0) (i := 9) bn_cX8_standsAsPole_0 dop_180 27 (by decide +kernel)
theorem dX8_standsAsPole_12 : decode cX8_standsAsPole 12 = .ok (.iload_n 1, 1) := dR0 (k := 0) (i := 12) bn_cX8_standsAsPole_0 dop_27 (by decide +kernel)
theorem dX8_standsAsPole_13 : decode cX8_standsAsPole 13 = .ok (.iaload, 1) := dR0 (k := 0) (i := 13) bn_cX8_standsAsPole_0 dop_46 (by decide +kernel)
theorem dX8_standsAsPole_14 : decode cX8_standsAsPole 14 = .ok (.ifCond .ne 29, 3) := dR2s (f := Instr.ifCond .ne) (k := 0) (i := 14) bn_cX8_standsAsPole_0 dop_154 29 29 (by decide +kernel)
theorem dX8_standsAsPole_17 : decode cX8_standsAsPole 17 = .ok (.aload_n 0, 1) := dR0 (k := 0) (i := 17) bn_cX8_standsAsPole_0 dop_42 (by decide +kernel)
theorem dX8_standsAsPole_18 : decode cX8_standsAsPole 18 = .ok (.getfield 15, 3) := dR2 (f := Instr.getfield) (k := 0) (i := 18) bn_cX8_standsAsPole_0 dop_180 15 (by decide +kernel)
theorem dX8_standsAsPole_21 : decode cX8_standsAsPole 21 = .ok (.iload_n 1, 1) := dR0 (k := 0) (i := 21) bn_cX8_standsAsPole_0 dop_27 (by decide +kernel)
theorem dX8_standsAsPole_22 : decode cX8_standsAsPole 22 = .ok (.iaload, 1) := dR0 (k := 0) (i := 22) bn_cX8_standsAsPole_0 dop_46 (by decide +kernel)
theorem dX8_standsAsPole_23 : decode cX8_standsAsPole 23 = .ok (.iload_n 2, 1) := dR0 (k := 0) (i := 23) bn_cX8_standsAsPole_0 dop_28 (by decide +kernel)
theorem dX8_standsAsPole_24 : decode cX8_standsAsPole 24 = .ok (.if_icmp .ne 19, 3) := dR2s (f := Instr.if_icmp .ne) (k := 0) (i := 24) bn_cX8_standsAsPole_0 dop_160 19 19 (by decide +kernel)
theorem dX8_standsAsPole_27 : decode cX8_standsAsPole 27 = .ok (.aload_n 0, 1) := dR0 (k := 0) (i := 27) bn_cX8_standsAsPole_0 dop_42 (by decide +kernel)
theorem dX8_standsAsPole_28 : decode cX8_standsAsPole 28 = .ok (.getfield 9, 3) := dR2 (f := Instr.getfield) (k := 0) (i := 28) bn_cX8_standsAsPole_0 dop_180 9 (by decide +kernel)
theorem dX8_standsAsPole_31 : decode cX8_standsAsPole 31 = .ok (.iload_n 1, 1) := dR0 (k := 0) (i := 31) bn_cX8_standsAsPole_0 dop_27 (by decide +kernel)
theorem dX8_standsAsPole_32 : decode cX8_standsAsPole 32 = .ok (.iaload, 1) := dR0 (k := 0) (i := 32) bn_cX8_standsAsPole_0 dop_46 (by decide +kernel)
theorem dX8_standsAsPole_33 : decode cX8_standsAsPole 33 = .ok (.invokestatic 68, 3) := dR2 (f := Instr.invokestatic) (k := 0) (i := 33) bn_cX8_standsAsPole_0 dop_184 68 (by decide +kernel)
theorem dX8_standsAsPole_36 : decode cX8_standsAsPole 36 = .ok (.ifCond .eq 7, 3) := dR2s (f := Instr.ifCond .eq) (k := 0) (i := 36) bn_cX8_standsAsPole_0 dop_153 7 7 (by decide +kernel)
theorem dX8_standsAsPole_39 : decode cX8_standsAsPole 39 = .ok (.iconst 1, 1) := dR0 (k := 0) (i := 39) bn_cX8_standsAsPole_0 dop_4 (by decide +kernel)
theorem dX8_standsAsPole_40 : decode cX8_standsAsPole 40 = .ok (.goto 4, 3) := dR2s (f := Instr.goto) (k := 0) (i := 40) bn_cX8_standsAsPole_0 dop_167 4 4 (by decide +kernel)
theorem dX8_standsAsPole_43 : decode cX8_standsAsPole 43 = .ok (.iconst 0, 1) := dR0 (k := 0) (i := 43) bn_cX8_standsAsPole_0 dop_3 (by decide +kernel)
theorem dX8_standsAsPole_44 : decode cX8_standsAsPole 44 = .ok (.ireturn, 1) := dR0 (k := 0) (i := 44) bn_cX8_standsAsPole_0 dop_172 (by decide +kernel)
set_option maxHeartbeats 4000000 in
set_option maxRecDepth 100000 in
theorem c_X8_standsAsPoleG (l : Launch) (D : va_G) (cI : ClassId) (aK aV : Nat → Nat) (k k0 k1 k2 k3 k4 k5 k6 k7 k8 : Nat) (sz : Nat) (c9 : Int32) (c0 : Nat → Int32) (c1 : Nat → Int32) (c5 : Nat → Int32) (a0 : Int32) (a1 : Int32) : Met l yX8_standsAsPole (gW yX8_standsAsPole cX8_standsAsPole 3 (some .boolean)) ({ frames := 1, cells := 0, slots := 0, locals := 21 } : Room) (kPreX D cI aK aV [.ref k, .int a0, .int a1] [(k, .inr (8, [.ref k0, .ref k1, .ref k2, .ref k3, .ref k4, .ref k5, .ref k6, .ref k7, .ref k8, .int c9])), (k0, .inl (cI, 60, .inl c0)), (k1, .inl (cI, 60, .inl c1)), (k5, .inl (cI, 60, .inl c5))] sz) (va_Qi (fun (r : Int32) (u : Unit) => True) (fun u t => kWd D cI (va_A [(k, .inr (8, [.ref k0, .ref k1, .ref k2, .ref k3, .ref k4, .ref k5, .ref k6, .ref k7, .ref k8, .int c9])), (k0, .inl (cI, 60, .inl c0)), (k1, .inl (cI, 60, .inl c1)), (k5, .inl (cI, 60, .inl c5))] sz) [(k, .inr (8, [.ref k0, .ref k1, .ref k2, .ref k3, .ref k4, .ref k5, .ref k6, .ref k7, .ref k8, .int c9])), (k0, .inl (cI, 60, .inl c0)), (k1, .inl (cI, 60, .inl c1)), (k5, .inl (cI, 60, .inl c5))] t) (va_A [(k, .inr (8, [.ref k0, .ref k1, .ref k2, .ref k3, .ref k4, .ref k5, .ref k6, .ref k7, .ref k8, .int c9])), (k0, .inl (cI, 60, .inl c0)), (k1, .inl (cI, 60, .inl c1)), (k5, .inl (cI, 60, .inl c5))] sz)) 0 0 (va_A [(k, .inr (8, [.ref k0, .ref k1, .ref k2, .ref k3, .ref k4, .ref k5, .ref k6, .ref k7, .ref k8, .int c9])), (k0, .inl (cI, 60, .inl c0)), (k1, .inl (cI, 60, .inl c1)), (k5, .inl (cI, 60, .inl c5))] sz) := by
  refine kMetIX (own := RX8) (by decide +kernel) rfl (Nat.le_of_ble_eq_true rfl) ?_
  intro p e s m args below meth c hx hb hT hown hname hml A Q hK hP hD hS hA hN hXS hRet ls hl
  have hl : lv_has ls 3 [(0, .ref k), (1, .int a0), (2, .int a1)] := hl
  have lo_a0 := k_lo a0
  have hi_a0 := k_hi a0
  have lo_c9 := k_lo c9
  have hi_c9 := k_hi c9
  refine lv_aload_n hx hb dX8_standsAsPole_0 rfl (lv_at hl 0 rfl) ?_
  refine lv_iload_n hx hb dX8_standsAsPole_1 rfl (lv_at hl 1 rfl) ?_
  refine kJi (wr := [(k0, .inl (cI, 60, .inl c0)), (k1, .inl (cI, 60, .inl c1)), (k5, .inl (cI, 60, .inl c5))]) (va_runV (As := [.int a0]) (rest := []) ⟨hx, hb, hml, hown, hT⟩ (c_X8_hasG l D cI aK aV k k0 k1 k2 k3 k4 k5 k6 k7 k8 s.heap.size c9 a0) (cwV 1 hT (gV_in mw_371 mw_368 mw_369 mw_370 mw_3) rfl rfl rfl (by decide +kernel) ⟨Nat.le_of_ble_eq_true rfl, Nat.le_of_ble_eq_true rfl⟩) (kRecvX (q0 := 0) (ci := 8) hK hP hD hN hXS hS hA rfl rfl [0] rfl (by decide +kernel)) rfl rfl hl.1 rfl (lv_room (Nat.le_of_ble_eq_true rfl)) dX8_standsAsPole_2 ⟨Nat.le_of_ble_eq_true rfl, Nat.le_of_ble_eq_true rfl⟩) hP hD hS hA [0] [1, 2, 3] rfl rfl (by decide +kernel) (by decide +kernel) ?_
  clear hP hD hS
  intro r_1 u_3 H locs w_2 hP hD hS
  replace hP : va_P D vwCl [(k0, .inl (cI, 60, .inl c0)), (k1, .inl (cI, 60, .inl c1)), (k5, .inl (cI, 60, .inl c5)), (k, .inr (8, [.ref k0, .ref k1, .ref k2, .ref k3, .ref k4, .ref k5, .ref k6, .ref k7, .ref k8, .int c9]))] H := hP
  replace hD : va_D A [(k0, .inl (cI, 60, .inl c0)), (k1, .inl (cI, 60, .inl c1)), (k5, .inl (cI, 60, .inl c5)), (k, .inr (8, [.ref k0, .ref k1, .ref k2, .ref k3, .ref k4, .ref k5, .ref k6, .ref k7, .ref k8, .int c9]))] := hD
  rcases w_2 with ⟨hr_1, h_4, h_5, h_6⟩ | ⟨hr_1, h_7⟩
  · have h_4 : 0 ≤ a0.toInt := h_4
    have h_5 : a0.toInt < c9.toInt := h_5
    have h_6 : a0.toInt < 60 := h_6
    obtain rfl : r_1 = 1 := hr_1.trans (by decide +kernel)
    refine b_if_eq hx hb zl_1 (tgt := 43) dX8_standsAsPole_5 (by decide +kernel) (fun c_8 => by exfalso; omega) (fun c_8 => ?_)
    refine lv_aload_n hx hb dX8_standsAsPole_8 rfl (lv_at hl 0 rfl) ?_
    refine va_get (D := D) (ci := 8) (v := .ref k5) (C := RX8) (T := TX8) (N := 10) hx hb hT giX8 hown hK hP 3 rfl rfl 5 (by decide +kernel) (hT (Cond.fieldLink RX8 27 "DesertWire$Works" "downs" "[I") mw_45) (fun _ h9 => h9) rfl dX8_standsAsPole_9 ?_
    refine lv_iload_n hx hb dX8_standsAsPole_12 rfl (lv_at hl 1 rfl) ?_
    refine k_iald (v := (c5 a0.toNatClampNeg)) hx hb hK hP 2 0 rfl rfl (k_in (by omega) (by omega)) rfl dX8_standsAsPole_13 ?_
    refine lv_topi (fun v_9 ev_9 => ?_)
    have lo_v_9 := k_lo v_9
    have hi_v_9 := k_hi v_9
    have tv_9 : v_9.toInt = (c5 a0.toNatClampNeg).toInt := by rw [ev_9]
    refine b_if_ne hx hb rfl (tgt := 43) dX8_standsAsPole_14 (by decide +kernel) (fun c_10 => ?_) (fun c_10 => ?_)
    · refine lv_iconst (v := 0) hx hb dX8_standsAsPole_43 (by decide +kernel) ?_
      exact hRet () [3, 0, 1, 2] trivial hP hD (by decide +kernel) rfl hS rfl dX8_standsAsPole_44
    · refine lv_aload_n hx hb dX8_standsAsPole_17 rfl (lv_at hl 0 rfl) ?_
      refine va_get (D := D) (ci := 8) (v := .ref k1) (C := RX8) (T := TX8) (N := 10) hx hb hT giX8 hown hK hP 3 rfl rfl 1 (by decide +kernel) (hT (Cond.fieldLink RX8 15 "DesertWire$Works" "miles" "[I") mw_41) (fun _ h9 => h9) rfl dX8_standsAsPole_18 ?_
      refine lv_iload_n hx hb dX8_standsAsPole_21 rfl (lv_at hl 1 rfl) ?_
      refine k_iald (v := (c1 a0.toNatClampNeg)) hx hb hK hP 1 0 rfl rfl (k_in (by omega) (by omega)) rfl dX8_standsAsPole_22 ?_
      refine lv_topi (fun v_11 ev_11 => ?_)
      have lo_v_11 := k_lo v_11
      have hi_v_11 := k_hi v_11
      have tv_11 : v_11.toInt = (c1 a0.toNatClampNeg).toInt := by rw [ev_11]
      refine lv_iload_n hx hb dX8_standsAsPole_23 rfl (lv_at hl 2 rfl) ?_
      refine b_icmp_ne hx hb rfl rfl (tgt := 43) dX8_standsAsPole_24 (by decide +kernel) (fun c_12 => ?_) (fun c_12 => ?_)
      · refine lv_iconst (v := 0) hx hb dX8_standsAsPole_43 (by decide +kernel) ?_
        exact hRet () [3, 0, 1, 2] trivial hP hD (by decide +kernel) rfl hS rfl dX8_standsAsPole_44
      · refine lv_aload_n hx hb dX8_standsAsPole_27 rfl (lv_at hl 0 rfl) ?_
        refine va_get (D := D) (ci := 8) (v := .ref k0) (C := RX8) (T := TX8) (N := 10) hx hb hT giX8 hown hK hP 3 rfl rfl 0 (by decide +kernel) (hT (Cond.fieldLink RX8 9 "DesertWire$Works" "kinds" "[I") mw_40) (fun _ h9 => h9) rfl dX8_standsAsPole_28 ?_
        refine lv_iload_n hx hb dX8_standsAsPole_31 rfl (lv_at hl 1 rfl) ?_
        refine k_iald (v := (c0 a0.toNatClampNeg)) hx hb hK hP 0 0 rfl rfl (k_in (by omega) (by omega)) rfl dX8_standsAsPole_32 ?_
        refine lv_topi (fun v_13 ev_13 => ?_)
        have lo_v_13 := k_lo v_13
        have hi_v_13 := k_hi v_13
        have tv_13 : v_13.toInt = (c0 a0.toNatClampNeg).toInt := by rw [ev_13]
        refine kJi (wr := [(k0, .inl (cI, 60, .inl c0)), (k1, .inl (cI, 60, .inl c1)), (k5, .inl (cI, 60, .inl c5)), (k, .inr (8, [.ref k0, .ref k1, .ref k2, .ref k3, .ref k4, .ref k5, .ref k6, .ref k7, .ref k8, .int c9]))]) (va_runSN (As := [.int v_13]) (rest := []) ⟨hx, hb, hml, hown, hT⟩ (c_X10_isPoleG l D cI aK aV H.size v_13) ⟨va_cnB 1 hT (gW_in mw_375) rfl rfl rfl (hN _ mw_373) (hT _ mw_1) (by decide +kernel) ⟨Nat.le_of_ble_eq_true rfl, Nat.le_of_ble_eq_true rfl⟩, hT _ mw_374, trivial⟩ (kStatX hK hP hD hN hXS hS hA [] rfl (by decide +kernel)) rfl rfl hl.1 rfl (lv_room (Nat.le_of_ble_eq_true rfl)) dX8_standsAsPole_33 ⟨Nat.le_of_ble_eq_true rfl, Nat.le_of_ble_eq_true rfl⟩) hP hD hS hA [] [0, 1, 2, 3] rfl rfl (by decide +kernel) (by decide +kernel) ?_
        clear hP hD hS
        intro r_14 u_16 H locs w_15 hP hD hS
        replace hP : va_P D vwCl [(k0, .inl (cI, 60, .inl c0)), (k1, .inl (cI, 60, .inl c1)), (k5, .inl (cI, 60, .inl c5)), (k, .inr (8, [.ref k0, .ref k1, .ref k2, .ref k3, .ref k4, .ref k5, .ref k6, .ref k7, .ref k8, .int c9]))] H := hP
        replace hD : va_D A [(k0, .inl (cI, 60, .inl c0)), (k1, .inl (cI, 60, .inl c1)), (k5, .inl (cI, 60, .inl c5)), (k, .inr (8, [.ref k0, .ref k1, .ref k2, .ref k3, .ref k4, .ref k5, .ref k6, .ref k7, .ref k8, .int c9]))] := hD
        have lo_r_14 := k_lo r_14
        have hi_r_14 := k_hi r_14
        refine b_if_eq hx hb rfl (tgt := 43) dX8_standsAsPole_36 (by decide +kernel) (fun c_17 => ?_) (fun c_17 => ?_)
        · refine lv_iconst (v := 0) hx hb dX8_standsAsPole_43 (by decide +kernel) ?_
          exact hRet () [3, 0, 1, 2] trivial hP hD (by decide +kernel) rfl hS rfl dX8_standsAsPole_44
        · refine lv_iconst (v := 1) hx hb dX8_standsAsPole_39 (by decide +kernel) ?_
          refine lv_goto (tgt := 44) hx hb dX8_standsAsPole_40 (by decide +kernel) ?_
          exact hRet () [3, 0, 1, 2] trivial hP hD (by decide +kernel) rfl hS rfl dX8_standsAsPole_44
  · have h_7 : a0.toInt < 0 ∨ c9.toInt ≤ a0.toInt ∨ 60 ≤ a0.toInt := h_7
    obtain rfl : r_1 = 0 := hr_1.trans (by decide +kernel)
    refine b_if_eq hx hb zl_0 (tgt := 43) dX8_standsAsPole_5 (by decide +kernel) (fun c_18 => ?_) (fun c_18 => by exfalso; omega)
    refine lv_iconst (v := 0) hx hb dX8_standsAsPole_43 (by decide +kernel) ?_
    exact hRet () [3, 0, 1, 2] trivial hP hD (by decide +kernel) rfl hS rfl dX8_standsAsPole_44
theorem bn_cX8_tally_0 : BN cX8_tally 0 0x16450308745e5d0f09402b51583802a1048142c1400aa0a061348bc381300ad4561d179743c2200ad4561800a8410050b0b802a8281843a2f2e8783e015a8ac22014d11402b9028580a371787014015a8ad640500a6c84015c87816014d0e802b70e0ac7e3e00adc382b := by
  unfold BN; decide +kernel
theorem dX8_tally_0 : decode cX8_tally 0 = .ok (.aload_n 0, 1) := dR0 (k := 0) (i := 0) bn_cX8_tally_0 dop_42 (by decide +kernel)
theorem dX8_tally_1 : decode cX8_tally 1 = .ok (.iload_n 1, 1) := dR0 (k := 0) (i := 1) bn_cX8_tally_0 dop_27 (by decide +kernel)
theorem dX8_tally_2 : decode cX8_tally 2 = .ok (.invokevirtual 61, 3) := dR2 (f := Instr.invokevirtual) (k := 0) (i := 2) bn_cX8_tally_0 dop_182 61 (by decide +kernel)
theorem dX8_tally_5 : decode cX8_tally 5 = .ok (.istore_n 3, 1) := dR0 (k := 0) (i := 5) bn_cX8_tally_0 dop_62 (by decide +kernel)
theorem dX8_tally_6 : decode cX8_tally 6 = .ok (.aload_n 0, 1) := dR0 (k := 0) (i := 6) bn_cX8_tally_0 dop_42 (by decide +kernel)
theorem dX8_tally_7 : decode cX8_tally 7 = .ok (.iload_n 1, 1) := dR0 (k := 0) (i := 7) bn_cX8_tally_0 dop_27 (by decide +kernel)
theorem dX8_tally_8 : decode cX8_tally 8 = .ok (.invokevirtual 57, 3) := dR2 (f := Instr.invokevirtual) (k := 0) (i := 8) bn_cX8_tally_0 dop_182 57 (by decide +kernel)
theorem dX8_tally_11 : decode cX8_tally 11 = .ok (.ifCond .eq 10, 3) := dR2s (f := Instr.ifCond .eq) (k := 0) (i := 11) bn_cX8_tally_0 dop_153 10 10 (by decide +kernel)
theorem dX8_tally_14 : decode cX8_tally 14 = .ok (.iload_n 3, 1) := dR0 (k := 0) (i := 14) bn_cX8_tally_0 dop_29 (by decide +kernel)
theorem dX8_tally_15 : decode cX8_tally 15 = .ok (.invokestatic 65, 3) := dR2 (f := Instr.invokestatic) (k := 0) (i := 15) bn_cX8_tally_0 dop_184 65 (by decide +kernel)
theorem dX8_tally_18 : decode cX8_tally 18 = .ok (.ifCond .ne 4, 3) := dR2s (f := Instr.ifCond .ne) (k := 0) (i := 18) bn_cX8_tally_0 dop_154 4 4 (by decide +kernel)
theorem dX8_tally_21 : decode cX8_tally 21 = .ok (.return_, 1) := dR0 (k := 0) (i := 21) bn_cX8_tally_0 dop_177 (by decide +kernel)
theorem dX8_tally_22 : decode cX8_tally 22 = .ok (.aload_n 0, 1) := dR0 (k := 0) (i := 22) bn_cX8_tally_0 dop_42 (by decide +kernel)
theorem dX8_tally_23 : decode cX8_tally 23 = .ok (.getfield 9, 3) := dR2 (f := Instr.getfield) (k := 0) (i := 23) bn_cX8_tally_0 dop_180 9 (by decide +kernel)
theorem dX8_tally_26 : decode cX8_tally 26 = .ok (.iload_n 1, 1) := dR0 (k := 0) (i := 26) bn_cX8_tally_0 dop_27 (by decide +kernel)
theorem dX8_tally_27 : decode cX8_tally 27 = .ok (.iaload, 1) := dR0 (k := 0) (i := 27) bn_cX8_tally_0 dop_46 (by decide +kernel)
theorem dX8_tally_28 : decode cX8_tally 28 = .ok (.istore 4, 2) := dR1 (f := Instr.istore) (k := 0) (i := 28) bn_cX8_tally_0 dop_54 4 (by decide +kernel)
theorem dX8_tally_30 : decode cX8_tally 30 = .ok (.iload 4, 2) := dR1 (f := Instr.iload) (k := 0) (i := 30) bn_cX8_tally_0 dop_21 4 (by decide +kernel)
theorem dX8_tally_32 : decode cX8_tally 32 = .ok (.invokestatic 68, 3) := dR2 (f := Instr.invokestatic) (k := 0) (i := 32) bn_cX8_tally_0 dop_184 68 (by decide +kernel)
theorem dX8_tally_35 : decode cX8_tally 35 = .ok (.ifCond .eq 16, 3) := dR2s (f := Instr.ifCond .eq) (k := 0) (i := 35) bn_cX8_tally_0 dop_153 16 16 (by decide +kernel)
theorem dX8_tally_38 : decode cX8_tally 38 = .ok (.aload_n 0, 1) := dR0 (k := 0) (i := 38) bn_cX8_tally_0 dop_42 (by decide +kernel)
theorem dX8_tally_39 : decode cX8_tally 39 = .ok (.getfield 30, 3) := dR2 (f := Instr.getfield) (k := 0) (i := 39) bn_cX8_tally_0 dop_180 30 (by decide +kernel)
theorem dX8_tally_42 : decode cX8_tally 42 = .ok (.iload_n 3, 1) := dR0 (k := 0) (i := 42) bn_cX8_tally_0 dop_29 (by decide +kernel)
theorem dX8_tally_43 : decode cX8_tally 43 = .ok (.dup2, 1) := dR0 (k := 0) (i := 43) bn_cX8_tally_0 dop_92 (by decide +kernel)
theorem dX8_tally_44 : decode cX8_tally 44 = .ok (.iaload, 1) := dR0 (k := 0) (i := 44) bn_cX8_tally_0 dop_46 (by decide +kernel)
theorem dX8_tally_45 : decode cX8_tally 45 = .ok (.iload_n 2, 1) := dR0 (k := 0) (i := 45) bn_cX8_tally_0 dop_28 (by decide +kernel)
theorem dX8_tally_46 : decode cX8_tally 46 = .ok (.iadd, 1) := dR0 (k := 0) (i := 46) bn_cX8_tally_0 dop_96 (by decide +kernel)
theorem dX8_tally_47 : decode cX8_tally 47 = .ok (.iastore, 1) := dR0 (k := 0) (i := 47) bn_cX8_tally_0 dop_79 (by decide +kernel)
theorem dX8_tally_48 : decode cX8_tally 48 = .ok (.goto 45, 3) := dR2s (f := Instr.goto) (k := 0) (i := 48) bn_cX8_tally_0 dop_167 45 45 (by decide +kernel)
theorem dX8_tally_51 : decode cX8_tally 51 = .ok (.iload 4, 2) := dR1 (f := Instr.iload) (k := 0) (i := 51) bn_cX8_tally_0 dop_21 4 (by decide +kernel)
theorem dX8_tally_53 : decode cX8_tally 53 = .ok (.iconst 4, 1) := dR0 (k := 0) (i := 53) bn_cX8_tally_0 dop_7 (by decide +kernel)
theorem dX8_tally_54 : decode cX8_tally 54 = .ok (.if_icmp .ne 23, 3) := dR2s (f := Instr.if_icmp .ne) (k := 0) (i := 54) bn_cX8_tally_0 dop_160 23 23 (by decide +kernel)
theorem dX8_tally_57 : decode cX8_tally 57 = .ok (.aload_n 0, 1) := dR0 (k := 0) (i := 57) bn_cX8_tally_0 dop_42 (by decide +kernel)
theorem dX8_tally_58 : decode cX8_tally 58 = .ok (.getfield 33, 3) := dR2 (f := Instr.getfield) (k := 0) (i := 58) bn_cX8_tally_0 dop_180 33 (by decide +kernel)
theorem dX8_tally_61 : decode cX8_tally 61 = .ok (.iload_n 3, 1) := dR0 (k := 0) (i := 61) bn_cX8_tally_0 dop_29 (by decide +kernel)
theorem dX8_tally_62 : decode cX8_tally 62 = .ok (.dup2, 1) := dR0 (k := 0) (i := 62) bn_cX8_tally_0 dop_92 (by decide +kernel)
theorem dX8_tally_63 : decode cX8_tally 63 = .ok (.iaload, 1) := dR0 (k := 0) (i := 63) bn_cX8_tally_0 dop_46 (by decide +kernel)
theorem dX8_tally_64 : decode cX8_tally 64 = .ok (.iload_n 2, 1) := dR0 (k := 0) (i := 64) bn_cX8_tally_0 dop_28 (by decide +kernel)
theorem dX8_tally_65 : decode cX8_tally 65 = .ok (.aload_n 0, 1) := dR0 (k := 0) (i := 65) bn_cX8_tally_0 dop_42 (by decide +kernel)
theorem dX8_tally_66 : decode cX8_tally 66 = .ok (.getfield 18, 3) := dR2 (f := Instr.getfield) (k := 0) (i := 66) bn_cX8_tally_0 dop_180 18 (by decide +kernel)
theorem dX8_tally_69 : decode cX8_tally 69 = .ok (.iload_n 1, 1) := dR0 (k := 0) (i := 69) bn_cX8_tally_0 dop_27 (by decide +kernel)
theorem dX8_tally_70 : decode cX8_tally 70 = .ok (.iaload, 1) := dR0 (k := 0) (i := 70) bn_cX8_tally_0 dop_46 (by decide +kernel)
theorem dX8_tally_71 : decode cX8_tally 71 = .ok (.imul, 1) := dR0 (k := 0) (i := 71) bn_cX8_tally_0 dop_104 (by decide +kernel)
theorem dX8_tally_72 : decode cX8_tally 72 = .ok (.iadd, 1) := dR0 (k := 0) (i := 72) bn_cX8_tally_0 dop_96 (by decide +kernel)
theorem dX8_tally_73 : decode cX8_tally 73 = .ok (.iastore, 1) := dR0 (k := 0) (i := 73) bn_cX8_tally_0 dop_79 (by decide +kernel)
theorem dX8_tally_74 : decode cX8_tally 74 = .ok (.goto 19, 3) := dR2s (f := Instr.goto) (k := 0) (i := 74) bn_cX8_tally_0 dop_167 19 19 (by decide +kernel)
theorem dX8_tally_77 : decode cX8_tally 77 = .ok (.iload 4, 2) := dR1 (f := Instr.iload) (k := 0) (i := 77) bn_cX8_tally_0 dop_21 4 (by decide +kernel)
theorem dX8_tally_79 : decode cX8_tally 79 = .ok (.iconst 5, 1) := dR0 (k := 0) (i := 79) bn_cX8_tally_0 dop_8 (by decide +kernel)
theorem dX8_tally_80 : decode cX8_tally 80 = .ok (.if_icmp .ne 13, 3) := dR2s (f := Instr.if_icmp .ne) (k := 0) (i := 80) bn_cX8_tally_0 dop_160 13 13 (by decide +kernel)
theorem dX8_tally_83 : decode cX8_tally 83 = .ok (.aload_n 0, 1) := dR0 (k := 0) (i := 83) bn_cX8_tally_0 dop_42 (by decide +kernel)
theorem dX8_tally_84 : decode cX8_tally 84 = .ok (.getfield 36, 3) := dR2 (f := Instr.getfield) (k := 0) (i := 84) bn_cX8_tally_0 dop_180 36 (by decide +kernel)
theorem dX8_tally_87 : decode cX8_tally 87 = .ok (.iload_n 3, 1) := dR0 (k := 0) (i := 87) bn_cX8_tally_0 dop_29 (by decide +kernel)
theorem dX8_tally_88 : decode cX8_tally 88 = .ok (.dup2, 1) := dR0 (k := 0) (i := 88) bn_cX8_tally_0 dop_92 (by decide +kernel)
theorem dX8_tally_89 : decode cX8_tally 89 = .ok (.iaload, 1) := dR0 (k := 0) (i := 89) bn_cX8_tally_0 dop_46 (by decide +kernel)
theorem dX8_tally_90 : decode cX8_tally 90 = .ok (.iload_n 2, 1) := dR0 (k := 0) (i := 90) bn_cX8_tally_0 dop_28 (by decide +kernel)
theorem dX8_tally_91 : decode cX8_tally 91 = .ok (.iadd, 1) := dR0 (k := 0) (i := 91) bn_cX8_tally_0 dop_96 (by decide +kernel)
theorem dX8_tally_92 : decode cX8_tally 92 = .ok (.iastore, 1) := dR0 (k := 0) (i := 92) bn_cX8_tally_0 dop_79 (by decide +kernel)
theorem dX8_tally_93 : decode cX8_tally 93 = .ok (.return_, 1) := dR0 (k := 0) (i := 93) bn_cX8_tally_0 dop_177 (by decide +kernel)

theorem bn_cX8_add_0 : BN cX8_add 0 0x15a65028a002b5158d802b7029940a2800ad4562b140056c61028a002b52d0aca004140056a2b0e0056a2b2801050015a8ac32015a8aca0050b0a002b51585802b5159403c2800ad4561300ad456500e8a002b51584002b515940382800ad4560a00ad456ad01818029b190056e2b := by
  unfold BN; decide +kernel
theorem dX8_add_0 : decode cX8_add 0 = .ok (.aload_n 0, 1) := dR0 (k := 0) (i := 0) bn_cX8_add_0 dop_42 (by decide +kernel)
theorem dX8_add_1 : decode cX8_add 1 = .ok (.invokevirtual 49, 3) := dR2 (f := Instr.invokevirtual) (k := 0) (i := 1) bn_cX8_add_0 dop_182 49 (by decide +kernel)
theorem dX8_add_4 : decode cX8_add 4 = .ok (.ifCond .ne 5, 3) := dR2s (f := Instr.ifCond .ne) (k := 0) (i := 4) bn_cX8_add_0 dop_154 5 5 (by decide +kernel)
theorem dX8_add_7 : decode cX8_add 7 = .ok (.iconst (-1), 1) := dR0 (k := 0) (i := 7) bn_cX8_add_0 dop_2 (by decide +kernel)
theorem dX8_add_8 : decode cX8_add 8 = .ok (.ireturn, 1) := dR0 (k := 0) (i := 8) bn_cX8_add_0 dop_172 (by decide +kernel)
theorem dX8_add_9 : decode cX8_add 9 = .ok (.aload_n 0, 1) := dR0 (k := 0) (i := 9) bn_cX8_add_0 dop_42 (by decide +kernel)
theorem dX8_add_10 : decode cX8_add 10 = .ok (.getfield 9, 3) := dR2 (f := Instr.getfield) (k := 0) (i := 10) bn_cX8_add_0 dop_180 9 (by decide +kernel)
theorem dX8_add_13 : decode cX8_add 13 = .ok (.aload_n 0, 1) := dR0 (k := 0) (i := 13) bn_cX8_add_0 dop_42 (by decide +kernel)
theorem dX8_add_14 : decode cX8_add 14 = .ok (.getfield 39, 3) := dR2 (f := Instr.getfield) (k := 0) (i := 14) bn_cX8_add_0 dop_180 39 (by decide +kernel)
theorem dX8_add_17 : decode cX8_add 17 = .ok (.iload_n 1, 1) := dR0 (k := 0) (i := 17) bn_cX8_add_0 dop_27 (by decide +kernel)
theorem dX8_add_18 : decode cX8_add 18 = .ok (.iastore, 1) := dR0 (k := 0) (i := 18) bn_cX8_add_0 dop_79 (by decide +kernel)
theorem dX8_add_19 : decode cX8_add 19 = .ok (.aload_n 0, 1) := dR0 (k := 0) (i := 19) bn_cX8_add_0 dop_42 (by decide +kernel)
theorem dX8_add_20 : decode cX8_add 20 = .ok (.getfield 15, 3) := dR2 (f := Instr.getfield) (k := 0) (i := 20) bn_cX8_add_0 dop_180 15 (by decide +kernel)
theorem dX8_add_23 : decode cX8_add 23 = .ok (.aload_n 0, 1) := dR0 (k := 0) (i := 23) bn_cX8_add_0 dop_42 (by decide +kernel)
theorem dX8_add_24 : decode cX8_add 24 = .ok (.getfield 39, 3) := dR2 (f := Instr.getfield) (k := 0) (i := 24) bn_cX8_add_0 dop_180 39 (by decide +kernel)
theorem dX8_add_27 : decode cX8_add 27 = .ok (.iload_n 2, 1) := dR0 (k := 0) (i := 27) bn_cX8_add_0 dop_28 (by decide +kernel)
theorem dX8_add_28 : decode cX8_add 28 = .ok (.iastore, 1) := dR0 (k := 0) (i := 28) bn_cX8_add_0 dop_79 (by decide +kernel)
theorem dX8_add_29 : decode cX8_add 29 = .ok (.aload_n 0, 1) := dR0 (k := 0) (i := 29) bn_cX8_add_0 dop_42 (by decide +kernel)
theorem dX8_add_30 : decode cX8_add 30 = .ok (.getfield 18, 3) := dR2 (f := Instr.getfield) (k := 0) (i := 30) bn_cX8_add_0 dop_180 18 (by decide +kernel)
theorem dX8_add_33 : decode cX8_add 33 = .ok (.aload_n 0, 1) := dR0 (k := 0) (i := 33) bn_cX8_add_0 dop_42 (by decide +kernel)
theorem dX8_add_34 : decode cX8_add 34 = .ok (.getfield 39, 3) := dR2 (f := Instr.getfield) (k := 0) (i := 34) bn_cX8_add_0 dop_180 39 (by decide +kernel)
theorem dX8_add_37 : decode cX8_add 37 = .ok (.iload_n 3, 1) := dR0 (k := 0) (i := 37) bn_cX8_add_0 dop_29 (by decide +kernel)
theorem dX8_add_38 : decode cX8_add 38 = .ok (.iastore, 1) := dR0 (k := 0) (i := 38) bn_cX8_add_0 dop_79 (by decide +kernel)
theorem dX8_add_39 : decode cX8_add 39 = .ok (.aload_n 0, 1) := dR0 (k := 0) (i := 39) bn_cX8_add_0 dop_42 (by decide +kernel)
theorem dX8_add_40 : decode cX8_add 40 = .ok (.getfield 21, 3) := dR2 (f := Instr.getfield) (k := 0) (i := 40) bn_cX8_add_0 dop_180 21 (by decide +kernel)
theorem dX8_add_43 : decode cX8_add 43 = .ok (.aload_n 0, 1) := dR0 (k := 0) (i := 43) bn_cX8_add_0 dop_42 (by decide +kernel)
theorem dX8_add_44 : decode cX8_add 44 = .ok (.getfield 39, 3) := dR2 (f := Instr.getfield) (k := 0) (i := 44) bn_cX8_add_0 dop_180 39 (by decide +kernel)
theorem dX8_add_47 : decode cX8_add 47 = .ok (.iload 4, 2) := dR1 (f := Instr.iload) (k := 0) (i := 47) bn_cX8_add_0 dop_21 4 (by decide +kernel)
theorem dX8_add_49 : decode cX8_add 49 = .ok (.iastore, 1) := dR0 (k := 0) (i := 49) bn_cX8_add_0 dop_79 (by decide +kernel)
theorem dX8_add_50 : decode cX8_add 50 = .ok (.aload_n 0, 1) := dR0 (k := 0) (i := 50) bn_cX8_add_0 dop_42 (by decide +kernel)
theorem dX8_add_51 : decode cX8_add 51 = .ok (.getfield 24, 3) := dR2 (f := Instr.getfield) (k := 0) (i := 51) bn_cX8_add_0 dop_180 24 (by decide +kernel)
theorem dX8_add_54 : decode cX8_add 54 = .ok (.aload_n 0, 1) := dR0 (k := 0) (i := 54) bn_cX8_add_0 dop_42 (by decide +kernel)
theorem dX8_add_55 : decode cX8_add 55 = .ok (.getfield 39, 3) := dR2 (f := Instr.getfield) (k := 0) (i := 55) bn_cX8_add_0 dop_180 39 (by decide +kernel)
theorem dX8_add_58 : decode cX8_add 58 = .ok (.iconst 0, 1) := dR0 (k := 0) (i := 58) bn_cX8_add_0 dop_3 (by decide +kernel)
theorem dX8_add_59 : decode cX8_add 59 = .ok (.iastore, 1) := dR0 (k := 0) (i := 59) bn_cX8_add_0 dop_79 (by decide +kernel)
theorem dX8_add_60 : decode cX8_add 60 = .ok (.aload_n 0, 1) := dR0 (k := 0) (i := 60) bn_cX8_add_0 dop_42 (by decide +kernel)
theorem dX8_add_61 : decode cX8_add 61 = .ok (.getfield 27, 3) := dR2 (f := Instr.getfield) (k := 0) (i := 61) bn_cX8_add_0 dop_180 27 (by decide +kernel)
theorem dX8_add_64 : decode cX8_add 64 = .ok (.aload_n 0, 1) := dR0 (k := 0) (i := 64) bn_cX8_add_0 dop_42 (by decide +kernel)
theorem dX8_add_65 : decode cX8_add 65 = .ok (.getfield 39, 3) := dR2 (f := Instr.getfield) (k := 0) (i := 65) bn_cX8_add_0 dop_180 39 (by decide +kernel)
theorem dX8_add_68 : decode cX8_add 68 = .ok (.iconst 0, 1) := dR0 (k := 0) (i := 68) bn_cX8_add_0 dop_3 (by decide +kernel)
theorem dX8_add_69 : decode cX8_add 69 = .ok (.iastore, 1) := dR0 (k := 0) (i := 69) bn_cX8_add_0 dop_79 (by decide +kernel)
theorem dX8_add_70 : decode cX8_add 70 = .ok (.aload_n 0, 1) := dR0 (k := 0) (i := 70) bn_cX8_add_0 dop_42 (by decide +kernel)
theorem dX8_add_71 : decode cX8_add 71 = .ok (.dup, 1) := dR0 (k := 0) (i := 71) bn_cX8_add_0 dop_89 (by decide +kernel)
theorem dX8_add_72 : decode cX8_add 72 = .ok (.getfield 39, 3) := dR2 (f := Instr.getfield) (k := 0) (i := 72) bn_cX8_add_0 dop_180 39 (by decide +kernel)
theorem dX8_add_75 : decode cX8_add 75 = .ok (.iconst 1, 1) := dR0 (k := 0) (i := 75) bn_cX8_add_0 dop_4 (by decide +kernel)
theorem dX8_add_76 : decode cX8_add 76 = .ok (.iadd, 1) := dR0 (k := 0) (i := 76) bn_cX8_add_0 dop_96 (by decide +kernel)
theorem dX8_add_77 : decode cX8_add 77 = .ok (.putfield 39, 3) := dR2 (f := Instr.putfield) (k := 0) (i := 77) bn_cX8_add_0 dop_181 39 (by decide +kernel)
theorem dX8_add_80 : decode cX8_add 80 = .ok (.aload_n 0, 1) := dR0 (k := 0) (i := 80) bn_cX8_add_0 dop_42 (by decide +kernel)
theorem dX8_add_81 : decode cX8_add 81 = .ok (.aload_n 0, 1) := dR0 (k := 0) (i := 81) bn_cX8_add_0 dop_42 (by decide +kernel)
theorem dX8_add_82 : decode cX8_add 82 = .ok (.getfield 39, 3) := dR2 (f := Instr.getfield) (k := 0) (i := 82) bn_cX8_add_0 dop_180 39 (by decide +kernel)
theorem dX8_add_85 : decode cX8_add 85 = .ok (.iconst 1, 1) := dR0 (k := 0) (i := 85) bn_cX8_add_0 dop_4 (by decide +kernel)
theorem dX8_add_86 : decode cX8_add 86 = .ok (.isub, 1) := dR0 (k := 0) (i := 86) bn_cX8_add_0 dop_100 (by decide +kernel)
theorem dX8_add_87 : decode cX8_add 87 = .ok (.iconst 1, 1) := dR0 (k := 0) (i := 87) bn_cX8_add_0 dop_4 (by decide +kernel)
theorem dX8_add_88 : decode cX8_add 88 = .ok (.invokevirtual 53, 3) := dR2 (f := Instr.invokevirtual) (k := 0) (i := 88) bn_cX8_add_0 dop_182 53 (by decide +kernel)
theorem dX8_add_91 : decode cX8_add 91 = .ok (.aload_n 0, 1) := dR0 (k := 0) (i := 91) bn_cX8_add_0 dop_42 (by decide +kernel)
theorem dX8_add_92 : decode cX8_add 92 = .ok (.getfield 39, 3) := dR2 (f := Instr.getfield) (k := 0) (i := 92) bn_cX8_add_0 dop_180 39 (by decide +kernel)
theorem dX8_add_95 : decode cX8_add 95 = .ok (.iconst 1, 1) := dR0 (k := 0) (i := 95) bn_cX8_add_0 dop_4 (by decide +kernel)
theorem dX8_add_96 : decode cX8_add 96 = .ok (.isub, 1) := dR0 (k := 0) (i := 96) bn_cX8_add_0 dop_100 (by decide +kernel)
theorem dX8_add_97 : decode cX8_add 97 = .ok (.ireturn, 1) := dR0 (k := 0) (i := 97) bn_cX8_add_0 dop_172 (by decide +kernel)

theorem bn_cX8_bringDown_0 : BN cX8_bringDown 0 0x2c86c015b80c382b28014381c00ad4561100a6c5e1c0e0056a2b0d005343a00adc382b := by
  unfold BN; decide +kernel
theorem dX8_bringDown_0 : decode cX8_bringDown 0 = .ok (.aload_n 0, 1) := dR0 (k := 0) (i := 0) bn_cX8_bringDown_0 dop_42 (by decide +kernel)
theorem dX8_bringDown_1 : decode cX8_bringDown 1 = .ok (.iload_n 1, 1) := dR0 (k := 0) (i := 1) bn_cX8_bringDown_0 dop_27 (by decide +kernel)
theorem dX8_bringDown_2 : decode cX8_bringDown 2 = .ok (.invokevirtual 57, 3) := dR2 (f := Instr.invokevirtual) (k := 0) (i := 2) bn_cX8_bringDown_0 dop_182 57 (by decide +kernel)
theorem dX8_bringDown_5 : decode cX8_bringDown 5 = .ok (.ifCond .eq 25, 3) := dR2s (f := Instr.ifCond .eq) (k := 0) (i := 5) bn_cX8_bringDown_0 dop_153 25 25 (by decide +kernel)
theorem dX8_bringDown_8 : decode cX8_bringDown 8 = .ok (.aload_n 0, 1) := dR0 (k := 0) (i := 8) bn_cX8_bringDown_0 dop_42 (by decide +kernel)
theorem dX8_bringDown_9 : decode cX8_bringDown 9 = .ok (.getfield 27, 3) := dR2 (f := Instr.getfield) (k := 0) (i := 9) bn_cX8_bringDown_0 dop_180 27 (by decide +kernel)
theorem dX8_bringDown_12 : decode cX8_bringDown 12 = .ok (.iload_n 1, 1) := dR0 (k := 0) (i := 12) bn_cX8_bringDown_0 dop_27 (by decide +kernel)
theorem dX8_bringDown_13 : decode cX8_bringDown 13 = .ok (.iaload, 1) := dR0 (k := 0) (i := 13) bn_cX8_bringDown_0 dop_46 (by decide +kernel)
theorem dX8_bringDown_14 : decode cX8_bringDown 14 = .ok (.ifCond .ne 16, 3) := dR2s (f := Instr.ifCond .ne) (k := 0) (i := 14) bn_cX8_bringDown_0 dop_154 16 16 (by decide +kernel)
theorem dX8_bringDown_17 : decode cX8_bringDown 17 = .ok (.aload_n 0, 1) := dR0 (k := 0) (i := 17) bn_cX8_bringDown_0 dop_42 (by decide +kernel)
theorem dX8_bringDown_18 : decode cX8_bringDown 18 = .ok (.getfield 27, 3) := dR2 (f := Instr.getfield) (k := 0) (i := 18) bn_cX8_bringDown_0 dop_180 27 (by decide +kernel)
theorem dX8_bringDown_21 : decode cX8_bringDown 21 = .ok (.iload_n 1, 1) := dR0 (k := 0) (i := 21) bn_cX8_bringDown_0 dop_27 (by decide +kernel)
theorem dX8_bringDown_22 : decode cX8_bringDown 22 = .ok (.iconst 1, 1) := dR0 (k := 0) (i := 22) bn_cX8_bringDown_0 dop_4 (by decide +kernel)
theorem dX8_bringDown_23 : decode cX8_bringDown 23 = .ok (.iastore, 1) := dR0 (k := 0) (i := 23) bn_cX8_bringDown_0 dop_79 (by decide +kernel)
theorem dX8_bringDown_24 : decode cX8_bringDown 24 = .ok (.aload_n 0, 1) := dR0 (k := 0) (i := 24) bn_cX8_bringDown_0 dop_42 (by decide +kernel)
theorem dX8_bringDown_25 : decode cX8_bringDown 25 = .ok (.iload_n 1, 1) := dR0 (k := 0) (i := 25) bn_cX8_bringDown_0 dop_27 (by decide +kernel)
theorem dX8_bringDown_26 : decode cX8_bringDown 26 = .ok (.iconst (-1), 1) := dR0 (k := 0) (i := 26) bn_cX8_bringDown_0 dop_2 (by decide +kernel)
theorem dX8_bringDown_27 : decode cX8_bringDown 27 = .ok (.invokevirtual 53, 3) := dR2 (f := Instr.invokevirtual) (k := 0) (i := 27) bn_cX8_bringDown_0 dop_182 53 (by decide +kernel)
theorem dX8_bringDown_30 : decode cX8_bringDown 30 = .ok (.return_, 1) := dR0 (k := 0) (i := 30) bn_cX8_bringDown_0 dop_177 (by decide +kernel)

theorem bn_cX8_isWired_0 : BN cX8_isWired 0 0x15a04028055005040053e2f0e07c02b515844029a21005721c := by
  unfold BN; decide +kernel
theorem dX8_isWired_0 : decode cX8_isWired 0 = .ok (.iload_n 1, 1) := dR0 (k := 0) (i := 0) bn_cX8_isWired_0 dop_27 (by decide +kernel)
theorem dX8_isWired_1 : decode cX8_isWired 1 = .ok (.invokestatic 65, 3) := dR2 (f := Instr.invokestatic) (k := 0) (i := 1) bn_cX8_isWired_0 dop_184 65 (by decide +kernel)
theorem dX8_isWired_4 : decode cX8_isWired 4 = .ok (.ifCond .eq 16, 3) := dR2s (f := Instr.ifCond .eq) (k := 0) (i := 4) bn_cX8_isWired_0 dop_153 16 16 (by decide +kernel)
theorem dX8_isWired_7 : decode cX8_isWired 7 = .ok (.aload_n 0, 1) := dR0 (k := 0) (i := 7) bn_cX8_isWired_0 dop_42 (by decide +kernel)
theorem dX8_isWired_8 : decode cX8_isWired 8 = .ok (.getfield 30, 3) := dR2 (f := Instr.getfield) (k := 0) (i := 8) bn_cX8_isWired_0 dop_180 30 (by decide +kernel)
theorem dX8_isWired_11 : decode cX8_isWired 11 = .ok (.iload_n 1, 1) := dR0 (k := 0) (i := 11) bn_cX8_isWired_0 dop_27 (by decide +kernel)
theorem dX8_isWired_12 : decode cX8_isWired 12 = .ok (.iaload, 1) := dR0 (k := 0) (i := 12) bn_cX8_isWired_0 dop_46 (by decide +kernel)
theorem dX8_isWired_13 : decode cX8_isWired 13 = .ok (.ifCond .le 7, 3) := dR2s (f := Instr.ifCond .le) (k := 0) (i := 13) bn_cX8_isWired_0 dop_158 7 7 (by decide +kernel)
theorem dX8_isWired_16 : decode cX8_isWired 16 = .ok (.iconst 1, 1) := dR0 (k := 0) (i := 16) bn_cX8_isWired_0 dop_4 (by decide +kernel)
theorem dX8_isWired_17 : decode cX8_isWired 17 = .ok (.goto 4, 3) := dR2s (f := Instr.goto) (k := 0) (i := 17) bn_cX8_isWired_0 dop_167 4 4 (by decide +kernel)
theorem dX8_isWired_20 : decode cX8_isWired 20 = .ok (.iconst 0, 1) := dR0 (k := 0) (i := 20) bn_cX8_isWired_0 dop_3 (by decide +kernel)
theorem dX8_isWired_21 : decode cX8_isWired 21 = .ok (.ireturn, 1) := dR0 (k := 0) (i := 21) bn_cX8_isWired_0 dop_172 (by decide +kernel)
set_option maxHeartbeats 4000000 in
set_option maxRecDepth 100000 in
theorem c_X8_isWiredG (l : Launch) (D : va_G) (cI : ClassId) (aK aV : Nat → Nat) (k k0 k1 k2 k3 k4 k5 k6 k7 k8 : Nat) (sz : Nat) (c9 : Int32) (c6 : Nat → Int32) (a0 : Int32) : Met l yX8_isWired (gW yX8_isWired cX8_isWired 2 (some .boolean)) ({ frames := 1, cells := 0, slots := 0, locals := 20 } : Room) (kPreX D cI aK aV [.ref k, .int a0] [(k, .inr (8, [.ref k0, .ref k1, .ref k2, .ref k3, .ref k4, .ref k5, .ref k6, .ref k7, .ref k8, .int c9])), (k6, .inl (cI, 40, .inl c6))] sz) (va_Qi (fun (r : Int32) (u : Unit) => True) (fun u t => kWd D cI (va_A [(k, .inr (8, [.ref k0, .ref k1, .ref k2, .ref k3, .ref k4, .ref k5, .ref k6, .ref k7, .ref k8, .int c9])), (k6, .inl (cI, 40, .inl c6))] sz) [(k, .inr (8, [.ref k0, .ref k1, .ref k2, .ref k3, .ref k4, .ref k5, .ref k6, .ref k7, .ref k8, .int c9])), (k6, .inl (cI, 40, .inl c6))] t) (va_A [(k, .inr (8, [.ref k0, .ref k1, .ref k2, .ref k3, .ref k4, .ref k5, .ref k6, .ref k7, .ref k8, .int c9])), (k6, .inl (cI, 40, .inl c6))] sz)) 0 0 (va_A [(k, .inr (8, [.ref k0, .ref k1, .ref k2, .ref k3, .ref k4, .ref k5, .ref k6, .ref k7, .ref k8, .int c9])), (k6, .inl (cI, 40, .inl c6))] sz) := by
  refine kMetIX (own := RX8) (by decide +kernel) rfl (Nat.le_of_ble_eq_true rfl) ?_
  intro p e s m args below meth c hx hb hT hown hname hml A Q hK hP hD hS hA hN hXS hRet ls hl
  have hl : lv_has ls 2 [(0, .ref k), (1, .int a0)] := hl
  have lo_a0 := k_lo a0
  have hi_a0 := k_hi a0
  refine lv_iload_n hx hb dX8_isWired_0 rfl (lv_at hl 1 rfl) ?_
  refine kJi (wr := [(k, .inr (8, [.ref k0, .ref k1, .ref k2, .ref k3, .ref k4, .ref k5, .ref k6, .ref k7, .ref k8, .int c9])), (k6, .inl (cI, 40, .inl c6))]) (va_runSN (As := [.int a0]) (rest := []) ⟨hx, hb, hml, hown, hT⟩ (c_X10_isMileG l D cI aK aV s.heap.size a0) ⟨va_cnB 1 hT (gW_in mw_346) rfl rfl rfl (hN _ mw_372) (hT _ mw_1) (by decide +kernel) ⟨Nat.le_of_ble_eq_true rfl, Nat.le_of_ble_eq_true rfl⟩, hT _ mw_345, trivial⟩ (kStatX hK hP hD hN hXS hS hA [] rfl (by decide +kernel)) rfl rfl hl.1 rfl (lv_room (Nat.le_of_ble_eq_true rfl)) dX8_isWired_1 ⟨Nat.le_of_ble_eq_true rfl, Nat.le_of_ble_eq_true rfl⟩) hP hD hS hA [] [0, 1] rfl rfl (by decide +kernel) (by decide +kernel) ?_
  clear hP hD hS
  intro r_1 u_3 H locs w_2 hP hD hS
  replace hP : va_P D vwCl [(k, .inr (8, [.ref k0, .ref k1, .ref k2, .ref k3, .ref k4, .ref k5, .ref k6, .ref k7, .ref k8, .int c9])), (k6, .inl (cI, 40, .inl c6))] H := hP
  replace hD : va_D A [(k, .inr (8, [.ref k0, .ref k1, .ref k2, .ref k3, .ref k4, .ref k5, .ref k6, .ref k7, .ref k8, .int c9])), (k6, .inl (cI, 40, .inl c6))] := hD
  rcases w_2 with ⟨hr_1, h_4, h_5⟩ | ⟨hr_1, h_6⟩
  · have h_4 : 0 ≤ a0.toInt := h_4
    have h_5 : a0.toInt ≤ 39 := h_5
    obtain rfl : r_1 = 1 := hr_1.trans (by decide +kernel)
    refine b_if_eq hx hb zl_1 (tgt := 20) dX8_isWired_4 (by decide +kernel) (fun c_7 => by exfalso; omega) (fun c_7 => ?_)
    refine lv_aload_n hx hb dX8_isWired_7 rfl (lv_at hl 0 rfl) ?_
    refine va_get (D := D) (ci := 8) (v := .ref k6) (C := RX8) (T := TX8) (N := 10) hx hb hT giX8 hown hK hP 0 rfl rfl 6 (by decide +kernel) (hT (Cond.fieldLink RX8 30 "DesertWire$Works" "poles" "[I") mw_46) (fun _ h9 => h9) rfl dX8_isWired_8 ?_
    refine lv_iload_n hx hb dX8_isWired_11 rfl (lv_at hl 1 rfl) ?_
    refine k_iald (v := (c6 a0.toNatClampNeg)) hx hb hK hP 1 0 rfl rfl (k_in (by omega) (by omega)) rfl dX8_isWired_12 ?_
    refine lv_topi (fun v_8 ev_8 => ?_)
    have lo_v_8 := k_lo v_8
    have hi_v_8 := k_hi v_8
    have tv_8 : v_8.toInt = (c6 a0.toNatClampNeg).toInt := by rw [ev_8]
    refine b_if_le hx hb rfl (tgt := 20) dX8_isWired_13 (by decide +kernel) (fun c_9 => ?_) (fun c_9 => ?_)
    · refine lv_iconst (v := 0) hx hb dX8_isWired_20 (by decide +kernel) ?_
      exact hRet () [0, 1] trivial hP hD (by decide +kernel) rfl hS rfl dX8_isWired_21
    · refine lv_iconst (v := 1) hx hb dX8_isWired_16 (by decide +kernel) ?_
      refine lv_goto (tgt := 21) hx hb dX8_isWired_17 (by decide +kernel) ?_
      exact hRet () [0, 1] trivial hP hD (by decide +kernel) rfl hS rfl dX8_isWired_21
  · have h_6 : a0.toInt < 0 ∨ 39 < a0.toInt := h_6
    obtain rfl : r_1 = 0 := hr_1.trans (by decide +kernel)
    refine b_if_eq hx hb zl_0 (tgt := 20) dX8_isWired_4 (by decide +kernel) (fun c_10 => ?_) (fun c_10 => by exfalso; omega)
    refine lv_iconst (v := 0) hx hb dX8_isWired_20 (by decide +kernel) ?_
    exact hRet () [0, 1] trivial hP hD (by decide +kernel) rfl hS rfl dX8_isWired_21
theorem bn_cX8_isWiredFrom_0 : BN cX8_isWiredFrom 0 0x2b40ae9802a0040442ab4080600a6c90015b878561400a8c52110f06802a40e8787e1c := by
  unfold BN; decide +kernel
theorem dX8_isWiredFrom_0 : decode cX8_isWiredFrom 0 = .ok (.iload_n 1, 1) := dR0 (k := 0) (i := 0) bn_cX8_isWiredFrom_0 dop_27 (by decide +kernel)
theorem dX8_isWiredFrom_1 : decode cX8_isWiredFrom 1 = .ok (.istore_n 3, 1) := dR0 (k := 0) (i := 1) bn_cX8_isWiredFrom_0 dop_62 (by decide +kernel)
theorem dX8_isWiredFrom_2 : decode cX8_isWiredFrom 2 = .ok (.iload_n 3, 1) := dR0 (k := 0) (i := 2) bn_cX8_isWiredFrom_0 dop_29 (by decide +kernel)
theorem dX8_isWiredFrom_3 : decode cX8_isWiredFrom 3 = .ok (.iload_n 2, 1) := dR0 (k := 0) (i := 3) bn_cX8_isWiredFrom_0 dop_28 (by decide +kernel)
theorem dX8_isWiredFrom_4 : decode cX8_isWiredFrom 4 = .ok (.if_icmp .gt 25, 3) := dR2s (f := Instr.if_icmp .gt) (k := 0) (i := 4) bn_cX8_isWiredFrom_0 dop_163 25 25 (by decide +kernel)
theorem dX8_isWiredFrom_7 : decode cX8_isWiredFrom 7 = .ok (.iload_n 3, 1) := dR0 (k := 0) (i := 7) bn_cX8_isWiredFrom_0 dop_29 (by decide +kernel)
theorem dX8_isWiredFrom_8 : decode cX8_isWiredFrom 8 = .ok (.bipush 40, 2) := dR1s (f := Instr.bipush) (k := 0) (i := 8) bn_cX8_isWiredFrom_0 dop_16 40 40 (by decide +kernel)
theorem dX8_isWiredFrom_10 : decode cX8_isWiredFrom 10 = .ok (.if_icmp .ge 19, 3) := dR2s (f := Instr.if_icmp .ge) (k := 0) (i := 10) bn_cX8_isWiredFrom_0 dop_162 19 19 (by decide +kernel)
theorem dX8_isWiredFrom_13 : decode cX8_isWiredFrom 13 = .ok (.aload_n 0, 1) := dR0 (k := 0) (i := 13) bn_cX8_isWiredFrom_0 dop_42 (by decide +kernel)
theorem dX8_isWiredFrom_14 : decode cX8_isWiredFrom 14 = .ok (.iload_n 3, 1) := dR0 (k := 0) (i := 14) bn_cX8_isWiredFrom_0 dop_29 (by decide +kernel)
theorem dX8_isWiredFrom_15 : decode cX8_isWiredFrom 15 = .ok (.invokevirtual 71, 3) := dR2 (f := Instr.invokevirtual) (k := 0) (i := 15) bn_cX8_isWiredFrom_0 dop_182 71 (by decide +kernel)
theorem dX8_isWiredFrom_18 : decode cX8_isWiredFrom 18 = .ok (.ifCond .ne 5, 3) := dR2s (f := Instr.ifCond .ne) (k := 0) (i := 18) bn_cX8_isWiredFrom_0 dop_154 5 5 (by decide +kernel)
theorem dX8_isWiredFrom_21 : decode cX8_isWiredFrom 21 = .ok (.iconst 0, 1) := dR0 (k := 0) (i := 21) bn_cX8_isWiredFrom_0 dop_3 (by decide +kernel)
theorem dX8_isWiredFrom_22 : decode cX8_isWiredFrom 22 = .ok (.ireturn, 1) := dR0 (k := 0) (i := 22) bn_cX8_isWiredFrom_0 dop_172 (by decide +kernel)
theorem dX8_isWiredFrom_23 : decode cX8_isWiredFrom 23 = .ok (.iinc 3 1, 3) := dRii (f := Instr.iinc) (k := 0) (i := 23) bn_cX8_isWiredFrom_0 dop_132 3 1 1 (by decide +kernel)
theorem dX8_isWiredFrom_26 : decode cX8_isWiredFrom 26 = .ok (.goto (-24), 3) := dR2s (f := Instr.goto) (k := 0) (i := 26) bn_cX8_isWiredFrom_0 dop_167 65512 (-24) (by decide +kernel)
theorem dX8_isWiredFrom_29 : decode cX8_isWiredFrom 29 = .ok (.iconst 1, 1) := dR0 (k := 0) (i := 29) bn_cX8_isWiredFrom_0 dop_4 (by decide +kernel)
theorem dX8_isWiredFrom_30 : decode cX8_isWiredFrom 30 = .ok (.ireturn, 1) := dR0 (k := 0) (i := 30) bn_cX8_isWiredFrom_0 dop_172 (by decide +kernel)

theorem bn_cX8_wiredMiles_0 : BN cX8_wiredMiles 0 0x15a1c76401500201a1404024281c029f178743e015a8ac2c01518a4221d1f0107a04 := by
  unfold BN; decide +kernel
theorem dX8_wiredMiles_0 : decode cX8_wiredMiles 0 = .ok (.iconst 0, 1) := dR0 (k := 0) (i := 0) bn_cX8_wiredMiles_0 dop_3 (by decide +kernel)
theorem dX8_wiredMiles_1 : decode cX8_wiredMiles 1 = .ok (.istore_n 1, 1) := dR0 (k := 0) (i := 1) bn_cX8_wiredMiles_0 dop_60 (by decide +kernel)
theorem dX8_wiredMiles_2 : decode cX8_wiredMiles 2 = .ok (.iconst 0, 1) := dR0 (k := 0) (i := 2) bn_cX8_wiredMiles_0 dop_3 (by decide +kernel)
theorem dX8_wiredMiles_3 : decode cX8_wiredMiles 3 = .ok (.istore_n 2, 1) := dR0 (k := 0) (i := 3) bn_cX8_wiredMiles_0 dop_61 (by decide +kernel)
theorem dX8_wiredMiles_4 : decode cX8_wiredMiles 4 = .ok (.iload_n 2, 1) := dR0 (k := 0) (i := 4) bn_cX8_wiredMiles_0 dop_28 (by decide +kernel)
theorem dX8_wiredMiles_5 : decode cX8_wiredMiles 5 = .ok (.bipush 40, 2) := dR1s (f := Instr.bipush) (k := 0) (i := 5) bn_cX8_wiredMiles_0 dop_16 40 40 (by decide +kernel)
theorem dX8_wiredMiles_7 : decode cX8_wiredMiles 7 = .ok (.if_icmp .ge 21, 3) := dR2s (f := Instr.if_icmp .ge) (k := 0) (i := 7) bn_cX8_wiredMiles_0 dop_162 21 21 (by decide +kernel)
theorem dX8_wiredMiles_10 : decode cX8_wiredMiles 10 = .ok (.aload_n 0, 1) := dR0 (k := 0) (i := 10) bn_cX8_wiredMiles_0 dop_42 (by decide +kernel)
theorem dX8_wiredMiles_11 : decode cX8_wiredMiles 11 = .ok (.getfield 30, 3) := dR2 (f := Instr.getfield) (k := 0) (i := 11) bn_cX8_wiredMiles_0 dop_180 30 (by decide +kernel)
theorem dX8_wiredMiles_14 : decode cX8_wiredMiles 14 = .ok (.iload_n 2, 1) := dR0 (k := 0) (i := 14) bn_cX8_wiredMiles_0 dop_28 (by decide +kernel)
theorem dX8_wiredMiles_15 : decode cX8_wiredMiles 15 = .ok (.iaload, 1) := dR0 (k := 0) (i := 15) bn_cX8_wiredMiles_0 dop_46 (by decide +kernel)
theorem dX8_wiredMiles_16 : decode cX8_wiredMiles 16 = .ok (.ifCond .le 6, 3) := dR2s (f := Instr.ifCond .le) (k := 0) (i := 16) bn_cX8_wiredMiles_0 dop_158 6 6 (by decide +kernel)
theorem dX8_wiredMiles_19 : decode cX8_wiredMiles 19 = .ok (.iinc 1 1, 3) := dRii (f := Instr.iinc) (k := 0) (i := 19) bn_cX8_wiredMiles_0 dop_132 1 1 1 (by decide +kernel)
theorem dX8_wiredMiles_22 : decode cX8_wiredMiles 22 = .ok (.iinc 2 1, 3) := dRii (f := Instr.iinc) (k := 0) (i := 22) bn_cX8_wiredMiles_0 dop_132 2 1 1 (by decide +kernel)
theorem dX8_wiredMiles_25 : decode cX8_wiredMiles 25 = .ok (.goto (-21), 3) := dR2s (f := Instr.goto) (k := 0) (i := 25) bn_cX8_wiredMiles_0 dop_167 65515 (-21) (by decide +kernel)
theorem dX8_wiredMiles_28 : decode cX8_wiredMiles 28 = .ok (.iload_n 1, 1) := dR0 (k := 0) (i := 28) bn_cX8_wiredMiles_0 dop_27 (by decide +kernel)
theorem dX8_wiredMiles_29 : decode cX8_wiredMiles 29 = .ok (.ireturn, 1) := dR0 (k := 0) (i := 29) bn_cX8_wiredMiles_0 dop_172 (by decide +kernel)
set_option maxHeartbeats 4000000 in
set_option maxRecDepth 100000 in
theorem c_X8_wiredMilesG (l : Launch) (D : va_G) (cI : ClassId) (aK aV : Nat → Nat) (k k0 k1 k2 k3 k4 k5 k6 k7 k8 : Nat) (sz : Nat) (c9 : Int32) (c6 : Nat → Int32) : Met l yX8_wiredMiles (gW yX8_wiredMiles cX8_wiredMiles 3 (some .int)) ({ frames := 0, cells := 0, slots := 0, locals := 0 } : Room) (kPreX D cI aK aV [.ref k] [(k, .inr (8, [.ref k0, .ref k1, .ref k2, .ref k3, .ref k4, .ref k5, .ref k6, .ref k7, .ref k8, .int c9])), (k6, .inl (cI, 40, .inl c6))] sz) (va_Qi (fun (r : Int32) (u : Unit) => True) (fun u t => kWd D cI (va_A [(k, .inr (8, [.ref k0, .ref k1, .ref k2, .ref k3, .ref k4, .ref k5, .ref k6, .ref k7, .ref k8, .int c9])), (k6, .inl (cI, 40, .inl c6))] sz) [(k, .inr (8, [.ref k0, .ref k1, .ref k2, .ref k3, .ref k4, .ref k5, .ref k6, .ref k7, .ref k8, .int c9])), (k6, .inl (cI, 40, .inl c6))] t) (va_A [(k, .inr (8, [.ref k0, .ref k1, .ref k2, .ref k3, .ref k4, .ref k5, .ref k6, .ref k7, .ref k8, .int c9])), (k6, .inl (cI, 40, .inl c6))] sz)) 0 0 (va_A [(k, .inr (8, [.ref k0, .ref k1, .ref k2, .ref k3, .ref k4, .ref k5, .ref k6, .ref k7, .ref k8, .int c9])), (k6, .inl (cI, 40, .inl c6))] sz) := by
  refine kMetIX (own := RX8) (by decide +kernel) rfl (Nat.le_of_ble_eq_true rfl) ?_
  intro p e s m args below meth c hx hb hT hown hname hml A Q hK hP hD hS hA hN hXS hRet ls hl
  have hl : lv_has ls 3 [(0, .ref k)] := hl
  refine lv_iconst (v := 0) hx hb dX8_wiredMiles_0 (by decide +kernel) ?_
  refine lv_istore_n (lv' := [(1, .int 0), (0, .ref k)]) hx hb dX8_wiredMiles_1 rfl hl (by decide +kernel) rfl ?_
  clear hl
  intro ls hl
  refine lv_iconst (v := 0) hx hb dX8_wiredMiles_2 (by decide +kernel) ?_
  refine lv_istore_n (lv' := [(2, .int 0), (1, .int 0), (0, .ref k)]) hx hb dX8_wiredMiles_3 rfl hl (by decide +kernel) rfl ?_
  clear hl
  intro ls hl
  have hloop_4 : ∀ (fu_ : Nat) (l4_1 : Int32) (l4_2 : Int32), 0 ≤ l4_2.toInt → (40 - l4_2.toInt).toNat < fu_ → ∀ (ls : Array Slot) (H : Heap) (locs : List Loc), lv_has ls 3 [(2, .int l4_2), (1, .int l4_1), (0, .ref k)] → va_P D vwCl [(k, .inr (8, [.ref k0, .ref k1, .ref k2, .ref k3, .ref k4, .ref k5, .ref k6, .ref k7, .ref k8, .int c9])), (k6, .inl (cI, 40, .inl c6))] H → va_D A [(k, .inr (8, [.ref k0, .ref k1, .ref k2, .ref k3, .ref k4, .ref k5, .ref k6, .ref k7, .ref k8, .int c9])), (k6, .inl (cI, 40, .inl c6))] → va_S A s.heap H locs → W p l e ({ frames := 0, cells := 0, slots := 0, locals := 0 } : Room) s m args below meth c H locs 0 0 Q (F0 m 4 ls []) := by
    intro fu_; induction fu_ with
    | zero => intro l4_1 l4_2 i4_0 hm; exact absurd hm (by omega)
    | succ fu_ ih4 =>
        intro l4_1 l4_2 i4_0 hm ls H locs hl hP hD hS
        have lo_l4_1 := k_lo l4_1
        have hi_l4_1 := k_hi l4_1
        have lo_l4_2 := k_lo l4_2
        have hi_l4_2 := k_hi l4_2
        refine lv_iload_n hx hb dX8_wiredMiles_4 rfl (lv_at hl 0 rfl) ?_
        refine lv_bipush (v := 40) hx hb dX8_wiredMiles_5 (by decide +kernel) ?_
        refine b_icmp_ge hx hb rfl zl_40 (tgt := 28) dX8_wiredMiles_7 (by decide +kernel) (fun c_1 => ?_) (fun c_1 => ?_)
        · refine lv_iload_n hx hb dX8_wiredMiles_28 rfl (lv_at hl 1 rfl) ?_
          exact hRet () [0, 1] trivial hP hD (by decide +kernel) rfl hS rfl dX8_wiredMiles_29
        · refine lv_aload_n hx hb dX8_wiredMiles_10 rfl (lv_at hl 2 rfl) ?_
          refine va_get (D := D) (ci := 8) (v := .ref k6) (C := RX8) (T := TX8) (N := 10) hx hb hT giX8 hown hK hP 0 rfl rfl 6 (by decide +kernel) (hT (Cond.fieldLink RX8 30 "DesertWire$Works" "poles" "[I") mw_46) (fun _ h9 => h9) rfl dX8_wiredMiles_11 ?_
          refine lv_iload_n hx hb dX8_wiredMiles_14 rfl (lv_at hl 0 rfl) ?_
          refine k_iald (v := (c6 l4_2.toNatClampNeg)) hx hb hK hP 1 0 rfl rfl (k_in (by omega) (by omega)) rfl dX8_wiredMiles_15 ?_
          refine lv_topi (fun v_2 ev_2 => ?_)
          have lo_v_2 := k_lo v_2
          have hi_v_2 := k_hi v_2
          have tv_2 : v_2.toInt = (c6 l4_2.toNatClampNeg).toInt := by rw [ev_2]
          refine b_if_le hx hb rfl (tgt := 22) dX8_wiredMiles_16 (by decide +kernel) (fun c_3 => ?_) (fun c_3 => ?_)
          · obtain ⟨v_4, ev_4⟩ : ∃ y : Int32, y = l4_2 + 1 := ⟨_, rfl⟩
            have tv_4 : v_4.toInt = l4_2.toInt + 1 := by rw [ev_4]; exact k_addv rfl zl_1 (by omega) (by omega)
            refine lv_iinc (v := v_4) (lv' := [(2, .int v_4), (1, .int l4_1), (0, .ref k)]) hx hb dX8_wiredMiles_22 hl (k := 0) rfl (by rw [ev_4]; rfl) (by decide +kernel) rfl ?_
            clear hl
            intro ls hl
            refine lv_goto (tgt := 4) hx hb dX8_wiredMiles_25 (by decide +kernel) ?_
            exact ih4 l4_1 v_4 (by first | omega | decide | assumption | rfl) (by omega) ls _ _ (lv_sub hl [0, 1, 2] rfl) (hP.sub [0, 1] rfl) (hD.sub [0, 1] (by decide +kernel) rfl) hS
          · obtain ⟨v_5, ev_5⟩ : ∃ y : Int32, y = l4_1 + 1 := ⟨_, rfl⟩
            have lo_v_5 := k_lo v_5
            have hi_v_5 := k_hi v_5
            refine lv_iinc (v := v_5) (lv' := [(1, .int v_5), (2, .int l4_2), (0, .ref k)]) hx hb dX8_wiredMiles_19 hl (k := 1) rfl (by rw [ev_5]; rfl) (by decide +kernel) rfl ?_
            clear hl
            intro ls hl
            obtain ⟨v_6, ev_6⟩ : ∃ y : Int32, y = l4_2 + 1 := ⟨_, rfl⟩
            have tv_6 : v_6.toInt = l4_2.toInt + 1 := by rw [ev_6]; exact k_addv rfl zl_1 (by omega) (by omega)
            refine lv_iinc (v := v_6) (lv' := [(2, .int v_6), (1, .int v_5), (0, .ref k)]) hx hb dX8_wiredMiles_22 hl (k := 1) rfl (by rw [ev_6]; rfl) (by decide +kernel) rfl ?_
            clear hl
            intro ls hl
            refine lv_goto (tgt := 4) hx hb dX8_wiredMiles_25 (by decide +kernel) ?_
            exact ih4 v_5 v_6 (by first | omega | decide | assumption | rfl) (by omega) ls _ _ (lv_sub hl [0, 1, 2] rfl) (hP.sub [0, 1] rfl) (hD.sub [0, 1] (by decide +kernel) rfl) hS
  exact hloop_4 _ 0 0 (by first | omega | (simp only [zl_0]; first | done | omega) | decide | assumption | rfl) (Nat.lt_succ_self _) ls _ _ (lv_sub hl [0, 1, 2] rfl) hP hD hS
theorem bn_cX8_drinkIn_0 : BN cX8_drinkIn 0 0x15a0402805502f0e08802b515834029a21005721c := by
  unfold BN; decide +kernel
theorem dX8_drinkIn_0 : decode cX8_drinkIn 0 = .ok (.iload_n 1, 1) := dR0 (k := 0) (i := 0) bn_cX8_drinkIn_0 dop_27 (by decide +kernel)
theorem dX8_drinkIn_1 : decode cX8_drinkIn 1 = .ok (.invokestatic 65, 3) := dR2 (f := Instr.invokestatic) (k := 0) (i := 1) bn_cX8_drinkIn_0 dop_184 65 (by decide +kernel)
theorem dX8_drinkIn_4 : decode cX8_drinkIn 4 = .ok (.ifCond .eq 12, 3) := dR2s (f := Instr.ifCond .eq) (k := 0) (i := 4) bn_cX8_drinkIn_0 dop_153 12 12 (by decide +kernel)
theorem dX8_drinkIn_7 : decode cX8_drinkIn 7 = .ok (.aload_n 0, 1) := dR0 (k := 0) (i := 7) bn_cX8_drinkIn_0 dop_42 (by decide +kernel)
theorem dX8_drinkIn_8 : decode cX8_drinkIn 8 = .ok (.getfield 33, 3) := dR2 (f := Instr.getfield) (k := 0) (i := 8) bn_cX8_drinkIn_0 dop_180 33 (by decide +kernel)
theorem dX8_drinkIn_11 : decode cX8_drinkIn 11 = .ok (.iload_n 1, 1) := dR0 (k := 0) (i := 11) bn_cX8_drinkIn_0 dop_27 (by decide +kernel)
theorem dX8_drinkIn_12 : decode cX8_drinkIn 12 = .ok (.iaload, 1) := dR0 (k := 0) (i := 12) bn_cX8_drinkIn_0 dop_46 (by decide +kernel)
theorem dX8_drinkIn_13 : decode cX8_drinkIn 13 = .ok (.goto 4, 3) := dR2s (f := Instr.goto) (k := 0) (i := 13) bn_cX8_drinkIn_0 dop_167 4 4 (by decide +kernel)
theorem dX8_drinkIn_16 : decode cX8_drinkIn 16 = .ok (.iconst 0, 1) := dR0 (k := 0) (i := 16) bn_cX8_drinkIn_0 dop_3 (by decide +kernel)
theorem dX8_drinkIn_17 : decode cX8_drinkIn 17 = .ok (.ireturn, 1) := dR0 (k := 0) (i := 17) bn_cX8_drinkIn_0 dop_172 (by decide +kernel)

theorem bn_cX8_takeFood_0 : BN cX8_takeFood 0 0x568795300540080a851f9840c160f140ca060b0bcba050b06402b5158186e4b00ae4ca1e0e8bc0a160c8056a2b12005421c178142c1000ad4562f00a6c5e050b07002b5158e402a1048bc0a16050056a2b25005461d0f13c02a31e8440a162b005462800ad456050b0146e04568780c014d8bc382500ad4560d00a6884015c8707e04 := by
  unfold BN; decide +kernel
theorem dX8_takeFood_0 : decode cX8_takeFood 0 = .ok (.iconst 0, 1) := dR0 (k := 0) (i := 0) bn_cX8_takeFood_0 dop_3 (by decide +kernel)
theorem dX8_takeFood_1 : decode cX8_takeFood 1 = .ok (.istore_n 3, 1) := dR0 (k := 0) (i := 1) bn_cX8_takeFood_0 dop_62 (by decide +kernel)
theorem dX8_takeFood_2 : decode cX8_takeFood 2 = .ok (.iload_n 1, 1) := dR0 (k := 0) (i := 2) bn_cX8_takeFood_0 dop_27 (by decide +kernel)
theorem dX8_takeFood_3 : decode cX8_takeFood 3 = .ok (.invokestatic 65, 3) := dR2 (f := Instr.invokestatic) (k := 0) (i := 3) bn_cX8_takeFood_0 dop_184 65 (by decide +kernel)
theorem dX8_takeFood_6 : decode cX8_takeFood 6 = .ok (.ifCond .eq 12, 3) := dR2s (f := Instr.ifCond .eq) (k := 0) (i := 6) bn_cX8_takeFood_0 dop_153 12 12 (by decide +kernel)
theorem dX8_takeFood_9 : decode cX8_takeFood 9 = .ok (.aload_n 0, 1) := dR0 (k := 0) (i := 9) bn_cX8_takeFood_0 dop_42 (by decide +kernel)
theorem dX8_takeFood_10 : decode cX8_takeFood 10 = .ok (.getfield 36, 3) := dR2 (f := Instr.getfield) (k := 0) (i := 10) bn_cX8_takeFood_0 dop_180 36 (by decide +kernel)
theorem dX8_takeFood_13 : decode cX8_takeFood 13 = .ok (.iload_n 1, 1) := dR0 (k := 0) (i := 13) bn_cX8_takeFood_0 dop_27 (by decide +kernel)
theorem dX8_takeFood_14 : decode cX8_takeFood 14 = .ok (.iaload, 1) := dR0 (k := 0) (i := 14) bn_cX8_takeFood_0 dop_46 (by decide +kernel)
theorem dX8_takeFood_15 : decode cX8_takeFood 15 = .ok (.ifCond .ne 5, 3) := dR2s (f := Instr.ifCond .ne) (k := 0) (i := 15) bn_cX8_takeFood_0 dop_154 5 5 (by decide +kernel)
theorem dX8_takeFood_18 : decode cX8_takeFood 18 = .ok (.iload_n 3, 1) := dR0 (k := 0) (i := 18) bn_cX8_takeFood_0 dop_29 (by decide +kernel)
theorem dX8_takeFood_19 : decode cX8_takeFood 19 = .ok (.ireturn, 1) := dR0 (k := 0) (i := 19) bn_cX8_takeFood_0 dop_172 (by decide +kernel)
theorem dX8_takeFood_20 : decode cX8_takeFood 20 = .ok (.iconst 0, 1) := dR0 (k := 0) (i := 20) bn_cX8_takeFood_0 dop_3 (by decide +kernel)
theorem dX8_takeFood_21 : decode cX8_takeFood 21 = .ok (.istore 4, 2) := dR1 (f := Instr.istore) (k := 0) (i := 21) bn_cX8_takeFood_0 dop_54 4 (by decide +kernel)
theorem dX8_takeFood_23 : decode cX8_takeFood 23 = .ok (.iload 4, 2) := dR1 (f := Instr.iload) (k := 0) (i := 23) bn_cX8_takeFood_0 dop_21 4 (by decide +kernel)
theorem dX8_takeFood_25 : decode cX8_takeFood 25 = .ok (.aload_n 0, 1) := dR0 (k := 0) (i := 25) bn_cX8_takeFood_0 dop_42 (by decide +kernel)
theorem dX8_takeFood_26 : decode cX8_takeFood 26 = .ok (.getfield 39, 3) := dR2 (f := Instr.getfield) (k := 0) (i := 26) bn_cX8_takeFood_0 dop_180 39 (by decide +kernel)
theorem dX8_takeFood_29 : decode cX8_takeFood 29 = .ok (.if_icmp .ge 85, 3) := dR2s (f := Instr.if_icmp .ge) (k := 0) (i := 29) bn_cX8_takeFood_0 dop_162 85 85 (by decide +kernel)
theorem dX8_takeFood_32 : decode cX8_takeFood 32 = .ok (.iload 4, 2) := dR1 (f := Instr.iload) (k := 0) (i := 32) bn_cX8_takeFood_0 dop_21 4 (by decide +kernel)
theorem dX8_takeFood_34 : decode cX8_takeFood 34 = .ok (.bipush 60, 2) := dR1s (f := Instr.bipush) (k := 0) (i := 34) bn_cX8_takeFood_0 dop_16 60 60 (by decide +kernel)
theorem dX8_takeFood_36 : decode cX8_takeFood 36 = .ok (.if_icmp .ge 78, 3) := dR2s (f := Instr.if_icmp .ge) (k := 0) (i := 36) bn_cX8_takeFood_0 dop_162 78 78 (by decide +kernel)
theorem dX8_takeFood_39 : decode cX8_takeFood 39 = .ok (.iload_n 3, 1) := dR0 (k := 0) (i := 39) bn_cX8_takeFood_0 dop_29 (by decide +kernel)
theorem dX8_takeFood_40 : decode cX8_takeFood 40 = .ok (.iload_n 2, 1) := dR0 (k := 0) (i := 40) bn_cX8_takeFood_0 dop_28 (by decide +kernel)
theorem dX8_takeFood_41 : decode cX8_takeFood 41 = .ok (.if_icmp .ge 73, 3) := dR2s (f := Instr.if_icmp .ge) (k := 0) (i := 41) bn_cX8_takeFood_0 dop_162 73 73 (by decide +kernel)
theorem dX8_takeFood_44 : decode cX8_takeFood 44 = .ok (.aload_n 0, 1) := dR0 (k := 0) (i := 44) bn_cX8_takeFood_0 dop_42 (by decide +kernel)
theorem dX8_takeFood_45 : decode cX8_takeFood 45 = .ok (.getfield 9, 3) := dR2 (f := Instr.getfield) (k := 0) (i := 45) bn_cX8_takeFood_0 dop_180 9 (by decide +kernel)
theorem dX8_takeFood_48 : decode cX8_takeFood 48 = .ok (.iload 4, 2) := dR1 (f := Instr.iload) (k := 0) (i := 48) bn_cX8_takeFood_0 dop_21 4 (by decide +kernel)
theorem dX8_takeFood_50 : decode cX8_takeFood 50 = .ok (.iaload, 1) := dR0 (k := 0) (i := 50) bn_cX8_takeFood_0 dop_46 (by decide +kernel)
theorem dX8_takeFood_51 : decode cX8_takeFood 51 = .ok (.iconst 5, 1) := dR0 (k := 0) (i := 51) bn_cX8_takeFood_0 dop_8 (by decide +kernel)
theorem dX8_takeFood_52 : decode cX8_takeFood 52 = .ok (.if_icmp .ne 56, 3) := dR2s (f := Instr.if_icmp .ne) (k := 0) (i := 52) bn_cX8_takeFood_0 dop_160 56 56 (by decide +kernel)
theorem dX8_takeFood_55 : decode cX8_takeFood 55 = .ok (.aload_n 0, 1) := dR0 (k := 0) (i := 55) bn_cX8_takeFood_0 dop_42 (by decide +kernel)
theorem dX8_takeFood_56 : decode cX8_takeFood 56 = .ok (.getfield 27, 3) := dR2 (f := Instr.getfield) (k := 0) (i := 56) bn_cX8_takeFood_0 dop_180 27 (by decide +kernel)
theorem dX8_takeFood_59 : decode cX8_takeFood 59 = .ok (.iload 4, 2) := dR1 (f := Instr.iload) (k := 0) (i := 59) bn_cX8_takeFood_0 dop_21 4 (by decide +kernel)
theorem dX8_takeFood_61 : decode cX8_takeFood 61 = .ok (.iaload, 1) := dR0 (k := 0) (i := 61) bn_cX8_takeFood_0 dop_46 (by decide +kernel)
theorem dX8_takeFood_62 : decode cX8_takeFood 62 = .ok (.ifCond .ne 46, 3) := dR2s (f := Instr.ifCond .ne) (k := 0) (i := 62) bn_cX8_takeFood_0 dop_154 46 46 (by decide +kernel)
theorem dX8_takeFood_65 : decode cX8_takeFood 65 = .ok (.aload_n 0, 1) := dR0 (k := 0) (i := 65) bn_cX8_takeFood_0 dop_42 (by decide +kernel)
theorem dX8_takeFood_66 : decode cX8_takeFood 66 = .ok (.getfield 15, 3) := dR2 (f := Instr.getfield) (k := 0) (i := 66) bn_cX8_takeFood_0 dop_180 15 (by decide +kernel)
theorem dX8_takeFood_69 : decode cX8_takeFood 69 = .ok (.iload 4, 2) := dR1 (f := Instr.iload) (k := 0) (i := 69) bn_cX8_takeFood_0 dop_21 4 (by decide +kernel)
theorem dX8_takeFood_71 : decode cX8_takeFood 71 = .ok (.iaload, 1) := dR0 (k := 0) (i := 71) bn_cX8_takeFood_0 dop_46 (by decide +kernel)
theorem dX8_takeFood_72 : decode cX8_takeFood 72 = .ok (.iload_n 1, 1) := dR0 (k := 0) (i := 72) bn_cX8_takeFood_0 dop_27 (by decide +kernel)
theorem dX8_takeFood_73 : decode cX8_takeFood 73 = .ok (.if_icmp .ne 35, 3) := dR2s (f := Instr.if_icmp .ne) (k := 0) (i := 73) bn_cX8_takeFood_0 dop_160 35 35 (by decide +kernel)
theorem dX8_takeFood_76 : decode cX8_takeFood 76 = .ok (.aload_n 0, 1) := dR0 (k := 0) (i := 76) bn_cX8_takeFood_0 dop_42 (by decide +kernel)
theorem dX8_takeFood_77 : decode cX8_takeFood 77 = .ok (.getfield 24, 3) := dR2 (f := Instr.getfield) (k := 0) (i := 77) bn_cX8_takeFood_0 dop_180 24 (by decide +kernel)
theorem dX8_takeFood_80 : decode cX8_takeFood 80 = .ok (.iload 4, 2) := dR1 (f := Instr.iload) (k := 0) (i := 80) bn_cX8_takeFood_0 dop_21 4 (by decide +kernel)
theorem dX8_takeFood_82 : decode cX8_takeFood 82 = .ok (.iaload, 1) := dR0 (k := 0) (i := 82) bn_cX8_takeFood_0 dop_46 (by decide +kernel)
theorem dX8_takeFood_83 : decode cX8_takeFood 83 = .ok (.iload_n 2, 1) := dR0 (k := 0) (i := 83) bn_cX8_takeFood_0 dop_28 (by decide +kernel)
theorem dX8_takeFood_84 : decode cX8_takeFood 84 = .ok (.iload_n 3, 1) := dR0 (k := 0) (i := 84) bn_cX8_takeFood_0 dop_29 (by decide +kernel)
theorem dX8_takeFood_85 : decode cX8_takeFood 85 = .ok (.isub, 1) := dR0 (k := 0) (i := 85) bn_cX8_takeFood_0 dop_100 (by decide +kernel)
theorem dX8_takeFood_86 : decode cX8_takeFood 86 = .ok (.invokestatic 74, 3) := dR2 (f := Instr.invokestatic) (k := 0) (i := 86) bn_cX8_takeFood_0 dop_184 74 (by decide +kernel)
theorem dX8_takeFood_89 : decode cX8_takeFood 89 = .ok (.istore 5, 2) := dR1 (f := Instr.istore) (k := 0) (i := 89) bn_cX8_takeFood_0 dop_54 5 (by decide +kernel)
theorem dX8_takeFood_91 : decode cX8_takeFood 91 = .ok (.aload_n 0, 1) := dR0 (k := 0) (i := 91) bn_cX8_takeFood_0 dop_42 (by decide +kernel)
theorem dX8_takeFood_92 : decode cX8_takeFood 92 = .ok (.getfield 24, 3) := dR2 (f := Instr.getfield) (k := 0) (i := 92) bn_cX8_takeFood_0 dop_180 24 (by decide +kernel)
theorem dX8_takeFood_95 : decode cX8_takeFood 95 = .ok (.iload 4, 2) := dR1 (f := Instr.iload) (k := 0) (i := 95) bn_cX8_takeFood_0 dop_21 4 (by decide +kernel)
theorem dX8_takeFood_97 : decode cX8_takeFood 97 = .ok (.dup2, 1) := dR0 (k := 0) (i := 97) bn_cX8_takeFood_0 dop_92 (by decide +kernel)
theorem dX8_takeFood_98 : decode cX8_takeFood 98 = .ok (.iaload, 1) := dR0 (k := 0) (i := 98) bn_cX8_takeFood_0 dop_46 (by decide +kernel)
theorem dX8_takeFood_99 : decode cX8_takeFood 99 = .ok (.iload 5, 2) := dR1 (f := Instr.iload) (k := 0) (i := 99) bn_cX8_takeFood_0 dop_21 5 (by decide +kernel)
theorem dX8_takeFood_101 : decode cX8_takeFood 101 = .ok (.isub, 1) := dR0 (k := 0) (i := 101) bn_cX8_takeFood_0 dop_100 (by decide +kernel)
theorem dX8_takeFood_102 : decode cX8_takeFood 102 = .ok (.iastore, 1) := dR0 (k := 0) (i := 102) bn_cX8_takeFood_0 dop_79 (by decide +kernel)
theorem dX8_takeFood_103 : decode cX8_takeFood 103 = .ok (.iload_n 3, 1) := dR0 (k := 0) (i := 103) bn_cX8_takeFood_0 dop_29 (by decide +kernel)
theorem dX8_takeFood_104 : decode cX8_takeFood 104 = .ok (.iload 5, 2) := dR1 (f := Instr.iload) (k := 0) (i := 104) bn_cX8_takeFood_0 dop_21 5 (by decide +kernel)
theorem dX8_takeFood_106 : decode cX8_takeFood 106 = .ok (.iadd, 1) := dR0 (k := 0) (i := 106) bn_cX8_takeFood_0 dop_96 (by decide +kernel)
theorem dX8_takeFood_107 : decode cX8_takeFood 107 = .ok (.istore_n 3, 1) := dR0 (k := 0) (i := 107) bn_cX8_takeFood_0 dop_62 (by decide +kernel)
theorem dX8_takeFood_108 : decode cX8_takeFood 108 = .ok (.iinc 4 1, 3) := dRii (f := Instr.iinc) (k := 0) (i := 108) bn_cX8_takeFood_0 dop_132 4 1 1 (by decide +kernel)
theorem dX8_takeFood_111 : decode cX8_takeFood 111 = .ok (.goto (-88), 3) := dR2s (f := Instr.goto) (k := 0) (i := 111) bn_cX8_takeFood_0 dop_167 65448 (-88) (by decide +kernel)
theorem dX8_takeFood_114 : decode cX8_takeFood 114 = .ok (.iload_n 3, 1) := dR0 (k := 0) (i := 114) bn_cX8_takeFood_0 dop_29 (by decide +kernel)
theorem dX8_takeFood_115 : decode cX8_takeFood 115 = .ok (.ireturn, 1) := dR0 (k := 0) (i := 115) bn_cX8_takeFood_0 dop_172 (by decide +kernel)

theorem bn_cX8_fallen_0 : BN cX8_fallen 0 0x2b438e7802a00403428f4c22f0e87002b5158702601518f4221d0c805462800ad4561d1f0107a04 := by
  unfold BN; decide +kernel
theorem dX8_fallen_0 : decode cX8_fallen 0 = .ok (.iconst 0, 1) := dR0 (k := 0) (i := 0) bn_cX8_fallen_0 dop_3 (by decide +kernel)
theorem dX8_fallen_1 : decode cX8_fallen 1 = .ok (.istore_n 1, 1) := dR0 (k := 0) (i := 1) bn_cX8_fallen_0 dop_60 (by decide +kernel)
theorem dX8_fallen_2 : decode cX8_fallen 2 = .ok (.iconst 0, 1) := dR0 (k := 0) (i := 2) bn_cX8_fallen_0 dop_3 (by decide +kernel)
theorem dX8_fallen_3 : decode cX8_fallen 3 = .ok (.istore_n 2, 1) := dR0 (k := 0) (i := 3) bn_cX8_fallen_0 dop_61 (by decide +kernel)
theorem dX8_fallen_4 : decode cX8_fallen 4 = .ok (.iload_n 2, 1) := dR0 (k := 0) (i := 4) bn_cX8_fallen_0 dop_28 (by decide +kernel)
theorem dX8_fallen_5 : decode cX8_fallen 5 = .ok (.aload_n 0, 1) := dR0 (k := 0) (i := 5) bn_cX8_fallen_0 dop_42 (by decide +kernel)
theorem dX8_fallen_6 : decode cX8_fallen 6 = .ok (.getfield 39, 3) := dR2 (f := Instr.getfield) (k := 0) (i := 6) bn_cX8_fallen_0 dop_180 39 (by decide +kernel)
theorem dX8_fallen_9 : decode cX8_fallen 9 = .ok (.if_icmp .ge 24, 3) := dR2s (f := Instr.if_icmp .ge) (k := 0) (i := 9) bn_cX8_fallen_0 dop_162 24 24 (by decide +kernel)
theorem dX8_fallen_12 : decode cX8_fallen 12 = .ok (.iload_n 2, 1) := dR0 (k := 0) (i := 12) bn_cX8_fallen_0 dop_28 (by decide +kernel)
theorem dX8_fallen_13 : decode cX8_fallen 13 = .ok (.bipush 60, 2) := dR1s (f := Instr.bipush) (k := 0) (i := 13) bn_cX8_fallen_0 dop_16 60 60 (by decide +kernel)
theorem dX8_fallen_15 : decode cX8_fallen 15 = .ok (.if_icmp .ge 18, 3) := dR2s (f := Instr.if_icmp .ge) (k := 0) (i := 15) bn_cX8_fallen_0 dop_162 18 18 (by decide +kernel)
theorem dX8_fallen_18 : decode cX8_fallen 18 = .ok (.iload_n 1, 1) := dR0 (k := 0) (i := 18) bn_cX8_fallen_0 dop_27 (by decide +kernel)
theorem dX8_fallen_19 : decode cX8_fallen 19 = .ok (.aload_n 0, 1) := dR0 (k := 0) (i := 19) bn_cX8_fallen_0 dop_42 (by decide +kernel)
theorem dX8_fallen_20 : decode cX8_fallen 20 = .ok (.getfield 27, 3) := dR2 (f := Instr.getfield) (k := 0) (i := 20) bn_cX8_fallen_0 dop_180 27 (by decide +kernel)
theorem dX8_fallen_23 : decode cX8_fallen 23 = .ok (.iload_n 2, 1) := dR0 (k := 0) (i := 23) bn_cX8_fallen_0 dop_28 (by decide +kernel)
theorem dX8_fallen_24 : decode cX8_fallen 24 = .ok (.iaload, 1) := dR0 (k := 0) (i := 24) bn_cX8_fallen_0 dop_46 (by decide +kernel)
theorem dX8_fallen_25 : decode cX8_fallen 25 = .ok (.iadd, 1) := dR0 (k := 0) (i := 25) bn_cX8_fallen_0 dop_96 (by decide +kernel)
theorem dX8_fallen_26 : decode cX8_fallen 26 = .ok (.istore_n 1, 1) := dR0 (k := 0) (i := 26) bn_cX8_fallen_0 dop_60 (by decide +kernel)
theorem dX8_fallen_27 : decode cX8_fallen 27 = .ok (.iinc 2 1, 3) := dRii (f := Instr.iinc) (k := 0) (i := 27) bn_cX8_fallen_0 dop_132 2 1 1 (by decide +kernel)
theorem dX8_fallen_30 : decode cX8_fallen 30 = .ok (.goto (-26), 3) := dR2s (f := Instr.goto) (k := 0) (i := 30) bn_cX8_fallen_0 dop_167 65510 (-26) (by decide +kernel)
theorem dX8_fallen_33 : decode cX8_fallen 33 = .ok (.iload_n 1, 1) := dR0 (k := 0) (i := 33) bn_cX8_fallen_0 dop_27 (by decide +kernel)
theorem dX8_fallen_34 : decode cX8_fallen 34 = .ok (.ireturn, 1) := dR0 (k := 0) (i := 34) bn_cX8_fallen_0 dop_172 (by decide +kernel)
set_option maxHeartbeats 4000000 in
set_option maxRecDepth 100000 in
theorem c_X8_fallenG (l : Launch) (D : va_G) (cI : ClassId) (aK aV : Nat → Nat) (k k0 k1 k2 k3 k4 k5 k6 k7 k8 : Nat) (sz : Nat) (c9 : Int32) (c5 : Nat → Int32) : Met l yX8_fallen (gW yX8_fallen cX8_fallen 3 (some .int)) ({ frames := 0, cells := 0, slots := 0, locals := 0 } : Room) (kPreX D cI aK aV [.ref k] [(k, .inr (8, [.ref k0, .ref k1, .ref k2, .ref k3, .ref k4, .ref k5, .ref k6, .ref k7, .ref k8, .int c9])), (k5, .inl (cI, 60, .inl c5))] sz) (va_Qi (fun (r : Int32) (u : Unit) => True) (fun u t => kWd D cI (va_A [(k, .inr (8, [.ref k0, .ref k1, .ref k2, .ref k3, .ref k4, .ref k5, .ref k6, .ref k7, .ref k8, .int c9])), (k5, .inl (cI, 60, .inl c5))] sz) [(k, .inr (8, [.ref k0, .ref k1, .ref k2, .ref k3, .ref k4, .ref k5, .ref k6, .ref k7, .ref k8, .int c9])), (k5, .inl (cI, 60, .inl c5))] t) (va_A [(k, .inr (8, [.ref k0, .ref k1, .ref k2, .ref k3, .ref k4, .ref k5, .ref k6, .ref k7, .ref k8, .int c9])), (k5, .inl (cI, 60, .inl c5))] sz)) 0 0 (va_A [(k, .inr (8, [.ref k0, .ref k1, .ref k2, .ref k3, .ref k4, .ref k5, .ref k6, .ref k7, .ref k8, .int c9])), (k5, .inl (cI, 60, .inl c5))] sz) := by
  refine kMetIX (own := RX8) (by decide +kernel) rfl (Nat.le_of_ble_eq_true rfl) ?_
  intro p e s m args below meth c hx hb hT hown hname hml A Q hK hP hD hS hA hN hXS hRet ls hl
  have hl : lv_has ls 3 [(0, .ref k)] := hl
  have lo_c9 := k_lo c9
  have hi_c9 := k_hi c9
  refine lv_iconst (v := 0) hx hb dX8_fallen_0 (by decide +kernel) ?_
  refine lv_istore_n (lv' := [(1, .int 0), (0, .ref k)]) hx hb dX8_fallen_1 rfl hl (by decide +kernel) rfl ?_
  clear hl
  intro ls hl
  refine lv_iconst (v := 0) hx hb dX8_fallen_2 (by decide +kernel) ?_
  refine lv_istore_n (lv' := [(2, .int 0), (1, .int 0), (0, .ref k)]) hx hb dX8_fallen_3 rfl hl (by decide +kernel) rfl ?_
  clear hl
  intro ls hl
  have hloop_4 : ∀ (fu_ : Nat) (l4_1 : Int32) (l4_2 : Int32), 0 ≤ l4_2.toInt → (c9.toInt - l4_2.toInt).toNat < fu_ → ∀ (ls : Array Slot) (H : Heap) (locs : List Loc), lv_has ls 3 [(2, .int l4_2), (1, .int l4_1), (0, .ref k)] → va_P D vwCl [(k, .inr (8, [.ref k0, .ref k1, .ref k2, .ref k3, .ref k4, .ref k5, .ref k6, .ref k7, .ref k8, .int c9])), (k5, .inl (cI, 60, .inl c5))] H → va_D A [(k, .inr (8, [.ref k0, .ref k1, .ref k2, .ref k3, .ref k4, .ref k5, .ref k6, .ref k7, .ref k8, .int c9])), (k5, .inl (cI, 60, .inl c5))] → va_S A s.heap H locs → W p l e ({ frames := 0, cells := 0, slots := 0, locals := 0 } : Room) s m args below meth c H locs 0 0 Q (F0 m 4 ls []) := by
    intro fu_; induction fu_ with
    | zero => intro l4_1 l4_2 i4_0 hm; exact absurd hm (by omega)
    | succ fu_ ih4 =>
        intro l4_1 l4_2 i4_0 hm ls H locs hl hP hD hS
        have lo_l4_1 := k_lo l4_1
        have hi_l4_1 := k_hi l4_1
        have lo_l4_2 := k_lo l4_2
        have hi_l4_2 := k_hi l4_2
        refine lv_iload_n hx hb dX8_fallen_4 rfl (lv_at hl 0 rfl) ?_
        refine lv_aload_n hx hb dX8_fallen_5 rfl (lv_at hl 2 rfl) ?_
        refine va_get (D := D) (ci := 8) (v := .int c9) (C := RX8) (T := TX8) (N := 10) hx hb hT giX8 hown hK hP 0 rfl rfl 9 (by decide +kernel) (hT (Cond.fieldLink RX8 39 "DesertWire$Works" "number" "I") mw_49) (fun _ h9 => h9) rfl dX8_fallen_6 ?_
        refine b_icmp_ge hx hb rfl rfl (tgt := 33) dX8_fallen_9 (by decide +kernel) (fun c_1 => ?_) (fun c_1 => ?_)
        · refine lv_iload_n hx hb dX8_fallen_33 rfl (lv_at hl 1 rfl) ?_
          exact hRet () [0, 1] trivial hP hD (by decide +kernel) rfl hS rfl dX8_fallen_34
        · refine lv_iload_n hx hb dX8_fallen_12 rfl (lv_at hl 0 rfl) ?_
          refine lv_bipush (v := 60) hx hb dX8_fallen_13 (by decide +kernel) ?_
          refine b_icmp_ge hx hb rfl zl_60 (tgt := 33) dX8_fallen_15 (by decide +kernel) (fun c_2 => ?_) (fun c_2 => ?_)
          · refine lv_iload_n hx hb dX8_fallen_33 rfl (lv_at hl 1 rfl) ?_
            exact hRet () [0, 1] trivial hP hD (by decide +kernel) rfl hS rfl dX8_fallen_34
          · refine lv_iload_n hx hb dX8_fallen_18 rfl (lv_at hl 1 rfl) ?_
            refine lv_aload_n hx hb dX8_fallen_19 rfl (lv_at hl 2 rfl) ?_
            refine va_get (D := D) (ci := 8) (v := .ref k5) (C := RX8) (T := TX8) (N := 10) hx hb hT giX8 hown hK hP 0 rfl rfl 5 (by decide +kernel) (hT (Cond.fieldLink RX8 27 "DesertWire$Works" "downs" "[I") mw_45) (fun _ h9 => h9) rfl dX8_fallen_20 ?_
            refine lv_iload_n hx hb dX8_fallen_23 rfl (lv_at hl 0 rfl) ?_
            refine k_iald (v := (c5 l4_2.toNatClampNeg)) hx hb hK hP 1 0 rfl rfl (k_in (by omega) (by omega)) rfl dX8_fallen_24 ?_
            refine lv_topi (fun v_3 ev_3 => ?_)
            have lo_v_3 := k_lo v_3
            have hi_v_3 := k_hi v_3
            have tv_3 : v_3.toInt = (c5 l4_2.toNatClampNeg).toInt := by rw [ev_3]
            refine lv_iadd hx hb dX8_fallen_25 ?_
            refine lv_topi (fun v_4 ev_4 => ?_)
            have lo_v_4 := k_lo v_4
            have hi_v_4 := k_hi v_4
            refine lv_istore_n (lv' := [(1, .int v_4), (2, .int l4_2), (0, .ref k)]) hx hb dX8_fallen_26 rfl hl (by decide +kernel) rfl ?_
            clear hl
            intro ls hl
            obtain ⟨v_5, ev_5⟩ : ∃ y : Int32, y = l4_2 + 1 := ⟨_, rfl⟩
            have tv_5 : v_5.toInt = l4_2.toInt + 1 := by rw [ev_5]; exact k_addv rfl zl_1 (by omega) (by omega)
            refine lv_iinc (v := v_5) (lv' := [(2, .int v_5), (1, .int v_4), (0, .ref k)]) hx hb dX8_fallen_27 hl (k := 1) rfl (by rw [ev_5]; rfl) (by decide +kernel) rfl ?_
            clear hl
            intro ls hl
            refine lv_goto (tgt := 4) hx hb dX8_fallen_30 (by decide +kernel) ?_
            exact ih4 v_4 v_5 (by first | omega | decide | assumption | rfl) (by omega) ls _ _ (lv_sub hl [0, 1, 2] rfl) (hP.sub [0, 1] rfl) (hD.sub [0, 1] (by decide +kernel) rfl) hS
  exact hloop_4 _ 0 0 (by first | omega | (simp only [zl_0]; first | done | omega) | decide | assumption | rfl) (Nat.lt_succ_self _) ls _ _ (lv_sub hl [0, 1, 2] rfl) hP hD hS
theorem bn_cX8_stations_0 : BN cX8_stations 0 0x56871b500540080685010090a0700a6c5e1d0e0056a2b0800542071787414015a8ac4001518f4221d13005462800ad4561d1f0107a04 := by
  unfold BN; decide +kernel
theorem dX8_stations_0 : decode cX8_stations 0 = .ok (.iconst 0, 1) := dR0 (k := 0) (i := 0) bn_cX8_stations_0 dop_3 (by decide +kernel)
theorem dX8_stations_1 : decode cX8_stations 1 = .ok (.istore_n 1, 1) := dR0 (k := 0) (i := 1) bn_cX8_stations_0 dop_60 (by decide +kernel)
theorem dX8_stations_2 : decode cX8_stations 2 = .ok (.iconst 0, 1) := dR0 (k := 0) (i := 2) bn_cX8_stations_0 dop_3 (by decide +kernel)
theorem dX8_stations_3 : decode cX8_stations 3 = .ok (.istore_n 2, 1) := dR0 (k := 0) (i := 3) bn_cX8_stations_0 dop_61 (by decide +kernel)
theorem dX8_stations_4 : decode cX8_stations 4 = .ok (.iload_n 2, 1) := dR0 (k := 0) (i := 4) bn_cX8_stations_0 dop_28 (by decide +kernel)
theorem dX8_stations_5 : decode cX8_stations 5 = .ok (.aload_n 0, 1) := dR0 (k := 0) (i := 5) bn_cX8_stations_0 dop_42 (by decide +kernel)
theorem dX8_stations_6 : decode cX8_stations 6 = .ok (.getfield 39, 3) := dR2 (f := Instr.getfield) (k := 0) (i := 6) bn_cX8_stations_0 dop_180 39 (by decide +kernel)
theorem dX8_stations_9 : decode cX8_stations 9 = .ok (.if_icmp .ge 37, 3) := dR2s (f := Instr.if_icmp .ge) (k := 0) (i := 9) bn_cX8_stations_0 dop_162 37 37 (by decide +kernel)
theorem dX8_stations_12 : decode cX8_stations 12 = .ok (.iload_n 2, 1) := dR0 (k := 0) (i := 12) bn_cX8_stations_0 dop_28 (by decide +kernel)
theorem dX8_stations_13 : decode cX8_stations 13 = .ok (.bipush 60, 2) := dR1s (f := Instr.bipush) (k := 0) (i := 13) bn_cX8_stations_0 dop_16 60 60 (by decide +kernel)
theorem dX8_stations_15 : decode cX8_stations 15 = .ok (.if_icmp .ge 31, 3) := dR2s (f := Instr.if_icmp .ge) (k := 0) (i := 15) bn_cX8_stations_0 dop_162 31 31 (by decide +kernel)
theorem dX8_stations_18 : decode cX8_stations 18 = .ok (.aload_n 0, 1) := dR0 (k := 0) (i := 18) bn_cX8_stations_0 dop_42 (by decide +kernel)
theorem dX8_stations_19 : decode cX8_stations 19 = .ok (.getfield 9, 3) := dR2 (f := Instr.getfield) (k := 0) (i := 19) bn_cX8_stations_0 dop_180 9 (by decide +kernel)
theorem dX8_stations_22 : decode cX8_stations 22 = .ok (.iload_n 2, 1) := dR0 (k := 0) (i := 22) bn_cX8_stations_0 dop_28 (by decide +kernel)
theorem dX8_stations_23 : decode cX8_stations 23 = .ok (.iaload, 1) := dR0 (k := 0) (i := 23) bn_cX8_stations_0 dop_46 (by decide +kernel)
theorem dX8_stations_24 : decode cX8_stations 24 = .ok (.iconst 3, 1) := dR0 (k := 0) (i := 24) bn_cX8_stations_0 dop_6 (by decide +kernel)
theorem dX8_stations_25 : decode cX8_stations 25 = .ok (.if_icmp .ne 15, 3) := dR2s (f := Instr.if_icmp .ne) (k := 0) (i := 25) bn_cX8_stations_0 dop_160 15 15 (by decide +kernel)
theorem dX8_stations_28 : decode cX8_stations 28 = .ok (.aload_n 0, 1) := dR0 (k := 0) (i := 28) bn_cX8_stations_0 dop_42 (by decide +kernel)
theorem dX8_stations_29 : decode cX8_stations 29 = .ok (.getfield 27, 3) := dR2 (f := Instr.getfield) (k := 0) (i := 29) bn_cX8_stations_0 dop_180 27 (by decide +kernel)
theorem dX8_stations_32 : decode cX8_stations 32 = .ok (.iload_n 2, 1) := dR0 (k := 0) (i := 32) bn_cX8_stations_0 dop_28 (by decide +kernel)
theorem dX8_stations_33 : decode cX8_stations 33 = .ok (.iaload, 1) := dR0 (k := 0) (i := 33) bn_cX8_stations_0 dop_46 (by decide +kernel)
theorem dX8_stations_34 : decode cX8_stations 34 = .ok (.ifCond .ne 6, 3) := dR2s (f := Instr.ifCond .ne) (k := 0) (i := 34) bn_cX8_stations_0 dop_154 6 6 (by decide +kernel)
theorem dX8_stations_37 : decode cX8_stations 37 = .ok (.iinc 1 1, 3) := dRii (f := Instr.iinc) (k := 0) (i := 37) bn_cX8_stations_0 dop_132 1 1 1 (by decide +kernel)
theorem dX8_stations_40 : decode cX8_stations 40 = .ok (.iinc 2 1, 3) := dRii (f := Instr.iinc) (k := 0) (i := 40) bn_cX8_stations_0 dop_132 2 1 1 (by decide +kernel)
theorem dX8_stations_43 : decode cX8_stations 43 = .ok (.goto (-39), 3) := dR2s (f := Instr.goto) (k := 0) (i := 43) bn_cX8_stations_0 dop_167 65497 (-39) (by decide +kernel)
theorem dX8_stations_46 : decode cX8_stations 46 = .ok (.iload_n 1, 1) := dR0 (k := 0) (i := 46) bn_cX8_stations_0 dop_27 (by decide +kernel)
theorem dX8_stations_47 : decode cX8_stations 47 = .ok (.ireturn, 1) := dR0 (k := 0) (i := 47) bn_cX8_stations_0 dop_172 (by decide +kernel)
set_option maxHeartbeats 4000000 in
set_option maxRecDepth 100000 in
theorem c_X8_stationsG (l : Launch) (D : va_G) (cI : ClassId) (aK aV : Nat → Nat) (k k0 k1 k2 k3 k4 k5 k6 k7 k8 : Nat) (sz : Nat) (c9 : Int32) (c0 : Nat → Int32) (c5 : Nat → Int32) : Met l yX8_stations (gW yX8_stations cX8_stations 3 (some .int)) ({ frames := 0, cells := 0, slots := 0, locals := 0 } : Room) (kPreX D cI aK aV [.ref k] [(k, .inr (8, [.ref k0, .ref k1, .ref k2, .ref k3, .ref k4, .ref k5, .ref k6, .ref k7, .ref k8, .int c9])), (k0, .inl (cI, 60, .inl c0)), (k5, .inl (cI, 60, .inl c5))] sz) (va_Qi (fun (r : Int32) (u : Unit) => True) (fun u t => kWd D cI (va_A [(k, .inr (8, [.ref k0, .ref k1, .ref k2, .ref k3, .ref k4, .ref k5, .ref k6, .ref k7, .ref k8, .int c9])), (k0, .inl (cI, 60, .inl c0)), (k5, .inl (cI, 60, .inl c5))] sz) [(k, .inr (8, [.ref k0, .ref k1, .ref k2, .ref k3, .ref k4, .ref k5, .ref k6, .ref k7, .ref k8, .int c9])), (k0, .inl (cI, 60, .inl c0)), (k5, .inl (cI, 60, .inl c5))] t) (va_A [(k, .inr (8, [.ref k0, .ref k1, .ref k2, .ref k3, .ref k4, .ref k5, .ref k6, .ref k7, .ref k8, .int c9])), (k0, .inl (cI, 60, .inl c0)), (k5, .inl (cI, 60, .inl c5))] sz)) 0 0 (va_A [(k, .inr (8, [.ref k0, .ref k1, .ref k2, .ref k3, .ref k4, .ref k5, .ref k6, .ref k7, .ref k8, .int c9])), (k0, .inl (cI, 60, .inl c0)), (k5, .inl (cI, 60, .inl c5))] sz) := by
  refine kMetIX (own := RX8) (by decide +kernel) rfl (Nat.le_of_ble_eq_true rfl) ?_
  intro p e s m args below meth c hx hb hT hown hname hml A Q hK hP hD hS hA hN hXS hRet ls hl
  have hl : lv_has ls 3 [(0, .ref k)] := hl
  have lo_c9 := k_lo c9
  have hi_c9 := k_hi c9
  refine lv_iconst (v := 0) hx hb dX8_stations_0 (by decide +kernel) ?_
  refine lv_istore_n (lv' := [(1, .int 0), (0, .ref k)]) hx hb dX8_stations_1 rfl hl (by decide +kernel) rfl ?_
  clear hl
  intro ls hl
  refine lv_iconst (v := 0) hx hb dX8_stations_2 (by decide +kernel) ?_
  refine lv_istore_n (lv' := [(2, .int 0), (1, .int 0), (0, .ref k)]) hx hb dX8_stations_3 rfl hl (by decide +kernel) rfl ?_
  clear hl
  intro ls hl
  have hloop_4 : ∀ (fu_ : Nat) (l4_1 : Int32) (l4_2 : Int32), 0 ≤ l4_2.toInt → (c9.toInt - l4_2.toInt).toNat < fu_ → ∀ (ls : Array Slot) (H : Heap) (locs : List Loc), lv_has ls 3 [(2, .int l4_2), (1, .int l4_1), (0, .ref k)] → va_P D vwCl [(k, .inr (8, [.ref k0, .ref k1, .ref k2, .ref k3, .ref k4, .ref k5, .ref k6, .ref k7, .ref k8, .int c9])), (k0, .inl (cI, 60, .inl c0)), (k5, .inl (cI, 60, .inl c5))] H → va_D A [(k, .inr (8, [.ref k0, .ref k1, .ref k2, .ref k3, .ref k4, .ref k5, .ref k6, .ref k7, .ref k8, .int c9])), (k0, .inl (cI, 60, .inl c0)), (k5, .inl (cI, 60, .inl c5))] → va_S A s.heap H locs → W p l e ({ frames := 0, cells := 0, slots := 0, locals := 0 } : Room) s m args below meth c H locs 0 0 Q (F0 m 4 ls []) := by
    intro fu_; induction fu_ with
    | zero => intro l4_1 l4_2 i4_0 hm; exact absurd hm (by omega)
    | succ fu_ ih4 =>
        intro l4_1 l4_2 i4_0 hm ls H locs hl hP hD hS
        have lo_l4_1 := k_lo l4_1
        have hi_l4_1 := k_hi l4_1
        have lo_l4_2 := k_lo l4_2
        have hi_l4_2 := k_hi l4_2
        refine lv_iload_n hx hb dX8_stations_4 rfl (lv_at hl 0 rfl) ?_
        refine lv_aload_n hx hb dX8_stations_5 rfl (lv_at hl 2 rfl) ?_
        refine va_get (D := D) (ci := 8) (v := .int c9) (C := RX8) (T := TX8) (N := 10) hx hb hT giX8 hown hK hP 0 rfl rfl 9 (by decide +kernel) (hT (Cond.fieldLink RX8 39 "DesertWire$Works" "number" "I") mw_49) (fun _ h9 => h9) rfl dX8_stations_6 ?_
        refine b_icmp_ge hx hb rfl rfl (tgt := 46) dX8_stations_9 (by decide +kernel) (fun c_1 => ?_) (fun c_1 => ?_)
        · refine lv_iload_n hx hb dX8_stations_46 rfl (lv_at hl 1 rfl) ?_
          exact hRet () [0, 1, 2] trivial hP hD (by decide +kernel) rfl hS rfl dX8_stations_47
        · refine lv_iload_n hx hb dX8_stations_12 rfl (lv_at hl 0 rfl) ?_
          refine lv_bipush (v := 60) hx hb dX8_stations_13 (by decide +kernel) ?_
          refine b_icmp_ge hx hb rfl zl_60 (tgt := 46) dX8_stations_15 (by decide +kernel) (fun c_2 => ?_) (fun c_2 => ?_)
          · refine lv_iload_n hx hb dX8_stations_46 rfl (lv_at hl 1 rfl) ?_
            exact hRet () [0, 1, 2] trivial hP hD (by decide +kernel) rfl hS rfl dX8_stations_47
          · refine lv_aload_n hx hb dX8_stations_18 rfl (lv_at hl 2 rfl) ?_
            refine va_get (D := D) (ci := 8) (v := .ref k0) (C := RX8) (T := TX8) (N := 10) hx hb hT giX8 hown hK hP 0 rfl rfl 0 (by decide +kernel) (hT (Cond.fieldLink RX8 9 "DesertWire$Works" "kinds" "[I") mw_40) (fun _ h9 => h9) rfl dX8_stations_19 ?_
            refine lv_iload_n hx hb dX8_stations_22 rfl (lv_at hl 0 rfl) ?_
            refine k_iald (v := (c0 l4_2.toNatClampNeg)) hx hb hK hP 1 0 rfl rfl (k_in (by omega) (by omega)) rfl dX8_stations_23 ?_
            refine lv_topi (fun v_3 ev_3 => ?_)
            have lo_v_3 := k_lo v_3
            have hi_v_3 := k_hi v_3
            have tv_3 : v_3.toInt = (c0 l4_2.toNatClampNeg).toInt := by rw [ev_3]
            refine lv_iconst (v := 3) hx hb dX8_stations_24 (by decide +kernel) ?_
            refine b_icmp_ne hx hb rfl zl_3 (tgt := 40) dX8_stations_25 (by decide +kernel) (fun c_4 => ?_) (fun c_4 => ?_)
            · obtain ⟨v_5, ev_5⟩ : ∃ y : Int32, y = l4_2 + 1 := ⟨_, rfl⟩
              have tv_5 : v_5.toInt = l4_2.toInt + 1 := by rw [ev_5]; exact k_addv rfl zl_1 (by omega) (by omega)
              refine lv_iinc (v := v_5) (lv' := [(2, .int v_5), (1, .int l4_1), (0, .ref k)]) hx hb dX8_stations_40 hl (k := 0) rfl (by rw [ev_5]; rfl) (by decide +kernel) rfl ?_
              clear hl
              intro ls hl
              refine lv_goto (tgt := 4) hx hb dX8_stations_43 (by decide +kernel) ?_
              exact ih4 l4_1 v_5 (by first | omega | decide | assumption | rfl) (by omega) ls _ _ (lv_sub hl [0, 1, 2] rfl) (hP.sub [0, 1, 2] rfl) (hD.sub [0, 1, 2] (by decide +kernel) rfl) hS
            · refine lv_aload_n hx hb dX8_stations_28 rfl (lv_at hl 2 rfl) ?_
              refine va_get (D := D) (ci := 8) (v := .ref k5) (C := RX8) (T := TX8) (N := 10) hx hb hT giX8 hown hK hP 0 rfl rfl 5 (by decide +kernel) (hT (Cond.fieldLink RX8 27 "DesertWire$Works" "downs" "[I") mw_45) (fun _ h9 => h9) rfl dX8_stations_29 ?_
              refine lv_iload_n hx hb dX8_stations_32 rfl (lv_at hl 0 rfl) ?_
              refine k_iald (v := (c5 l4_2.toNatClampNeg)) hx hb hK hP 2 0 rfl rfl (k_in (by omega) (by omega)) rfl dX8_stations_33 ?_
              refine lv_topi (fun v_6 ev_6 => ?_)
              have lo_v_6 := k_lo v_6
              have hi_v_6 := k_hi v_6
              have tv_6 : v_6.toInt = (c5 l4_2.toNatClampNeg).toInt := by rw [ev_6]
              refine b_if_ne hx hb rfl (tgt := 40) dX8_stations_34 (by decide +kernel) (fun c_7 => ?_) (fun c_7 => ?_)
              · obtain ⟨v_8, ev_8⟩ : ∃ y : Int32, y = l4_2 + 1 := ⟨_, rfl⟩
                have tv_8 : v_8.toInt = l4_2.toInt + 1 := by rw [ev_8]; exact k_addv rfl zl_1 (by omega) (by omega)
                refine lv_iinc (v := v_8) (lv' := [(2, .int v_8), (1, .int l4_1), (0, .ref k)]) hx hb dX8_stations_40 hl (k := 0) rfl (by rw [ev_8]; rfl) (by decide +kernel) rfl ?_
                clear hl
                intro ls hl
                refine lv_goto (tgt := 4) hx hb dX8_stations_43 (by decide +kernel) ?_
                exact ih4 l4_1 v_8 (by first | omega | decide | assumption | rfl) (by omega) ls _ _ (lv_sub hl [0, 1, 2] rfl) (hP.sub [0, 1, 2] rfl) (hD.sub [0, 1, 2] (by decide +kernel) rfl) hS
              · obtain ⟨v_9, ev_9⟩ : ∃ y : Int32, y = l4_1 + 1 := ⟨_, rfl⟩
                have lo_v_9 := k_lo v_9
                have hi_v_9 := k_hi v_9
                refine lv_iinc (v := v_9) (lv' := [(1, .int v_9), (2, .int l4_2), (0, .ref k)]) hx hb dX8_stations_37 hl (k := 1) rfl (by rw [ev_9]; rfl) (by decide +kernel) rfl ?_
                clear hl
                intro ls hl
                obtain ⟨v_10, ev_10⟩ : ∃ y : Int32, y = l4_2 + 1 := ⟨_, rfl⟩
                have tv_10 : v_10.toInt = l4_2.toInt + 1 := by rw [ev_10]; exact k_addv rfl zl_1 (by omega) (by omega)
                refine lv_iinc (v := v_10) (lv' := [(2, .int v_10), (1, .int v_9), (0, .ref k)]) hx hb dX8_stations_40 hl (k := 1) rfl (by rw [ev_10]; rfl) (by decide +kernel) rfl ?_
                clear hl
                intro ls hl
                refine lv_goto (tgt := 4) hx hb dX8_stations_43 (by decide +kernel) ?_
                exact ih4 v_9 v_10 (by first | omega | decide | assumption | rfl) (by omega) ls _ _ (lv_sub hl [0, 1, 2] rfl) (hP.sub [0, 1, 2] rfl) (hD.sub [0, 1, 2] (by decide +kernel) rfl) hS
  exact hloop_4 _ 0 0 (by first | omega | (simp only [zl_0]; first | done | omega) | decide | assumption | rfl) (Nat.lt_succ_self _) ls _ _ (lv_sub hl [0, 1, 2] rfl) hP hD hS
theorem bn_cX8_storedFood_0 : BN cX8_storedFood 0 0x15a1c6a401500201a147a611787432015a8ac380d00a6c5e1d0e0056a2b0b00542091787414015a8ac4c01518f4221d16005462800ad4561d1f0107a04 := by
  unfold BN; decide +kernel
theorem dX8_storedFood_0 : decode cX8_storedFood 0 = .ok (.iconst 0, 1) := dR0 (k := 0) (i := 0) bn_cX8_storedFood_0 dop_3 (by decide +kernel)
theorem dX8_storedFood_1 : decode cX8_storedFood 1 = .ok (.istore_n 1, 1) := dR0 (k := 0) (i := 1) bn_cX8_storedFood_0 dop_60 (by decide +kernel)
theorem dX8_storedFood_2 : decode cX8_storedFood 2 = .ok (.iconst 0, 1) := dR0 (k := 0) (i := 2) bn_cX8_storedFood_0 dop_3 (by decide +kernel)
theorem dX8_storedFood_3 : decode cX8_storedFood 3 = .ok (.istore_n 2, 1) := dR0 (k := 0) (i := 3) bn_cX8_storedFood_0 dop_61 (by decide +kernel)
theorem dX8_storedFood_4 : decode cX8_storedFood 4 = .ok (.iload_n 2, 1) := dR0 (k := 0) (i := 4) bn_cX8_storedFood_0 dop_28 (by decide +kernel)
theorem dX8_storedFood_5 : decode cX8_storedFood 5 = .ok (.aload_n 0, 1) := dR0 (k := 0) (i := 5) bn_cX8_storedFood_0 dop_42 (by decide +kernel)
theorem dX8_storedFood_6 : decode cX8_storedFood 6 = .ok (.getfield 39, 3) := dR2 (f := Instr.getfield) (k := 0) (i := 6) bn_cX8_storedFood_0 dop_180 39 (by decide +kernel)
theorem dX8_storedFood_9 : decode cX8_storedFood 9 = .ok (.if_icmp .ge 43, 3) := dR2s (f := Instr.if_icmp .ge) (k := 0) (i := 9) bn_cX8_storedFood_0 dop_162 43 43 (by decide +kernel)
theorem dX8_storedFood_12 : decode cX8_storedFood 12 = .ok (.iload_n 2, 1) := dR0 (k := 0) (i := 12) bn_cX8_storedFood_0 dop_28 (by decide +kernel)
theorem dX8_storedFood_13 : decode cX8_storedFood 13 = .ok (.bipush 60, 2) := dR1s (f := Instr.bipush) (k := 0) (i := 13) bn_cX8_storedFood_0 dop_16 60 60 (by decide +kernel)
theorem dX8_storedFood_15 : decode cX8_storedFood 15 = .ok (.if_icmp .ge 37, 3) := dR2s (f := Instr.if_icmp .ge) (k := 0) (i := 15) bn_cX8_storedFood_0 dop_162 37 37 (by decide +kernel)
theorem dX8_storedFood_18 : decode cX8_storedFood 18 = .ok (.aload_n 0, 1) := dR0 (k := 0) (i := 18) bn_cX8_storedFood_0 dop_42 (by decide +kernel)
theorem dX8_storedFood_19 : decode cX8_storedFood 19 = .ok (.getfield 9, 3) := dR2 (f := Instr.getfield) (k := 0) (i := 19) bn_cX8_storedFood_0 dop_180 9 (by decide +kernel)
theorem dX8_storedFood_22 : decode cX8_storedFood 22 = .ok (.iload_n 2, 1) := dR0 (k := 0) (i := 22) bn_cX8_storedFood_0 dop_28 (by decide +kernel)
theorem dX8_storedFood_23 : decode cX8_storedFood 23 = .ok (.iaload, 1) := dR0 (k := 0) (i := 23) bn_cX8_storedFood_0 dop_46 (by decide +kernel)
theorem dX8_storedFood_24 : decode cX8_storedFood 24 = .ok (.iconst 5, 1) := dR0 (k := 0) (i := 24) bn_cX8_storedFood_0 dop_8 (by decide +kernel)
theorem dX8_storedFood_25 : decode cX8_storedFood 25 = .ok (.if_icmp .ne 21, 3) := dR2s (f := Instr.if_icmp .ne) (k := 0) (i := 25) bn_cX8_storedFood_0 dop_160 21 21 (by decide +kernel)
theorem dX8_storedFood_28 : decode cX8_storedFood 28 = .ok (.aload_n 0, 1) := dR0 (k := 0) (i := 28) bn_cX8_storedFood_0 dop_42 (by decide +kernel)
theorem dX8_storedFood_29 : decode cX8_storedFood 29 = .ok (.getfield 27, 3) := dR2 (f := Instr.getfield) (k := 0) (i := 29) bn_cX8_storedFood_0 dop_180 27 (by decide +kernel)
theorem dX8_storedFood_32 : decode cX8_storedFood 32 = .ok (.iload_n 2, 1) := dR0 (k := 0) (i := 32) bn_cX8_storedFood_0 dop_28 (by decide +kernel)
theorem dX8_storedFood_33 : decode cX8_storedFood 33 = .ok (.iaload, 1) := dR0 (k := 0) (i := 33) bn_cX8_storedFood_0 dop_46 (by decide +kernel)
theorem dX8_storedFood_34 : decode cX8_storedFood 34 = .ok (.ifCond .ne 12, 3) := dR2s (f := Instr.ifCond .ne) (k := 0) (i := 34) bn_cX8_storedFood_0 dop_154 12 12 (by decide +kernel)
theorem dX8_storedFood_37 : decode cX8_storedFood 37 = .ok (.iload_n 1, 1) := dR0 (k := 0) (i := 37) bn_cX8_storedFood_0 dop_27 (by decide +kernel)
theorem dX8_storedFood_38 : decode cX8_storedFood 38 = .ok (.aload_n 0, 1) := dR0 (k := 0) (i := 38) bn_cX8_storedFood_0 dop_42 (by decide +kernel)
theorem dX8_storedFood_39 : decode cX8_storedFood 39 = .ok (.getfield 24, 3) := dR2 (f := Instr.getfield) (k := 0) (i := 39) bn_cX8_storedFood_0 dop_180 24 (by decide +kernel)
theorem dX8_storedFood_42 : decode cX8_storedFood 42 = .ok (.iload_n 2, 1) := dR0 (k := 0) (i := 42) bn_cX8_storedFood_0 dop_28 (by decide +kernel)
theorem dX8_storedFood_43 : decode cX8_storedFood 43 = .ok (.iaload, 1) := dR0 (k := 0) (i := 43) bn_cX8_storedFood_0 dop_46 (by decide +kernel)
theorem dX8_storedFood_44 : decode cX8_storedFood 44 = .ok (.iadd, 1) := dR0 (k := 0) (i := 44) bn_cX8_storedFood_0 dop_96 (by decide +kernel)
theorem dX8_storedFood_45 : decode cX8_storedFood 45 = .ok (.istore_n 1, 1) := dR0 (k := 0) (i := 45) bn_cX8_storedFood_0 dop_60 (by decide +kernel)
theorem dX8_storedFood_46 : decode cX8_storedFood 46 = .ok (.iinc 2 1, 3) := dRii (f := Instr.iinc) (k := 0) (i := 46) bn_cX8_storedFood_0 dop_132 2 1 1 (by decide +kernel)
theorem dX8_storedFood_49 : decode cX8_storedFood 49 = .ok (.goto (-45), 3) := dR2s (f := Instr.goto) (k := 0) (i := 49) bn_cX8_storedFood_0 dop_167 65491 (-45) (by decide +kernel)
theorem dX8_storedFood_52 : decode cX8_storedFood 52 = .ok (.iload_n 1, 1) := dR0 (k := 0) (i := 52) bn_cX8_storedFood_0 dop_27 (by decide +kernel)
theorem dX8_storedFood_53 : decode cX8_storedFood 53 = .ok (.ireturn, 1) := dR0 (k := 0) (i := 53) bn_cX8_storedFood_0 dop_172 (by decide +kernel)
set_option maxHeartbeats 4000000 in
set_option maxRecDepth 100000 in
theorem c_X8_storedFoodG (l : Launch) (D : va_G) (cI : ClassId) (aK aV : Nat → Nat) (k k0 k1 k2 k3 k4 k5 k6 k7 k8 : Nat) (sz : Nat) (c9 : Int32) (c0 : Nat → Int32) (c4 : Nat → Int32) (c5 : Nat → Int32) : Met l yX8_storedFood (gW yX8_storedFood cX8_storedFood 3 (some .int)) ({ frames := 0, cells := 0, slots := 0, locals := 0 } : Room) (kPreX D cI aK aV [.ref k] [(k, .inr (8, [.ref k0, .ref k1, .ref k2, .ref k3, .ref k4, .ref k5, .ref k6, .ref k7, .ref k8, .int c9])), (k0, .inl (cI, 60, .inl c0)), (k4, .inl (cI, 60, .inl c4)), (k5, .inl (cI, 60, .inl c5))] sz) (va_Qi (fun (r : Int32) (u : Unit) => True) (fun u t => kWd D cI (va_A [(k, .inr (8, [.ref k0, .ref k1, .ref k2, .ref k3, .ref k4, .ref k5, .ref k6, .ref k7, .ref k8, .int c9])), (k0, .inl (cI, 60, .inl c0)), (k4, .inl (cI, 60, .inl c4)), (k5, .inl (cI, 60, .inl c5))] sz) [(k, .inr (8, [.ref k0, .ref k1, .ref k2, .ref k3, .ref k4, .ref k5, .ref k6, .ref k7, .ref k8, .int c9])), (k0, .inl (cI, 60, .inl c0)), (k4, .inl (cI, 60, .inl c4)), (k5, .inl (cI, 60, .inl c5))] t) (va_A [(k, .inr (8, [.ref k0, .ref k1, .ref k2, .ref k3, .ref k4, .ref k5, .ref k6, .ref k7, .ref k8, .int c9])), (k0, .inl (cI, 60, .inl c0)), (k4, .inl (cI, 60, .inl c4)), (k5, .inl (cI, 60, .inl c5))] sz)) 0 0 (va_A [(k, .inr (8, [.ref k0, .ref k1, .ref k2, .ref k3, .ref k4, .ref k5, .ref k6, .ref k7, .ref k8, .int c9])), (k0, .inl (cI, 60, .inl c0)), (k4, .inl (cI, 60, .inl c4)), (k5, .inl (cI, 60, .inl c5))] sz) := by
  refine kMetIX (own := RX8) (by decide +kernel) rfl (Nat.le_of_ble_eq_true rfl) ?_
  intro p e s m args below meth c hx hb hT hown hname hml A Q hK hP hD hS hA hN hXS hRet ls hl
  have hl : lv_has ls 3 [(0, .ref k)] := hl
  have lo_c9 := k_lo c9
  have hi_c9 := k_hi c9
  refine lv_iconst (v := 0) hx hb dX8_storedFood_0 (by decide +kernel) ?_
  refine lv_istore_n (lv' := [(1, .int 0), (0, .ref k)]) hx hb dX8_storedFood_1 rfl hl (by decide +kernel) rfl ?_
  clear hl
  intro ls hl
  refine lv_iconst (v := 0) hx hb dX8_storedFood_2 (by decide +kernel) ?_
  refine lv_istore_n (lv' := [(2, .int 0), (1, .int 0), (0, .ref k)]) hx hb dX8_storedFood_3 rfl hl (by decide +kernel) rfl ?_
  clear hl
  intro ls hl
  have hloop_4 : ∀ (fu_ : Nat) (l4_1 : Int32) (l4_2 : Int32), 0 ≤ l4_2.toInt → (c9.toInt - l4_2.toInt).toNat < fu_ → ∀ (ls : Array Slot) (H : Heap) (locs : List Loc), lv_has ls 3 [(2, .int l4_2), (1, .int l4_1), (0, .ref k)] → va_P D vwCl [(k, .inr (8, [.ref k0, .ref k1, .ref k2, .ref k3, .ref k4, .ref k5, .ref k6, .ref k7, .ref k8, .int c9])), (k0, .inl (cI, 60, .inl c0)), (k4, .inl (cI, 60, .inl c4)), (k5, .inl (cI, 60, .inl c5))] H → va_D A [(k, .inr (8, [.ref k0, .ref k1, .ref k2, .ref k3, .ref k4, .ref k5, .ref k6, .ref k7, .ref k8, .int c9])), (k0, .inl (cI, 60, .inl c0)), (k4, .inl (cI, 60, .inl c4)), (k5, .inl (cI, 60, .inl c5))] → va_S A s.heap H locs → W p l e ({ frames := 0, cells := 0, slots := 0, locals := 0 } : Room) s m args below meth c H locs 0 0 Q (F0 m 4 ls []) := by
    intro fu_; induction fu_ with
    | zero => intro l4_1 l4_2 i4_0 hm; exact absurd hm (by omega)
    | succ fu_ ih4 =>
        intro l4_1 l4_2 i4_0 hm ls H locs hl hP hD hS
        have lo_l4_1 := k_lo l4_1
        have hi_l4_1 := k_hi l4_1
        have lo_l4_2 := k_lo l4_2
        have hi_l4_2 := k_hi l4_2
        refine lv_iload_n hx hb dX8_storedFood_4 rfl (lv_at hl 0 rfl) ?_
        refine lv_aload_n hx hb dX8_storedFood_5 rfl (lv_at hl 2 rfl) ?_
        refine va_get (D := D) (ci := 8) (v := .int c9) (C := RX8) (T := TX8) (N := 10) hx hb hT giX8 hown hK hP 0 rfl rfl 9 (by decide +kernel) (hT (Cond.fieldLink RX8 39 "DesertWire$Works" "number" "I") mw_49) (fun _ h9 => h9) rfl dX8_storedFood_6 ?_
        refine b_icmp_ge hx hb rfl rfl (tgt := 52) dX8_storedFood_9 (by decide +kernel) (fun c_1 => ?_) (fun c_1 => ?_)
        · refine lv_iload_n hx hb dX8_storedFood_52 rfl (lv_at hl 1 rfl) ?_
          exact hRet () [0, 1, 2, 3] trivial hP hD (by decide +kernel) rfl hS rfl dX8_storedFood_53
        · refine lv_iload_n hx hb dX8_storedFood_12 rfl (lv_at hl 0 rfl) ?_
          refine lv_bipush (v := 60) hx hb dX8_storedFood_13 (by decide +kernel) ?_
          refine b_icmp_ge hx hb rfl zl_60 (tgt := 52) dX8_storedFood_15 (by decide +kernel) (fun c_2 => ?_) (fun c_2 => ?_)
          · refine lv_iload_n hx hb dX8_storedFood_52 rfl (lv_at hl 1 rfl) ?_
            exact hRet () [0, 1, 2, 3] trivial hP hD (by decide +kernel) rfl hS rfl dX8_storedFood_53
          · refine lv_aload_n hx hb dX8_storedFood_18 rfl (lv_at hl 2 rfl) ?_
            refine va_get (D := D) (ci := 8) (v := .ref k0) (C := RX8) (T := TX8) (N := 10) hx hb hT giX8 hown hK hP 0 rfl rfl 0 (by decide +kernel) (hT (Cond.fieldLink RX8 9 "DesertWire$Works" "kinds" "[I") mw_40) (fun _ h9 => h9) rfl dX8_storedFood_19 ?_
            refine lv_iload_n hx hb dX8_storedFood_22 rfl (lv_at hl 0 rfl) ?_
            refine k_iald (v := (c0 l4_2.toNatClampNeg)) hx hb hK hP 1 0 rfl rfl (k_in (by omega) (by omega)) rfl dX8_storedFood_23 ?_
            refine lv_topi (fun v_3 ev_3 => ?_)
            have lo_v_3 := k_lo v_3
            have hi_v_3 := k_hi v_3
            have tv_3 : v_3.toInt = (c0 l4_2.toNatClampNeg).toInt := by rw [ev_3]
            refine lv_iconst (v := 5) hx hb dX8_storedFood_24 (by decide +kernel) ?_
            refine b_icmp_ne hx hb rfl zl_5 (tgt := 46) dX8_storedFood_25 (by decide +kernel) (fun c_4 => ?_) (fun c_4 => ?_)
            · obtain ⟨v_5, ev_5⟩ : ∃ y : Int32, y = l4_2 + 1 := ⟨_, rfl⟩
              have tv_5 : v_5.toInt = l4_2.toInt + 1 := by rw [ev_5]; exact k_addv rfl zl_1 (by omega) (by omega)
              refine lv_iinc (v := v_5) (lv' := [(2, .int v_5), (1, .int l4_1), (0, .ref k)]) hx hb dX8_storedFood_46 hl (k := 0) rfl (by rw [ev_5]; rfl) (by decide +kernel) rfl ?_
              clear hl
              intro ls hl
              refine lv_goto (tgt := 4) hx hb dX8_storedFood_49 (by decide +kernel) ?_
              exact ih4 l4_1 v_5 (by first | omega | decide | assumption | rfl) (by omega) ls _ _ (lv_sub hl [0, 1, 2] rfl) (hP.sub [0, 1, 2, 3] rfl) (hD.sub [0, 1, 2, 3] (by decide +kernel) rfl) hS
            · refine lv_aload_n hx hb dX8_storedFood_28 rfl (lv_at hl 2 rfl) ?_
              refine va_get (D := D) (ci := 8) (v := .ref k5) (C := RX8) (T := TX8) (N := 10) hx hb hT giX8 hown hK hP 0 rfl rfl 5 (by decide +kernel) (hT (Cond.fieldLink RX8 27 "DesertWire$Works" "downs" "[I") mw_45) (fun _ h9 => h9) rfl dX8_storedFood_29 ?_
              refine lv_iload_n hx hb dX8_storedFood_32 rfl (lv_at hl 0 rfl) ?_
              refine k_iald (v := (c5 l4_2.toNatClampNeg)) hx hb hK hP 3 0 rfl rfl (k_in (by omega) (by omega)) rfl dX8_storedFood_33 ?_
              refine lv_topi (fun v_6 ev_6 => ?_)
              have lo_v_6 := k_lo v_6
              have hi_v_6 := k_hi v_6
              have tv_6 : v_6.toInt = (c5 l4_2.toNatClampNeg).toInt := by rw [ev_6]
              refine b_if_ne hx hb rfl (tgt := 46) dX8_storedFood_34 (by decide +kernel) (fun c_7 => ?_) (fun c_7 => ?_)
              · obtain ⟨v_8, ev_8⟩ : ∃ y : Int32, y = l4_2 + 1 := ⟨_, rfl⟩
                have tv_8 : v_8.toInt = l4_2.toInt + 1 := by rw [ev_8]; exact k_addv rfl zl_1 (by omega) (by omega)
                refine lv_iinc (v := v_8) (lv' := [(2, .int v_8), (1, .int l4_1), (0, .ref k)]) hx hb dX8_storedFood_46 hl (k := 0) rfl (by rw [ev_8]; rfl) (by decide +kernel) rfl ?_
                clear hl
                intro ls hl
                refine lv_goto (tgt := 4) hx hb dX8_storedFood_49 (by decide +kernel) ?_
                exact ih4 l4_1 v_8 (by first | omega | decide | assumption | rfl) (by omega) ls _ _ (lv_sub hl [0, 1, 2] rfl) (hP.sub [0, 1, 2, 3] rfl) (hD.sub [0, 1, 2, 3] (by decide +kernel) rfl) hS
              · refine lv_iload_n hx hb dX8_storedFood_37 rfl (lv_at hl 1 rfl) ?_
                refine lv_aload_n hx hb dX8_storedFood_38 rfl (lv_at hl 2 rfl) ?_
                refine va_get (D := D) (ci := 8) (v := .ref k4) (C := RX8) (T := TX8) (N := 10) hx hb hT giX8 hown hK hP 0 rfl rfl 4 (by decide +kernel) (hT (Cond.fieldLink RX8 24 "DesertWire$Works" "foods" "[I") mw_44) (fun _ h9 => h9) rfl dX8_storedFood_39 ?_
                refine lv_iload_n hx hb dX8_storedFood_42 rfl (lv_at hl 0 rfl) ?_
                refine k_iald (v := (c4 l4_2.toNatClampNeg)) hx hb hK hP 2 0 rfl rfl (k_in (by omega) (by omega)) rfl dX8_storedFood_43 ?_
                refine lv_topi (fun v_9 ev_9 => ?_)
                have lo_v_9 := k_lo v_9
                have hi_v_9 := k_hi v_9
                have tv_9 : v_9.toInt = (c4 l4_2.toNatClampNeg).toInt := by rw [ev_9]
                refine lv_iadd hx hb dX8_storedFood_44 ?_
                refine lv_topi (fun v_10 ev_10 => ?_)
                have lo_v_10 := k_lo v_10
                have hi_v_10 := k_hi v_10
                refine lv_istore_n (lv' := [(1, .int v_10), (2, .int l4_2), (0, .ref k)]) hx hb dX8_storedFood_45 rfl hl (by decide +kernel) rfl ?_
                clear hl
                intro ls hl
                obtain ⟨v_11, ev_11⟩ : ∃ y : Int32, y = l4_2 + 1 := ⟨_, rfl⟩
                have tv_11 : v_11.toInt = l4_2.toInt + 1 := by rw [ev_11]; exact k_addv rfl zl_1 (by omega) (by omega)
                refine lv_iinc (v := v_11) (lv' := [(2, .int v_11), (1, .int v_10), (0, .ref k)]) hx hb dX8_storedFood_46 hl (k := 1) rfl (by rw [ev_11]; rfl) (by decide +kernel) rfl ?_
                clear hl
                intro ls hl
                refine lv_goto (tgt := 4) hx hb dX8_storedFood_49 (by decide +kernel) ?_
                exact ih4 v_10 v_11 (by first | omega | decide | assumption | rfl) (by omega) ls _ _ (lv_sub hl [0, 1, 2] rfl) (hP.sub [0, 1, 2, 3] rfl) (hD.sub [0, 1, 2, 3] (by decide +kernel) rfl) hS
  exact hloop_4 _ 0 0 (by first | omega | (simp only [zl_0]; first | done | omega) | decide | assumption | rfl) (Nat.lt_succ_self _) ls _ _ (lv_sub hl [0, 1, 2] rfl) hP hD hS
theorem bn_cX8_copyFrom_0 : BN cX8_copyFrom 0 0x158b002b914844082500ad45604128056a2c1600572290881044015a8ac082200ad4582c00ae452110207c02b5158103e015a8b058015c8f422040e0056a2b0207002b5160b002b91e844081900ad456040c8056a2c16005723d088102c015a8ac081600ad4582c00ae47a110204c02b51581026015a8b058015c8f42204080056a2b0204002b5160b002b91e844080a00ad45604050056a2c := by
  unfold BN; decide +kernel
theorem dX8_copyFrom_0 : decode cX8_copyFrom 0 = .ok (.aload_n 1, 1) := dR0 (k := 0) (i := 0) bn_cX8_copyFrom_0 dop_43 (by decide +kernel)
theorem dX8_copyFrom_1 : decode cX8_copyFrom 1 = .ok (.getfield 9, 3) := dR2 (f := Instr.getfield) (k := 0) (i := 1) bn_cX8_copyFrom_0 dop_180 9 (by decide +kernel)
theorem dX8_copyFrom_4 : decode cX8_copyFrom 4 = .ok (.iconst 0, 1) := dR0 (k := 0) (i := 4) bn_cX8_copyFrom_0 dop_3 (by decide +kernel)
theorem dX8_copyFrom_5 : decode cX8_copyFrom 5 = .ok (.aload_n 0, 1) := dR0 (k := 0) (i := 5) bn_cX8_copyFrom_0 dop_42 (by decide +kernel)
theorem dX8_copyFrom_6 : decode cX8_copyFrom 6 = .ok (.getfield 9, 3) := dR2 (f := Instr.getfield) (k := 0) (i := 6) bn_cX8_copyFrom_0 dop_180 9 (by decide +kernel)
theorem dX8_copyFrom_9 : decode cX8_copyFrom 9 = .ok (.iconst 0, 1) := dR0 (k := 0) (i := 9) bn_cX8_copyFrom_0 dop_3 (by decide +kernel)
theorem dX8_copyFrom_10 : decode cX8_copyFrom 10 = .ok (.bipush 60, 2) := dR1s (f := Instr.bipush) (k := 0) (i := 10) bn_cX8_copyFrom_0 dop_16 60 60 (by decide +kernel)
theorem dX8_copyFrom_12 : decode cX8_copyFrom 12 = .ok (.invokestatic 43, 3) := dR2 (f := Instr.invokestatic) (k := 0) (i := 12) bn_cX8_copyFrom_0 dop_184 43 (by decide +kernel)
theorem dX8_copyFrom_15 : decode cX8_copyFrom 15 = .ok (.aload_n 1, 1) := dR0 (k := 0) (i := 15) bn_cX8_copyFrom_0 dop_43 (by decide +kernel)
theorem dX8_copyFrom_16 : decode cX8_copyFrom 16 = .ok (.getfield 15, 3) := dR2 (f := Instr.getfield) (k := 0) (i := 16) bn_cX8_copyFrom_0 dop_180 15 (by decide +kernel)
theorem dX8_copyFrom_19 : decode cX8_copyFrom 19 = .ok (.iconst 0, 1) := dR0 (k := 0) (i := 19) bn_cX8_copyFrom_0 dop_3 (by decide +kernel)
theorem dX8_copyFrom_20 : decode cX8_copyFrom 20 = .ok (.aload_n 0, 1) := dR0 (k := 0) (i := 20) bn_cX8_copyFrom_0 dop_42 (by decide +kernel)
theorem dX8_copyFrom_21 : decode cX8_copyFrom 21 = .ok (.getfield 15, 3) := dR2 (f := Instr.getfield) (k := 0) (i := 21) bn_cX8_copyFrom_0 dop_180 15 (by decide +kernel)
theorem dX8_copyFrom_24 : decode cX8_copyFrom 24 = .ok (.iconst 0, 1) := dR0 (k := 0) (i := 24) bn_cX8_copyFrom_0 dop_3 (by decide +kernel)
theorem dX8_copyFrom_25 : decode cX8_copyFrom 25 = .ok (.bipush 60, 2) := dR1s (f := Instr.bipush) (k := 0) (i := 25) bn_cX8_copyFrom_0 dop_16 60 60 (by decide +kernel)
theorem dX8_copyFrom_27 : decode cX8_copyFrom 27 = .ok (.invokestatic 43, 3) := dR2 (f := Instr.invokestatic) (k := 0) (i := 27) bn_cX8_copyFrom_0 dop_184 43 (by decide +kernel)
theorem dX8_copyFrom_30 : decode cX8_copyFrom 30 = .ok (.aload_n 1, 1) := dR0 (k := 0) (i := 30) bn_cX8_copyFrom_0 dop_43 (by decide +kernel)
theorem dX8_copyFrom_31 : decode cX8_copyFrom 31 = .ok (.getfield 18, 3) := dR2 (f := Instr.getfield) (k := 0) (i := 31) bn_cX8_copyFrom_0 dop_180 18 (by decide +kernel)
theorem dX8_copyFrom_34 : decode cX8_copyFrom 34 = .ok (.iconst 0, 1) := dR0 (k := 0) (i := 34) bn_cX8_copyFrom_0 dop_3 (by decide +kernel)
theorem dX8_copyFrom_35 : decode cX8_copyFrom 35 = .ok (.aload_n 0, 1) := dR0 (k := 0) (i := 35) bn_cX8_copyFrom_0 dop_42 (by decide +kernel)
theorem dX8_copyFrom_36 : decode cX8_copyFrom 36 = .ok (.getfield 18, 3) := dR2 (f := Instr.getfield) (k := 0) (i := 36) bn_cX8_copyFrom_0 dop_180 18 (by decide +kernel)
theorem dX8_copyFrom_39 : decode cX8_copyFrom 39 = .ok (.iconst 0, 1) := dR0 (k := 0) (i := 39) bn_cX8_copyFrom_0 dop_3 (by decide +kernel)
theorem dX8_copyFrom_40 : decode cX8_copyFrom 40 = .ok (.bipush 60, 2) := dR1s (f := Instr.bipush) (k := 0) (i := 40) bn_cX8_copyFrom_0 dop_16 60 60 (by decide +kernel)
theorem dX8_copyFrom_42 : decode cX8_copyFrom 42 = .ok (.invokestatic 43, 3) := dR2 (f := Instr.invokestatic) (k := 0) (i := 42) bn_cX8_copyFrom_0 dop_184 43 (by decide +kernel)
theorem dX8_copyFrom_45 : decode cX8_copyFrom 45 = .ok (.aload_n 1, 1) := dR0 (k := 0) (i := 45) bn_cX8_copyFrom_0 dop_43 (by decide +kernel)
theorem dX8_copyFrom_46 : decode cX8_copyFrom 46 = .ok (.getfield 21, 3) := dR2 (f := Instr.getfield) (k := 0) (i := 46) bn_cX8_copyFrom_0 dop_180 21 (by decide +kernel)
theorem dX8_copyFrom_49 : decode cX8_copyFrom 49 = .ok (.iconst 0, 1) := dR0 (k := 0) (i := 49) bn_cX8_copyFrom_0 dop_3 (by decide +kernel)
theorem dX8_copyFrom_50 : decode cX8_copyFrom 50 = .ok (.aload_n 0, 1) := dR0 (k := 0) (i := 50) bn_cX8_copyFrom_0 dop_42 (by decide +kernel)
theorem dX8_copyFrom_51 : decode cX8_copyFrom 51 = .ok (.getfield 21, 3) := dR2 (f := Instr.getfield) (k := 0) (i := 51) bn_cX8_copyFrom_0 dop_180 21 (by decide +kernel)
theorem dX8_copyFrom_54 : decode cX8_copyFrom 54 = .ok (.iconst 0, 1) := dR0 (k := 0) (i := 54) bn_cX8_copyFrom_0 dop_3 (by decide +kernel)
theorem dX8_copyFrom_55 : decode cX8_copyFrom 55 = .ok (.bipush 60, 2) := dR1s (f := Instr.bipush) (k := 0) (i := 55) bn_cX8_copyFrom_0 dop_16 60 60 (by decide +kernel)
theorem dX8_copyFrom_57 : decode cX8_copyFrom 57 = .ok (.invokestatic 43, 3) := dR2 (f := Instr.invokestatic) (k := 0) (i := 57) bn_cX8_copyFrom_0 dop_184 43 (by decide +kernel)
theorem dX8_copyFrom_60 : decode cX8_copyFrom 60 = .ok (.aload_n 1, 1) := dR0 (k := 0) (i := 60) bn_cX8_copyFrom_0 dop_43 (by decide +kernel)
theorem dX8_copyFrom_61 : decode cX8_copyFrom 61 = .ok (.getfield 24, 3) := dR2 (f := Instr.getfield) (k := 0) (i := 61) bn_cX8_copyFrom_0 dop_180 24 (by decide +kernel)
theorem dX8_copyFrom_64 : decode cX8_copyFrom 64 = .ok (.iconst 0, 1) := dR0 (k := 0) (i := 64) bn_cX8_copyFrom_0 dop_3 (by decide +kernel)
theorem dX8_copyFrom_65 : decode cX8_copyFrom 65 = .ok (.aload_n 0, 1) := dR0 (k := 0) (i := 65) bn_cX8_copyFrom_0 dop_42 (by decide +kernel)
theorem dX8_copyFrom_66 : decode cX8_copyFrom 66 = .ok (.getfield 24, 3) := dR2 (f := Instr.getfield) (k := 0) (i := 66) bn_cX8_copyFrom_0 dop_180 24 (by decide +kernel)
theorem dX8_copyFrom_69 : decode cX8_copyFrom 69 = .ok (.iconst 0, 1) := dR0 (k := 0) (i := 69) bn_cX8_copyFrom_0 dop_3 (by decide +kernel)
theorem dX8_copyFrom_70 : decode cX8_copyFrom 70 = .ok (.bipush 60, 2) := dR1s (f := Instr.bipush) (k := 0) (i := 70) bn_cX8_copyFrom_0 dop_16 60 60 (by decide +kernel)
theorem dX8_copyFrom_72 : decode cX8_copyFrom 72 = .ok (.invokestatic 43, 3) := dR2 (f := Instr.invokestatic) (k := 0) (i := 72) bn_cX8_copyFrom_0 dop_184 43 (by decide +kernel)
theorem dX8_copyFrom_75 : decode cX8_copyFrom 75 = .ok (.aload_n 1, 1) := dR0 (k := 0) (i := 75) bn_cX8_copyFrom_0 dop_43 (by decide +kernel)
theorem dX8_copyFrom_76 : decode cX8_copyFrom 76 = .ok (.getfield 27, 3) := dR2 (f := Instr.getfield) (k := 0) (i := 76) bn_cX8_copyFrom_0 dop_180 27 (by decide +kernel)
theorem dX8_copyFrom_79 : decode cX8_copyFrom 79 = .ok (.iconst 0, 1) := dR0 (k := 0) (i := 79) bn_cX8_copyFrom_0 dop_3 (by decide +kernel)
theorem dX8_copyFrom_80 : decode cX8_copyFrom 80 = .ok (.aload_n 0, 1) := dR0 (k := 0) (i := 80) bn_cX8_copyFrom_0 dop_42 (by decide +kernel)
theorem dX8_copyFrom_81 : decode cX8_copyFrom 81 = .ok (.getfield 27, 3) := dR2 (f := Instr.getfield) (k := 0) (i := 81) bn_cX8_copyFrom_0 dop_180 27 (by decide +kernel)
theorem dX8_copyFrom_84 : decode cX8_copyFrom 84 = .ok (.iconst 0, 1) := dR0 (k := 0) (i := 84) bn_cX8_copyFrom_0 dop_3 (by decide +kernel)
theorem dX8_copyFrom_85 : decode cX8_copyFrom 85 = .ok (.bipush 60, 2) := dR1s (f := Instr.bipush) (k := 0) (i := 85) bn_cX8_copyFrom_0 dop_16 60 60 (by decide +kernel)
theorem dX8_copyFrom_87 : decode cX8_copyFrom 87 = .ok (.invokestatic 43, 3) := dR2 (f := Instr.invokestatic) (k := 0) (i := 87) bn_cX8_copyFrom_0 dop_184 43 (by decide +kernel)
theorem dX8_copyFrom_90 : decode cX8_copyFrom 90 = .ok (.aload_n 1, 1) := dR0 (k := 0) (i := 90) bn_cX8_copyFrom_0 dop_43 (by decide +kernel)
theorem dX8_copyFrom_91 : decode cX8_copyFrom 91 = .ok (.getfield 30, 3) := dR2 (f := Instr.getfield) (k := 0) (i := 91) bn_cX8_copyFrom_0 dop_180 30 (by decide +kernel)
theorem dX8_copyFrom_94 : decode cX8_copyFrom 94 = .ok (.iconst 0, 1) := dR0 (k := 0) (i := 94) bn_cX8_copyFrom_0 dop_3 (by decide +kernel)
theorem dX8_copyFrom_95 : decode cX8_copyFrom 95 = .ok (.aload_n 0, 1) := dR0 (k := 0) (i := 95) bn_cX8_copyFrom_0 dop_42 (by decide +kernel)
theorem dX8_copyFrom_96 : decode cX8_copyFrom 96 = .ok (.getfield 30, 3) := dR2 (f := Instr.getfield) (k := 0) (i := 96) bn_cX8_copyFrom_0 dop_180 30 (by decide +kernel)
theorem dX8_copyFrom_99 : decode cX8_copyFrom 99 = .ok (.iconst 0, 1) := dR0 (k := 0) (i := 99) bn_cX8_copyFrom_0 dop_3 (by decide +kernel)
theorem dX8_copyFrom_100 : decode cX8_copyFrom 100 = .ok (.bipush 40, 2) := dR1s (f := Instr.bipush) (k := 0) (i := 100) bn_cX8_copyFrom_0 dop_16 40 40 (by decide +kernel)
theorem dX8_copyFrom_102 : decode cX8_copyFrom 102 = .ok (.invokestatic 43, 3) := dR2 (f := Instr.invokestatic) (k := 0) (i := 102) bn_cX8_copyFrom_0 dop_184 43 (by decide +kernel)
theorem dX8_copyFrom_105 : decode cX8_copyFrom 105 = .ok (.aload_n 1, 1) := dR0 (k := 0) (i := 105) bn_cX8_copyFrom_0 dop_43 (by decide +kernel)
theorem dX8_copyFrom_106 : decode cX8_copyFrom 106 = .ok (.getfield 33, 3) := dR2 (f := Instr.getfield) (k := 0) (i := 106) bn_cX8_copyFrom_0 dop_180 33 (by decide +kernel)
theorem dX8_copyFrom_109 : decode cX8_copyFrom 109 = .ok (.iconst 0, 1) := dR0 (k := 0) (i := 109) bn_cX8_copyFrom_0 dop_3 (by decide +kernel)
theorem dX8_copyFrom_110 : decode cX8_copyFrom 110 = .ok (.aload_n 0, 1) := dR0 (k := 0) (i := 110) bn_cX8_copyFrom_0 dop_42 (by decide +kernel)
theorem dX8_copyFrom_111 : decode cX8_copyFrom 111 = .ok (.getfield 33, 3) := dR2 (f := Instr.getfield) (k := 0) (i := 111) bn_cX8_copyFrom_0 dop_180 33 (by decide +kernel)
theorem dX8_copyFrom_114 : decode cX8_copyFrom 114 = .ok (.iconst 0, 1) := dR0 (k := 0) (i := 114) bn_cX8_copyFrom_0 dop_3 (by decide +kernel)
theorem dX8_copyFrom_115 : decode cX8_copyFrom 115 = .ok (.bipush 40, 2) := dR1s (f := Instr.bipush) (k := 0) (i := 115) bn_cX8_copyFrom_0 dop_16 40 40 (by decide +kernel)
theorem dX8_copyFrom_117 : decode cX8_copyFrom 117 = .ok (.invokestatic 43, 3) := dR2 (f := Instr.invokestatic) (k := 0) (i := 117) bn_cX8_copyFrom_0 dop_184 43 (by decide +kernel)
theorem dX8_copyFrom_120 : decode cX8_copyFrom 120 = .ok (.aload_n 1, 1) := dR0 (k := 0) (i := 120) bn_cX8_copyFrom_0 dop_43 (by decide +kernel)
theorem dX8_copyFrom_121 : decode cX8_copyFrom 121 = .ok (.getfield 36, 3) := dR2 (f := Instr.getfield) (k := 0) (i := 121) bn_cX8_copyFrom_0 dop_180 36 (by decide +kernel)
theorem dX8_copyFrom_124 : decode cX8_copyFrom 124 = .ok (.iconst 0, 1) := dR0 (k := 0) (i := 124) bn_cX8_copyFrom_0 dop_3 (by decide +kernel)
theorem dX8_copyFrom_125 : decode cX8_copyFrom 125 = .ok (.aload_n 0, 1) := dR0 (k := 0) (i := 125) bn_cX8_copyFrom_0 dop_42 (by decide +kernel)
theorem dX8_copyFrom_126 : decode cX8_copyFrom 126 = .ok (.getfield 36, 3) := dR2 (f := Instr.getfield) (k := 0) (i := 126) bn_cX8_copyFrom_0 dop_180 36 (by decide +kernel)
theorem bn_cX8_copyFrom_128 : BN cX8_copyFrom 128 0x590a002b6140056a2c158b002b9148440825 := by
  unfold BN; decide +kernel
theorem dX8_copyFrom_129 : decode cX8_copyFrom 129 = .ok (.iconst 0, 1) := dR0 (k := 128) (i := 1) bn_cX8_copyFrom_128 dop_3 (by decide +kernel)
theorem dX8_copyFrom_130 : decode cX8_copyFrom 130 = .ok (.bipush 40, 2) := dR1s (f := Instr.bipush) (k := 128) (i := 2) bn_cX8_copyFrom_128 dop_16 40 40 (by decide +kernel)
theorem dX8_copyFrom_132 : decode cX8_copyFrom 132 = .ok (.invokestatic 43, 3) := dR2 (f := Instr.invokestatic) (k := 128) (i := 4) bn_cX8_copyFrom_128 dop_184 43 (by decide +kernel)
theorem dX8_copyFrom_135 : decode cX8_copyFrom 135 = .ok (.aload_n 0, 1) := dR0 (k := 128) (i := 7) bn_cX8_copyFrom_128 dop_42 (by decide +kernel)
theorem dX8_copyFrom_136 : decode cX8_copyFrom 136 = .ok (.aload_n 1, 1) := dR0 (k := 128) (i := 8) bn_cX8_copyFrom_128 dop_43 (by decide +kernel)
theorem dX8_copyFrom_137 : decode cX8_copyFrom 137 = .ok (.getfield 39, 3) := dR2 (f := Instr.getfield) (k := 128) (i := 9) bn_cX8_copyFrom_128 dop_180 39 (by decide +kernel)
theorem dX8_copyFrom_140 : decode cX8_copyFrom 140 = .ok (.putfield 39, 3) := dR2 (f := Instr.putfield) (k := 128) (i := 12) bn_cX8_copyFrom_128 dop_181 39 (by decide +kernel)
theorem dX8_copyFrom_143 : decode cX8_copyFrom 143 = .ok (.return_, 1) := dR0 (k := 128) (i := 15) bn_cX8_copyFrom_128 dop_177 (by decide +kernel)

