theorem bn_cX10_isMile_0 : BN cX10_isMile 0 0x568100a01540141001518a4221b07005381b := by
  unfold BN; decide +kernel
theorem dX10_isMile_0 : decode cX10_isMile 0 = .ok (.iload_n 0, 1) := dR0 (k := 0) (i := 0) bn_cX10_isMile_0 dop_26 (by decide +kernel)
theorem dX10_isMile_1 : decode cX10_isMile 1 = .ok (.ifCond .lt 13, 3) := dR2s (f := Instr.ifCond .lt) (k := 0) (i := 1) bn_cX10_isMile_0 dop_155 13 13 (by decide +kernel)
theorem dX10_isMile_4 : decode cX10_isMile 4 = .ok (.iload_n 0, 1) := dR0 (k := 0) (i := 4) bn_cX10_isMile_0 dop_26 (by decide +kernel)
theorem dX10_isMile_5 : decode cX10_isMile 5 = .ok (.bipush 40, 2) := dR1s (f := Instr.bipush) (k := 0) (i := 5) bn_cX10_isMile_0 dop_16 40 40 (by decide +kernel)
theorem dX10_isMile_7 : decode cX10_isMile 7 = .ok (.if_icmp .ge 7, 3) := dR2s (f := Instr.if_icmp .ge) (k := 0) (i := 7) bn_cX10_isMile_0 dop_162 7 7 (by decide +kernel)
theorem dX10_isMile_10 : decode cX10_isMile 10 = .ok (.iconst 1, 1) := dR0 (k := 0) (i := 10) bn_cX10_isMile_0 dop_4 (by decide +kernel)
theorem dX10_isMile_11 : decode cX10_isMile 11 = .ok (.goto 4, 3) := dR2s (f := Instr.goto) (k := 0) (i := 11) bn_cX10_isMile_0 dop_167 4 4 (by decide +kernel)
theorem dX10_isMile_14 : decode cX10_isMile 14 = .ok (.iconst 0, 1) := dR0 (k := 0) (i := 14) bn_cX10_isMile_0 dop_3 (by decide +kernel)
theorem dX10_isMile_15 : decode cX10_isMile 15 = .ok (.ireturn, 1) := dR0 (k := 0) (i := 15) bn_cX10_isMile_0 dop_172 (by decide +kernel)
set_option maxHeartbeats 4000000 in
set_option maxRecDepth 100000 in
theorem c_X10_isMileG (l : Launch) (D : va_G) (cI : ClassId) (aK aV : Nat → Nat) (sz : Nat) (a0 : Int32) : Met l yX10_isMile (gW yX10_isMile cX10_isMile 1 (some .boolean)) ({ frames := 0, cells := 0, slots := 0, locals := 0 } : Room) (kPreX D cI aK aV [.int a0] [] sz) (va_Qi (fun (r : Int32) (u : Unit) => (r = 1 ∧ 0 ≤ a0.toInt ∧ a0.toInt ≤ 39) ∨ (r = 0 ∧ (a0.toInt < 0 ∨ 39 < a0.toInt))) (fun u t => kWd D cI (va_A [] sz) [] t) (va_A [] sz)) 0 0 (va_A [] sz) := by
  refine kMetIX (own := RX10) (by decide +kernel) rfl (Nat.le_of_ble_eq_true rfl) ?_
  intro p e s m args below meth c hx hb hT hown hname hml A Q hK hP hD hS hA hN hXS hRet ls hl
  have hl : lv_has ls 1 [(0, .int a0)] := hl
  refine lv_iload_n hx hb dX10_isMile_0 rfl (lv_at hl 0 rfl) ?_
  refine b_if_lt hx hb rfl (tgt := 14) dX10_isMile_1 (by decide +kernel) (fun c_1 => ?_) (fun c_1 => ?_)
  · refine lv_iconst (v := 0) hx hb dX10_isMile_14 (by decide +kernel) ?_
    exact hRet () [] (Or.inr (⟨rfl, (by omega)⟩)) hP hD (by decide +kernel) rfl hS rfl dX10_isMile_15
  · refine lv_iload_n hx hb dX10_isMile_4 rfl (lv_at hl 0 rfl) ?_
    refine lv_bipush (v := 40) hx hb dX10_isMile_5 (by decide +kernel) ?_
    refine b_icmp_ge hx hb rfl zl_40 (tgt := 14) dX10_isMile_7 (by decide +kernel) (fun c_2 => ?_) (fun c_2 => ?_)
    · refine lv_iconst (v := 0) hx hb dX10_isMile_14 (by decide +kernel) ?_
      exact hRet () [] (Or.inr (⟨rfl, (by omega)⟩)) hP hD (by decide +kernel) rfl hS rfl dX10_isMile_15
    · refine lv_iconst (v := 1) hx hb dX10_isMile_10 (by decide +kernel) ?_
      refine lv_goto (tgt := 15) hx hb dX10_isMile_11 (by decide +kernel) ?_
      exact hRet () [] (Or.inl ⟨rfl, (by omega), (by omega)⟩) hP hD (by decide +kernel) rfl hS rfl dX10_isMile_15
theorem bn_cX10_isDay_0 : BN cX10_isDay 0 0xad0201402a80282002a468820241b07805381b := by
  unfold BN; decide +kernel
theorem dX10_isDay_0 : decode cX10_isDay 0 = .ok (.iload_n 0, 1) := dR0 (k := 0) (i := 0) bn_cX10_isDay_0 dop_26 (by decide +kernel)
theorem dX10_isDay_1 : decode cX10_isDay 1 = .ok (.ifCond .lt 14, 3) := dR2s (f := Instr.ifCond .lt) (k := 0) (i := 1) bn_cX10_isDay_0 dop_155 14 14 (by decide +kernel)
theorem dX10_isDay_4 : decode cX10_isDay 4 = .ok (.iload_n 0, 1) := dR0 (k := 0) (i := 4) bn_cX10_isDay_0 dop_26 (by decide +kernel)
theorem dX10_isDay_5 : decode cX10_isDay 5 = .ok (.sipush 2000, 3) := dR2s (f := Instr.sipush) (k := 0) (i := 5) bn_cX10_isDay_0 dop_17 2000 2000 (by decide +kernel)
theorem dX10_isDay_8 : decode cX10_isDay 8 = .ok (.if_icmp .gt 7, 3) := dR2s (f := Instr.if_icmp .gt) (k := 0) (i := 8) bn_cX10_isDay_0 dop_163 7 7 (by decide +kernel)
theorem dX10_isDay_11 : decode cX10_isDay 11 = .ok (.iconst 1, 1) := dR0 (k := 0) (i := 11) bn_cX10_isDay_0 dop_4 (by decide +kernel)
theorem dX10_isDay_12 : decode cX10_isDay 12 = .ok (.goto 4, 3) := dR2s (f := Instr.goto) (k := 0) (i := 12) bn_cX10_isDay_0 dop_167 4 4 (by decide +kernel)
theorem dX10_isDay_15 : decode cX10_isDay 15 = .ok (.iconst 0, 1) := dR0 (k := 0) (i := 15) bn_cX10_isDay_0 dop_3 (by decide +kernel)
theorem dX10_isDay_16 : decode cX10_isDay 16 = .ok (.ireturn, 1) := dR0 (k := 0) (i := 16) bn_cX10_isDay_0 dop_172 (by decide +kernel)
set_option maxHeartbeats 4000000 in
set_option maxRecDepth 100000 in
theorem c_X10_isDayG (l : Launch) (D : va_G) (cI : ClassId) (aK aV : Nat → Nat) (sz : Nat) (a0 : Int32) : Met l yX10_isDay (gW yX10_isDay cX10_isDay 1 (some .boolean)) ({ frames := 0, cells := 0, slots := 0, locals := 0 } : Room) (kPreX D cI aK aV [.int a0] [] sz) (va_Qi (fun (r : Int32) (u : Unit) => (r = 1 ∧ 0 ≤ a0.toInt ∧ a0.toInt ≤ 2000) ∨ (r = 0 ∧ (a0.toInt < 0 ∨ 2000 < a0.toInt))) (fun u t => kWd D cI (va_A [] sz) [] t) (va_A [] sz)) 0 0 (va_A [] sz) := by
  refine kMetIX (own := RX10) (by decide +kernel) rfl (Nat.le_of_ble_eq_true rfl) ?_
  intro p e s m args below meth c hx hb hT hown hname hml A Q hK hP hD hS hA hN hXS hRet ls hl
  have hl : lv_has ls 1 [(0, .int a0)] := hl
  refine lv_iload_n hx hb dX10_isDay_0 rfl (lv_at hl 0 rfl) ?_
  refine b_if_lt hx hb rfl (tgt := 15) dX10_isDay_1 (by decide +kernel) (fun c_1 => ?_) (fun c_1 => ?_)
  · refine lv_iconst (v := 0) hx hb dX10_isDay_15 (by decide +kernel) ?_
    exact hRet () [] (Or.inr (⟨rfl, (by omega)⟩)) hP hD (by decide +kernel) rfl hS rfl dX10_isDay_16
  · refine lv_iload_n hx hb dX10_isDay_4 rfl (lv_at hl 0 rfl) ?_
    refine lv_sipush (v := 2000) hx hb dX10_isDay_5 (by decide +kernel) ?_
    refine b_icmp_gt hx hb rfl zl_2000 (tgt := 15) dX10_isDay_8 (by decide +kernel) (fun c_2 => ?_) (fun c_2 => ?_)
    · refine lv_iconst (v := 0) hx hb dX10_isDay_15 (by decide +kernel) ?_
      exact hRet () [] (Or.inr (⟨rfl, (by omega)⟩)) hP hD (by decide +kernel) rfl hS rfl dX10_isDay_16
    · refine lv_iconst (v := 1) hx hb dX10_isDay_11 (by decide +kernel) ?_
      refine lv_goto (tgt := 16) hx hb dX10_isDay_12 (by decide +kernel) ?_
      exact hRet () [] (Or.inl ⟨rfl, (by omega), (by omega)⟩) hP hD (by decide +kernel) rfl hS rfl dX10_isDay_16
theorem bn_cX10_isUse_0 : BN cX10_isUse 0 0x2b4080500aa00a0800a8c0e1b06805381b := by
  unfold BN; decide +kernel
theorem dX10_isUse_0 : decode cX10_isUse 0 = .ok (.iload_n 0, 1) := dR0 (k := 0) (i := 0) bn_cX10_isUse_0 dop_26 (by decide +kernel)
theorem dX10_isUse_1 : decode cX10_isUse 1 = .ok (.ifCond .lt 12, 3) := dR2s (f := Instr.ifCond .lt) (k := 0) (i := 1) bn_cX10_isUse_0 dop_155 12 12 (by decide +kernel)
theorem dX10_isUse_4 : decode cX10_isUse 4 = .ok (.iload_n 0, 1) := dR0 (k := 0) (i := 4) bn_cX10_isUse_0 dop_26 (by decide +kernel)
theorem dX10_isUse_5 : decode cX10_isUse 5 = .ok (.iconst 3, 1) := dR0 (k := 0) (i := 5) bn_cX10_isUse_0 dop_6 (by decide +kernel)
theorem dX10_isUse_6 : decode cX10_isUse 6 = .ok (.if_icmp .ge 7, 3) := dR2s (f := Instr.if_icmp .ge) (k := 0) (i := 6) bn_cX10_isUse_0 dop_162 7 7 (by decide +kernel)
theorem dX10_isUse_9 : decode cX10_isUse 9 = .ok (.iconst 1, 1) := dR0 (k := 0) (i := 9) bn_cX10_isUse_0 dop_4 (by decide +kernel)
theorem dX10_isUse_10 : decode cX10_isUse 10 = .ok (.goto 4, 3) := dR2s (f := Instr.goto) (k := 0) (i := 10) bn_cX10_isUse_0 dop_167 4 4 (by decide +kernel)
theorem dX10_isUse_13 : decode cX10_isUse 13 = .ok (.iconst 0, 1) := dR0 (k := 0) (i := 13) bn_cX10_isUse_0 dop_3 (by decide +kernel)
theorem dX10_isUse_14 : decode cX10_isUse 14 = .ok (.ireturn, 1) := dR0 (k := 0) (i := 14) bn_cX10_isUse_0 dop_172 (by decide +kernel)
set_option maxHeartbeats 4000000 in
set_option maxRecDepth 100000 in
theorem c_X10_isUseG (l : Launch) (D : va_G) (cI : ClassId) (aK aV : Nat → Nat) (sz : Nat) (a0 : Int32) : Met l yX10_isUse (gW yX10_isUse cX10_isUse 1 (some .boolean)) ({ frames := 0, cells := 0, slots := 0, locals := 0 } : Room) (kPreX D cI aK aV [.int a0] [] sz) (va_Qi (fun (r : Int32) (u : Unit) => (r = 1 ∧ 0 ≤ a0.toInt ∧ a0.toInt ≤ 2) ∨ (r = 0 ∧ (a0.toInt < 0 ∨ 2 < a0.toInt))) (fun u t => kWd D cI (va_A [] sz) [] t) (va_A [] sz)) 0 0 (va_A [] sz) := by
  refine kMetIX (own := RX10) (by decide +kernel) rfl (Nat.le_of_ble_eq_true rfl) ?_
  intro p e s m args below meth c hx hb hT hown hname hml A Q hK hP hD hS hA hN hXS hRet ls hl
  have hl : lv_has ls 1 [(0, .int a0)] := hl
  refine lv_iload_n hx hb dX10_isUse_0 rfl (lv_at hl 0 rfl) ?_
  refine b_if_lt hx hb rfl (tgt := 13) dX10_isUse_1 (by decide +kernel) (fun c_1 => ?_) (fun c_1 => ?_)
  · refine lv_iconst (v := 0) hx hb dX10_isUse_13 (by decide +kernel) ?_
    exact hRet () [] (Or.inr (⟨rfl, (by omega)⟩)) hP hD (by decide +kernel) rfl hS rfl dX10_isUse_14
  · refine lv_iload_n hx hb dX10_isUse_4 rfl (lv_at hl 0 rfl) ?_
    refine lv_iconst (v := 3) hx hb dX10_isUse_5 (by decide +kernel) ?_
    refine b_icmp_ge hx hb rfl zl_3 (tgt := 13) dX10_isUse_6 (by decide +kernel) (fun c_2 => ?_) (fun c_2 => ?_)
    · refine lv_iconst (v := 0) hx hb dX10_isUse_13 (by decide +kernel) ?_
      exact hRet () [] (Or.inr (⟨rfl, (by omega)⟩)) hP hD (by decide +kernel) rfl hS rfl dX10_isUse_14
    · refine lv_iconst (v := 1) hx hb dX10_isUse_9 (by decide +kernel) ?_
      refine lv_goto (tgt := 14) hx hb dX10_isUse_10 (by decide +kernel) ?_
      exact hRet () [] (Or.inl ⟨rfl, (by omega), (by omega)⟩) hP hD (by decide +kernel) rfl hS rfl dX10_isUse_14
theorem bn_cX10_isSheet_0 : BN cX10_isSheet 0 0x2b4080500aa00a0800a8c101b06805381b := by
  unfold BN; decide +kernel
theorem dX10_isSheet_0 : decode cX10_isSheet 0 = .ok (.iload_n 0, 1) := dR0 (k := 0) (i := 0) bn_cX10_isSheet_0 dop_26 (by decide +kernel)
theorem dX10_isSheet_1 : decode cX10_isSheet 1 = .ok (.ifCond .lt 12, 3) := dR2s (f := Instr.ifCond .lt) (k := 0) (i := 1) bn_cX10_isSheet_0 dop_155 12 12 (by decide +kernel)
theorem dX10_isSheet_4 : decode cX10_isSheet 4 = .ok (.iload_n 0, 1) := dR0 (k := 0) (i := 4) bn_cX10_isSheet_0 dop_26 (by decide +kernel)
theorem dX10_isSheet_5 : decode cX10_isSheet 5 = .ok (.iconst 4, 1) := dR0 (k := 0) (i := 5) bn_cX10_isSheet_0 dop_7 (by decide +kernel)
theorem dX10_isSheet_6 : decode cX10_isSheet 6 = .ok (.if_icmp .ge 7, 3) := dR2s (f := Instr.if_icmp .ge) (k := 0) (i := 6) bn_cX10_isSheet_0 dop_162 7 7 (by decide +kernel)
theorem dX10_isSheet_9 : decode cX10_isSheet 9 = .ok (.iconst 1, 1) := dR0 (k := 0) (i := 9) bn_cX10_isSheet_0 dop_4 (by decide +kernel)
theorem dX10_isSheet_10 : decode cX10_isSheet 10 = .ok (.goto 4, 3) := dR2s (f := Instr.goto) (k := 0) (i := 10) bn_cX10_isSheet_0 dop_167 4 4 (by decide +kernel)
theorem dX10_isSheet_13 : decode cX10_isSheet 13 = .ok (.iconst 0, 1) := dR0 (k := 0) (i := 13) bn_cX10_isSheet_0 dop_3 (by decide +kernel)
theorem dX10_isSheet_14 : decode cX10_isSheet 14 = .ok (.ireturn, 1) := dR0 (k := 0) (i := 14) bn_cX10_isSheet_0 dop_172 (by decide +kernel)
set_option maxHeartbeats 4000000 in
set_option maxRecDepth 100000 in
theorem c_X10_isSheetG (l : Launch) (D : va_G) (cI : ClassId) (aK aV : Nat → Nat) (sz : Nat) (a0 : Int32) : Met l yX10_isSheet (gW yX10_isSheet cX10_isSheet 1 (some .boolean)) ({ frames := 0, cells := 0, slots := 0, locals := 0 } : Room) (kPreX D cI aK aV [.int a0] [] sz) (va_Qi (fun (r : Int32) (u : Unit) => (r = 1 ∧ 0 ≤ a0.toInt ∧ a0.toInt ≤ 3) ∨ (r = 0 ∧ (a0.toInt < 0 ∨ 3 < a0.toInt))) (fun u t => kWd D cI (va_A [] sz) [] t) (va_A [] sz)) 0 0 (va_A [] sz) := by
  refine kMetIX (own := RX10) (by decide +kernel) rfl (Nat.le_of_ble_eq_true rfl) ?_
  intro p e s m args below meth c hx hb hT hown hname hml A Q hK hP hD hS hA hN hXS hRet ls hl
  have hl : lv_has ls 1 [(0, .int a0)] := hl
  refine lv_iload_n hx hb dX10_isSheet_0 rfl (lv_at hl 0 rfl) ?_
  refine b_if_lt hx hb rfl (tgt := 13) dX10_isSheet_1 (by decide +kernel) (fun c_1 => ?_) (fun c_1 => ?_)
  · refine lv_iconst (v := 0) hx hb dX10_isSheet_13 (by decide +kernel) ?_
    exact hRet () [] (Or.inr (⟨rfl, (by omega)⟩)) hP hD (by decide +kernel) rfl hS rfl dX10_isSheet_14
  · refine lv_iload_n hx hb dX10_isSheet_4 rfl (lv_at hl 0 rfl) ?_
    refine lv_iconst (v := 4) hx hb dX10_isSheet_5 (by decide +kernel) ?_
    refine b_icmp_ge hx hb rfl zl_4 (tgt := 13) dX10_isSheet_6 (by decide +kernel) (fun c_2 => ?_) (fun c_2 => ?_)
    · refine lv_iconst (v := 0) hx hb dX10_isSheet_13 (by decide +kernel) ?_
      exact hRet () [] (Or.inr (⟨rfl, (by omega)⟩)) hP hD (by decide +kernel) rfl hS rfl dX10_isSheet_14
    · refine lv_iconst (v := 1) hx hb dX10_isSheet_9 (by decide +kernel) ?_
      refine lv_goto (tgt := 14) hx hb dX10_isSheet_10 (by decide +kernel) ?_
      exact hRet () [] (Or.inl ⟨rfl, (by omega), (by omega)⟩) hP hD (by decide +kernel) rfl hS rfl dX10_isSheet_14
theorem bn_cX10_isPole_0 : BN cX10_isPole 0 0xad0201402a80282002a10386c120150018360e00a800a1b := by
  unfold BN; decide +kernel
theorem dX10_isPole_0 : decode cX10_isPole 0 = .ok (.iload_n 0, 1) := dR0 (k := 0) (i := 0) bn_cX10_isPole_0 dop_26 (by decide +kernel)
theorem dX10_isPole_1 : decode cX10_isPole 1 = .ok (.iconst 1, 1) := dR0 (k := 0) (i := 1) bn_cX10_isPole_0 dop_4 (by decide +kernel)
theorem dX10_isPole_2 : decode cX10_isPole 2 = .ok (.if_icmp .eq 13, 3) := dR2s (f := Instr.if_icmp .eq) (k := 0) (i := 2) bn_cX10_isPole_0 dop_159 13 13 (by decide +kernel)
theorem dX10_isPole_5 : decode cX10_isPole 5 = .ok (.iload_n 0, 1) := dR0 (k := 0) (i := 5) bn_cX10_isPole_0 dop_26 (by decide +kernel)
theorem dX10_isPole_6 : decode cX10_isPole 6 = .ok (.iconst 2, 1) := dR0 (k := 0) (i := 6) bn_cX10_isPole_0 dop_5 (by decide +kernel)
theorem dX10_isPole_7 : decode cX10_isPole 7 = .ok (.if_icmp .eq 8, 3) := dR2s (f := Instr.if_icmp .eq) (k := 0) (i := 7) bn_cX10_isPole_0 dop_159 8 8 (by decide +kernel)
theorem dX10_isPole_10 : decode cX10_isPole 10 = .ok (.iload_n 0, 1) := dR0 (k := 0) (i := 10) bn_cX10_isPole_0 dop_26 (by decide +kernel)
theorem dX10_isPole_11 : decode cX10_isPole 11 = .ok (.iconst 3, 1) := dR0 (k := 0) (i := 11) bn_cX10_isPole_0 dop_6 (by decide +kernel)
theorem dX10_isPole_12 : decode cX10_isPole 12 = .ok (.if_icmp .ne 7, 3) := dR2s (f := Instr.if_icmp .ne) (k := 0) (i := 12) bn_cX10_isPole_0 dop_160 7 7 (by decide +kernel)
theorem dX10_isPole_15 : decode cX10_isPole 15 = .ok (.iconst 1, 1) := dR0 (k := 0) (i := 15) bn_cX10_isPole_0 dop_4 (by decide +kernel)
theorem dX10_isPole_16 : decode cX10_isPole 16 = .ok (.goto 4, 3) := dR2s (f := Instr.goto) (k := 0) (i := 16) bn_cX10_isPole_0 dop_167 4 4 (by decide +kernel)
theorem dX10_isPole_19 : decode cX10_isPole 19 = .ok (.iconst 0, 1) := dR0 (k := 0) (i := 19) bn_cX10_isPole_0 dop_3 (by decide +kernel)
theorem dX10_isPole_20 : decode cX10_isPole 20 = .ok (.ireturn, 1) := dR0 (k := 0) (i := 20) bn_cX10_isPole_0 dop_172 (by decide +kernel)
set_option maxHeartbeats 4000000 in
set_option maxRecDepth 100000 in
theorem c_X10_isPoleG (l : Launch) (D : va_G) (cI : ClassId) (aK aV : Nat → Nat) (sz : Nat) (a0 : Int32) : Met l yX10_isPole (gW yX10_isPole cX10_isPole 1 (some .boolean)) ({ frames := 0, cells := 0, slots := 0, locals := 0 } : Room) (kPreX D cI aK aV [.int a0] [] sz) (va_Qi (fun (r : Int32) (u : Unit) => True) (fun u t => kWd D cI (va_A [] sz) [] t) (va_A [] sz)) 0 0 (va_A [] sz) := by
  refine kMetIX (own := RX10) (by decide +kernel) rfl (Nat.le_of_ble_eq_true rfl) ?_
  intro p e s m args below meth c hx hb hT hown hname hml A Q hK hP hD hS hA hN hXS hRet ls hl
  have hl : lv_has ls 1 [(0, .int a0)] := hl
  refine lv_iload_n hx hb dX10_isPole_0 rfl (lv_at hl 0 rfl) ?_
  refine lv_iconst (v := 1) hx hb dX10_isPole_1 (by decide +kernel) ?_
  refine b_icmp_eq hx hb rfl zl_1 (tgt := 15) dX10_isPole_2 (by decide +kernel) (fun c_1 => ?_) (fun c_1 => ?_)
  · refine lv_iconst (v := 1) hx hb dX10_isPole_15 (by decide +kernel) ?_
    refine lv_goto (tgt := 20) hx hb dX10_isPole_16 (by decide +kernel) ?_
    exact hRet () [] trivial hP hD (by decide +kernel) rfl hS rfl dX10_isPole_20
  · refine lv_iload_n hx hb dX10_isPole_5 rfl (lv_at hl 0 rfl) ?_
    refine lv_iconst (v := 2) hx hb dX10_isPole_6 (by decide +kernel) ?_
    refine b_icmp_eq hx hb rfl zl_2 (tgt := 15) dX10_isPole_7 (by decide +kernel) (fun c_2 => ?_) (fun c_2 => ?_)
    · refine lv_iconst (v := 1) hx hb dX10_isPole_15 (by decide +kernel) ?_
      refine lv_goto (tgt := 20) hx hb dX10_isPole_16 (by decide +kernel) ?_
      exact hRet () [] trivial hP hD (by decide +kernel) rfl hS rfl dX10_isPole_20
    · refine lv_iload_n hx hb dX10_isPole_10 rfl (lv_at hl 0 rfl) ?_
      refine lv_iconst (v := 3) hx hb dX10_isPole_11 (by decide +kernel) ?_
      refine b_icmp_ne hx hb rfl zl_3 (tgt := 19) dX10_isPole_12 (by decide +kernel) (fun c_3 => ?_) (fun c_3 => ?_)
      · refine lv_iconst (v := 0) hx hb dX10_isPole_19 (by decide +kernel) ?_
        exact hRet () [] trivial hP hD (by decide +kernel) rfl hS rfl dX10_isPole_20
      · refine lv_iconst (v := 1) hx hb dX10_isPole_15 (by decide +kernel) ?_
        refine lv_goto (tgt := 20) hx hb dX10_isPole_16 (by decide +kernel) ?_
        exact hRet () [] trivial hP hD (by decide +kernel) rfl hS rfl dX10_isPole_20
theorem bn_cX10_isIron_0 : BN cX10_isIron 0 0x568100a015401410015081c360900a800c1b := by
  unfold BN; decide +kernel
theorem dX10_isIron_0 : decode cX10_isIron 0 = .ok (.iload_n 0, 1) := dR0 (k := 0) (i := 0) bn_cX10_isIron_0 dop_26 (by decide +kernel)
theorem dX10_isIron_1 : decode cX10_isIron 1 = .ok (.iconst 2, 1) := dR0 (k := 0) (i := 1) bn_cX10_isIron_0 dop_5 (by decide +kernel)
theorem dX10_isIron_2 : decode cX10_isIron 2 = .ok (.if_icmp .eq 8, 3) := dR2s (f := Instr.if_icmp .eq) (k := 0) (i := 2) bn_cX10_isIron_0 dop_159 8 8 (by decide +kernel)
theorem dX10_isIron_5 : decode cX10_isIron 5 = .ok (.iload_n 0, 1) := dR0 (k := 0) (i := 5) bn_cX10_isIron_0 dop_26 (by decide +kernel)
theorem dX10_isIron_6 : decode cX10_isIron 6 = .ok (.iconst 3, 1) := dR0 (k := 0) (i := 6) bn_cX10_isIron_0 dop_6 (by decide +kernel)
theorem dX10_isIron_7 : decode cX10_isIron 7 = .ok (.if_icmp .ne 7, 3) := dR2s (f := Instr.if_icmp .ne) (k := 0) (i := 7) bn_cX10_isIron_0 dop_160 7 7 (by decide +kernel)
theorem dX10_isIron_10 : decode cX10_isIron 10 = .ok (.iconst 1, 1) := dR0 (k := 0) (i := 10) bn_cX10_isIron_0 dop_4 (by decide +kernel)
theorem dX10_isIron_11 : decode cX10_isIron 11 = .ok (.goto 4, 3) := dR2s (f := Instr.goto) (k := 0) (i := 11) bn_cX10_isIron_0 dop_167 4 4 (by decide +kernel)
theorem dX10_isIron_14 : decode cX10_isIron 14 = .ok (.iconst 0, 1) := dR0 (k := 0) (i := 14) bn_cX10_isIron_0 dop_3 (by decide +kernel)
theorem dX10_isIron_15 : decode cX10_isIron 15 = .ok (.ireturn, 1) := dR0 (k := 0) (i := 15) bn_cX10_isIron_0 dop_172 (by decide +kernel)
set_option maxHeartbeats 4000000 in
set_option maxRecDepth 100000 in
theorem c_X10_isIronG (l : Launch) (D : va_G) (cI : ClassId) (aK aV : Nat → Nat) (sz : Nat) (a0 : Int32) : Met l yX10_isIron (gW yX10_isIron cX10_isIron 1 (some .boolean)) ({ frames := 0, cells := 0, slots := 0, locals := 0 } : Room) (kPreX D cI aK aV [.int a0] [] sz) (va_Qi (fun (r : Int32) (u : Unit) => True) (fun u t => kWd D cI (va_A [] sz) [] t) (va_A [] sz)) 0 0 (va_A [] sz) := by
  refine kMetIX (own := RX10) (by decide +kernel) rfl (Nat.le_of_ble_eq_true rfl) ?_
  intro p e s m args below meth c hx hb hT hown hname hml A Q hK hP hD hS hA hN hXS hRet ls hl
  have hl : lv_has ls 1 [(0, .int a0)] := hl
  refine lv_iload_n hx hb dX10_isIron_0 rfl (lv_at hl 0 rfl) ?_
  refine lv_iconst (v := 2) hx hb dX10_isIron_1 (by decide +kernel) ?_
  refine b_icmp_eq hx hb rfl zl_2 (tgt := 10) dX10_isIron_2 (by decide +kernel) (fun c_1 => ?_) (fun c_1 => ?_)
  · refine lv_iconst (v := 1) hx hb dX10_isIron_10 (by decide +kernel) ?_
    refine lv_goto (tgt := 15) hx hb dX10_isIron_11 (by decide +kernel) ?_
    exact hRet () [] trivial hP hD (by decide +kernel) rfl hS rfl dX10_isIron_15
  · refine lv_iload_n hx hb dX10_isIron_5 rfl (lv_at hl 0 rfl) ?_
    refine lv_iconst (v := 3) hx hb dX10_isIron_6 (by decide +kernel) ?_
    refine b_icmp_ne hx hb rfl zl_3 (tgt := 14) dX10_isIron_7 (by decide +kernel) (fun c_2 => ?_) (fun c_2 => ?_)
    · refine lv_iconst (v := 0) hx hb dX10_isIron_14 (by decide +kernel) ?_
      exact hRet () [] trivial hP hD (by decide +kernel) rfl hS rfl dX10_isIron_15
    · refine lv_iconst (v := 1) hx hb dX10_isIron_10 (by decide +kernel) ?_
      refine lv_goto (tgt := 15) hx hb dX10_isIron_11 (by decide +kernel) ?_
      exact hRet () [] trivial hP hD (by decide +kernel) rfl hS rfl dX10_isIron_15
theorem bn_cX10_isSpan_0 : BN cX10_isSpan 0 0xad0201402a80282002a314844380e00a90381b09805381b := by
  unfold BN; decide +kernel
theorem dX10_isSpan_0 : decode cX10_isSpan 0 = .ok (.iload_n 0, 1) := dR0 (k := 0) (i := 0) bn_cX10_isSpan_0 dop_26 (by decide +kernel)
theorem dX10_isSpan_1 : decode cX10_isSpan 1 = .ok (.ifCond .lt 18, 3) := dR2s (f := Instr.ifCond .lt) (k := 0) (i := 1) bn_cX10_isSpan_0 dop_155 18 18 (by decide +kernel)
theorem dX10_isSpan_4 : decode cX10_isSpan 4 = .ok (.iload_n 0, 1) := dR0 (k := 0) (i := 4) bn_cX10_isSpan_0 dop_26 (by decide +kernel)
theorem dX10_isSpan_5 : decode cX10_isSpan 5 = .ok (.iload_n 1, 1) := dR0 (k := 0) (i := 5) bn_cX10_isSpan_0 dop_27 (by decide +kernel)
theorem dX10_isSpan_6 : decode cX10_isSpan 6 = .ok (.if_icmp .gt 13, 3) := dR2s (f := Instr.if_icmp .gt) (k := 0) (i := 6) bn_cX10_isSpan_0 dop_163 13 13 (by decide +kernel)
theorem dX10_isSpan_9 : decode cX10_isSpan 9 = .ok (.iload_n 1, 1) := dR0 (k := 0) (i := 9) bn_cX10_isSpan_0 dop_27 (by decide +kernel)
theorem dX10_isSpan_10 : decode cX10_isSpan 10 = .ok (.bipush 40, 2) := dR1s (f := Instr.bipush) (k := 0) (i := 10) bn_cX10_isSpan_0 dop_16 40 40 (by decide +kernel)
theorem dX10_isSpan_12 : decode cX10_isSpan 12 = .ok (.if_icmp .ge 7, 3) := dR2s (f := Instr.if_icmp .ge) (k := 0) (i := 12) bn_cX10_isSpan_0 dop_162 7 7 (by decide +kernel)
theorem dX10_isSpan_15 : decode cX10_isSpan 15 = .ok (.iconst 1, 1) := dR0 (k := 0) (i := 15) bn_cX10_isSpan_0 dop_4 (by decide +kernel)
theorem dX10_isSpan_16 : decode cX10_isSpan 16 = .ok (.goto 4, 3) := dR2s (f := Instr.goto) (k := 0) (i := 16) bn_cX10_isSpan_0 dop_167 4 4 (by decide +kernel)
theorem dX10_isSpan_19 : decode cX10_isSpan 19 = .ok (.iconst 0, 1) := dR0 (k := 0) (i := 19) bn_cX10_isSpan_0 dop_3 (by decide +kernel)
theorem dX10_isSpan_20 : decode cX10_isSpan 20 = .ok (.ireturn, 1) := dR0 (k := 0) (i := 20) bn_cX10_isSpan_0 dop_172 (by decide +kernel)
set_option maxHeartbeats 4000000 in
set_option maxRecDepth 100000 in
theorem c_X10_isSpanG (l : Launch) (D : va_G) (cI : ClassId) (aK aV : Nat → Nat) (sz : Nat) (a0 : Int32) (a1 : Int32) : Met l yX10_isSpan (gW yX10_isSpan cX10_isSpan 2 (some .boolean)) ({ frames := 0, cells := 0, slots := 0, locals := 0 } : Room) (kPreX D cI aK aV [.int a0, .int a1] [] sz) (va_Qi (fun (r : Int32) (u : Unit) => (r = 1 ∧ 0 ≤ a0.toInt ∧ a0.toInt ≤ a1.toInt ∧ a1.toInt ≤ 39) ∨ (r = 0 ∧ (a0.toInt < 0 ∨ a1.toInt < a0.toInt ∨ 39 < a1.toInt))) (fun u t => kWd D cI (va_A [] sz) [] t) (va_A [] sz)) 0 0 (va_A [] sz) := by
  refine kMetIX (own := RX10) (by decide +kernel) rfl (Nat.le_of_ble_eq_true rfl) ?_
  intro p e s m args below meth c hx hb hT hown hname hml A Q hK hP hD hS hA hN hXS hRet ls hl
  have hl : lv_has ls 2 [(0, .int a0), (1, .int a1)] := hl
  refine lv_iload_n hx hb dX10_isSpan_0 rfl (lv_at hl 0 rfl) ?_
  refine b_if_lt hx hb rfl (tgt := 19) dX10_isSpan_1 (by decide +kernel) (fun c_1 => ?_) (fun c_1 => ?_)
  · refine lv_iconst (v := 0) hx hb dX10_isSpan_19 (by decide +kernel) ?_
    exact hRet () [] (Or.inr (⟨rfl, (by omega)⟩)) hP hD (by decide +kernel) rfl hS rfl dX10_isSpan_20
  · refine lv_iload_n hx hb dX10_isSpan_4 rfl (lv_at hl 0 rfl) ?_
    refine lv_iload_n hx hb dX10_isSpan_5 rfl (lv_at hl 1 rfl) ?_
    refine b_icmp_gt hx hb rfl rfl (tgt := 19) dX10_isSpan_6 (by decide +kernel) (fun c_2 => ?_) (fun c_2 => ?_)
    · refine lv_iconst (v := 0) hx hb dX10_isSpan_19 (by decide +kernel) ?_
      exact hRet () [] (Or.inr (⟨rfl, (by omega)⟩)) hP hD (by decide +kernel) rfl hS rfl dX10_isSpan_20
    · refine lv_iload_n hx hb dX10_isSpan_9 rfl (lv_at hl 1 rfl) ?_
      refine lv_bipush (v := 40) hx hb dX10_isSpan_10 (by decide +kernel) ?_
      refine b_icmp_ge hx hb rfl zl_40 (tgt := 19) dX10_isSpan_12 (by decide +kernel) (fun c_3 => ?_) (fun c_3 => ?_)
      · refine lv_iconst (v := 0) hx hb dX10_isSpan_19 (by decide +kernel) ?_
        exact hRet () [] (Or.inr (⟨rfl, (by omega)⟩)) hP hD (by decide +kernel) rfl hS rfl dX10_isSpan_20
      · refine lv_iconst (v := 1) hx hb dX10_isSpan_15 (by decide +kernel) ?_
        refine lv_goto (tgt := 20) hx hb dX10_isSpan_16 (by decide +kernel) ?_
        exact hRet () [] (Or.inl ⟨rfl, (by omega), (by omega), (by omega)⟩) hP hD (by decide +kernel) rfl hS rfl dX10_isSpan_20
theorem bn_cX10_isWithin_0 : BN cX10_isWithin 0 0x568100a0154014100152074360d00a88381b := by
  unfold BN; decide +kernel
theorem dX10_isWithin_0 : decode cX10_isWithin 0 = .ok (.iload_n 0, 1) := dR0 (k := 0) (i := 0) bn_cX10_isWithin_0 dop_26 (by decide +kernel)
theorem dX10_isWithin_1 : decode cX10_isWithin 1 = .ok (.iload_n 1, 1) := dR0 (k := 0) (i := 1) bn_cX10_isWithin_0 dop_27 (by decide +kernel)
theorem dX10_isWithin_2 : decode cX10_isWithin 2 = .ok (.if_icmp .lt 12, 3) := dR2s (f := Instr.if_icmp .lt) (k := 0) (i := 2) bn_cX10_isWithin_0 dop_161 12 12 (by decide +kernel)
theorem dX10_isWithin_5 : decode cX10_isWithin 5 = .ok (.iload_n 0, 1) := dR0 (k := 0) (i := 5) bn_cX10_isWithin_0 dop_26 (by decide +kernel)
theorem dX10_isWithin_6 : decode cX10_isWithin 6 = .ok (.iload_n 2, 1) := dR0 (k := 0) (i := 6) bn_cX10_isWithin_0 dop_28 (by decide +kernel)
theorem dX10_isWithin_7 : decode cX10_isWithin 7 = .ok (.if_icmp .gt 7, 3) := dR2s (f := Instr.if_icmp .gt) (k := 0) (i := 7) bn_cX10_isWithin_0 dop_163 7 7 (by decide +kernel)
theorem dX10_isWithin_10 : decode cX10_isWithin 10 = .ok (.iconst 1, 1) := dR0 (k := 0) (i := 10) bn_cX10_isWithin_0 dop_4 (by decide +kernel)
theorem dX10_isWithin_11 : decode cX10_isWithin 11 = .ok (.goto 4, 3) := dR2s (f := Instr.goto) (k := 0) (i := 11) bn_cX10_isWithin_0 dop_167 4 4 (by decide +kernel)
theorem dX10_isWithin_14 : decode cX10_isWithin 14 = .ok (.iconst 0, 1) := dR0 (k := 0) (i := 14) bn_cX10_isWithin_0 dop_3 (by decide +kernel)
theorem dX10_isWithin_15 : decode cX10_isWithin 15 = .ok (.ireturn, 1) := dR0 (k := 0) (i := 15) bn_cX10_isWithin_0 dop_172 (by decide +kernel)
set_option maxHeartbeats 4000000 in
set_option maxRecDepth 100000 in
theorem c_X10_isWithinG (l : Launch) (D : va_G) (cI : ClassId) (aK aV : Nat → Nat) (sz : Nat) (a0 : Int32) (a1 : Int32) (a2 : Int32) : Met l yX10_isWithin (gW yX10_isWithin cX10_isWithin 3 (some .boolean)) ({ frames := 0, cells := 0, slots := 0, locals := 0 } : Room) (kPreX D cI aK aV [.int a0, .int a1, .int a2] [] sz) (va_Qi (fun (r : Int32) (u : Unit) => (r = 1 ∧ a1.toInt ≤ a0.toInt ∧ a0.toInt ≤ a2.toInt) ∨ (r = 0 ∧ (a0.toInt < a1.toInt ∨ a2.toInt < a0.toInt))) (fun u t => kWd D cI (va_A [] sz) [] t) (va_A [] sz)) 0 0 (va_A [] sz) := by
  refine kMetIX (own := RX10) (by decide +kernel) rfl (Nat.le_of_ble_eq_true rfl) ?_
  intro p e s m args below meth c hx hb hT hown hname hml A Q hK hP hD hS hA hN hXS hRet ls hl
  have hl : lv_has ls 3 [(0, .int a0), (1, .int a1), (2, .int a2)] := hl
  refine lv_iload_n hx hb dX10_isWithin_0 rfl (lv_at hl 0 rfl) ?_
  refine lv_iload_n hx hb dX10_isWithin_1 rfl (lv_at hl 1 rfl) ?_
  refine b_icmp_lt hx hb rfl rfl (tgt := 14) dX10_isWithin_2 (by decide +kernel) (fun c_1 => ?_) (fun c_1 => ?_)
  · refine lv_iconst (v := 0) hx hb dX10_isWithin_14 (by decide +kernel) ?_
    exact hRet () [] (Or.inr (⟨rfl, (by omega)⟩)) hP hD (by decide +kernel) rfl hS rfl dX10_isWithin_15
  · refine lv_iload_n hx hb dX10_isWithin_5 rfl (lv_at hl 0 rfl) ?_
    refine lv_iload_n hx hb dX10_isWithin_6 rfl (lv_at hl 2 rfl) ?_
    refine b_icmp_gt hx hb rfl rfl (tgt := 14) dX10_isWithin_7 (by decide +kernel) (fun c_2 => ?_) (fun c_2 => ?_)
    · refine lv_iconst (v := 0) hx hb dX10_isWithin_14 (by decide +kernel) ?_
      exact hRet () [] (Or.inr (⟨rfl, (by omega)⟩)) hP hD (by decide +kernel) rfl hS rfl dX10_isWithin_15
    · refine lv_iconst (v := 1) hx hb dX10_isWithin_10 (by decide +kernel) ?_
      refine lv_goto (tgt := 15) hx hb dX10_isWithin_11 (by decide +kernel) ?_
      exact hRet () [] (Or.inl ⟨rfl, (by omega), (by omega)⟩) hP hD (by decide +kernel) rfl hS rfl dX10_isWithin_15
theorem bn_cX10_kindAbove_0 : BN cX10_kindAbove 0 0x568115a08568195a0512004020113004020111004020110004020103004020101804020113004020100805561b := by
  unfold BN; decide +kernel
theorem dX10_kindAbove_0 : decode cX10_kindAbove 0 = .ok (.iload_n 0, 1) := dR0 (k := 0) (i := 0) bn_cX10_kindAbove_0 dop_26 (by decide +kernel)
theorem dX10_kindAbove_1 : decode cX10_kindAbove 1 = .ok (.tableswitch 37 2 5 #[31, 33, 37, 35], 31) := by decide +kernel
theorem dX10_kindAbove_32 : decode cX10_kindAbove 32 = .ok (.iconst 1, 1) := dR0 (k := 0) (i := 32) bn_cX10_kindAbove_0 dop_4 (by decide +kernel)
theorem dX10_kindAbove_33 : decode cX10_kindAbove 33 = .ok (.ireturn, 1) := dR0 (k := 0) (i := 33) bn_cX10_kindAbove_0 dop_172 (by decide +kernel)
theorem dX10_kindAbove_34 : decode cX10_kindAbove 34 = .ok (.iconst 2, 1) := dR0 (k := 0) (i := 34) bn_cX10_kindAbove_0 dop_5 (by decide +kernel)
theorem dX10_kindAbove_35 : decode cX10_kindAbove 35 = .ok (.ireturn, 1) := dR0 (k := 0) (i := 35) bn_cX10_kindAbove_0 dop_172 (by decide +kernel)
theorem dX10_kindAbove_36 : decode cX10_kindAbove 36 = .ok (.iconst 4, 1) := dR0 (k := 0) (i := 36) bn_cX10_kindAbove_0 dop_7 (by decide +kernel)
theorem dX10_kindAbove_37 : decode cX10_kindAbove 37 = .ok (.ireturn, 1) := dR0 (k := 0) (i := 37) bn_cX10_kindAbove_0 dop_172 (by decide +kernel)
theorem dX10_kindAbove_38 : decode cX10_kindAbove 38 = .ok (.iconst 0, 1) := dR0 (k := 0) (i := 38) bn_cX10_kindAbove_0 dop_3 (by decide +kernel)
theorem dX10_kindAbove_39 : decode cX10_kindAbove 39 = .ok (.ireturn, 1) := dR0 (k := 0) (i := 39) bn_cX10_kindAbove_0 dop_172 (by decide +kernel)
set_option maxHeartbeats 4000000 in
set_option maxRecDepth 100000 in
theorem c_X10_kindAboveG (l : Launch) (D : va_G) (cI : ClassId) (aK aV : Nat → Nat) (sz : Nat) (a0 : Int32) : Met l yX10_kindAbove (gW yX10_kindAbove cX10_kindAbove 1 (some .int)) ({ frames := 0, cells := 0, slots := 0, locals := 0 } : Room) (kPreX D cI aK aV [.int a0] [] sz) (va_Qi (fun (r : Int32) (u : Unit) => True) (fun u t => kWd D cI (va_A [] sz) [] t) (va_A [] sz)) 0 0 (va_A [] sz) := by
  refine kMetIX (own := RX10) (by decide +kernel) rfl (Nat.le_of_ble_eq_true rfl) ?_
  intro p e s m args below meth c hx hb hT hown hname hml A Q hK hP hD hS hA hN hXS hRet ls hl
  have hl : lv_has ls 1 [(0, .int a0)] := hl
  have lo_a0 := k_lo a0
  have hi_a0 := k_hi a0
  refine lv_iload_n hx hb dX10_kindAbove_0 rfl (lv_at hl 0 rfl) ?_
  by_cases c_1 : a0.toInt = 2
  · refine lv_tableIn (off := 31) (tgt := 32) hx hb dX10_kindAbove_1 (by omega) (by omega) (by rw [c_1]; decide) (by decide +kernel) ?_
    refine lv_iconst (v := 1) hx hb dX10_kindAbove_32 (by decide +kernel) ?_
    exact hRet () [] trivial hP hD (by decide +kernel) rfl hS rfl dX10_kindAbove_33
  by_cases c_2 : a0.toInt = 3
  · refine lv_tableIn (off := 33) (tgt := 34) hx hb dX10_kindAbove_1 (by omega) (by omega) (by rw [c_2]; decide) (by decide +kernel) ?_
    refine lv_iconst (v := 2) hx hb dX10_kindAbove_34 (by decide +kernel) ?_
    exact hRet () [] trivial hP hD (by decide +kernel) rfl hS rfl dX10_kindAbove_35
  by_cases c_3 : a0.toInt = 4
  · refine lv_tableIn (off := 37) (tgt := 38) hx hb dX10_kindAbove_1 (by omega) (by omega) (by rw [c_3]; decide) (by decide +kernel) ?_
    refine lv_iconst (v := 0) hx hb dX10_kindAbove_38 (by decide +kernel) ?_
    exact hRet () [] trivial hP hD (by decide +kernel) rfl hS rfl dX10_kindAbove_39
  by_cases c_4 : a0.toInt = 5
  · refine lv_tableIn (off := 35) (tgt := 36) hx hb dX10_kindAbove_1 (by omega) (by omega) (by rw [c_4]; decide) (by decide +kernel) ?_
    refine lv_iconst (v := 4) hx hb dX10_kindAbove_36 (by decide +kernel) ?_
    exact hRet () [] trivial hP hD (by decide +kernel) rfl hS rfl dX10_kindAbove_37
  refine lv_tableOut (tgt := 38) hx hb dX10_kindAbove_1 (by omega) (by decide +kernel) ?_
  refine lv_iconst (v := 0) hx hb dX10_kindAbove_38 (by decide +kernel) ?_
  exact hRet () [] trivial hP hD (by decide +kernel) rfl hS rfl dX10_kindAbove_39
theorem bn_cX10_isOf_0 : BN cX10_isOf 0 0xad0201402a80282002a10e075dd005400808851f25804b90e83c02a00e07428015181c221e1f8107c1b := by
  unfold BN; decide +kernel
theorem dX10_isOf_0 : decode cX10_isOf 0 = .ok (.iload_n 0, 1) := dR0 (k := 0) (i := 0) bn_cX10_isOf_0 dop_26 (by decide +kernel)
theorem dX10_isOf_1 : decode cX10_isOf 1 = .ok (.istore_n 2, 1) := dR0 (k := 0) (i := 1) bn_cX10_isOf_0 dop_61 (by decide +kernel)
theorem dX10_isOf_2 : decode cX10_isOf 2 = .ok (.iconst 0, 1) := dR0 (k := 0) (i := 2) bn_cX10_isOf_0 dop_3 (by decide +kernel)
theorem dX10_isOf_3 : decode cX10_isOf 3 = .ok (.istore_n 3, 1) := dR0 (k := 0) (i := 3) bn_cX10_isOf_0 dop_62 (by decide +kernel)
theorem dX10_isOf_4 : decode cX10_isOf 4 = .ok (.iload_n 3, 1) := dR0 (k := 0) (i := 4) bn_cX10_isOf_0 dop_29 (by decide +kernel)
theorem dX10_isOf_5 : decode cX10_isOf 5 = .ok (.bipush 6, 2) := dR1s (f := Instr.bipush) (k := 0) (i := 5) bn_cX10_isOf_0 dop_16 6 6 (by decide +kernel)
theorem dX10_isOf_7 : decode cX10_isOf 7 = .ok (.if_icmp .ge 19, 3) := dR2s (f := Instr.if_icmp .ge) (k := 0) (i := 7) bn_cX10_isOf_0 dop_162 19 19 (by decide +kernel)
theorem dX10_isOf_10 : decode cX10_isOf 10 = .ok (.iload_n 2, 1) := dR0 (k := 0) (i := 10) bn_cX10_isOf_0 dop_28 (by decide +kernel)
theorem dX10_isOf_11 : decode cX10_isOf 11 = .ok (.iload_n 1, 1) := dR0 (k := 0) (i := 11) bn_cX10_isOf_0 dop_27 (by decide +kernel)
theorem dX10_isOf_12 : decode cX10_isOf 12 = .ok (.if_icmp .eq 14, 3) := dR2s (f := Instr.if_icmp .eq) (k := 0) (i := 12) bn_cX10_isOf_0 dop_159 14 14 (by decide +kernel)
theorem dX10_isOf_15 : decode cX10_isOf 15 = .ok (.iload_n 2, 1) := dR0 (k := 0) (i := 15) bn_cX10_isOf_0 dop_28 (by decide +kernel)
theorem dX10_isOf_16 : decode cX10_isOf 16 = .ok (.invokestatic 405, 3) := dR2 (f := Instr.invokestatic) (k := 0) (i := 16) bn_cX10_isOf_0 dop_184 405 (by decide +kernel)
theorem dX10_isOf_19 : decode cX10_isOf 19 = .ok (.istore_n 2, 1) := dR0 (k := 0) (i := 19) bn_cX10_isOf_0 dop_61 (by decide +kernel)
theorem dX10_isOf_20 : decode cX10_isOf 20 = .ok (.iinc 3 1, 3) := dRii (f := Instr.iinc) (k := 0) (i := 20) bn_cX10_isOf_0 dop_132 3 1 1 (by decide +kernel)
theorem dX10_isOf_23 : decode cX10_isOf 23 = .ok (.goto (-19), 3) := dR2s (f := Instr.goto) (k := 0) (i := 23) bn_cX10_isOf_0 dop_167 65517 (-19) (by decide +kernel)
theorem dX10_isOf_26 : decode cX10_isOf 26 = .ok (.iload_n 2, 1) := dR0 (k := 0) (i := 26) bn_cX10_isOf_0 dop_28 (by decide +kernel)
theorem dX10_isOf_27 : decode cX10_isOf 27 = .ok (.iload_n 1, 1) := dR0 (k := 0) (i := 27) bn_cX10_isOf_0 dop_27 (by decide +kernel)
theorem dX10_isOf_28 : decode cX10_isOf 28 = .ok (.if_icmp .ne 7, 3) := dR2s (f := Instr.if_icmp .ne) (k := 0) (i := 28) bn_cX10_isOf_0 dop_160 7 7 (by decide +kernel)
theorem dX10_isOf_31 : decode cX10_isOf 31 = .ok (.iconst 1, 1) := dR0 (k := 0) (i := 31) bn_cX10_isOf_0 dop_4 (by decide +kernel)
theorem dX10_isOf_32 : decode cX10_isOf 32 = .ok (.goto 4, 3) := dR2s (f := Instr.goto) (k := 0) (i := 32) bn_cX10_isOf_0 dop_167 4 4 (by decide +kernel)
theorem dX10_isOf_35 : decode cX10_isOf 35 = .ok (.iconst 0, 1) := dR0 (k := 0) (i := 35) bn_cX10_isOf_0 dop_3 (by decide +kernel)
theorem dX10_isOf_36 : decode cX10_isOf 36 = .ok (.ireturn, 1) := dR0 (k := 0) (i := 36) bn_cX10_isOf_0 dop_172 (by decide +kernel)

theorem bn_cX10_monthOf_0 : BN cX10_monthOf 0 0x569c41a113687c221b058055004040053a1b := by
  unfold BN; decide +kernel
theorem dX10_monthOf_0 : decode cX10_monthOf 0 = .ok (.iload_n 0, 1) := dR0 (k := 0) (i := 0) bn_cX10_monthOf_0 dop_26 (by decide +kernel)
theorem dX10_monthOf_1 : decode cX10_monthOf 1 = .ok (.ifCond .ge 7, 3) := dR2s (f := Instr.ifCond .ge) (k := 0) (i := 1) bn_cX10_monthOf_0 dop_156 7 7 (by decide +kernel)
theorem dX10_monthOf_4 : decode cX10_monthOf 4 = .ok (.iconst 0, 1) := dR0 (k := 0) (i := 4) bn_cX10_monthOf_0 dop_3 (by decide +kernel)
theorem dX10_monthOf_5 : decode cX10_monthOf 5 = .ok (.goto 10, 3) := dR2s (f := Instr.goto) (k := 0) (i := 5) bn_cX10_monthOf_0 dop_167 10 10 (by decide +kernel)
theorem dX10_monthOf_8 : decode cX10_monthOf 8 = .ok (.iload_n 0, 1) := dR0 (k := 0) (i := 8) bn_cX10_monthOf_0 dop_26 (by decide +kernel)
theorem dX10_monthOf_9 : decode cX10_monthOf 9 = .ok (.bipush 30, 2) := dR1s (f := Instr.bipush) (k := 0) (i := 9) bn_cX10_monthOf_0 dop_16 30 30 (by decide +kernel)
theorem dX10_monthOf_11 : decode cX10_monthOf 11 = .ok (.idiv, 1) := dR0 (k := 0) (i := 11) bn_cX10_monthOf_0 dop_108 (by decide +kernel)
theorem dX10_monthOf_12 : decode cX10_monthOf 12 = .ok (.bipush 12, 2) := dR1s (f := Instr.bipush) (k := 0) (i := 12) bn_cX10_monthOf_0 dop_16 12 12 (by decide +kernel)
theorem dX10_monthOf_14 : decode cX10_monthOf 14 = .ok (.irem, 1) := dR0 (k := 0) (i := 14) bn_cX10_monthOf_0 dop_112 (by decide +kernel)
theorem dX10_monthOf_15 : decode cX10_monthOf 15 = .ok (.ireturn, 1) := dR0 (k := 0) (i := 15) bn_cX10_monthOf_0 dop_172 (by decide +kernel)
set_option maxHeartbeats 4000000 in
set_option maxRecDepth 100000 in
theorem c_X10_monthOfG (l : Launch) (D : va_G) (cI : ClassId) (aK aV : Nat → Nat) (sz : Nat) (a0 : Int32) : Met l yX10_monthOf (gW yX10_monthOf cX10_monthOf 1 (some .int)) ({ frames := 0, cells := 0, slots := 0, locals := 0 } : Room) (kPreX D cI aK aV [.int a0] [] sz) (va_Qi (fun (r : Int32) (u : Unit) => 0 ≤ r.toInt ∧ r.toInt ≤ 11) (fun u t => kWd D cI (va_A [] sz) [] t) (va_A [] sz)) 0 0 (va_A [] sz) := by
  refine kMetIX (own := RX10) (by decide +kernel) rfl (Nat.le_of_ble_eq_true rfl) ?_
  intro p e s m args below meth c hx hb hT hown hname hml A Q hK hP hD hS hA hN hXS hRet ls hl
  have hl : lv_has ls 1 [(0, .int a0)] := hl
  have lo_a0 := k_lo a0
  have hi_a0 := k_hi a0
  refine lv_iload_n hx hb dX10_monthOf_0 rfl (lv_at hl 0 rfl) ?_
  refine b_if_ge hx hb rfl (tgt := 8) dX10_monthOf_1 (by decide +kernel) (fun c_1 => ?_) (fun c_1 => ?_)
  · refine lv_iload_n hx hb dX10_monthOf_8 rfl (lv_at hl 0 rfl) ?_
    refine lv_bipush (v := 30) hx hb dX10_monthOf_9 (by decide +kernel) ?_
    refine lv_idiv hx hb dX10_monthOf_11 (by decide +kernel) ?_
    refine lv_topi (fun v_2 ev_2 => ?_)
    have tv_2 : v_2.toInt = a0.toInt / 30 := k_divv (w := 0) ev_2 zl_30 (by omega) (by decide +kernel)
    have lo_v_2 := k_lo v_2
    have hi_v_2 := k_hi v_2
    refine lv_bipush (v := 12) hx hb dX10_monthOf_12 (by decide +kernel) ?_
    refine lv_irem hx hb dX10_monthOf_14 (by decide +kernel) ?_
    refine lv_topi (fun v_3 ev_3 => ?_)
    have tv_3 : v_3.toInt = v_2.toInt % 12 := k_remv (w := 0) ev_3 zl_12 (by omega) (by decide +kernel)
    have lo_v_3 := k_lo v_3
    have hi_v_3 := k_hi v_3
    exact hRet () [] (⟨(by omega), (by omega)⟩) hP hD (by decide +kernel) rfl hS rfl dX10_monthOf_15
  · refine lv_iconst (v := 0) hx hb dX10_monthOf_4 (by decide +kernel) ?_
    refine lv_goto (tgt := 15) hx hb dX10_monthOf_5 (by decide +kernel) ?_
    exact hRet () [] (⟨(by first | omega | (simp only [zl_0]; first | done | omega)), (by first | omega | (simp only [zl_0]; first | done | omega))⟩) hP hD (by decide +kernel) rfl hS rfl dX10_monthOf_15
theorem bn_cX10_effortIn_0 : BN cX10_effortIn 0 0x15a0b08ab4c2690e02c221508ab452110f80402010180402010e004020101004020101804020113804020100805581b := by
  unfold BN; decide +kernel
theorem dX10_effortIn_0 : decode cX10_effortIn 0 = .ok (.iload_n 0, 1) := dR0 (k := 0) (i := 0) bn_cX10_effortIn_0 dop_26 (by decide +kernel)
theorem dX10_effortIn_1 : decode cX10_effortIn 1 = .ok (.lookupswitch 38 #[(1, 27), (2, 30)], 27) := by decide +kernel
theorem dX10_effortIn_28 : decode cX10_effortIn 28 = .ok (.bipush 40, 2) := dR1s (f := Instr.bipush) (k := 0) (i := 28) bn_cX10_effortIn_0 dop_16 40 40 (by decide +kernel)
theorem dX10_effortIn_30 : decode cX10_effortIn 30 = .ok (.ireturn, 1) := dR0 (k := 0) (i := 30) bn_cX10_effortIn_0 dop_172 (by decide +kernel)
theorem dX10_effortIn_31 : decode cX10_effortIn 31 = .ok (.bipush 20, 2) := dR1s (f := Instr.bipush) (k := 0) (i := 31) bn_cX10_effortIn_0 dop_16 20 20 (by decide +kernel)
theorem dX10_effortIn_33 : decode cX10_effortIn 33 = .ok (.bipush 10, 2) := dR1s (f := Instr.bipush) (k := 0) (i := 33) bn_cX10_effortIn_0 dop_16 10 10 (by decide +kernel)
theorem dX10_effortIn_35 : decode cX10_effortIn 35 = .ok (.iload_n 1, 1) := dR0 (k := 0) (i := 35) bn_cX10_effortIn_0 dop_27 (by decide +kernel)
theorem dX10_effortIn_36 : decode cX10_effortIn 36 = .ok (.imul, 1) := dR0 (k := 0) (i := 36) bn_cX10_effortIn_0 dop_104 (by decide +kernel)
theorem dX10_effortIn_37 : decode cX10_effortIn 37 = .ok (.iadd, 1) := dR0 (k := 0) (i := 37) bn_cX10_effortIn_0 dop_96 (by decide +kernel)
theorem dX10_effortIn_38 : decode cX10_effortIn 38 = .ok (.ireturn, 1) := dR0 (k := 0) (i := 38) bn_cX10_effortIn_0 dop_172 (by decide +kernel)
theorem dX10_effortIn_39 : decode cX10_effortIn 39 = .ok (.bipush 10, 2) := dR1s (f := Instr.bipush) (k := 0) (i := 39) bn_cX10_effortIn_0 dop_16 10 10 (by decide +kernel)
theorem dX10_effortIn_41 : decode cX10_effortIn 41 = .ok (.ireturn, 1) := dR0 (k := 0) (i := 41) bn_cX10_effortIn_0 dop_172 (by decide +kernel)
set_option maxHeartbeats 4000000 in
set_option maxRecDepth 100000 in
theorem c_X10_effortInG (l : Launch) (D : va_G) (cI : ClassId) (aK aV : Nat → Nat) (sz : Nat) (a0 : Int32) (a1 : Int32) : Met l yX10_effortIn (gW yX10_effortIn cX10_effortIn 2 (some .int)) ({ frames := 0, cells := 0, slots := 0, locals := 0 } : Room) (kPreX D cI aK aV [.int a0, .int a1] [] sz) (va_Qi (fun (r : Int32) (u : Unit) => True) (fun u t => kWd D cI (va_A [] sz) [] t) (va_A [] sz)) 0 0 (va_A [] sz) := by
  refine kMetIX (own := RX10) (by decide +kernel) rfl (Nat.le_of_ble_eq_true rfl) ?_
  intro p e s m args below meth c hx hb hT hown hname hml A Q hK hP hD hS hA hN hXS hRet ls hl
  have hl : lv_has ls 2 [(0, .int a0), (1, .int a1)] := hl
  have lo_a0 := k_lo a0
  have hi_a0 := k_hi a0
  refine lv_iload_n hx hb dX10_effortIn_0 rfl (lv_at hl 0 rfl) ?_
  by_cases c_1 : a0.toInt = 1
  · refine lv_lookup (off := 27) (tgt := 28) hx hb dX10_effortIn_1 (by decide +kernel) (by rw [c_1]; decide) (by decide +kernel) ?_
    refine lv_bipush (v := 40) hx hb dX10_effortIn_28 (by decide +kernel) ?_
    exact hRet () [] trivial hP hD (by decide +kernel) rfl hS rfl dX10_effortIn_30
  by_cases c_2 : a0.toInt = 2
  · refine lv_lookup (off := 30) (tgt := 31) hx hb dX10_effortIn_1 (by decide +kernel) (by rw [c_2]; decide) (by decide +kernel) ?_
    refine lv_bipush (v := 20) hx hb dX10_effortIn_31 (by decide +kernel) ?_
    refine lv_bipush (v := 10) hx hb dX10_effortIn_33 (by decide +kernel) ?_
    refine lv_iload_n hx hb dX10_effortIn_35 rfl (lv_at hl 1 rfl) ?_
    refine lv_imul hx hb dX10_effortIn_36 ?_
    refine lv_topi (fun v_3 ev_3 => ?_)
    have lo_v_3 := k_lo v_3
    have hi_v_3 := k_hi v_3
    refine lv_iadd hx hb dX10_effortIn_37 ?_
    refine lv_topi (fun v_4 ev_4 => ?_)
    have lo_v_4 := k_lo v_4
    have hi_v_4 := k_hi v_4
    exact hRet () [] trivial hP hD (by decide +kernel) rfl hS rfl dX10_effortIn_38
  refine lv_lookup (off := 38) (tgt := 39) hx hb dX10_effortIn_1 (by decide +kernel) (k_osw2 (by omega) (by omega)) (by decide +kernel) ?_
  refine lv_bipush (v := 10) hx hb dX10_effortIn_39 (by decide +kernel) ?_
  exact hRet () [] trivial hP hD (by decide +kernel) rfl hS rfl dX10_effortIn_41
theorem bn_cX10_finding_0 : BN cX10_finding 0 0xad328712a020a140c20517974384b00ad4560e00a90121c098053e1c := by
  unfold BN; decide +kernel
theorem dX10_finding_0 : decode cX10_finding 0 = .ok (.iload_n 1, 1) := dR0 (k := 0) (i := 0) bn_cX10_finding_0 dop_27 (by decide +kernel)
theorem dX10_finding_1 : decode cX10_finding 1 = .ok (.ifCond .le 18, 3) := dR2s (f := Instr.ifCond .le) (k := 0) (i := 1) bn_cX10_finding_0 dop_158 18 18 (by decide +kernel)
theorem dX10_finding_4 : decode cX10_finding 4 = .ok (.iload_n 1, 1) := dR0 (k := 0) (i := 4) bn_cX10_finding_0 dop_27 (by decide +kernel)
theorem dX10_finding_5 : decode cX10_finding 5 = .ok (.iconst 5, 1) := dR0 (k := 0) (i := 5) bn_cX10_finding_0 dop_8 (by decide +kernel)
theorem dX10_finding_6 : decode cX10_finding 6 = .ok (.if_icmp .gt 13, 3) := dR2s (f := Instr.if_icmp .gt) (k := 0) (i := 6) bn_cX10_finding_0 dop_163 13 13 (by decide +kernel)
theorem dX10_finding_9 : decode cX10_finding 9 = .ok (.aload_n 0, 1) := dR0 (k := 0) (i := 9) bn_cX10_finding_0 dop_42 (by decide +kernel)
theorem dX10_finding_10 : decode cX10_finding 10 = .ok (.getfield 74, 3) := dR2 (f := Instr.getfield) (k := 0) (i := 10) bn_cX10_finding_0 dop_180 74 (by decide +kernel)
theorem dX10_finding_13 : decode cX10_finding 13 = .ok (.iload_n 1, 1) := dR0 (k := 0) (i := 13) bn_cX10_finding_0 dop_27 (by decide +kernel)
theorem dX10_finding_14 : decode cX10_finding 14 = .ok (.dup2, 1) := dR0 (k := 0) (i := 14) bn_cX10_finding_0 dop_92 (by decide +kernel)
theorem dX10_finding_15 : decode cX10_finding 15 = .ok (.iaload, 1) := dR0 (k := 0) (i := 15) bn_cX10_finding_0 dop_46 (by decide +kernel)
theorem dX10_finding_16 : decode cX10_finding 16 = .ok (.iconst 1, 1) := dR0 (k := 0) (i := 16) bn_cX10_finding_0 dop_4 (by decide +kernel)
theorem dX10_finding_17 : decode cX10_finding 17 = .ok (.iadd, 1) := dR0 (k := 0) (i := 17) bn_cX10_finding_0 dop_96 (by decide +kernel)
theorem dX10_finding_18 : decode cX10_finding 18 = .ok (.iastore, 1) := dR0 (k := 0) (i := 18) bn_cX10_finding_0 dop_79 (by decide +kernel)
theorem dX10_finding_19 : decode cX10_finding 19 = .ok (.ldc_w 404, 3) := dR2 (f := Instr.ldc_w) (k := 0) (i := 19) bn_cX10_finding_0 dop_19 404 (by decide +kernel)
theorem dX10_finding_22 : decode cX10_finding 22 = .ok (.iload_n 1, 1) := dR0 (k := 0) (i := 22) bn_cX10_finding_0 dop_27 (by decide +kernel)
theorem dX10_finding_23 : decode cX10_finding 23 = .ok (.isub, 1) := dR0 (k := 0) (i := 23) bn_cX10_finding_0 dop_100 (by decide +kernel)
theorem dX10_finding_24 : decode cX10_finding 24 = .ok (.ireturn, 1) := dR0 (k := 0) (i := 24) bn_cX10_finding_0 dop_172 (by decide +kernel)
set_option maxHeartbeats 4000000 in
set_option maxRecDepth 100000 in
theorem c_X10_findingG (l : Launch) (D : va_G) (cI : ClassId) (aK aV : Nat → Nat) (k k0 k1 k2 k3 k4 k5 k6 k7 k8 k9 ka kb : Nat) (sz : Nat) (cc : Int32) (cb : Nat → Int32) (a0 : Int32) : Met l yX10_finding (gW yX10_finding cX10_finding 2 (some .int)) ({ frames := 0, cells := 0, slots := 0, locals := 0 } : Room) (kPreX D cI aK aV [.ref k, .int a0] [(k, .inr (10, [.ref k0, .ref k1, .ref k2, .ref k3, .ref k4, .ref k5, .ref k6, .ref k7, .ref k8, .ref k9, .ref ka, .ref kb, .int cc])), (kb, .inl (cI, 6, .inl cb))] sz) (va_Qi (fun (r : Int32) (u : (Nat → Int32)) => r = (-1000000) - a0) (fun u t => kWd D cI (va_A [(k, .inr (10, [.ref k0, .ref k1, .ref k2, .ref k3, .ref k4, .ref k5, .ref k6, .ref k7, .ref k8, .ref k9, .ref ka, .ref kb, .int cc])), (kb, .inl (cI, 6, .inl cb))] sz) [(k, .inr (10, [.ref k0, .ref k1, .ref k2, .ref k3, .ref k4, .ref k5, .ref k6, .ref k7, .ref k8, .ref k9, .ref ka, .ref kb, .int cc])), (kb, .inl (cI, 6, .inl u))] t) (va_A [(k, .inr (10, [.ref k0, .ref k1, .ref k2, .ref k3, .ref k4, .ref k5, .ref k6, .ref k7, .ref k8, .ref k9, .ref ka, .ref kb, .int cc])), (kb, .inl (cI, 6, .inl cb))] sz)) 0 0 (va_A [(k, .inr (10, [.ref k0, .ref k1, .ref k2, .ref k3, .ref k4, .ref k5, .ref k6, .ref k7, .ref k8, .ref k9, .ref ka, .ref kb, .int cc])), (kb, .inl (cI, 6, .inl cb))] sz) := by
  refine kMetIX (own := RX10) (by decide +kernel) rfl (Nat.le_of_ble_eq_true rfl) ?_
  intro p e s m args below meth c hx hb hT hown hname hml A Q hK hP hD hS hA hN hXS hRet ls hl
  have hl : lv_has ls 2 [(0, .ref k), (1, .int a0)] := hl
  have lo_a0 := k_lo a0
  have hi_a0 := k_hi a0
  refine lv_iload_n hx hb dX10_finding_0 rfl (lv_at hl 1 rfl) ?_
  refine b_if_le hx hb rfl (tgt := 19) dX10_finding_1 (by decide +kernel) (fun c_1 => ?_) (fun c_1 => ?_)
  · refine lv_ldcw (v := (-1000000)) hx hb hown (hT _ mw_339) dX10_finding_19 ?_
    refine lv_iload_n hx hb dX10_finding_22 rfl (lv_at hl 1 rfl) ?_
    refine lv_isub hx hb dX10_finding_23 ?_
    refine lv_topi (fun v_2 ev_2 => ?_)
    have tv_2 : v_2.toInt = (-1000000) - a0.toInt := by rw [ev_2]; exact k_subv zl_m1000000 rfl (by omega) (by omega)
    exact hRet cb [0, 1] ev_2 hP hD (by decide +kernel) rfl hS rfl dX10_finding_24
  · refine lv_iload_n hx hb dX10_finding_4 rfl (lv_at hl 1 rfl) ?_
    refine lv_iconst (v := 5) hx hb dX10_finding_5 (by decide +kernel) ?_
    refine b_icmp_gt hx hb rfl zl_5 (tgt := 19) dX10_finding_6 (by decide +kernel) (fun c_3 => ?_) (fun c_3 => ?_)
    · refine lv_ldcw (v := (-1000000)) hx hb hown (hT _ mw_339) dX10_finding_19 ?_
      refine lv_iload_n hx hb dX10_finding_22 rfl (lv_at hl 1 rfl) ?_
      refine lv_isub hx hb dX10_finding_23 ?_
      refine lv_topi (fun v_4 ev_4 => ?_)
      have lo_v_4 := k_lo v_4
      have hi_v_4 := k_hi v_4
      exact hRet cb [0, 1] ev_4 hP hD (by decide +kernel) rfl hS rfl dX10_finding_24
    · refine lv_aload_n hx hb dX10_finding_9 rfl (lv_at hl 0 rfl) ?_
      refine va_get (D := D) (ci := 10) (v := .ref kb) (C := RX10) (T := TX10) (N := 13) hx hb hT giX10 hown hK hP 0 rfl rfl 11 (by decide +kernel) (hT (Cond.fieldLink RX10 74 "DesertWire" "findings" "[I") mw_302) (fun _ h9 => h9) rfl dX10_finding_10 ?_
      refine lv_iload_n hx hb dX10_finding_13 rfl (lv_at hl 1 rfl) ?_
      refine lv_dup2_11 hx hb dX10_finding_14 rfl rfl ?_
      refine k_iald (v := (cb a0.toNatClampNeg)) hx hb hK hP 1 0 rfl rfl (k_in (by omega) (by omega)) rfl dX10_finding_15 ?_
      refine lv_topi (fun v_5 ev_5 => ?_)
      have lo_v_5 := k_lo v_5
      have hi_v_5 := k_hi v_5
      have tv_5 : v_5.toInt = (cb a0.toNatClampNeg).toInt := by rw [ev_5]
      refine lv_iconst (v := 1) hx hb dX10_finding_16 (by decide +kernel) ?_
      refine lv_iadd hx hb dX10_finding_17 ?_
      refine lv_topi (fun v_6 ev_6 => ?_)
      have lo_v_6 := k_lo v_6
      have hi_v_6 := k_hi v_6
      refine va_iast hx hb hK hP hD hS 1 0 rfl rfl (k_in (by omega) (by omega)) dX10_finding_18 ?_
      clear hP hD hS
      intro H locs hP hD hS
      replace hP : va_P D vwCl [(k, .inr (10, [.ref k0, .ref k1, .ref k2, .ref k3, .ref k4, .ref k5, .ref k6, .ref k7, .ref k8, .ref k9, .ref ka, .ref kb, .int cc])), (kb, .inl (cI, 6, .inl (upd cb a0.toNatClampNeg v_6)))] H := hP
      replace hD : va_D A [(k, .inr (10, [.ref k0, .ref k1, .ref k2, .ref k3, .ref k4, .ref k5, .ref k6, .ref k7, .ref k8, .ref k9, .ref ka, .ref kb, .int cc])), (kb, .inl (cI, 6, .inl (upd cb a0.toNatClampNeg v_6)))] := hD
      obtain ⟨f_7, ef_7⟩ : ∃ g : Nat → Int32, g = upd cb a0.toNatClampNeg v_6 := ⟨_, rfl⟩
      rw [← ef_7] at hP hD
      refine lv_ldcw (v := (-1000000)) hx hb hown (hT _ mw_339) dX10_finding_19 ?_
      refine lv_iload_n hx hb dX10_finding_22 rfl (lv_at hl 1 rfl) ?_
      refine lv_isub hx hb dX10_finding_23 ?_
      refine lv_topi (fun v_8 ev_8 => ?_)
      have tv_8 : v_8.toInt = (-1000000) - a0.toInt := by rw [ev_8]; exact k_subv zl_m1000000 rfl (by omega) (by omega)
      exact hRet f_7 [0, 1] ev_8 hP hD (by decide +kernel) rfl hS rfl dX10_finding_24
