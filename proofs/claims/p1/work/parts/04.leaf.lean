theorem dX10_isDay_0 : decode cX10_isDay 0 = .ok (.iload_n 0, 1) := by decide +kernel
theorem dX10_isDay_1 : decode cX10_isDay 1 = .ok (.ifCond .lt 14, 3) := by decide +kernel
theorem dX10_isDay_4 : decode cX10_isDay 4 = .ok (.iload_n 0, 1) := by decide +kernel
theorem dX10_isDay_5 : decode cX10_isDay 5 = .ok (.sipush 2000, 3) := by decide +kernel
theorem dX10_isDay_8 : decode cX10_isDay 8 = .ok (.if_icmp .gt 7, 3) := by decide +kernel
theorem dX10_isDay_11 : decode cX10_isDay 11 = .ok (.iconst 1, 1) := by decide +kernel
theorem dX10_isDay_12 : decode cX10_isDay 12 = .ok (.goto 4, 3) := by decide +kernel
theorem dX10_isDay_15 : decode cX10_isDay 15 = .ok (.iconst 0, 1) := by decide +kernel
theorem dX10_isDay_16 : decode cX10_isDay 16 = .ok (.ireturn, 1) := by decide +kernel
theorem dX10_isMile_0 : decode cX10_isMile 0 = .ok (.iload_n 0, 1) := by decide +kernel
theorem dX10_isMile_1 : decode cX10_isMile 1 = .ok (.ifCond .lt 13, 3) := by decide +kernel
theorem dX10_isMile_4 : decode cX10_isMile 4 = .ok (.iload_n 0, 1) := by decide +kernel
theorem dX10_isMile_5 : decode cX10_isMile 5 = .ok (.bipush 40, 2) := by decide +kernel
theorem dX10_isMile_7 : decode cX10_isMile 7 = .ok (.if_icmp .ge 7, 3) := by decide +kernel
theorem dX10_isMile_10 : decode cX10_isMile 10 = .ok (.iconst 1, 1) := by decide +kernel
theorem dX10_isMile_11 : decode cX10_isMile 11 = .ok (.goto 4, 3) := by decide +kernel
theorem dX10_isMile_14 : decode cX10_isMile 14 = .ok (.iconst 0, 1) := by decide +kernel
theorem dX10_isMile_15 : decode cX10_isMile 15 = .ok (.ireturn, 1) := by decide +kernel
theorem dX10_isSheet_0 : decode cX10_isSheet 0 = .ok (.iload_n 0, 1) := by decide +kernel
theorem dX10_isSheet_1 : decode cX10_isSheet 1 = .ok (.ifCond .lt 12, 3) := by decide +kernel
theorem dX10_isSheet_4 : decode cX10_isSheet 4 = .ok (.iload_n 0, 1) := by decide +kernel
theorem dX10_isSheet_5 : decode cX10_isSheet 5 = .ok (.iconst 4, 1) := by decide +kernel
theorem dX10_isSheet_6 : decode cX10_isSheet 6 = .ok (.if_icmp .ge 7, 3) := by decide +kernel
theorem dX10_isSheet_9 : decode cX10_isSheet 9 = .ok (.iconst 1, 1) := by decide +kernel
theorem dX10_isSheet_10 : decode cX10_isSheet 10 = .ok (.goto 4, 3) := by decide +kernel
theorem dX10_isSheet_13 : decode cX10_isSheet 13 = .ok (.iconst 0, 1) := by decide +kernel
theorem dX10_isSheet_14 : decode cX10_isSheet 14 = .ok (.ireturn, 1) := by decide +kernel
theorem dX10_isUse_0 : decode cX10_isUse 0 = .ok (.iload_n 0, 1) := by decide +kernel
theorem dX10_isUse_1 : decode cX10_isUse 1 = .ok (.ifCond .lt 12, 3) := by decide +kernel
theorem dX10_isUse_4 : decode cX10_isUse 4 = .ok (.iload_n 0, 1) := by decide +kernel
theorem dX10_isUse_5 : decode cX10_isUse 5 = .ok (.iconst 3, 1) := by decide +kernel
theorem dX10_isUse_6 : decode cX10_isUse 6 = .ok (.if_icmp .ge 7, 3) := by decide +kernel
theorem dX10_isUse_9 : decode cX10_isUse 9 = .ok (.iconst 1, 1) := by decide +kernel
theorem dX10_isUse_10 : decode cX10_isUse 10 = .ok (.goto 4, 3) := by decide +kernel
theorem dX10_isUse_13 : decode cX10_isUse 13 = .ok (.iconst 0, 1) := by decide +kernel
theorem dX10_isUse_14 : decode cX10_isUse 14 = .ok (.ireturn, 1) := by decide +kernel
theorem dX8_has_0 : decode cX8_has 0 = .ok (.iload_n 1, 1) := by decide +kernel
theorem dX8_has_1 : decode cX8_has 1 = .ok (.ifCond .lt 21, 3) := by decide +kernel
theorem dX8_has_4 : decode cX8_has 4 = .ok (.iload_n 1, 1) := by decide +kernel
theorem dX8_has_5 : decode cX8_has 5 = .ok (.aload_n 0, 1) := by decide +kernel
theorem dX8_has_6 : decode cX8_has 6 = .ok (.getfield 39, 3) := by decide +kernel
theorem dX8_has_9 : decode cX8_has 9 = .ok (.if_icmp .ge 13, 3) := by decide +kernel
theorem dX8_has_12 : decode cX8_has 12 = .ok (.iload_n 1, 1) := by decide +kernel
theorem dX8_has_13 : decode cX8_has 13 = .ok (.bipush 60, 2) := by decide +kernel
theorem dX8_has_15 : decode cX8_has 15 = .ok (.if_icmp .ge 7, 3) := by decide +kernel
theorem dX8_has_18 : decode cX8_has 18 = .ok (.iconst 1, 1) := by decide +kernel
theorem dX8_has_19 : decode cX8_has 19 = .ok (.goto 4, 3) := by decide +kernel
theorem dX8_has_22 : decode cX8_has 22 = .ok (.iconst 0, 1) := by decide +kernel
theorem dX8_has_23 : decode cX8_has 23 = .ok (.ireturn, 1) := by decide +kernel
set_option maxHeartbeats 4000000 in
set_option maxRecDepth 100000 in
theorem c_X10_isMile (l : Launch) (D : va_G) (cI : ClassId) (sz : Nat) (a : Int32) : Met l yX10_isMile (gW yX10_isMile cX10_isMile 1 (some .boolean)) ({ frames := 0, cells := 0, slots := 0, locals := 0 } : Room) (kPre D cI [.int a] [] sz) (va_Qi (fun (r : Int32) (u : Unit) => (r = 1 ∧ 0 ≤ a.toInt ∧ a.toInt ≤ 39) ∨ (r = 0 ∧ (a.toInt < 0 ∨ 39 < a.toInt))) (fun u t => kWd D cI (va_A [] sz) [] t) (va_A [] sz)) 0 0 (va_A [] sz) := by
  refine kMetI (own := RX10) (by decide) rfl (by decide) ?_
  intro p e s m args below meth c hx hb hT hown hname hml A Q hK hP hD hS hA hN hRet ls hl
  have hl : lv_has ls 1 [(0, .int a)] := hl
  have lo_a := k_lo a
  have hi_a := k_hi a
  refine lv_iload_n hx hb dX10_isMile_0 rfl (lv_at hl 0 rfl) ?_
  refine b_if_lt hx hb rfl (tgt := 14) dX10_isMile_1 (by decide) (fun c_1 => ?_) (fun c_1 => ?_)
  · refine lv_iconst (v := 0) hx hb dX10_isMile_14 (by decide) ?_
    exact hRet () [] (Or.inr (⟨rfl, (by omega)⟩)) hP hD (by decide) rfl hS rfl dX10_isMile_15
  · refine lv_iload_n hx hb dX10_isMile_4 rfl (lv_at hl 0 rfl) ?_
    refine lv_bipush (v := 40) hx hb dX10_isMile_5 (by decide) ?_
    refine b_icmp_ge hx hb rfl zl_40 (tgt := 14) dX10_isMile_7 (by decide) (fun c_2 => ?_) (fun c_2 => ?_)
    · refine lv_iconst (v := 0) hx hb dX10_isMile_14 (by decide) ?_
      exact hRet () [] (Or.inr (⟨rfl, (by omega)⟩)) hP hD (by decide) rfl hS rfl dX10_isMile_15
    · refine lv_iconst (v := 1) hx hb dX10_isMile_10 (by decide) ?_
      refine lv_goto (tgt := 15) hx hb dX10_isMile_11 (by decide) ?_
      exact hRet () [] (Or.inl ⟨rfl, (by omega), (by omega)⟩) hP hD (by decide) rfl hS rfl dX10_isMile_15
set_option maxHeartbeats 4000000 in
set_option maxRecDepth 100000 in
theorem c_X10_isDay (l : Launch) (D : va_G) (cI : ClassId) (sz : Nat) (a : Int32) : Met l yX10_isDay (gW yX10_isDay cX10_isDay 1 (some .boolean)) ({ frames := 0, cells := 0, slots := 0, locals := 0 } : Room) (kPre D cI [.int a] [] sz) (va_Qi (fun (r : Int32) (u : Unit) => (r = 1 ∧ 0 ≤ a.toInt ∧ a.toInt ≤ 2000) ∨ (r = 0 ∧ (a.toInt < 0 ∨ 2000 < a.toInt))) (fun u t => kWd D cI (va_A [] sz) [] t) (va_A [] sz)) 0 0 (va_A [] sz) := by
  refine kMetI (own := RX10) (by decide) rfl (by decide) ?_
  intro p e s m args below meth c hx hb hT hown hname hml A Q hK hP hD hS hA hN hRet ls hl
  have hl : lv_has ls 1 [(0, .int a)] := hl
  have lo_a := k_lo a
  have hi_a := k_hi a
  refine lv_iload_n hx hb dX10_isDay_0 rfl (lv_at hl 0 rfl) ?_
  refine b_if_lt hx hb rfl (tgt := 15) dX10_isDay_1 (by decide) (fun c_1 => ?_) (fun c_1 => ?_)
  · refine lv_iconst (v := 0) hx hb dX10_isDay_15 (by decide) ?_
    exact hRet () [] (Or.inr (⟨rfl, (by omega)⟩)) hP hD (by decide) rfl hS rfl dX10_isDay_16
  · refine lv_iload_n hx hb dX10_isDay_4 rfl (lv_at hl 0 rfl) ?_
    refine lv_sipush (v := 2000) hx hb dX10_isDay_5 (by decide) ?_
    refine b_icmp_gt hx hb rfl zl_2000 (tgt := 15) dX10_isDay_8 (by decide) (fun c_2 => ?_) (fun c_2 => ?_)
    · refine lv_iconst (v := 0) hx hb dX10_isDay_15 (by decide) ?_
      exact hRet () [] (Or.inr (⟨rfl, (by omega)⟩)) hP hD (by decide) rfl hS rfl dX10_isDay_16
    · refine lv_iconst (v := 1) hx hb dX10_isDay_11 (by decide) ?_
      refine lv_goto (tgt := 16) hx hb dX10_isDay_12 (by decide) ?_
      exact hRet () [] (Or.inl ⟨rfl, (by omega), (by omega)⟩) hP hD (by decide) rfl hS rfl dX10_isDay_16
set_option maxHeartbeats 4000000 in
set_option maxRecDepth 100000 in
theorem c_X10_isUse (l : Launch) (D : va_G) (cI : ClassId) (sz : Nat) (a : Int32) : Met l yX10_isUse (gW yX10_isUse cX10_isUse 1 (some .boolean)) ({ frames := 0, cells := 0, slots := 0, locals := 0 } : Room) (kPre D cI [.int a] [] sz) (va_Qi (fun (r : Int32) (u : Unit) => (r = 1 ∧ 0 ≤ a.toInt ∧ a.toInt ≤ 2) ∨ (r = 0 ∧ (a.toInt < 0 ∨ 2 < a.toInt))) (fun u t => kWd D cI (va_A [] sz) [] t) (va_A [] sz)) 0 0 (va_A [] sz) := by
  refine kMetI (own := RX10) (by decide) rfl (by decide) ?_
  intro p e s m args below meth c hx hb hT hown hname hml A Q hK hP hD hS hA hN hRet ls hl
  have hl : lv_has ls 1 [(0, .int a)] := hl
  have lo_a := k_lo a
  have hi_a := k_hi a
  refine lv_iload_n hx hb dX10_isUse_0 rfl (lv_at hl 0 rfl) ?_
  refine b_if_lt hx hb rfl (tgt := 13) dX10_isUse_1 (by decide) (fun c_1 => ?_) (fun c_1 => ?_)
  · refine lv_iconst (v := 0) hx hb dX10_isUse_13 (by decide) ?_
    exact hRet () [] (Or.inr (⟨rfl, (by omega)⟩)) hP hD (by decide) rfl hS rfl dX10_isUse_14
  · refine lv_iload_n hx hb dX10_isUse_4 rfl (lv_at hl 0 rfl) ?_
    refine lv_iconst (v := 3) hx hb dX10_isUse_5 (by decide) ?_
    refine b_icmp_ge hx hb rfl zl_3 (tgt := 13) dX10_isUse_6 (by decide) (fun c_2 => ?_) (fun c_2 => ?_)
    · refine lv_iconst (v := 0) hx hb dX10_isUse_13 (by decide) ?_
      exact hRet () [] (Or.inr (⟨rfl, (by omega)⟩)) hP hD (by decide) rfl hS rfl dX10_isUse_14
    · refine lv_iconst (v := 1) hx hb dX10_isUse_9 (by decide) ?_
      refine lv_goto (tgt := 14) hx hb dX10_isUse_10 (by decide) ?_
      exact hRet () [] (Or.inl ⟨rfl, (by omega), (by omega)⟩) hP hD (by decide) rfl hS rfl dX10_isUse_14
set_option maxHeartbeats 4000000 in
set_option maxRecDepth 100000 in
theorem c_X10_isSheet (l : Launch) (D : va_G) (cI : ClassId) (sz : Nat) (a : Int32) : Met l yX10_isSheet (gW yX10_isSheet cX10_isSheet 1 (some .boolean)) ({ frames := 0, cells := 0, slots := 0, locals := 0 } : Room) (kPre D cI [.int a] [] sz) (va_Qi (fun (r : Int32) (u : Unit) => (r = 1 ∧ 0 ≤ a.toInt ∧ a.toInt ≤ 3) ∨ (r = 0 ∧ (a.toInt < 0 ∨ 3 < a.toInt))) (fun u t => kWd D cI (va_A [] sz) [] t) (va_A [] sz)) 0 0 (va_A [] sz) := by
  refine kMetI (own := RX10) (by decide) rfl (by decide) ?_
  intro p e s m args below meth c hx hb hT hown hname hml A Q hK hP hD hS hA hN hRet ls hl
  have hl : lv_has ls 1 [(0, .int a)] := hl
  have lo_a := k_lo a
  have hi_a := k_hi a
  refine lv_iload_n hx hb dX10_isSheet_0 rfl (lv_at hl 0 rfl) ?_
  refine b_if_lt hx hb rfl (tgt := 13) dX10_isSheet_1 (by decide) (fun c_1 => ?_) (fun c_1 => ?_)
  · refine lv_iconst (v := 0) hx hb dX10_isSheet_13 (by decide) ?_
    exact hRet () [] (Or.inr (⟨rfl, (by omega)⟩)) hP hD (by decide) rfl hS rfl dX10_isSheet_14
  · refine lv_iload_n hx hb dX10_isSheet_4 rfl (lv_at hl 0 rfl) ?_
    refine lv_iconst (v := 4) hx hb dX10_isSheet_5 (by decide) ?_
    refine b_icmp_ge hx hb rfl zl_4 (tgt := 13) dX10_isSheet_6 (by decide) (fun c_2 => ?_) (fun c_2 => ?_)
    · refine lv_iconst (v := 0) hx hb dX10_isSheet_13 (by decide) ?_
      exact hRet () [] (Or.inr (⟨rfl, (by omega)⟩)) hP hD (by decide) rfl hS rfl dX10_isSheet_14
    · refine lv_iconst (v := 1) hx hb dX10_isSheet_9 (by decide) ?_
      refine lv_goto (tgt := 14) hx hb dX10_isSheet_10 (by decide) ?_
      exact hRet () [] (Or.inl ⟨rfl, (by omega), (by omega)⟩) hP hD (by decide) rfl hS rfl dX10_isSheet_14
set_option maxHeartbeats 4000000 in
set_option maxRecDepth 100000 in
theorem c_X8_has (l : Launch) (D : va_G) (cI : ClassId) (h wk0 wk1 wk2 wk3 wk4 wk5 wk6 wk7 wk8 : Nat) (sz : Nat) (n : Int32) (w : Int32) : Met l yX8_has (gW yX8_has cX8_has 2 (some .boolean)) ({ frames := 0, cells := 0, slots := 0, locals := 0 } : Room) (kPre D cI [.ref h, .int w] [(h, .inr (8, [.ref wk0, .ref wk1, .ref wk2, .ref wk3, .ref wk4, .ref wk5, .ref wk6, .ref wk7, .ref wk8, .int n]))] sz) (va_Qi (fun (r : Int32) (u : Unit) => (r = 1 ∧ 0 ≤ w.toInt ∧ w.toInt < n.toInt ∧ w.toInt < 60) ∨ (r = 0 ∧ (w.toInt < 0 ∨ n.toInt ≤ w.toInt ∨ 60 ≤ w.toInt))) (fun u t => kWd D cI (va_A [(h, .inr (8, [.ref wk0, .ref wk1, .ref wk2, .ref wk3, .ref wk4, .ref wk5, .ref wk6, .ref wk7, .ref wk8, .int n]))] sz) [(h, .inr (8, [.ref wk0, .ref wk1, .ref wk2, .ref wk3, .ref wk4, .ref wk5, .ref wk6, .ref wk7, .ref wk8, .int n]))] t) (va_A [(h, .inr (8, [.ref wk0, .ref wk1, .ref wk2, .ref wk3, .ref wk4, .ref wk5, .ref wk6, .ref wk7, .ref wk8, .int n]))] sz)) 0 0 (va_A [(h, .inr (8, [.ref wk0, .ref wk1, .ref wk2, .ref wk3, .ref wk4, .ref wk5, .ref wk6, .ref wk7, .ref wk8, .int n]))] sz) := by
  refine kMetI (own := RX8) (by decide) rfl (by decide) ?_
  intro p e s m args below meth c hx hb hT hown hname hml A Q hK hP hD hS hA hN hRet ls hl
  have hl : lv_has ls 2 [(0, .ref h), (1, .int w)] := hl
  have lo_w := k_lo w
  have hi_w := k_hi w
  have lo_n := k_lo n
  have hi_n := k_hi n
  refine lv_iload_n hx hb dX8_has_0 rfl (lv_at hl 1 rfl) ?_
  refine b_if_lt hx hb rfl (tgt := 22) dX8_has_1 (by decide) (fun c_1 => ?_) (fun c_1 => ?_)
  · refine lv_iconst (v := 0) hx hb dX8_has_22 (by decide) ?_
    exact hRet () [0] (Or.inr (⟨rfl, (by omega)⟩)) hP hD (by decide) rfl hS rfl dX8_has_23
  · refine lv_iload_n hx hb dX8_has_4 rfl (lv_at hl 1 rfl) ?_
    refine lv_aload_n hx hb dX8_has_5 rfl (lv_at hl 0 rfl) ?_
    refine va_get (D := D) (ci := 8) (v := .int n) (C := RX8) (T := TX8) (N := 10) hx hb hT giX8 hown hK hP 0 rfl rfl 9 (by decide) (hT (Cond.fieldLink RX8 39 "DesertWire$Works" "number" "I") mw_49) (fun _ h9 => h9) rfl dX8_has_6 ?_
    refine b_icmp_ge hx hb rfl rfl (tgt := 22) dX8_has_9 (by decide) (fun c_2 => ?_) (fun c_2 => ?_)
    · refine lv_iconst (v := 0) hx hb dX8_has_22 (by decide) ?_
      exact hRet () [0] (Or.inr (⟨rfl, (by omega)⟩)) hP hD (by decide) rfl hS rfl dX8_has_23
    · refine lv_iload_n hx hb dX8_has_12 rfl (lv_at hl 1 rfl) ?_
      refine lv_bipush (v := 60) hx hb dX8_has_13 (by decide) ?_
      refine b_icmp_ge hx hb rfl zl_60 (tgt := 22) dX8_has_15 (by decide) (fun c_3 => ?_) (fun c_3 => ?_)
      · refine lv_iconst (v := 0) hx hb dX8_has_22 (by decide) ?_
        exact hRet () [0] (Or.inr (⟨rfl, (by omega)⟩)) hP hD (by decide) rfl hS rfl dX8_has_23
      · refine lv_iconst (v := 1) hx hb dX8_has_18 (by decide) ?_
        refine lv_goto (tgt := 23) hx hb dX8_has_19 (by decide) ?_
        exact hRet () [0] (Or.inl ⟨rfl, (by omega), (by omega), (by omega)⟩) hP hD (by decide) rfl hS rfl dX8_has_23
