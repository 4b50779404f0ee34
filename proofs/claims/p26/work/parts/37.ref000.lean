theorem bn_cX11_in_0 : BN cX11_in 0 0x568100a0154014100152074360d00a88381b := by
  unfold BN; decide +kernel
theorem dX11_in_0 : decode cX11_in 0 = .ok (.iload_n 0, 1) := dR0 (k := 0) (i := 0) bn_cX11_in_0 dop_26 (by decide +kernel)
theorem dX11_in_1 : decode cX11_in 1 = .ok (.iload_n 1, 1) := dR0 (k := 0) (i := 1) bn_cX11_in_0 dop_27 (by decide +kernel)
theorem dX11_in_2 : decode cX11_in 2 = .ok (.if_icmp .lt 12, 3) := dR2s (f := Instr.if_icmp .lt) (k := 0) (i := 2) bn_cX11_in_0 dop_161 12 12 (by decide +kernel)
theorem dX11_in_5 : decode cX11_in 5 = .ok (.iload_n 0, 1) := dR0 (k := 0) (i := 5) bn_cX11_in_0 dop_26 (by decide +kernel)
theorem dX11_in_6 : decode cX11_in 6 = .ok (.iload_n 2, 1) := dR0 (k := 0) (i := 6) bn_cX11_in_0 dop_28 (by decide +kernel)
theorem dX11_in_7 : decode cX11_in 7 = .ok (.if_icmp .gt 7, 3) := dR2s (f := Instr.if_icmp .gt) (k := 0) (i := 7) bn_cX11_in_0 dop_163 7 7 (by decide +kernel)
theorem dX11_in_10 : decode cX11_in 10 = .ok (.iconst 1, 1) := dR0 (k := 0) (i := 10) bn_cX11_in_0 dop_4 (by decide +kernel)
theorem dX11_in_11 : decode cX11_in 11 = .ok (.goto 4, 3) := dR2s (f := Instr.goto) (k := 0) (i := 11) bn_cX11_in_0 dop_167 4 4 (by decide +kernel)
theorem dX11_in_14 : decode cX11_in 14 = .ok (.iconst 0, 1) := dR0 (k := 0) (i := 14) bn_cX11_in_0 dop_3 (by decide +kernel)
theorem dX11_in_15 : decode cX11_in 15 = .ok (.ireturn, 1) := dR0 (k := 0) (i := 15) bn_cX11_in_0 dop_172 (by decide +kernel)
set_option maxHeartbeats 4000000 in
set_option maxRecDepth 100000 in
theorem c_X11_inG (l : Launch) (D : va_G) (cI : ClassId) (aK aV : Nat → Nat) (sz : Nat) (a0 : Int32) (a1 : Int32) (a2 : Int32) : Met l yX11_in (gW yX11_in cX11_in 3 (some .boolean)) ({ frames := 0, cells := 0, slots := 0, locals := 0 } : Room) (kPreX D cI aK aV [.int a0, .int a1, .int a2] [] sz) (va_Qi (fun (r : Int32) (u : Unit) => (r = 1 ∧ a1.toInt ≤ a0.toInt ∧ a0.toInt ≤ a2.toInt) ∨ (r = 0 ∧ (a0.toInt < a1.toInt ∨ a2.toInt < a0.toInt))) (fun u t => kWd D cI (va_A [] sz) [] t) (va_A [] sz)) 0 0 (va_A [] sz) := by
  refine kMetIX (own := RX11) (by decide +kernel) rfl (Nat.le_of_ble_eq_true rfl) ?_
  intro p e s m args below meth c hx hb hT hown hname hml A Q hK hP hD hS hA hN hXS hRet ls hl
  have hl : lv_has ls 3 [(0, .int a0), (1, .int a1), (2, .int a2)] := hl
  refine lv_iload_n hx hb dX11_in_0 rfl (lv_at hl 0 rfl) ?_
  refine lv_iload_n hx hb dX11_in_1 rfl (lv_at hl 1 rfl) ?_
  refine b_icmp_lt hx hb rfl rfl (tgt := 14) dX11_in_2 (by decide +kernel) (fun c_1 => ?_) (fun c_1 => ?_)
  · refine lv_iconst (v := 0) hx hb dX11_in_14 (by decide +kernel) ?_
    exact hRet () [] (Or.inr (⟨rfl, (by omega)⟩)) hP hD (by decide +kernel) rfl hS rfl dX11_in_15
  · refine lv_iload_n hx hb dX11_in_5 rfl (lv_at hl 0 rfl) ?_
    refine lv_iload_n hx hb dX11_in_6 rfl (lv_at hl 2 rfl) ?_
    refine b_icmp_gt hx hb rfl rfl (tgt := 14) dX11_in_7 (by decide +kernel) (fun c_2 => ?_) (fun c_2 => ?_)
    · refine lv_iconst (v := 0) hx hb dX11_in_14 (by decide +kernel) ?_
      exact hRet () [] (Or.inr (⟨rfl, (by omega)⟩)) hP hD (by decide +kernel) rfl hS rfl dX11_in_15
    · refine lv_iconst (v := 1) hx hb dX11_in_10 (by decide +kernel) ?_
      refine lv_goto (tgt := 15) hx hb dX11_in_11 (by decide +kernel) ?_
      exact hRet () [] (Or.inl ⟨rfl, (by omega), (by omega)⟩) hP hD (by decide +kernel) rfl hS rfl dX11_in_15
theorem bn_cX11_isMile_0 : BN cX11_isMile 0 0x568c002b914044081b := by
  unfold BN; decide +kernel
theorem dX11_isMile_0 : decode cX11_isMile 0 = .ok (.iload_n 0, 1) := dR0 (k := 0) (i := 0) bn_cX11_isMile_0 dop_26 (by decide +kernel)
theorem dX11_isMile_1 : decode cX11_isMile 1 = .ok (.iconst 0, 1) := dR0 (k := 0) (i := 1) bn_cX11_isMile_0 dop_3 (by decide +kernel)
theorem dX11_isMile_2 : decode cX11_isMile 2 = .ok (.bipush 39, 2) := dR1s (f := Instr.bipush) (k := 0) (i := 2) bn_cX11_isMile_0 dop_16 39 39 (by decide +kernel)
theorem dX11_isMile_4 : decode cX11_isMile 4 = .ok (.invokestatic 47, 3) := dR2 (f := Instr.invokestatic) (k := 0) (i := 4) bn_cX11_isMile_0 dop_184 47 (by decide +kernel)
theorem dX11_isMile_7 : decode cX11_isMile 7 = .ok (.ireturn, 1) := dR0 (k := 0) (i := 7) bn_cX11_isMile_0 dop_172 (by decide +kernel)
set_option maxHeartbeats 4000000 in
set_option maxRecDepth 100000 in
theorem c_X11_isMileG (l : Launch) (D : va_G) (cI : ClassId) (aK aV : Nat → Nat) (sz : Nat) (a0 : Int32) : Met l yX11_isMile (gW yX11_isMile cX11_isMile 1 (some .boolean)) ({ frames := 1, cells := 0, slots := 0, locals := 22 } : Room) (kPreX D cI aK aV [.int a0] [] sz) (va_Qi (fun (r : Int32) (u : Unit) => (r = 1 ∧ 0 ≤ a0.toInt ∧ a0.toInt ≤ 39) ∨ (r = 0 ∧ (a0.toInt < 0 ∨ 39 < a0.toInt))) (fun u t => kWd D cI (va_A [] sz) [] t) (va_A [] sz)) 0 0 (va_A [] sz) := by
  refine kMetIX (own := RX11) (by decide +kernel) rfl (Nat.le_of_ble_eq_true rfl) ?_
  intro p e s m args below meth c hx hb hT hown hname hml A Q hK hP hD hS hA hN hXS hRet ls hl
  have hl : lv_has ls 1 [(0, .int a0)] := hl
  have lo_a0 := k_lo a0
  have hi_a0 := k_hi a0
  refine lv_iload_n hx hb dX11_isMile_0 rfl (lv_at hl 0 rfl) ?_
  refine lv_iconst (v := 0) hx hb dX11_isMile_1 (by decide +kernel) ?_
  refine lv_bipush (v := 39) hx hb dX11_isMile_2 (by decide +kernel) ?_
  refine kJi (wr := []) (va_runS (As := [.int a0, .int 0, .int 39]) (rest := []) ⟨hx, hb, hml, hown, hT⟩ (c_X11_inG l D cI aK aV s.heap.size a0 0 39) (cwS 3 hT (gS_in mw_1238 mw_1236 mw_1237 mw_12) rfl rfl rfl (by decide +kernel) ⟨Nat.le_of_ble_eq_true rfl, Nat.le_of_ble_eq_true rfl⟩) (kStatX hK hP hD hN hXS hS hA [] rfl (by decide +kernel)) rfl rfl hl.1 rfl (lv_room (Nat.le_of_ble_eq_true rfl)) dX11_isMile_4 ⟨Nat.le_of_ble_eq_true rfl, Nat.le_of_ble_eq_true rfl⟩) hP hD hS hA [] [] rfl rfl (by decide +kernel) (by decide +kernel) ?_
  clear hP hD hS
  intro r_1 u_3 H locs w_2 hP hD hS
  replace hP : va_P D vwCl [] H := hP
  replace hD : va_D A [] := hD
  rcases w_2 with ⟨hr_1, h_4, h_5⟩ | ⟨hr_1, h_6⟩
  · try simp only [zl_0, zl_39] at h_4
    have h_4 : 0 ≤ a0.toInt := h_4
    try simp only [zl_0, zl_39] at h_5
    have h_5 : a0.toInt ≤ 39 := h_5
    obtain rfl : r_1 = 1 := hr_1.trans (by decide +kernel)
    exact hRet () [] (Or.inl ⟨rfl, (by omega), (by omega)⟩) hP hD (by decide +kernel) rfl hS rfl dX11_isMile_7
  · try simp only [zl_0, zl_39] at h_6
    have h_6 : a0.toInt < 0 ∨ 39 < a0.toInt := h_6
    obtain rfl : r_1 = 0 := hr_1.trans (by decide +kernel)
    exact hRet () [] (Or.inr (⟨rfl, (by omega)⟩)) hP hD (by decide +kernel) rfl hS rfl dX11_isMile_7
theorem bn_cX11_isDay_0 : BN cX11_isDay 0 0xad1800572d104048081b := by
  unfold BN; decide +kernel
theorem dX11_isDay_0 : decode cX11_isDay 0 = .ok (.iload_n 0, 1) := dR0 (k := 0) (i := 0) bn_cX11_isDay_0 dop_26 (by decide +kernel)
theorem dX11_isDay_1 : decode cX11_isDay 1 = .ok (.iconst 0, 1) := dR0 (k := 0) (i := 1) bn_cX11_isDay_0 dop_3 (by decide +kernel)
theorem dX11_isDay_2 : decode cX11_isDay 2 = .ok (.sipush 2000, 3) := dR2s (f := Instr.sipush) (k := 0) (i := 2) bn_cX11_isDay_0 dop_17 2000 2000 (by decide +kernel)
theorem dX11_isDay_5 : decode cX11_isDay 5 = .ok (.invokestatic 47, 3) := dR2 (f := Instr.invokestatic) (k := 0) (i := 5) bn_cX11_isDay_0 dop_184 47 (by decide +kernel)
theorem dX11_isDay_8 : decode cX11_isDay 8 = .ok (.ireturn, 1) := dR0 (k := 0) (i := 8) bn_cX11_isDay_0 dop_172 (by decide +kernel)
set_option maxHeartbeats 4000000 in
set_option maxRecDepth 100000 in
theorem c_X11_isDayG (l : Launch) (D : va_G) (cI : ClassId) (aK aV : Nat → Nat) (sz : Nat) (a0 : Int32) : Met l yX11_isDay (gW yX11_isDay cX11_isDay 1 (some .boolean)) ({ frames := 1, cells := 0, slots := 0, locals := 22 } : Room) (kPreX D cI aK aV [.int a0] [] sz) (va_Qi (fun (r : Int32) (u : Unit) => (r = 1 ∧ 0 ≤ a0.toInt ∧ a0.toInt ≤ 2000) ∨ (r = 0 ∧ (a0.toInt < 0 ∨ 2000 < a0.toInt))) (fun u t => kWd D cI (va_A [] sz) [] t) (va_A [] sz)) 0 0 (va_A [] sz) := by
  refine kMetIX (own := RX11) (by decide +kernel) rfl (Nat.le_of_ble_eq_true rfl) ?_
  intro p e s m args below meth c hx hb hT hown hname hml A Q hK hP hD hS hA hN hXS hRet ls hl
  have hl : lv_has ls 1 [(0, .int a0)] := hl
  have lo_a0 := k_lo a0
  have hi_a0 := k_hi a0
  refine lv_iload_n hx hb dX11_isDay_0 rfl (lv_at hl 0 rfl) ?_
  refine lv_iconst (v := 0) hx hb dX11_isDay_1 (by decide +kernel) ?_
  refine lv_sipush (v := 2000) hx hb dX11_isDay_2 (by decide +kernel) ?_
  refine kJi (wr := []) (va_runS (As := [.int a0, .int 0, .int 2000]) (rest := []) ⟨hx, hb, hml, hown, hT⟩ (c_X11_inG l D cI aK aV s.heap.size a0 0 2000) (cwS 3 hT (gS_in mw_1238 mw_1236 mw_1237 mw_12) rfl rfl rfl (by decide +kernel) ⟨Nat.le_of_ble_eq_true rfl, Nat.le_of_ble_eq_true rfl⟩) (kStatX hK hP hD hN hXS hS hA [] rfl (by decide +kernel)) rfl rfl hl.1 rfl (lv_room (Nat.le_of_ble_eq_true rfl)) dX11_isDay_5 ⟨Nat.le_of_ble_eq_true rfl, Nat.le_of_ble_eq_true rfl⟩) hP hD hS hA [] [] rfl rfl (by decide +kernel) (by decide +kernel) ?_
  clear hP hD hS
  intro r_1 u_3 H locs w_2 hP hD hS
  replace hP : va_P D vwCl [] H := hP
  replace hD : va_D A [] := hD
  rcases w_2 with ⟨hr_1, h_4, h_5⟩ | ⟨hr_1, h_6⟩
  · try simp only [zl_0, zl_2000] at h_4
    have h_4 : 0 ≤ a0.toInt := h_4
    try simp only [zl_0, zl_2000] at h_5
    have h_5 : a0.toInt ≤ 2000 := h_5
    obtain rfl : r_1 = 1 := hr_1.trans (by decide +kernel)
    exact hRet () [] (Or.inl ⟨rfl, (by omega), (by omega)⟩) hP hD (by decide +kernel) rfl hS rfl dX11_isDay_8
  · try simp only [zl_0, zl_2000] at h_6
    have h_6 : a0.toInt < 0 ∨ 2000 < a0.toInt := h_6
    obtain rfl : r_1 = 0 := hr_1.trans (by decide +kernel)
    exact hRet () [] (Or.inr (⟨rfl, (by omega)⟩)) hP hD (by decide +kernel) rfl hS rfl dX11_isDay_8
theorem bn_cX11_isUse_0 : BN cX11_isUse 0 0x2b460015c818081b := by
  unfold BN; decide +kernel
theorem dX11_isUse_0 : decode cX11_isUse 0 = .ok (.iload_n 0, 1) := dR0 (k := 0) (i := 0) bn_cX11_isUse_0 dop_26 (by decide +kernel)
theorem dX11_isUse_1 : decode cX11_isUse 1 = .ok (.iconst 0, 1) := dR0 (k := 0) (i := 1) bn_cX11_isUse_0 dop_3 (by decide +kernel)
theorem dX11_isUse_2 : decode cX11_isUse 2 = .ok (.iconst 2, 1) := dR0 (k := 0) (i := 2) bn_cX11_isUse_0 dop_5 (by decide +kernel)
theorem dX11_isUse_3 : decode cX11_isUse 3 = .ok (.invokestatic 47, 3) := dR2 (f := Instr.invokestatic) (k := 0) (i := 3) bn_cX11_isUse_0 dop_184 47 (by decide +kernel)
theorem dX11_isUse_6 : decode cX11_isUse 6 = .ok (.ireturn, 1) := dR0 (k := 0) (i := 6) bn_cX11_isUse_0 dop_172 (by decide +kernel)
set_option maxHeartbeats 4000000 in
set_option maxRecDepth 100000 in
theorem c_X11_isUseG (l : Launch) (D : va_G) (cI : ClassId) (aK aV : Nat → Nat) (sz : Nat) (a0 : Int32) : Met l yX11_isUse (gW yX11_isUse cX11_isUse 1 (some .boolean)) ({ frames := 1, cells := 0, slots := 0, locals := 22 } : Room) (kPreX D cI aK aV [.int a0] [] sz) (va_Qi (fun (r : Int32) (u : Unit) => (r = 1 ∧ 0 ≤ a0.toInt ∧ a0.toInt ≤ 2) ∨ (r = 0 ∧ (a0.toInt < 0 ∨ 2 < a0.toInt))) (fun u t => kWd D cI (va_A [] sz) [] t) (va_A [] sz)) 0 0 (va_A [] sz) := by
  refine kMetIX (own := RX11) (by decide +kernel) rfl (Nat.le_of_ble_eq_true rfl) ?_
  intro p e s m args below meth c hx hb hT hown hname hml A Q hK hP hD hS hA hN hXS hRet ls hl
  have hl : lv_has ls 1 [(0, .int a0)] := hl
  have lo_a0 := k_lo a0
  have hi_a0 := k_hi a0
  refine lv_iload_n hx hb dX11_isUse_0 rfl (lv_at hl 0 rfl) ?_
  refine lv_iconst (v := 0) hx hb dX11_isUse_1 (by decide +kernel) ?_
  refine lv_iconst (v := 2) hx hb dX11_isUse_2 (by decide +kernel) ?_
  refine kJi (wr := []) (va_runS (As := [.int a0, .int 0, .int 2]) (rest := []) ⟨hx, hb, hml, hown, hT⟩ (c_X11_inG l D cI aK aV s.heap.size a0 0 2) (cwS 3 hT (gS_in mw_1238 mw_1236 mw_1237 mw_12) rfl rfl rfl (by decide +kernel) ⟨Nat.le_of_ble_eq_true rfl, Nat.le_of_ble_eq_true rfl⟩) (kStatX hK hP hD hN hXS hS hA [] rfl (by decide +kernel)) rfl rfl hl.1 rfl (lv_room (Nat.le_of_ble_eq_true rfl)) dX11_isUse_3 ⟨Nat.le_of_ble_eq_true rfl, Nat.le_of_ble_eq_true rfl⟩) hP hD hS hA [] [] rfl rfl (by decide +kernel) (by decide +kernel) ?_
  clear hP hD hS
  intro r_1 u_3 H locs w_2 hP hD hS
  replace hP : va_P D vwCl [] H := hP
  replace hD : va_D A [] := hD
  rcases w_2 with ⟨hr_1, h_4, h_5⟩ | ⟨hr_1, h_6⟩
  · try simp only [zl_0, zl_2] at h_4
    have h_4 : 0 ≤ a0.toInt := h_4
    try simp only [zl_0, zl_2] at h_5
    have h_5 : a0.toInt ≤ 2 := h_5
    obtain rfl : r_1 = 1 := hr_1.trans (by decide +kernel)
    exact hRet () [] (Or.inl ⟨rfl, (by omega), (by omega)⟩) hP hD (by decide +kernel) rfl hS rfl dX11_isUse_6
  · try simp only [zl_0, zl_2] at h_6
    have h_6 : a0.toInt < 0 ∨ 2 < a0.toInt := h_6
    obtain rfl : r_1 = 0 := hr_1.trans (by decide +kernel)
    exact hRet () [] (Or.inr (⟨rfl, (by omega)⟩)) hP hD (by decide +kernel) rfl hS rfl dX11_isUse_6
theorem bn_cX11_isSheet_0 : BN cX11_isSheet 0 0x2b460015c81c081b := by
  unfold BN; decide +kernel
theorem dX11_isSheet_0 : decode cX11_isSheet 0 = .ok (.iload_n 0, 1) := dR0 (k := 0) (i := 0) bn_cX11_isSheet_0 dop_26 (by decide +kernel)
theorem dX11_isSheet_1 : decode cX11_isSheet 1 = .ok (.iconst 0, 1) := dR0 (k := 0) (i := 1) bn_cX11_isSheet_0 dop_3 (by decide +kernel)
theorem dX11_isSheet_2 : decode cX11_isSheet 2 = .ok (.iconst 3, 1) := dR0 (k := 0) (i := 2) bn_cX11_isSheet_0 dop_6 (by decide +kernel)
theorem dX11_isSheet_3 : decode cX11_isSheet 3 = .ok (.invokestatic 47, 3) := dR2 (f := Instr.invokestatic) (k := 0) (i := 3) bn_cX11_isSheet_0 dop_184 47 (by decide +kernel)
theorem dX11_isSheet_6 : decode cX11_isSheet 6 = .ok (.ireturn, 1) := dR0 (k := 0) (i := 6) bn_cX11_isSheet_0 dop_172 (by decide +kernel)
set_option maxHeartbeats 4000000 in
set_option maxRecDepth 100000 in
theorem c_X11_isSheetG (l : Launch) (D : va_G) (cI : ClassId) (aK aV : Nat → Nat) (sz : Nat) (a0 : Int32) : Met l yX11_isSheet (gW yX11_isSheet cX11_isSheet 1 (some .boolean)) ({ frames := 1, cells := 0, slots := 0, locals := 22 } : Room) (kPreX D cI aK aV [.int a0] [] sz) (va_Qi (fun (r : Int32) (u : Unit) => (r = 1 ∧ 0 ≤ a0.toInt ∧ a0.toInt ≤ 3) ∨ (r = 0 ∧ (a0.toInt < 0 ∨ 3 < a0.toInt))) (fun u t => kWd D cI (va_A [] sz) [] t) (va_A [] sz)) 0 0 (va_A [] sz) := by
  refine kMetIX (own := RX11) (by decide +kernel) rfl (Nat.le_of_ble_eq_true rfl) ?_
  intro p e s m args below meth c hx hb hT hown hname hml A Q hK hP hD hS hA hN hXS hRet ls hl
  have hl : lv_has ls 1 [(0, .int a0)] := hl
  have lo_a0 := k_lo a0
  have hi_a0 := k_hi a0
  refine lv_iload_n hx hb dX11_isSheet_0 rfl (lv_at hl 0 rfl) ?_
  refine lv_iconst (v := 0) hx hb dX11_isSheet_1 (by decide +kernel) ?_
  refine lv_iconst (v := 3) hx hb dX11_isSheet_2 (by decide +kernel) ?_
  refine kJi (wr := []) (va_runS (As := [.int a0, .int 0, .int 3]) (rest := []) ⟨hx, hb, hml, hown, hT⟩ (c_X11_inG l D cI aK aV s.heap.size a0 0 3) (cwS 3 hT (gS_in mw_1238 mw_1236 mw_1237 mw_12) rfl rfl rfl (by decide +kernel) ⟨Nat.le_of_ble_eq_true rfl, Nat.le_of_ble_eq_true rfl⟩) (kStatX hK hP hD hN hXS hS hA [] rfl (by decide +kernel)) rfl rfl hl.1 rfl (lv_room (Nat.le_of_ble_eq_true rfl)) dX11_isSheet_3 ⟨Nat.le_of_ble_eq_true rfl, Nat.le_of_ble_eq_true rfl⟩) hP hD hS hA [] [] rfl rfl (by decide +kernel) (by decide +kernel) ?_
  clear hP hD hS
  intro r_1 u_3 H locs w_2 hP hD hS
  replace hP : va_P D vwCl [] H := hP
  replace hD : va_D A [] := hD
  rcases w_2 with ⟨hr_1, h_4, h_5⟩ | ⟨hr_1, h_6⟩
  · try simp only [zl_0, zl_3] at h_4
    have h_4 : 0 ≤ a0.toInt := h_4
    try simp only [zl_0, zl_3] at h_5
    have h_5 : a0.toInt ≤ 3 := h_5
    obtain rfl : r_1 = 1 := hr_1.trans (by decide +kernel)
    exact hRet () [] (Or.inl ⟨rfl, (by omega), (by omega)⟩) hP hD (by decide +kernel) rfl hS rfl dX11_isSheet_6
  · try simp only [zl_0, zl_3] at h_6
    have h_6 : a0.toInt < 0 ∨ 3 < a0.toInt := h_6
    obtain rfl : r_1 = 0 := hr_1.trans (by decide +kernel)
    exact hRet () [] (Or.inr (⟨rfl, (by omega)⟩)) hP hD (by decide +kernel) rfl hS rfl dX11_isSheet_6
theorem bn_cX11_finding_0 : BN cX11_finding 0 0x2b43850308145e5d328705e130a0056a2b := by
  unfold BN; decide +kernel
theorem dX11_finding_0 : decode cX11_finding 0 = .ok (.aload_n 0, 1) := dR0 (k := 0) (i := 0) bn_cX11_finding_0 dop_42 (by decide +kernel)
theorem dX11_finding_1 : decode cX11_finding 1 = .ok (.getfield 19, 3) := dR2 (f := Instr.getfield) (k := 0) (i := 1) bn_cX11_finding_0 dop_180 19 (by decide +kernel)
theorem dX11_finding_4 : decode cX11_finding 4 = .ok (.ldc 46, 2) := dR1 (f := Instr.ldc) (k := 0) (i := 4) bn_cX11_finding_0 dop_18 46 (by decide +kernel)
theorem dX11_finding_6 : decode cX11_finding 6 = .ok (.iload_n 1, 1) := dR0 (k := 0) (i := 6) bn_cX11_finding_0 dop_27 (by decide +kernel)
theorem dX11_finding_7 : decode cX11_finding 7 = .ok (.isub, 1) := dR0 (k := 0) (i := 7) bn_cX11_finding_0 dop_100 (by decide +kernel)
theorem dX11_finding_8 : decode cX11_finding 8 = .ok (.dup2, 1) := dR0 (k := 0) (i := 8) bn_cX11_finding_0 dop_92 (by decide +kernel)
theorem dX11_finding_9 : decode cX11_finding 9 = .ok (.iaload, 1) := dR0 (k := 0) (i := 9) bn_cX11_finding_0 dop_46 (by decide +kernel)
theorem dX11_finding_10 : decode cX11_finding 10 = .ok (.iconst 1, 1) := dR0 (k := 0) (i := 10) bn_cX11_finding_0 dop_4 (by decide +kernel)
theorem dX11_finding_11 : decode cX11_finding 11 = .ok (.iadd, 1) := dR0 (k := 0) (i := 11) bn_cX11_finding_0 dop_96 (by decide +kernel)
theorem dX11_finding_12 : decode cX11_finding 12 = .ok (.iastore, 1) := dR0 (k := 0) (i := 12) bn_cX11_finding_0 dop_79 (by decide +kernel)
theorem dX11_finding_13 : decode cX11_finding 13 = .ok (.iload_n 1, 1) := dR0 (k := 0) (i := 13) bn_cX11_finding_0 dop_27 (by decide +kernel)
theorem dX11_finding_14 : decode cX11_finding 14 = .ok (.ireturn, 1) := dR0 (k := 0) (i := 14) bn_cX11_finding_0 dop_172 (by decide +kernel)
set_option maxHeartbeats 4000000 in
set_option maxRecDepth 100000 in
theorem c_X11_findingG (l : Launch) (D : va_G) (cI : ClassId) (aK aV : Nat → Nat) (k k0 k1 k2 k4 k5 k6 k7 k8 ka kb kl ko : Nat) (sz : Nat) (c3 : Int32) (c9 : Int32) (cc : Int32) (cd : Int32) (ce : Int32) (cf : Int32) (cg : Int32) (ch : Int32) (ci : Int32) (cj : Int32) (ck : Int32) (cm : Int32) (cn : Int32) (c4 : Nat → Int32) (a0 : Int32) (pre0 : -1000005 ≤ a0.toInt) (pre1 : a0.toInt ≤ -1000001) : Met l yX11_finding (gW yX11_finding cX11_finding 2 (some .int)) ({ frames := 0, cells := 0, slots := 0, locals := 0 } : Room) (kPreX D cI aK aV [.ref k, .int a0] [(k, .inr (11, [.ref k0, .ref k1, .ref k2, .int c3, .ref k4, .ref k5, .ref k6, .ref k7, .ref k8, .int c9, .ref ka, .ref kb, .int cc, .int cd, .int ce, .int cf, .int cg, .int ch, .int ci, .int cj, .int ck, .ref kl, .int cm, .int cn, .ref ko])), (k4, .inl (cI, 6, .inl c4))] sz) (va_Qi (fun (r : Int32) (u : (Nat → Int32)) => r = a0) (fun u t => kWd D cI (va_A [(k, .inr (11, [.ref k0, .ref k1, .ref k2, .int c3, .ref k4, .ref k5, .ref k6, .ref k7, .ref k8, .int c9, .ref ka, .ref kb, .int cc, .int cd, .int ce, .int cf, .int cg, .int ch, .int ci, .int cj, .int ck, .ref kl, .int cm, .int cn, .ref ko])), (k4, .inl (cI, 6, .inl c4))] sz) [(k, .inr (11, [.ref k0, .ref k1, .ref k2, .int c3, .ref k4, .ref k5, .ref k6, .ref k7, .ref k8, .int c9, .ref ka, .ref kb, .int cc, .int cd, .int ce, .int cf, .int cg, .int ch, .int ci, .int cj, .int ck, .ref kl, .int cm, .int cn, .ref ko])), (k4, .inl (cI, 6, .inl u))] t) (va_A [(k, .inr (11, [.ref k0, .ref k1, .ref k2, .int c3, .ref k4, .ref k5, .ref k6, .ref k7, .ref k8, .int c9, .ref ka, .ref kb, .int cc, .int cd, .int ce, .int cf, .int cg, .int ch, .int ci, .int cj, .int ck, .ref kl, .int cm, .int cn, .ref ko])), (k4, .inl (cI, 6, .inl c4))] sz)) 0 0 (va_A [(k, .inr (11, [.ref k0, .ref k1, .ref k2, .int c3, .ref k4, .ref k5, .ref k6, .ref k7, .ref k8, .int c9, .ref ka, .ref kb, .int cc, .int cd, .int ce, .int cf, .int cg, .int ch, .int ci, .int cj, .int ck, .ref kl, .int cm, .int cn, .ref ko])), (k4, .inl (cI, 6, .inl c4))] sz) := by
  refine kMetIX (own := RX11) (by decide +kernel) rfl (Nat.le_of_ble_eq_true rfl) ?_
  intro p e s m args below meth c hx hb hT hown hname hml A Q hK hP hD hS hA hN hXS hRet ls hl
  have hl : lv_has ls 2 [(0, .ref k), (1, .int a0)] := hl
  have lo_a0 := k_lo a0
  have hi_a0 := k_hi a0
  have lo_ci := k_lo ci
  have hi_ci := k_hi ci
  refine lv_aload_n hx hb dX11_finding_0 rfl (lv_at hl 0 rfl) ?_
  refine va_get (D := D) (ci := 11) (v := .ref k4) (C := RX11) (T := TX11) (N := 25) hx hb hT giX11 hown hK hP 0 rfl rfl 4 (by decide +kernel) (hT (Cond.fieldLink RX11 19 "DesertWireModel" "found" "[I") mw_1160) (fun _ h9 => h9) rfl dX11_finding_1 ?_
  refine lv_ldc (v := (-1000000)) hx hb hown (hT _ mw_1244) dX11_finding_4 ?_
  refine lv_iload_n hx hb dX11_finding_6 rfl (lv_at hl 1 rfl) ?_
  refine lv_isub hx hb dX11_finding_7 ?_
  refine lv_topi (fun v_1 ev_1 => ?_)
  have tv_1 : v_1.toInt = (-1000000) - a0.toInt := by rw [ev_1]; exact k_subv zl_m1000000 rfl (by omega) (by omega)
  refine lv_dup2_11 hx hb dX11_finding_8 rfl rfl ?_
  refine k_iald (v := (c4 v_1.toNatClampNeg)) hx hb hK hP 1 0 rfl rfl (k_in (by omega) (by omega)) rfl dX11_finding_9 ?_
  refine lv_topi (fun v_2 ev_2 => ?_)
  have lo_v_2 := k_lo v_2
  have hi_v_2 := k_hi v_2
  have tv_2 : v_2.toInt = (c4 v_1.toNatClampNeg).toInt := by rw [ev_2]
  refine lv_iconst (v := 1) hx hb dX11_finding_10 (by decide +kernel) ?_
  refine lv_iadd hx hb dX11_finding_11 ?_
  refine lv_topi (fun v_3 ev_3 => ?_)
  have lo_v_3 := k_lo v_3
  have hi_v_3 := k_hi v_3
  refine va_iast hx hb hK hP hD hS 1 0 rfl rfl (k_in (by omega) (by omega)) dX11_finding_12 ?_
  clear hP hD hS
  intro H locs hP hD hS
  replace hP : va_P D vwCl [(k, .inr (11, [.ref k0, .ref k1, .ref k2, .int c3, .ref k4, .ref k5, .ref k6, .ref k7, .ref k8, .int c9, .ref ka, .ref kb, .int cc, .int cd, .int ce, .int cf, .int cg, .int ch, .int ci, .int cj, .int ck, .ref kl, .int cm, .int cn, .ref ko])), (k4, .inl (cI, 6, .inl (upd c4 v_1.toNatClampNeg v_3)))] H := hP
  replace hD : va_D A [(k, .inr (11, [.ref k0, .ref k1, .ref k2, .int c3, .ref k4, .ref k5, .ref k6, .ref k7, .ref k8, .int c9, .ref ka, .ref kb, .int cc, .int cd, .int ce, .int cf, .int cg, .int ch, .int ci, .int cj, .int ck, .ref kl, .int cm, .int cn, .ref ko])), (k4, .inl (cI, 6, .inl (upd c4 v_1.toNatClampNeg v_3)))] := hD
  obtain ⟨f_4, ef_4⟩ : ∃ g : Nat → Int32, g = upd c4 v_1.toNatClampNeg v_3 := ⟨_, rfl⟩
  rw [← ef_4] at hP hD
  refine lv_iload_n hx hb dX11_finding_13 rfl (lv_at hl 1 rfl) ?_
  exact hRet f_4 [0, 1] rfl hP hD (by decide +kernel) rfl hS rfl dX11_finding_14
theorem bn_cX11_parent_0 : BN cX11_parent 0 0xad0201402a801820029b0d83402a80402002a10486c2c015401810015081c361f00aa00a0800a840c1b := by
  unfold BN; decide +kernel
theorem dX11_parent_0 : decode cX11_parent 0 = .ok (.iload_n 0, 1) := dR0 (k := 0) (i := 0) bn_cX11_parent_0 dop_26 (by decide +kernel)
theorem dX11_parent_1 : decode cX11_parent 1 = .ok (.iconst 2, 1) := dR0 (k := 0) (i := 1) bn_cX11_parent_0 dop_5 (by decide +kernel)
theorem dX11_parent_2 : decode cX11_parent 2 = .ok (.if_icmp .ne 7, 3) := dR2s (f := Instr.if_icmp .ne) (k := 0) (i := 2) bn_cX11_parent_0 dop_160 7 7 (by decide +kernel)
theorem dX11_parent_5 : decode cX11_parent 5 = .ok (.iconst 1, 1) := dR0 (k := 0) (i := 5) bn_cX11_parent_0 dop_4 (by decide +kernel)
theorem dX11_parent_6 : decode cX11_parent 6 = .ok (.goto 30, 3) := dR2s (f := Instr.goto) (k := 0) (i := 6) bn_cX11_parent_0 dop_167 30 30 (by decide +kernel)
theorem dX11_parent_9 : decode cX11_parent 9 = .ok (.iload_n 0, 1) := dR0 (k := 0) (i := 9) bn_cX11_parent_0 dop_26 (by decide +kernel)
theorem dX11_parent_10 : decode cX11_parent 10 = .ok (.iconst 3, 1) := dR0 (k := 0) (i := 10) bn_cX11_parent_0 dop_6 (by decide +kernel)
theorem dX11_parent_11 : decode cX11_parent 11 = .ok (.if_icmp .ne 7, 3) := dR2s (f := Instr.if_icmp .ne) (k := 0) (i := 11) bn_cX11_parent_0 dop_160 7 7 (by decide +kernel)
theorem dX11_parent_14 : decode cX11_parent 14 = .ok (.iconst 2, 1) := dR0 (k := 0) (i := 14) bn_cX11_parent_0 dop_5 (by decide +kernel)
theorem dX11_parent_15 : decode cX11_parent 15 = .ok (.goto 21, 3) := dR2s (f := Instr.goto) (k := 0) (i := 15) bn_cX11_parent_0 dop_167 21 21 (by decide +kernel)
theorem dX11_parent_18 : decode cX11_parent 18 = .ok (.iload_n 0, 1) := dR0 (k := 0) (i := 18) bn_cX11_parent_0 dop_26 (by decide +kernel)
theorem dX11_parent_19 : decode cX11_parent 19 = .ok (.iconst 5, 1) := dR0 (k := 0) (i := 19) bn_cX11_parent_0 dop_8 (by decide +kernel)
theorem dX11_parent_20 : decode cX11_parent 20 = .ok (.if_icmp .ne 7, 3) := dR2s (f := Instr.if_icmp .ne) (k := 0) (i := 20) bn_cX11_parent_0 dop_160 7 7 (by decide +kernel)
theorem dX11_parent_23 : decode cX11_parent 23 = .ok (.iconst 4, 1) := dR0 (k := 0) (i := 23) bn_cX11_parent_0 dop_7 (by decide +kernel)
theorem dX11_parent_24 : decode cX11_parent 24 = .ok (.goto 12, 3) := dR2s (f := Instr.goto) (k := 0) (i := 24) bn_cX11_parent_0 dop_167 12 12 (by decide +kernel)
theorem dX11_parent_27 : decode cX11_parent 27 = .ok (.iload_n 0, 1) := dR0 (k := 0) (i := 27) bn_cX11_parent_0 dop_26 (by decide +kernel)
theorem dX11_parent_28 : decode cX11_parent 28 = .ok (.ifCond .ne 7, 3) := dR2s (f := Instr.ifCond .ne) (k := 0) (i := 28) bn_cX11_parent_0 dop_154 7 7 (by decide +kernel)
theorem dX11_parent_31 : decode cX11_parent 31 = .ok (.iconst (-1), 1) := dR0 (k := 0) (i := 31) bn_cX11_parent_0 dop_2 (by decide +kernel)
theorem dX11_parent_32 : decode cX11_parent 32 = .ok (.goto 4, 3) := dR2s (f := Instr.goto) (k := 0) (i := 32) bn_cX11_parent_0 dop_167 4 4 (by decide +kernel)
theorem dX11_parent_35 : decode cX11_parent 35 = .ok (.iconst 0, 1) := dR0 (k := 0) (i := 35) bn_cX11_parent_0 dop_3 (by decide +kernel)
theorem dX11_parent_36 : decode cX11_parent 36 = .ok (.ireturn, 1) := dR0 (k := 0) (i := 36) bn_cX11_parent_0 dop_172 (by decide +kernel)
set_option maxHeartbeats 4000000 in
set_option maxRecDepth 100000 in
theorem c_X11_parentG (l : Launch) (D : va_G) (cI : ClassId) (aK aV : Nat → Nat) (sz : Nat) (a0 : Int32) (pre0 : 0 ≤ a0.toInt) (pre1 : a0.toInt ≤ 5) : Met l yX11_parent (gW yX11_parent cX11_parent 1 (some .int)) ({ frames := 0, cells := 0, slots := 0, locals := 0 } : Room) (kPreX D cI aK aV [.int a0] [] sz) (va_Qi (fun (r : Int32) (u : Unit) => (r = (-1) ∧ a0.toInt = 0) ∨ (r = 0 ∧ (a0.toInt = 1 ∨ a0.toInt = 4)) ∨ (r = 1 ∧ a0.toInt = 2) ∨ (r = 2 ∧ a0.toInt = 3) ∨ (r = 4 ∧ a0.toInt = 5)) (fun u t => kWd D cI (va_A [] sz) [] t) (va_A [] sz)) 0 0 (va_A [] sz) := by
  refine kMetIX (own := RX11) (by decide +kernel) rfl (Nat.le_of_ble_eq_true rfl) ?_
  intro p e s m args below meth c hx hb hT hown hname hml A Q hK hP hD hS hA hN hXS hRet ls hl
  have hl : lv_has ls 1 [(0, .int a0)] := hl
  refine lv_iload_n hx hb dX11_parent_0 rfl (lv_at hl 0 rfl) ?_
  refine lv_iconst (v := 2) hx hb dX11_parent_1 (by decide +kernel) ?_
  refine b_icmp_ne hx hb rfl zl_2 (tgt := 9) dX11_parent_2 (by decide +kernel) (fun c_1 => ?_) (fun c_1 => ?_)
  · refine lv_iload_n hx hb dX11_parent_9 rfl (lv_at hl 0 rfl) ?_
    refine lv_iconst (v := 3) hx hb dX11_parent_10 (by decide +kernel) ?_
    refine b_icmp_ne hx hb rfl zl_3 (tgt := 18) dX11_parent_11 (by decide +kernel) (fun c_2 => ?_) (fun c_2 => ?_)
    · refine lv_iload_n hx hb dX11_parent_18 rfl (lv_at hl 0 rfl) ?_
      refine lv_iconst (v := 5) hx hb dX11_parent_19 (by decide +kernel) ?_
      refine b_icmp_ne hx hb rfl zl_5 (tgt := 27) dX11_parent_20 (by decide +kernel) (fun c_3 => ?_) (fun c_3 => ?_)
      · refine lv_iload_n hx hb dX11_parent_27 rfl (lv_at hl 0 rfl) ?_
        refine b_if_ne hx hb rfl (tgt := 35) dX11_parent_28 (by decide +kernel) (fun c_4 => ?_) (fun c_4 => ?_)
        · refine lv_iconst (v := 0) hx hb dX11_parent_35 (by decide +kernel) ?_
          exact hRet () [] (Or.inr (Or.inl ⟨rfl, (by omega)⟩)) hP hD (by decide +kernel) rfl hS rfl dX11_parent_36
        · refine lv_iconst (v := (-1)) hx hb dX11_parent_31 (by decide +kernel) ?_
          refine lv_goto (tgt := 36) hx hb dX11_parent_32 (by decide +kernel) ?_
          exact hRet () [] (Or.inl ⟨rfl, (by omega)⟩) hP hD (by decide +kernel) rfl hS rfl dX11_parent_36
      · refine lv_iconst (v := 4) hx hb dX11_parent_23 (by decide +kernel) ?_
        refine lv_goto (tgt := 36) hx hb dX11_parent_24 (by decide +kernel) ?_
        exact hRet () [] (Or.inr (Or.inr (Or.inr (Or.inr (⟨rfl, (by omega)⟩))))) hP hD (by decide +kernel) rfl hS rfl dX11_parent_36
    · refine lv_iconst (v := 2) hx hb dX11_parent_14 (by decide +kernel) ?_
      refine lv_goto (tgt := 36) hx hb dX11_parent_15 (by decide +kernel) ?_
      exact hRet () [] (Or.inr (Or.inr (Or.inr (Or.inl ⟨rfl, (by omega)⟩)))) hP hD (by decide +kernel) rfl hS rfl dX11_parent_36
  · refine lv_iconst (v := 1) hx hb dX11_parent_5 (by decide +kernel) ?_
    refine lv_goto (tgt := 36) hx hb dX11_parent_6 (by decide +kernel) ?_
    exact hRet () [] (Or.inr (Or.inr (Or.inl ⟨rfl, (by omega)⟩))) hP hD (by decide +kernel) rfl hS rfl dX11_parent_36
theorem bn_cX11_isWork_0 : BN cX11_isWork 0 0x15a3000ae4ca051781414015a8ac081c := by
  unfold BN; decide +kernel
theorem dX11_isWork_0 : decode cX11_isWork 0 = .ok (.iload_n 1, 1) := dR0 (k := 0) (i := 0) bn_cX11_isWork_0 dop_27 (by decide +kernel)
theorem dX11_isWork_1 : decode cX11_isWork 1 = .ok (.iconst 0, 1) := dR0 (k := 0) (i := 1) bn_cX11_isWork_0 dop_3 (by decide +kernel)
theorem dX11_isWork_2 : decode cX11_isWork 2 = .ok (.aload_n 0, 1) := dR0 (k := 0) (i := 2) bn_cX11_isWork_0 dop_42 (by decide +kernel)
theorem dX11_isWork_3 : decode cX11_isWork 3 = .ok (.getfield 9, 3) := dR2 (f := Instr.getfield) (k := 0) (i := 3) bn_cX11_isWork_0 dop_180 9 (by decide +kernel)
theorem dX11_isWork_6 : decode cX11_isWork 6 = .ok (.iconst 1, 1) := dR0 (k := 0) (i := 6) bn_cX11_isWork_0 dop_4 (by decide +kernel)
theorem dX11_isWork_7 : decode cX11_isWork 7 = .ok (.iaload, 1) := dR0 (k := 0) (i := 7) bn_cX11_isWork_0 dop_46 (by decide +kernel)
theorem dX11_isWork_8 : decode cX11_isWork 8 = .ok (.iconst 1, 1) := dR0 (k := 0) (i := 8) bn_cX11_isWork_0 dop_4 (by decide +kernel)
theorem dX11_isWork_9 : decode cX11_isWork 9 = .ok (.isub, 1) := dR0 (k := 0) (i := 9) bn_cX11_isWork_0 dop_100 (by decide +kernel)
theorem dX11_isWork_10 : decode cX11_isWork 10 = .ok (.invokestatic 47, 3) := dR2 (f := Instr.invokestatic) (k := 0) (i := 10) bn_cX11_isWork_0 dop_184 47 (by decide +kernel)
theorem dX11_isWork_13 : decode cX11_isWork 13 = .ok (.ireturn, 1) := dR0 (k := 0) (i := 13) bn_cX11_isWork_0 dop_172 (by decide +kernel)
set_option maxHeartbeats 4000000 in
set_option maxRecDepth 100000 in
theorem c_X11_isWorkG (l : Launch) (D : va_G) (cI : ClassId) (aK aV : Nat → Nat) (k k0 k1 k2 k4 k5 k6 k7 k8 ka kb kl ko : Nat) (sz : Nat) (c3 : Int32) (c9 : Int32) (cc : Int32) (cd : Int32) (ce : Int32) (cf : Int32) (cg : Int32) (ch : Int32) (ci : Int32) (cj : Int32) (ck : Int32) (cm : Int32) (cn : Int32) (c0 : Nat → Int32) (a0 : Int32) (pre0 : SB c0) : Met l yX11_isWork (gW yX11_isWork cX11_isWork 2 (some .boolean)) ({ frames := 1, cells := 0, slots := 0, locals := 22 } : Room) (kPreX D cI aK aV [.ref k, .int a0] [(k, .inr (11, [.ref k0, .ref k1, .ref k2, .int c3, .ref k4, .ref k5, .ref k6, .ref k7, .ref k8, .int c9, .ref ka, .ref kb, .int cc, .int cd, .int ce, .int cf, .int cg, .int ch, .int ci, .int cj, .int ck, .ref kl, .int cm, .int cn, .ref ko])), (k0, .inl (cI, 1201, .inl c0))] sz) (va_Qi (fun (r : Int32) (u : Unit) => (r = 1 ∧ 0 ≤ a0.toInt ∧ a0.toInt < (c0 1).toInt) ∨ (r = 0 ∧ (a0.toInt < 0 ∨ (c0 1).toInt ≤ a0.toInt))) (fun u t => kWd D cI (va_A [(k, .inr (11, [.ref k0, .ref k1, .ref k2, .int c3, .ref k4, .ref k5, .ref k6, .ref k7, .ref k8, .int c9, .ref ka, .ref kb, .int cc, .int cd, .int ce, .int cf, .int cg, .int ch, .int ci, .int cj, .int ck, .ref kl, .int cm, .int cn, .ref ko])), (k0, .inl (cI, 1201, .inl c0))] sz) [(k, .inr (11, [.ref k0, .ref k1, .ref k2, .int c3, .ref k4, .ref k5, .ref k6, .ref k7, .ref k8, .int c9, .ref ka, .ref kb, .int cc, .int cd, .int ce, .int cf, .int cg, .int ch, .int ci, .int cj, .int ck, .ref kl, .int cm, .int cn, .ref ko])), (k0, .inl (cI, 1201, .inl c0))] t) (va_A [(k, .inr (11, [.ref k0, .ref k1, .ref k2, .int c3, .ref k4, .ref k5, .ref k6, .ref k7, .ref k8, .int c9, .ref ka, .ref kb, .int cc, .int cd, .int ce, .int cf, .int cg, .int ch, .int ci, .int cj, .int ck, .ref kl, .int cm, .int cn, .ref ko])), (k0, .inl (cI, 1201, .inl c0))] sz)) 0 0 (va_A [(k, .inr (11, [.ref k0, .ref k1, .ref k2, .int c3, .ref k4, .ref k5, .ref k6, .ref k7, .ref k8, .int c9, .ref ka, .ref kb, .int cc, .int cd, .int ce, .int cf, .int cg, .int ch, .int ci, .int cj, .int ck, .ref kl, .int cm, .int cn, .ref ko])), (k0, .inl (cI, 1201, .inl c0))] sz) := by
  refine kMetIX (own := RX11) (by decide +kernel) rfl (Nat.le_of_ble_eq_true rfl) ?_
  intro p e s m args below meth c hx hb hT hown hname hml A Q hK hP hD hS hA hN hXS hRet ls hl
  have hl : lv_has ls 2 [(0, .ref k), (1, .int a0)] := hl
  have lo_a0 := k_lo a0
  have hi_a0 := k_hi a0
  have lo_ci := k_lo ci
  have hi_ci := k_hi ci
  have pre0 : SB c0 := pre0
  have nb_1 : 0 ≤ (c0 0).toInt ∧ (c0 0).toInt ≤ 2000 := SB.n0 pre0
  have nb_2 : 0 ≤ (c0 1).toInt ∧ (c0 1).toInt ≤ 60 := SB.n1 pre0
  have nb_3 : 0 ≤ (c0 2).toInt ∧ (c0 2).toInt ≤ 4 := SB.n2 pre0
  refine lv_iload_n hx hb dX11_isWork_0 rfl (lv_at hl 1 rfl) ?_
  refine lv_iconst (v := 0) hx hb dX11_isWork_1 (by decide +kernel) ?_
  refine lv_aload_n hx hb dX11_isWork_2 rfl (lv_at hl 0 rfl) ?_
  refine va_get (D := D) (ci := 11) (v := .ref k0) (C := RX11) (T := TX11) (N := 25) hx hb hT giX11 hown hK hP 0 rfl rfl 0 (by decide +kernel) (hT (Cond.fieldLink RX11 9 "DesertWireModel" "s" "[I") mw_1156) (fun _ h9 => h9) rfl dX11_isWork_3 ?_
  refine lv_iconst (v := 1) hx hb dX11_isWork_6 (by decide +kernel) ?_
  refine k_iald (v := (c0 1)) hx hb hK hP 1 0 rfl rfl (k_inl (by decide +kernel)) rfl dX11_isWork_7 ?_
  refine lv_topi (fun v_4 ev_4 => ?_)
  have lo_v_4 := k_lo v_4
  have hi_v_4 := k_hi v_4
  have tv_4 : v_4.toInt = (c0 1).toInt := by rw [ev_4]
  have b_5 : 0 ≤ v_4.toInt ∧ v_4.toInt ≤ 60 := by first | (rw [tv_4]; exact SB.n1 pre0) | exact SB.n1 pre0 | omega
  refine lv_iconst (v := 1) hx hb dX11_isWork_8 (by decide +kernel) ?_
  refine lv_isub hx hb dX11_isWork_9 ?_
  refine lv_topi (fun v_6 ev_6 => ?_)
  have tv_6 : v_6.toInt = v_4.toInt - 1 := by rw [ev_6]; exact k_subv rfl zl_1 (by omega) (by omega)
  refine kJi (wr := [(k, .inr (11, [.ref k0, .ref k1, .ref k2, .int c3, .ref k4, .ref k5, .ref k6, .ref k7, .ref k8, .int c9, .ref ka, .ref kb, .int cc, .int cd, .int ce, .int cf, .int cg, .int ch, .int ci, .int cj, .int ck, .ref kl, .int cm, .int cn, .ref ko])), (k0, .inl (cI, 1201, .inl c0))]) (va_runS (As := [.int a0, .int 0, .int v_6]) (rest := []) ⟨hx, hb, hml, hown, hT⟩ (c_X11_inG l D cI aK aV s.heap.size a0 0 v_6) (cwS 3 hT (gS_in mw_1238 mw_1236 mw_1237 mw_12) rfl rfl rfl (by decide +kernel) ⟨Nat.le_of_ble_eq_true rfl, Nat.le_of_ble_eq_true rfl⟩) (kStatX hK hP hD hN hXS hS hA [] rfl (by decide +kernel)) rfl rfl hl.1 rfl (lv_room (Nat.le_of_ble_eq_true rfl)) dX11_isWork_10 ⟨Nat.le_of_ble_eq_true rfl, Nat.le_of_ble_eq_true rfl⟩) hP hD hS hA [] [0, 1] rfl rfl (by decide +kernel) (by decide +kernel) ?_
  clear hP hD hS
  intro r_7 u_9 H locs w_8 hP hD hS
  replace hP : va_P D vwCl [(k, .inr (11, [.ref k0, .ref k1, .ref k2, .int c3, .ref k4, .ref k5, .ref k6, .ref k7, .ref k8, .int c9, .ref ka, .ref kb, .int cc, .int cd, .int ce, .int cf, .int cg, .int ch, .int ci, .int cj, .int ck, .ref kl, .int cm, .int cn, .ref ko])), (k0, .inl (cI, 1201, .inl c0))] H := hP
  replace hD : va_D A [(k, .inr (11, [.ref k0, .ref k1, .ref k2, .int c3, .ref k4, .ref k5, .ref k6, .ref k7, .ref k8, .int c9, .ref ka, .ref kb, .int cc, .int cd, .int ce, .int cf, .int cg, .int ch, .int ci, .int cj, .int ck, .ref kl, .int cm, .int cn, .ref ko])), (k0, .inl (cI, 1201, .inl c0))] := hD
  rcases w_8 with ⟨hr_7, h_10, h_11⟩ | ⟨hr_7, h_12⟩
  · try simp only [zl_0] at h_10
    have h_10 : 0 ≤ a0.toInt := h_10
    try simp only [zl_0] at h_11
    have h_11 : a0.toInt ≤ v_6.toInt := h_11
    obtain rfl : r_7 = 1 := hr_7.trans (by decide +kernel)
    exact hRet () [0, 1] (Or.inl ⟨rfl, (by omega), (by omega)⟩) hP hD (by decide +kernel) rfl hS rfl dX11_isWork_13
  · try simp only [zl_0] at h_12
    have h_12 : a0.toInt < 0 ∨ v_6.toInt < a0.toInt := h_12
    obtain rfl : r_7 = 0 := hr_7.trans (by decide +kernel)
    exact hRet () [0, 1] (Or.inr (⟨rfl, (by omega)⟩)) hP hD (by decide +kernel) rfl hS rfl dX11_isWork_13
theorem bn_cX11_isParty_0 : BN cX11_isParty 0 0x15a3000ae4ca051781814015a8ac081c := by
  unfold BN; decide +kernel
theorem dX11_isParty_0 : decode cX11_isParty 0 = .ok (.iload_n 1, 1) := dR0 (k := 0) (i := 0) bn_cX11_isParty_0 dop_27 (by decide +kernel)
theorem dX11_isParty_1 : decode cX11_isParty 1 = .ok (.iconst 0, 1) := dR0 (k := 0) (i := 1) bn_cX11_isParty_0 dop_3 (by decide +kernel)
theorem dX11_isParty_2 : decode cX11_isParty 2 = .ok (.aload_n 0, 1) := dR0 (k := 0) (i := 2) bn_cX11_isParty_0 dop_42 (by decide +kernel)
theorem dX11_isParty_3 : decode cX11_isParty 3 = .ok (.getfield 9, 3) := dR2 (f := Instr.getfield) (k := 0) (i := 3) bn_cX11_isParty_0 dop_180 9 (by decide +kernel)
theorem dX11_isParty_6 : decode cX11_isParty 6 = .ok (.iconst 2, 1) := dR0 (k := 0) (i := 6) bn_cX11_isParty_0 dop_5 (by decide +kernel)
theorem dX11_isParty_7 : decode cX11_isParty 7 = .ok (.iaload, 1) := dR0 (k := 0) (i := 7) bn_cX11_isParty_0 dop_46 (by decide +kernel)
theorem dX11_isParty_8 : decode cX11_isParty 8 = .ok (.iconst 1, 1) := dR0 (k := 0) (i := 8) bn_cX11_isParty_0 dop_4 (by decide +kernel)
theorem dX11_isParty_9 : decode cX11_isParty 9 = .ok (.isub, 1) := dR0 (k := 0) (i := 9) bn_cX11_isParty_0 dop_100 (by decide +kernel)
theorem dX11_isParty_10 : decode cX11_isParty 10 = .ok (.invokestatic 47, 3) := dR2 (f := Instr.invokestatic) (k := 0) (i := 10) bn_cX11_isParty_0 dop_184 47 (by decide +kernel)
theorem dX11_isParty_13 : decode cX11_isParty 13 = .ok (.ireturn, 1) := dR0 (k := 0) (i := 13) bn_cX11_isParty_0 dop_172 (by decide +kernel)
set_option maxHeartbeats 4000000 in
set_option maxRecDepth 100000 in
theorem c_X11_isPartyG (l : Launch) (D : va_G) (cI : ClassId) (aK aV : Nat → Nat) (k k0 k1 k2 k4 k5 k6 k7 k8 ka kb kl ko : Nat) (sz : Nat) (c3 : Int32) (c9 : Int32) (cc : Int32) (cd : Int32) (ce : Int32) (cf : Int32) (cg : Int32) (ch : Int32) (ci : Int32) (cj : Int32) (ck : Int32) (cm : Int32) (cn : Int32) (c0 : Nat → Int32) (a0 : Int32) (pre0 : SB c0) : Met l yX11_isParty (gW yX11_isParty cX11_isParty 2 (some .boolean)) ({ frames := 1, cells := 0, slots := 0, locals := 22 } : Room) (kPreX D cI aK aV [.ref k, .int a0] [(k, .inr (11, [.ref k0, .ref k1, .ref k2, .int c3, .ref k4, .ref k5, .ref k6, .ref k7, .ref k8, .int c9, .ref ka, .ref kb, .int cc, .int cd, .int ce, .int cf, .int cg, .int ch, .int ci, .int cj, .int ck, .ref kl, .int cm, .int cn, .ref ko])), (k0, .inl (cI, 1201, .inl c0))] sz) (va_Qi (fun (r : Int32) (u : Unit) => (r = 1 ∧ 0 ≤ a0.toInt ∧ a0.toInt < (c0 2).toInt) ∨ (r = 0 ∧ (a0.toInt < 0 ∨ (c0 2).toInt ≤ a0.toInt))) (fun u t => kWd D cI (va_A [(k, .inr (11, [.ref k0, .ref k1, .ref k2, .int c3, .ref k4, .ref k5, .ref k6, .ref k7, .ref k8, .int c9, .ref ka, .ref kb, .int cc, .int cd, .int ce, .int cf, .int cg, .int ch, .int ci, .int cj, .int ck, .ref kl, .int cm, .int cn, .ref ko])), (k0, .inl (cI, 1201, .inl c0))] sz) [(k, .inr (11, [.ref k0, .ref k1, .ref k2, .int c3, .ref k4, .ref k5, .ref k6, .ref k7, .ref k8, .int c9, .ref ka, .ref kb, .int cc, .int cd, .int ce, .int cf, .int cg, .int ch, .int ci, .int cj, .int ck, .ref kl, .int cm, .int cn, .ref ko])), (k0, .inl (cI, 1201, .inl c0))] t) (va_A [(k, .inr (11, [.ref k0, .ref k1, .ref k2, .int c3, .ref k4, .ref k5, .ref k6, .ref k7, .ref k8, .int c9, .ref ka, .ref kb, .int cc, .int cd, .int ce, .int cf, .int cg, .int ch, .int ci, .int cj, .int ck, .ref kl, .int cm, .int cn, .ref ko])), (k0, .inl (cI, 1201, .inl c0))] sz)) 0 0 (va_A [(k, .inr (11, [.ref k0, .ref k1, .ref k2, .int c3, .ref k4, .ref k5, .ref k6, .ref k7, .ref k8, .int c9, .ref ka, .ref kb, .int cc, .int cd, .int ce, .int cf, .int cg, .int ch, .int ci, .int cj, .int ck, .ref kl, .int cm, .int cn, .ref ko])), (k0, .inl (cI, 1201, .inl c0))] sz) := by
  refine kMetIX (own := RX11) (by decide +kernel) rfl (Nat.le_of_ble_eq_true rfl) ?_
  intro p e s m args below meth c hx hb hT hown hname hml A Q hK hP hD hS hA hN hXS hRet ls hl
  have hl : lv_has ls 2 [(0, .ref k), (1, .int a0)] := hl
  have lo_a0 := k_lo a0
  have hi_a0 := k_hi a0
  have lo_ci := k_lo ci
  have hi_ci := k_hi ci
  have pre0 : SB c0 := pre0
  have nb_1 : 0 ≤ (c0 0).toInt ∧ (c0 0).toInt ≤ 2000 := SB.n0 pre0
  have nb_2 : 0 ≤ (c0 1).toInt ∧ (c0 1).toInt ≤ 60 := SB.n1 pre0
  have nb_3 : 0 ≤ (c0 2).toInt ∧ (c0 2).toInt ≤ 4 := SB.n2 pre0
  refine lv_iload_n hx hb dX11_isParty_0 rfl (lv_at hl 1 rfl) ?_
  refine lv_iconst (v := 0) hx hb dX11_isParty_1 (by decide +kernel) ?_
  refine lv_aload_n hx hb dX11_isParty_2 rfl (lv_at hl 0 rfl) ?_
  refine va_get (D := D) (ci := 11) (v := .ref k0) (C := RX11) (T := TX11) (N := 25) hx hb hT giX11 hown hK hP 0 rfl rfl 0 (by decide +kernel) (hT (Cond.fieldLink RX11 9 "DesertWireModel" "s" "[I") mw_1156) (fun _ h9 => h9) rfl dX11_isParty_3 ?_
  refine lv_iconst (v := 2) hx hb dX11_isParty_6 (by decide +kernel) ?_
  refine k_iald (v := (c0 2)) hx hb hK hP 1 0 rfl rfl (k_inl (by decide +kernel)) rfl dX11_isParty_7 ?_
  refine lv_topi (fun v_4 ev_4 => ?_)
  have lo_v_4 := k_lo v_4
  have hi_v_4 := k_hi v_4
  have tv_4 : v_4.toInt = (c0 2).toInt := by rw [ev_4]
  have b_5 : 0 ≤ v_4.toInt ∧ v_4.toInt ≤ 4 := by first | (rw [tv_4]; exact SB.n2 pre0) | exact SB.n2 pre0 | omega
  refine lv_iconst (v := 1) hx hb dX11_isParty_8 (by decide +kernel) ?_
  refine lv_isub hx hb dX11_isParty_9 ?_
  refine lv_topi (fun v_6 ev_6 => ?_)
  have tv_6 : v_6.toInt = v_4.toInt - 1 := by rw [ev_6]; exact k_subv rfl zl_1 (by omega) (by omega)
  refine kJi (wr := [(k, .inr (11, [.ref k0, .ref k1, .ref k2, .int c3, .ref k4, .ref k5, .ref k6, .ref k7, .ref k8, .int c9, .ref ka, .ref kb, .int cc, .int cd, .int ce, .int cf, .int cg, .int ch, .int ci, .int cj, .int ck, .ref kl, .int cm, .int cn, .ref ko])), (k0, .inl (cI, 1201, .inl c0))]) (va_runS (As := [.int a0, .int 0, .int v_6]) (rest := []) ⟨hx, hb, hml, hown, hT⟩ (c_X11_inG l D cI aK aV s.heap.size a0 0 v_6) (cwS 3 hT (gS_in mw_1238 mw_1236 mw_1237 mw_12) rfl rfl rfl (by decide +kernel) ⟨Nat.le_of_ble_eq_true rfl, Nat.le_of_ble_eq_true rfl⟩) (kStatX hK hP hD hN hXS hS hA [] rfl (by decide +kernel)) rfl rfl hl.1 rfl (lv_room (Nat.le_of_ble_eq_true rfl)) dX11_isParty_10 ⟨Nat.le_of_ble_eq_true rfl, Nat.le_of_ble_eq_true rfl⟩) hP hD hS hA [] [0, 1] rfl rfl (by decide +kernel) (by decide +kernel) ?_
  clear hP hD hS
  intro r_7 u_9 H locs w_8 hP hD hS
  replace hP : va_P D vwCl [(k, .inr (11, [.ref k0, .ref k1, .ref k2, .int c3, .ref k4, .ref k5, .ref k6, .ref k7, .ref k8, .int c9, .ref ka, .ref kb, .int cc, .int cd, .int ce, .int cf, .int cg, .int ch, .int ci, .int cj, .int ck, .ref kl, .int cm, .int cn, .ref ko])), (k0, .inl (cI, 1201, .inl c0))] H := hP
  replace hD : va_D A [(k, .inr (11, [.ref k0, .ref k1, .ref k2, .int c3, .ref k4, .ref k5, .ref k6, .ref k7, .ref k8, .int c9, .ref ka, .ref kb, .int cc, .int cd, .int ce, .int cf, .int cg, .int ch, .int ci, .int cj, .int ck, .ref kl, .int cm, .int cn, .ref ko])), (k0, .inl (cI, 1201, .inl c0))] := hD
  rcases w_8 with ⟨hr_7, h_10, h_11⟩ | ⟨hr_7, h_12⟩
  · try simp only [zl_0] at h_10
    have h_10 : 0 ≤ a0.toInt := h_10
    try simp only [zl_0] at h_11
    have h_11 : a0.toInt ≤ v_6.toInt := h_11
    obtain rfl : r_7 = 1 := hr_7.trans (by decide +kernel)
    exact hRet () [0, 1] (Or.inl ⟨rfl, (by omega), (by omega)⟩) hP hD (by decide +kernel) rfl hS rfl dX11_isParty_13
  · try simp only [zl_0] at h_12
    have h_12 : a0.toInt < 0 ∨ v_6.toInt < a0.toInt := h_12
    obtain rfl : r_7 = 0 := hr_7.trans (by decide +kernel)
    exact hRet () [0, 1] (Or.inr (⟨rfl, (by omega)⟩)) hP hD (by decide +kernel) rfl hS rfl dX11_isParty_13
theorem bn_cX11_work_0 : BN cX11_work 0 0x2b45e610e984d21c03844c811050056a2b := by
  unfold BN; decide +kernel
theorem dX11_work_0 : decode cX11_work 0 = .ok (.aload_n 0, 1) := dR0 (k := 0) (i := 0) bn_cX11_work_0 dop_42 (by decide +kernel)
theorem dX11_work_1 : decode cX11_work 1 = .ok (.getfield 9, 3) := dR2 (f := Instr.getfield) (k := 0) (i := 1) bn_cX11_work_0 dop_180 9 (by decide +kernel)
theorem dX11_work_4 : decode cX11_work 4 = .ok (.bipush 99, 2) := dR1s (f := Instr.bipush) (k := 0) (i := 4) bn_cX11_work_0 dop_16 99 99 (by decide +kernel)
theorem dX11_work_6 : decode cX11_work 6 = .ok (.bipush 6, 2) := dR1s (f := Instr.bipush) (k := 0) (i := 6) bn_cX11_work_0 dop_16 6 6 (by decide +kernel)
theorem dX11_work_8 : decode cX11_work 8 = .ok (.iload_n 1, 1) := dR0 (k := 0) (i := 8) bn_cX11_work_0 dop_27 (by decide +kernel)
theorem dX11_work_9 : decode cX11_work 9 = .ok (.imul, 1) := dR0 (k := 0) (i := 9) bn_cX11_work_0 dop_104 (by decide +kernel)
theorem dX11_work_10 : decode cX11_work 10 = .ok (.iadd, 1) := dR0 (k := 0) (i := 10) bn_cX11_work_0 dop_96 (by decide +kernel)
theorem dX11_work_11 : decode cX11_work 11 = .ok (.iload_n 2, 1) := dR0 (k := 0) (i := 11) bn_cX11_work_0 dop_28 (by decide +kernel)
theorem dX11_work_12 : decode cX11_work 12 = .ok (.iadd, 1) := dR0 (k := 0) (i := 12) bn_cX11_work_0 dop_96 (by decide +kernel)
theorem dX11_work_13 : decode cX11_work 13 = .ok (.iaload, 1) := dR0 (k := 0) (i := 13) bn_cX11_work_0 dop_46 (by decide +kernel)
theorem dX11_work_14 : decode cX11_work 14 = .ok (.ireturn, 1) := dR0 (k := 0) (i := 14) bn_cX11_work_0 dop_172 (by decide +kernel)
set_option maxHeartbeats 4000000 in
set_option maxRecDepth 100000 in
theorem c_X11_workG0 (l : Launch) (D : va_G) (cI : ClassId) (aK aV : Nat → Nat) (k k0 k1 k2 k4 k5 k6 k7 k8 ka kb kl ko : Nat) (sz : Nat) (c3 : Int32) (c9 : Int32) (cc : Int32) (cd : Int32) (ce : Int32) (cf : Int32) (cg : Int32) (ch : Int32) (ci : Int32) (cj : Int32) (ck : Int32) (cm : Int32) (cn : Int32) (c0 : Nat → Int32) (a0 : Int32) (a1 : Int32) (pre0 : 0 ≤ a0.toInt) (pre1 : a0.toInt ≤ 59) (pre2 : a1 = 0) : Met l yX11_work (gW yX11_work cX11_work 3 (some .int)) ({ frames := 0, cells := 0, slots := 0, locals := 0 } : Room) (kPreX D cI aK aV [.ref k, .int a0, .int 0] [(k, .inr (11, [.ref k0, .ref k1, .ref k2, .int c3, .ref k4, .ref k5, .ref k6, .ref k7, .ref k8, .int c9, .ref ka, .ref kb, .int cc, .int cd, .int ce, .int cf, .int cg, .int ch, .int ci, .int cj, .int ck, .ref kl, .int cm, .int cn, .ref ko])), (k0, .inl (cI, 1201, .inl c0))] sz) (va_Qi (fun (r : Int32) (u : Unit) => r = wW c0 a0 0) (fun u t => kWd D cI (va_A [(k, .inr (11, [.ref k0, .ref k1, .ref k2, .int c3, .ref k4, .ref k5, .ref k6, .ref k7, .ref k8, .int c9, .ref ka, .ref kb, .int cc, .int cd, .int ce, .int cf, .int cg, .int ch, .int ci, .int cj, .int ck, .ref kl, .int cm, .int cn, .ref ko])), (k0, .inl (cI, 1201, .inl c0))] sz) [(k, .inr (11, [.ref k0, .ref k1, .ref k2, .int c3, .ref k4, .ref k5, .ref k6, .ref k7, .ref k8, .int c9, .ref ka, .ref kb, .int cc, .int cd, .int ce, .int cf, .int cg, .int ch, .int ci, .int cj, .int ck, .ref kl, .int cm, .int cn, .ref ko])), (k0, .inl (cI, 1201, .inl c0))] t) (va_A [(k, .inr (11, [.ref k0, .ref k1, .ref k2, .int c3, .ref k4, .ref k5, .ref k6, .ref k7, .ref k8, .int c9, .ref ka, .ref kb, .int cc, .int cd, .int ce, .int cf, .int cg, .int ch, .int ci, .int cj, .int ck, .ref kl, .int cm, .int cn, .ref ko])), (k0, .inl (cI, 1201, .inl c0))] sz)) 0 0 (va_A [(k, .inr (11, [.ref k0, .ref k1, .ref k2, .int c3, .ref k4, .ref k5, .ref k6, .ref k7, .ref k8, .int c9, .ref ka, .ref kb, .int cc, .int cd, .int ce, .int cf, .int cg, .int ch, .int ci, .int cj, .int ck, .ref kl, .int cm, .int cn, .ref ko])), (k0, .inl (cI, 1201, .inl c0))] sz) := by
  refine kMetIX (own := RX11) (by decide +kernel) rfl (Nat.le_of_ble_eq_true rfl) ?_
  intro p e s m args below meth c hx hb hT hown hname hml A Q hK hP hD hS hA hN hXS hRet ls hl
  subst pre2
  have hl : lv_has ls 3 [(0, .ref k), (1, .int a0), (2, .int 0)] := hl
  have lo_a0 := k_lo a0
  have hi_a0 := k_hi a0
  have lo_ci := k_lo ci
  have hi_ci := k_hi ci
  refine lv_aload_n hx hb dX11_work_0 rfl (lv_at hl 0 rfl) ?_
  refine va_get (D := D) (ci := 11) (v := .ref k0) (C := RX11) (T := TX11) (N := 25) hx hb hT giX11 hown hK hP 0 rfl rfl 0 (by decide +kernel) (hT (Cond.fieldLink RX11 9 "DesertWireModel" "s" "[I") mw_1156) (fun _ h9 => h9) rfl dX11_work_1 ?_
  refine lv_bipush (v := 99) hx hb dX11_work_4 (by decide +kernel) ?_
  refine lv_bipush (v := 6) hx hb dX11_work_6 (by decide +kernel) ?_
  refine lv_iload_n hx hb dX11_work_8 rfl (lv_at hl 1 rfl) ?_
  refine lv_imul hx hb dX11_work_9 ?_
  refine lv_topi (fun v_1 ev_1 => ?_)
  have tv_1 : v_1.toInt = 6 * a0.toInt := by rw [ev_1]; exact k_mulv zl_6 rfl (by omega) (by omega)
  refine lv_iadd hx hb dX11_work_10 ?_
  refine lv_topi (fun v_2 ev_2 => ?_)
  have tv_2 : v_2.toInt = 99 + v_1.toInt := by rw [ev_2]; exact k_addv zl_99 rfl (by omega) (by omega)
  refine lv_iload_n hx hb dX11_work_11 rfl (lv_at hl 2 rfl) ?_
  refine lv_iadd hx hb dX11_work_12 ?_
  refine lv_topi (fun v_3 ev_3 => ?_)
  have tv_3 : v_3.toInt = v_2.toInt + 0 := by rw [ev_3]; exact k_addv rfl zl_0 (by omega) (by omega)
  refine k_iald (v := (c0 v_3.toNatClampNeg)) hx hb hK hP 1 0 rfl rfl (k_in (by omega) (by omega)) rfl dX11_work_13 ?_
  refine lv_topi (fun v_4 ev_4 => ?_)
  have lo_v_4 := k_lo v_4
  have hi_v_4 := k_hi v_4
  have tv_4 : v_4.toInt = (c0 v_3.toNatClampNeg).toInt := by rw [ev_4]
  exact hRet () [0, 1] (wW_in ev_4 (by omega) (by omega)) hP hD (by decide +kernel) rfl hS rfl dX11_work_14

set_option maxHeartbeats 4000000 in
set_option maxRecDepth 100000 in
theorem c_X11_workG1 (l : Launch) (D : va_G) (cI : ClassId) (aK aV : Nat → Nat) (k k0 k1 k2 k4 k5 k6 k7 k8 ka kb kl ko : Nat) (sz : Nat) (c3 : Int32) (c9 : Int32) (cc : Int32) (cd : Int32) (ce : Int32) (cf : Int32) (cg : Int32) (ch : Int32) (ci : Int32) (cj : Int32) (ck : Int32) (cm : Int32) (cn : Int32) (c0 : Nat → Int32) (a0 : Int32) (a1 : Int32) (pre0 : 0 ≤ a0.toInt) (pre1 : a0.toInt ≤ 59) (pre2 : a1 = 1) : Met l yX11_work (gW yX11_work cX11_work 3 (some .int)) ({ frames := 0, cells := 0, slots := 0, locals := 0 } : Room) (kPreX D cI aK aV [.ref k, .int a0, .int 1] [(k, .inr (11, [.ref k0, .ref k1, .ref k2, .int c3, .ref k4, .ref k5, .ref k6, .ref k7, .ref k8, .int c9, .ref ka, .ref kb, .int cc, .int cd, .int ce, .int cf, .int cg, .int ch, .int ci, .int cj, .int ck, .ref kl, .int cm, .int cn, .ref ko])), (k0, .inl (cI, 1201, .inl c0))] sz) (va_Qi (fun (r : Int32) (u : Unit) => r = wW c0 a0 1) (fun u t => kWd D cI (va_A [(k, .inr (11, [.ref k0, .ref k1, .ref k2, .int c3, .ref k4, .ref k5, .ref k6, .ref k7, .ref k8, .int c9, .ref ka, .ref kb, .int cc, .int cd, .int ce, .int cf, .int cg, .int ch, .int ci, .int cj, .int ck, .ref kl, .int cm, .int cn, .ref ko])), (k0, .inl (cI, 1201, .inl c0))] sz) [(k, .inr (11, [.ref k0, .ref k1, .ref k2, .int c3, .ref k4, .ref k5, .ref k6, .ref k7, .ref k8, .int c9, .ref ka, .ref kb, .int cc, .int cd, .int ce, .int cf, .int cg, .int ch, .int ci, .int cj, .int ck, .ref kl, .int cm, .int cn, .ref ko])), (k0, .inl (cI, 1201, .inl c0))] t) (va_A [(k, .inr (11, [.ref k0, .ref k1, .ref k2, .int c3, .ref k4, .ref k5, .ref k6, .ref k7, .ref k8, .int c9, .ref ka, .ref kb, .int cc, .int cd, .int ce, .int cf, .int cg, .int ch, .int ci, .int cj, .int ck, .ref kl, .int cm, .int cn, .ref ko])), (k0, .inl (cI, 1201, .inl c0))] sz)) 0 0 (va_A [(k, .inr (11, [.ref k0, .ref k1, .ref k2, .int c3, .ref k4, .ref k5, .ref k6, .ref k7, .ref k8, .int c9, .ref ka, .ref kb, .int cc, .int cd, .int ce, .int cf, .int cg, .int ch, .int ci, .int cj, .int ck, .ref kl, .int cm, .int cn, .ref ko])), (k0, .inl (cI, 1201, .inl c0))] sz) := by
  refine kMetIX (own := RX11) (by decide +kernel) rfl (Nat.le_of_ble_eq_true rfl) ?_
  intro p e s m args below meth c hx hb hT hown hname hml A Q hK hP hD hS hA hN hXS hRet ls hl
  subst pre2
  have hl : lv_has ls 3 [(0, .ref k), (1, .int a0), (2, .int 1)] := hl
  have lo_a0 := k_lo a0
  have hi_a0 := k_hi a0
  have lo_ci := k_lo ci
  have hi_ci := k_hi ci
  refine lv_aload_n hx hb dX11_work_0 rfl (lv_at hl 0 rfl) ?_
  refine va_get (D := D) (ci := 11) (v := .ref k0) (C := RX11) (T := TX11) (N := 25) hx hb hT giX11 hown hK hP 0 rfl rfl 0 (by decide +kernel) (hT (Cond.fieldLink RX11 9 "DesertWireModel" "s" "[I") mw_1156) (fun _ h9 => h9) rfl dX11_work_1 ?_
  refine lv_bipush (v := 99) hx hb dX11_work_4 (by decide +kernel) ?_
  refine lv_bipush (v := 6) hx hb dX11_work_6 (by decide +kernel) ?_
  refine lv_iload_n hx hb dX11_work_8 rfl (lv_at hl 1 rfl) ?_
  refine lv_imul hx hb dX11_work_9 ?_
  refine lv_topi (fun v_1 ev_1 => ?_)
  have tv_1 : v_1.toInt = 6 * a0.toInt := by rw [ev_1]; exact k_mulv zl_6 rfl (by omega) (by omega)
  refine lv_iadd hx hb dX11_work_10 ?_
  refine lv_topi (fun v_2 ev_2 => ?_)
  have tv_2 : v_2.toInt = 99 + v_1.toInt := by rw [ev_2]; exact k_addv zl_99 rfl (by omega) (by omega)
  refine lv_iload_n hx hb dX11_work_11 rfl (lv_at hl 2 rfl) ?_
  refine lv_iadd hx hb dX11_work_12 ?_
  refine lv_topi (fun v_3 ev_3 => ?_)
  have tv_3 : v_3.toInt = v_2.toInt + 1 := by rw [ev_3]; exact k_addv rfl zl_1 (by omega) (by omega)
  refine k_iald (v := (c0 v_3.toNatClampNeg)) hx hb hK hP 1 0 rfl rfl (k_in (by omega) (by omega)) rfl dX11_work_13 ?_
  refine lv_topi (fun v_4 ev_4 => ?_)
  have lo_v_4 := k_lo v_4
  have hi_v_4 := k_hi v_4
  have tv_4 : v_4.toInt = (c0 v_3.toNatClampNeg).toInt := by rw [ev_4]
  exact hRet () [0, 1] (wW_in ev_4 (by omega) (by omega)) hP hD (by decide +kernel) rfl hS rfl dX11_work_14

set_option maxHeartbeats 4000000 in
set_option maxRecDepth 100000 in
theorem c_X11_workG2 (l : Launch) (D : va_G) (cI : ClassId) (aK aV : Nat → Nat) (k k0 k1 k2 k4 k5 k6 k7 k8 ka kb kl ko : Nat) (sz : Nat) (c3 : Int32) (c9 : Int32) (cc : Int32) (cd : Int32) (ce : Int32) (cf : Int32) (cg : Int32) (ch : Int32) (ci : Int32) (cj : Int32) (ck : Int32) (cm : Int32) (cn : Int32) (c0 : Nat → Int32) (a0 : Int32) (a1 : Int32) (pre0 : 0 ≤ a0.toInt) (pre1 : a0.toInt ≤ 59) (pre2 : a1 = 2) : Met l yX11_work (gW yX11_work cX11_work 3 (some .int)) ({ frames := 0, cells := 0, slots := 0, locals := 0 } : Room) (kPreX D cI aK aV [.ref k, .int a0, .int 2] [(k, .inr (11, [.ref k0, .ref k1, .ref k2, .int c3, .ref k4, .ref k5, .ref k6, .ref k7, .ref k8, .int c9, .ref ka, .ref kb, .int cc, .int cd, .int ce, .int cf, .int cg, .int ch, .int ci, .int cj, .int ck, .ref kl, .int cm, .int cn, .ref ko])), (k0, .inl (cI, 1201, .inl c0))] sz) (va_Qi (fun (r : Int32) (u : Unit) => r = wW c0 a0 2) (fun u t => kWd D cI (va_A [(k, .inr (11, [.ref k0, .ref k1, .ref k2, .int c3, .ref k4, .ref k5, .ref k6, .ref k7, .ref k8, .int c9, .ref ka, .ref kb, .int cc, .int cd, .int ce, .int cf, .int cg, .int ch, .int ci, .int cj, .int ck, .ref kl, .int cm, .int cn, .ref ko])), (k0, .inl (cI, 1201, .inl c0))] sz) [(k, .inr (11, [.ref k0, .ref k1, .ref k2, .int c3, .ref k4, .ref k5, .ref k6, .ref k7, .ref k8, .int c9, .ref ka, .ref kb, .int cc, .int cd, .int ce, .int cf, .int cg, .int ch, .int ci, .int cj, .int ck, .ref kl, .int cm, .int cn, .ref ko])), (k0, .inl (cI, 1201, .inl c0))] t) (va_A [(k, .inr (11, [.ref k0, .ref k1, .ref k2, .int c3, .ref k4, .ref k5, .ref k6, .ref k7, .ref k8, .int c9, .ref ka, .ref kb, .int cc, .int cd, .int ce, .int cf, .int cg, .int ch, .int ci, .int cj, .int ck, .ref kl, .int cm, .int cn, .ref ko])), (k0, .inl (cI, 1201, .inl c0))] sz)) 0 0 (va_A [(k, .inr (11, [.ref k0, .ref k1, .ref k2, .int c3, .ref k4, .ref k5, .ref k6, .ref k7, .ref k8, .int c9, .ref ka, .ref kb, .int cc, .int cd, .int ce, .int cf, .int cg, .int ch, .int ci, .int cj, .int ck, .ref kl, .int cm, .int cn, .ref ko])), (k0, .inl (cI, 1201, .inl c0))] sz) := by
  refine kMetIX (own := RX11) (by decide +kernel) rfl (Nat.le_of_ble_eq_true rfl) ?_
  intro p e s m args below meth c hx hb hT hown hname hml A Q hK hP hD hS hA hN hXS hRet ls hl
  subst pre2
  have hl : lv_has ls 3 [(0, .ref k), (1, .int a0), (2, .int 2)] := hl
  have lo_a0 := k_lo a0
  have hi_a0 := k_hi a0
  have lo_ci := k_lo ci
  have hi_ci := k_hi ci
  refine lv_aload_n hx hb dX11_work_0 rfl (lv_at hl 0 rfl) ?_
  refine va_get (D := D) (ci := 11) (v := .ref k0) (C := RX11) (T := TX11) (N := 25) hx hb hT giX11 hown hK hP 0 rfl rfl 0 (by decide +kernel) (hT (Cond.fieldLink RX11 9 "DesertWireModel" "s" "[I") mw_1156) (fun _ h9 => h9) rfl dX11_work_1 ?_
  refine lv_bipush (v := 99) hx hb dX11_work_4 (by decide +kernel) ?_
  refine lv_bipush (v := 6) hx hb dX11_work_6 (by decide +kernel) ?_
  refine lv_iload_n hx hb dX11_work_8 rfl (lv_at hl 1 rfl) ?_
  refine lv_imul hx hb dX11_work_9 ?_
  refine lv_topi (fun v_1 ev_1 => ?_)
  have tv_1 : v_1.toInt = 6 * a0.toInt := by rw [ev_1]; exact k_mulv zl_6 rfl (by omega) (by omega)
  refine lv_iadd hx hb dX11_work_10 ?_
  refine lv_topi (fun v_2 ev_2 => ?_)
  have tv_2 : v_2.toInt = 99 + v_1.toInt := by rw [ev_2]; exact k_addv zl_99 rfl (by omega) (by omega)
  refine lv_iload_n hx hb dX11_work_11 rfl (lv_at hl 2 rfl) ?_
  refine lv_iadd hx hb dX11_work_12 ?_
  refine lv_topi (fun v_3 ev_3 => ?_)
  have tv_3 : v_3.toInt = v_2.toInt + 2 := by rw [ev_3]; exact k_addv rfl zl_2 (by omega) (by omega)
  refine k_iald (v := (c0 v_3.toNatClampNeg)) hx hb hK hP 1 0 rfl rfl (k_in (by omega) (by omega)) rfl dX11_work_13 ?_
  refine lv_topi (fun v_4 ev_4 => ?_)
  have lo_v_4 := k_lo v_4
  have hi_v_4 := k_hi v_4
  have tv_4 : v_4.toInt = (c0 v_3.toNatClampNeg).toInt := by rw [ev_4]
  exact hRet () [0, 1] (wW_in ev_4 (by omega) (by omega)) hP hD (by decide +kernel) rfl hS rfl dX11_work_14

set_option maxHeartbeats 4000000 in
set_option maxRecDepth 100000 in
theorem c_X11_workG3 (l : Launch) (D : va_G) (cI : ClassId) (aK aV : Nat → Nat) (k k0 k1 k2 k4 k5 k6 k7 k8 ka kb kl ko : Nat) (sz : Nat) (c3 : Int32) (c9 : Int32) (cc : Int32) (cd : Int32) (ce : Int32) (cf : Int32) (cg : Int32) (ch : Int32) (ci : Int32) (cj : Int32) (ck : Int32) (cm : Int32) (cn : Int32) (c0 : Nat → Int32) (a0 : Int32) (a1 : Int32) (pre0 : 0 ≤ a0.toInt) (pre1 : a0.toInt ≤ 59) (pre2 : a1 = 3) : Met l yX11_work (gW yX11_work cX11_work 3 (some .int)) ({ frames := 0, cells := 0, slots := 0, locals := 0 } : Room) (kPreX D cI aK aV [.ref k, .int a0, .int 3] [(k, .inr (11, [.ref k0, .ref k1, .ref k2, .int c3, .ref k4, .ref k5, .ref k6, .ref k7, .ref k8, .int c9, .ref ka, .ref kb, .int cc, .int cd, .int ce, .int cf, .int cg, .int ch, .int ci, .int cj, .int ck, .ref kl, .int cm, .int cn, .ref ko])), (k0, .inl (cI, 1201, .inl c0))] sz) (va_Qi (fun (r : Int32) (u : Unit) => r = wW c0 a0 3) (fun u t => kWd D cI (va_A [(k, .inr (11, [.ref k0, .ref k1, .ref k2, .int c3, .ref k4, .ref k5, .ref k6, .ref k7, .ref k8, .int c9, .ref ka, .ref kb, .int cc, .int cd, .int ce, .int cf, .int cg, .int ch, .int ci, .int cj, .int ck, .ref kl, .int cm, .int cn, .ref ko])), (k0, .inl (cI, 1201, .inl c0))] sz) [(k, .inr (11, [.ref k0, .ref k1, .ref k2, .int c3, .ref k4, .ref k5, .ref k6, .ref k7, .ref k8, .int c9, .ref ka, .ref kb, .int cc, .int cd, .int ce, .int cf, .int cg, .int ch, .int ci, .int cj, .int ck, .ref kl, .int cm, .int cn, .ref ko])), (k0, .inl (cI, 1201, .inl c0))] t) (va_A [(k, .inr (11, [.ref k0, .ref k1, .ref k2, .int c3, .ref k4, .ref k5, .ref k6, .ref k7, .ref k8, .int c9, .ref ka, .ref kb, .int cc, .int cd, .int ce, .int cf, .int cg, .int ch, .int ci, .int cj, .int ck, .ref kl, .int cm, .int cn, .ref ko])), (k0, .inl (cI, 1201, .inl c0))] sz)) 0 0 (va_A [(k, .inr (11, [.ref k0, .ref k1, .ref k2, .int c3, .ref k4, .ref k5, .ref k6, .ref k7, .ref k8, .int c9, .ref ka, .ref kb, .int cc, .int cd, .int ce, .int cf, .int cg, .int ch, .int ci, .int cj, .int ck, .ref kl, .int cm, .int cn, .ref ko])), (k0, .inl (cI, 1201, .inl c0))] sz) := by
  refine kMetIX (own := RX11) (by decide +kernel) rfl (Nat.le_of_ble_eq_true rfl) ?_
  intro p e s m args below meth c hx hb hT hown hname hml A Q hK hP hD hS hA hN hXS hRet ls hl
  subst pre2
  have hl : lv_has ls 3 [(0, .ref k), (1, .int a0), (2, .int 3)] := hl
  have lo_a0 := k_lo a0
  have hi_a0 := k_hi a0
  have lo_ci := k_lo ci
  have hi_ci := k_hi ci
  refine lv_aload_n hx hb dX11_work_0 rfl (lv_at hl 0 rfl) ?_
  refine va_get (D := D) (ci := 11) (v := .ref k0) (C := RX11) (T := TX11) (N := 25) hx hb hT giX11 hown hK hP 0 rfl rfl 0 (by decide +kernel) (hT (Cond.fieldLink RX11 9 "DesertWireModel" "s" "[I") mw_1156) (fun _ h9 => h9) rfl dX11_work_1 ?_
  refine lv_bipush (v := 99) hx hb dX11_work_4 (by decide +kernel) ?_
  refine lv_bipush (v := 6) hx hb dX11_work_6 (by decide +kernel) ?_
  refine lv_iload_n hx hb dX11_work_8 rfl (lv_at hl 1 rfl) ?_
  refine lv_imul hx hb dX11_work_9 ?_
  refine lv_topi (fun v_1 ev_1 => ?_)
  have tv_1 : v_1.toInt = 6 * a0.toInt := by rw [ev_1]; exact k_mulv zl_6 rfl (by omega) (by omega)
  refine lv_iadd hx hb dX11_work_10 ?_
  refine lv_topi (fun v_2 ev_2 => ?_)
  have tv_2 : v_2.toInt = 99 + v_1.toInt := by rw [ev_2]; exact k_addv zl_99 rfl (by omega) (by omega)
  refine lv_iload_n hx hb dX11_work_11 rfl (lv_at hl 2 rfl) ?_
  refine lv_iadd hx hb dX11_work_12 ?_
  refine lv_topi (fun v_3 ev_3 => ?_)
  have tv_3 : v_3.toInt = v_2.toInt + 3 := by rw [ev_3]; exact k_addv rfl zl_3 (by omega) (by omega)
  refine k_iald (v := (c0 v_3.toNatClampNeg)) hx hb hK hP 1 0 rfl rfl (k_in (by omega) (by omega)) rfl dX11_work_13 ?_
  refine lv_topi (fun v_4 ev_4 => ?_)
  have lo_v_4 := k_lo v_4
  have hi_v_4 := k_hi v_4
  have tv_4 : v_4.toInt = (c0 v_3.toNatClampNeg).toInt := by rw [ev_4]
  exact hRet () [0, 1] (wW_in ev_4 (by omega) (by omega)) hP hD (by decide +kernel) rfl hS rfl dX11_work_14

set_option maxHeartbeats 4000000 in
set_option maxRecDepth 100000 in
theorem c_X11_workG4 (l : Launch) (D : va_G) (cI : ClassId) (aK aV : Nat → Nat) (k k0 k1 k2 k4 k5 k6 k7 k8 ka kb kl ko : Nat) (sz : Nat) (c3 : Int32) (c9 : Int32) (cc : Int32) (cd : Int32) (ce : Int32) (cf : Int32) (cg : Int32) (ch : Int32) (ci : Int32) (cj : Int32) (ck : Int32) (cm : Int32) (cn : Int32) (c0 : Nat → Int32) (a0 : Int32) (a1 : Int32) (pre0 : 0 ≤ a0.toInt) (pre1 : a0.toInt ≤ 59) (pre2 : a1 = 4) : Met l yX11_work (gW yX11_work cX11_work 3 (some .int)) ({ frames := 0, cells := 0, slots := 0, locals := 0 } : Room) (kPreX D cI aK aV [.ref k, .int a0, .int 4] [(k, .inr (11, [.ref k0, .ref k1, .ref k2, .int c3, .ref k4, .ref k5, .ref k6, .ref k7, .ref k8, .int c9, .ref ka, .ref kb, .int cc, .int cd, .int ce, .int cf, .int cg, .int ch, .int ci, .int cj, .int ck, .ref kl, .int cm, .int cn, .ref ko])), (k0, .inl (cI, 1201, .inl c0))] sz) (va_Qi (fun (r : Int32) (u : Unit) => r = wW c0 a0 4) (fun u t => kWd D cI (va_A [(k, .inr (11, [.ref k0, .ref k1, .ref k2, .int c3, .ref k4, .ref k5, .ref k6, .ref k7, .ref k8, .int c9, .ref ka, .ref kb, .int cc, .int cd, .int ce, .int cf, .int cg, .int ch, .int ci, .int cj, .int ck, .ref kl, .int cm, .int cn, .ref ko])), (k0, .inl (cI, 1201, .inl c0))] sz) [(k, .inr (11, [.ref k0, .ref k1, .ref k2, .int c3, .ref k4, .ref k5, .ref k6, .ref k7, .ref k8, .int c9, .ref ka, .ref kb, .int cc, .int cd, .int ce, .int cf, .int cg, .int ch, .int ci, .int cj, .int ck, .ref kl, .int cm, .int cn, .ref ko])), (k0, .inl (cI, 1201, .inl c0))] t) (va_A [(k, .inr (11, [.ref k0, .ref k1, .ref k2, .int c3, .ref k4, .ref k5, .ref k6, .ref k7, .ref k8, .int c9, .ref ka, .ref kb, .int cc, .int cd, .int ce, .int cf, .int cg, .int ch, .int ci, .int cj, .int ck, .ref kl, .int cm, .int cn, .ref ko])), (k0, .inl (cI, 1201, .inl c0))] sz)) 0 0 (va_A [(k, .inr (11, [.ref k0, .ref k1, .ref k2, .int c3, .ref k4, .ref k5, .ref k6, .ref k7, .ref k8, .int c9, .ref ka, .ref kb, .int cc, .int cd, .int ce, .int cf, .int cg, .int ch, .int ci, .int cj, .int ck, .ref kl, .int cm, .int cn, .ref ko])), (k0, .inl (cI, 1201, .inl c0))] sz) := by
  refine kMetIX (own := RX11) (by decide +kernel) rfl (Nat.le_of_ble_eq_true rfl) ?_
  intro p e s m args below meth c hx hb hT hown hname hml A Q hK hP hD hS hA hN hXS hRet ls hl
  subst pre2
  have hl : lv_has ls 3 [(0, .ref k), (1, .int a0), (2, .int 4)] := hl
  have lo_a0 := k_lo a0
  have hi_a0 := k_hi a0
  have lo_ci := k_lo ci
  have hi_ci := k_hi ci
  refine lv_aload_n hx hb dX11_work_0 rfl (lv_at hl 0 rfl) ?_
  refine va_get (D := D) (ci := 11) (v := .ref k0) (C := RX11) (T := TX11) (N := 25) hx hb hT giX11 hown hK hP 0 rfl rfl 0 (by decide +kernel) (hT (Cond.fieldLink RX11 9 "DesertWireModel" "s" "[I") mw_1156) (fun _ h9 => h9) rfl dX11_work_1 ?_
  refine lv_bipush (v := 99) hx hb dX11_work_4 (by decide +kernel) ?_
  refine lv_bipush (v := 6) hx hb dX11_work_6 (by decide +kernel) ?_
  refine lv_iload_n hx hb dX11_work_8 rfl (lv_at hl 1 rfl) ?_
  refine lv_imul hx hb dX11_work_9 ?_
  refine lv_topi (fun v_1 ev_1 => ?_)
  have tv_1 : v_1.toInt = 6 * a0.toInt := by rw [ev_1]; exact k_mulv zl_6 rfl (by omega) (by omega)
  refine lv_iadd hx hb dX11_work_10 ?_
  refine lv_topi (fun v_2 ev_2 => ?_)
  have tv_2 : v_2.toInt = 99 + v_1.toInt := by rw [ev_2]; exact k_addv zl_99 rfl (by omega) (by omega)
  refine lv_iload_n hx hb dX11_work_11 rfl (lv_at hl 2 rfl) ?_
  refine lv_iadd hx hb dX11_work_12 ?_
  refine lv_topi (fun v_3 ev_3 => ?_)
  have tv_3 : v_3.toInt = v_2.toInt + 4 := by rw [ev_3]; exact k_addv rfl zl_4 (by omega) (by omega)
  refine k_iald (v := (c0 v_3.toNatClampNeg)) hx hb hK hP 1 0 rfl rfl (k_in (by omega) (by omega)) rfl dX11_work_13 ?_
  refine lv_topi (fun v_4 ev_4 => ?_)
  have lo_v_4 := k_lo v_4
  have hi_v_4 := k_hi v_4
  have tv_4 : v_4.toInt = (c0 v_3.toNatClampNeg).toInt := by rw [ev_4]
  exact hRet () [0, 1] (wW_in ev_4 (by omega) (by omega)) hP hD (by decide +kernel) rfl hS rfl dX11_work_14

set_option maxHeartbeats 4000000 in
set_option maxRecDepth 100000 in
theorem c_X11_workG5 (l : Launch) (D : va_G) (cI : ClassId) (aK aV : Nat → Nat) (k k0 k1 k2 k4 k5 k6 k7 k8 ka kb kl ko : Nat) (sz : Nat) (c3 : Int32) (c9 : Int32) (cc : Int32) (cd : Int32) (ce : Int32) (cf : Int32) (cg : Int32) (ch : Int32) (ci : Int32) (cj : Int32) (ck : Int32) (cm : Int32) (cn : Int32) (c0 : Nat → Int32) (a0 : Int32) (a1 : Int32) (pre0 : 0 ≤ a0.toInt) (pre1 : a0.toInt ≤ 59) (pre2 : a1 = 5) : Met l yX11_work (gW yX11_work cX11_work 3 (some .int)) ({ frames := 0, cells := 0, slots := 0, locals := 0 } : Room) (kPreX D cI aK aV [.ref k, .int a0, .int 5] [(k, .inr (11, [.ref k0, .ref k1, .ref k2, .int c3, .ref k4, .ref k5, .ref k6, .ref k7, .ref k8, .int c9, .ref ka, .ref kb, .int cc, .int cd, .int ce, .int cf, .int cg, .int ch, .int ci, .int cj, .int ck, .ref kl, .int cm, .int cn, .ref ko])), (k0, .inl (cI, 1201, .inl c0))] sz) (va_Qi (fun (r : Int32) (u : Unit) => r = wW c0 a0 5) (fun u t => kWd D cI (va_A [(k, .inr (11, [.ref k0, .ref k1, .ref k2, .int c3, .ref k4, .ref k5, .ref k6, .ref k7, .ref k8, .int c9, .ref ka, .ref kb, .int cc, .int cd, .int ce, .int cf, .int cg, .int ch, .int ci, .int cj, .int ck, .ref kl, .int cm, .int cn, .ref ko])), (k0, .inl (cI, 1201, .inl c0))] sz) [(k, .inr (11, [.ref k0, .ref k1, .ref k2, .int c3, .ref k4, .ref k5, .ref k6, .ref k7, .ref k8, .int c9, .ref ka, .ref kb, .int cc, .int cd, .int ce, .int cf, .int cg, .int ch, .int ci, .int cj, .int ck, .ref kl, .int cm, .int cn, .ref ko])), (k0, .inl (cI, 1201, .inl c0))] t) (va_A [(k, .inr (11, [.ref k0, .ref k1, .ref k2, .int c3, .ref k4, .ref k5, .ref k6, .ref k7, .ref k8, .int c9, .ref ka, .ref kb, .int cc, .int cd, .int ce, .int cf, .int cg, .int ch, .int ci, .int cj, .int ck, .ref kl, .int cm, .int cn, .ref ko])), (k0, .inl (cI, 1201, .inl c0))] sz)) 0 0 (va_A [(k, .inr (11, [.ref k0, .ref k1, .ref k2, .int c3, .ref k4, .ref k5, .ref k6, .ref k7, .ref k8, .int c9, .ref ka, .ref kb, .int cc, .int cd, .int ce, .int cf, .int cg, .int ch, .int ci, .int cj, .int ck, .ref kl, .int cm, .int cn, .ref ko])), (k0, .inl (cI, 1201, .inl c0))] sz) := by
  refine kMetIX (own := RX11) (by decide +kernel) rfl (Nat.le_of_ble_eq_true rfl) ?_
  intro p e s m args below meth c hx hb hT hown hname hml A Q hK hP hD hS hA hN hXS hRet ls hl
  subst pre2
  have hl : lv_has ls 3 [(0, .ref k), (1, .int a0), (2, .int 5)] := hl
  have lo_a0 := k_lo a0
  have hi_a0 := k_hi a0
  have lo_ci := k_lo ci
  have hi_ci := k_hi ci
  refine lv_aload_n hx hb dX11_work_0 rfl (lv_at hl 0 rfl) ?_
  refine va_get (D := D) (ci := 11) (v := .ref k0) (C := RX11) (T := TX11) (N := 25) hx hb hT giX11 hown hK hP 0 rfl rfl 0 (by decide +kernel) (hT (Cond.fieldLink RX11 9 "DesertWireModel" "s" "[I") mw_1156) (fun _ h9 => h9) rfl dX11_work_1 ?_
  refine lv_bipush (v := 99) hx hb dX11_work_4 (by decide +kernel) ?_
  refine lv_bipush (v := 6) hx hb dX11_work_6 (by decide +kernel) ?_
  refine lv_iload_n hx hb dX11_work_8 rfl (lv_at hl 1 rfl) ?_
  refine lv_imul hx hb dX11_work_9 ?_
  refine lv_topi (fun v_1 ev_1 => ?_)
  have tv_1 : v_1.toInt = 6 * a0.toInt := by rw [ev_1]; exact k_mulv zl_6 rfl (by omega) (by omega)
  refine lv_iadd hx hb dX11_work_10 ?_
  refine lv_topi (fun v_2 ev_2 => ?_)
  have tv_2 : v_2.toInt = 99 + v_1.toInt := by rw [ev_2]; exact k_addv zl_99 rfl (by omega) (by omega)
  refine lv_iload_n hx hb dX11_work_11 rfl (lv_at hl 2 rfl) ?_
  refine lv_iadd hx hb dX11_work_12 ?_
  refine lv_topi (fun v_3 ev_3 => ?_)
  have tv_3 : v_3.toInt = v_2.toInt + 5 := by rw [ev_3]; exact k_addv rfl zl_5 (by omega) (by omega)
  refine k_iald (v := (c0 v_3.toNatClampNeg)) hx hb hK hP 1 0 rfl rfl (k_in (by omega) (by omega)) rfl dX11_work_13 ?_
  refine lv_topi (fun v_4 ev_4 => ?_)
  have lo_v_4 := k_lo v_4
  have hi_v_4 := k_hi v_4
  have tv_4 : v_4.toInt = (c0 v_3.toNatClampNeg).toInt := by rw [ev_4]
  exact hRet () [0, 1] (wW_in ev_4 (by omega) (by omega)) hP hD (by decide +kernel) rfl hS rfl dX11_work_14

set_option maxHeartbeats 4000000 in
set_option maxRecDepth 100000 in
theorem c_X11_workGV (l : Launch) (D : va_G) (cI : ClassId) (aK aV : Nat → Nat) (k k0 k1 k2 k4 k5 k6 k7 k8 ka kb kl ko : Nat) (sz : Nat) (c3 : Int32) (c9 : Int32) (cc : Int32) (cd : Int32) (ce : Int32) (cf : Int32) (cg : Int32) (ch : Int32) (ci : Int32) (cj : Int32) (ck : Int32) (cm : Int32) (cn : Int32) (c0 : Nat → Int32) (a0 : Int32) (a1 : Int32) (pre0 : 0 ≤ a0.toInt) (pre1 : a0.toInt ≤ 59) (pre2 : 0 ≤ a1.toInt) (pre3 : a1.toInt ≤ 7) : Met l yX11_work (gW yX11_work cX11_work 3 (some .int)) ({ frames := 0, cells := 0, slots := 0, locals := 0 } : Room) (kPreX D cI aK aV [.ref k, .int a0, .int a1] [(k, .inr (11, [.ref k0, .ref k1, .ref k2, .int c3, .ref k4, .ref k5, .ref k6, .ref k7, .ref k8, .int c9, .ref ka, .ref kb, .int cc, .int cd, .int ce, .int cf, .int cg, .int ch, .int ci, .int cj, .int ck, .ref kl, .int cm, .int cn, .ref ko])), (k0, .inl (cI, 1201, .inl c0))] sz) (va_Qi (fun (r : Int32) (u : Unit) => r = c0 (99 + 6 * a0.toInt.toNat + a1.toInt.toNat)) (fun u t => kWd D cI (va_A [(k, .inr (11, [.ref k0, .ref k1, .ref k2, .int c3, .ref k4, .ref k5, .ref k6, .ref k7, .ref k8, .int c9, .ref ka, .ref kb, .int cc, .int cd, .int ce, .int cf, .int cg, .int ch, .int ci, .int cj, .int ck, .ref kl, .int cm, .int cn, .ref ko])), (k0, .inl (cI, 1201, .inl c0))] sz) [(k, .inr (11, [.ref k0, .ref k1, .ref k2, .int c3, .ref k4, .ref k5, .ref k6, .ref k7, .ref k8, .int c9, .ref ka, .ref kb, .int cc, .int cd, .int ce, .int cf, .int cg, .int ch, .int ci, .int cj, .int ck, .ref kl, .int cm, .int cn, .ref ko])), (k0, .inl (cI, 1201, .inl c0))] t) (va_A [(k, .inr (11, [.ref k0, .ref k1, .ref k2, .int c3, .ref k4, .ref k5, .ref k6, .ref k7, .ref k8, .int c9, .ref ka, .ref kb, .int cc, .int cd, .int ce, .int cf, .int cg, .int ch, .int ci, .int cj, .int ck, .ref kl, .int cm, .int cn, .ref ko])), (k0, .inl (cI, 1201, .inl c0))] sz)) 0 0 (va_A [(k, .inr (11, [.ref k0, .ref k1, .ref k2, .int c3, .ref k4, .ref k5, .ref k6, .ref k7, .ref k8, .int c9, .ref ka, .ref kb, .int cc, .int cd, .int ce, .int cf, .int cg, .int ch, .int ci, .int cj, .int ck, .ref kl, .int cm, .int cn, .ref ko])), (k0, .inl (cI, 1201, .inl c0))] sz) := by
  refine kMetIX (own := RX11) (by decide +kernel) rfl (Nat.le_of_ble_eq_true rfl) ?_
  intro p e s m args below meth c hx hb hT hown hname hml A Q hK hP hD hS hA hN hXS hRet ls hl
  have hl : lv_has ls 3 [(0, .ref k), (1, .int a0), (2, .int a1)] := hl
  have lo_a0 := k_lo a0
  have hi_a0 := k_hi a0
  have lo_a1 := k_lo a1
  have hi_a1 := k_hi a1
  have lo_ci := k_lo ci
  have hi_ci := k_hi ci
  refine lv_aload_n hx hb dX11_work_0 rfl (lv_at hl 0 rfl) ?_
  refine va_get (D := D) (ci := 11) (v := .ref k0) (C := RX11) (T := TX11) (N := 25) hx hb hT giX11 hown hK hP 0 rfl rfl 0 (by decide +kernel) (hT (Cond.fieldLink RX11 9 "DesertWireModel" "s" "[I") mw_1156) (fun _ h9 => h9) rfl dX11_work_1 ?_
  refine lv_bipush (v := 99) hx hb dX11_work_4 (by decide +kernel) ?_
  refine lv_bipush (v := 6) hx hb dX11_work_6 (by decide +kernel) ?_
  refine lv_iload_n hx hb dX11_work_8 rfl (lv_at hl 1 rfl) ?_
  refine lv_imul hx hb dX11_work_9 ?_
  refine lv_topi (fun v_1 ev_1 => ?_)
  have tv_1 : v_1.toInt = 6 * a0.toInt := by rw [ev_1]; exact k_mulv zl_6 rfl (by omega) (by omega)
  refine lv_iadd hx hb dX11_work_10 ?_
  refine lv_topi (fun v_2 ev_2 => ?_)
  have tv_2 : v_2.toInt = 99 + v_1.toInt := by rw [ev_2]; exact k_addv zl_99 rfl (by omega) (by omega)
  refine lv_iload_n hx hb dX11_work_11 rfl (lv_at hl 2 rfl) ?_
  refine lv_iadd hx hb dX11_work_12 ?_
  refine lv_topi (fun v_3 ev_3 => ?_)
  have tv_3 : v_3.toInt = v_2.toInt + a1.toInt := by rw [ev_3]; exact k_addv rfl rfl (by omega) (by omega)
  refine k_iald (v := (c0 v_3.toNatClampNeg)) hx hb hK hP 1 0 rfl rfl (k_in (by omega) (by omega)) rfl dX11_work_13 ?_
  refine lv_topi (fun v_4 ev_4 => ?_)
  have lo_v_4 := k_lo v_4
  have hi_v_4 := k_hi v_4
  have tv_4 : v_4.toInt = (c0 v_3.toNatClampNeg).toInt := by rw [ev_4]
  exact hRet () [0, 1] (rd_in ev_4 (by omega)) hP hD (by decide +kernel) rfl hS rfl dX11_work_14
