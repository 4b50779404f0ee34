
set_option maxHeartbeats 4000000 in
set_option maxRecDepth 100000 in
theorem c_X10_isPoleD (l : Launch) (D : va_G) (cI : ClassId) (aK aV : Nat → Nat) (sz : Nat) (a0 : Int32) : Met l yX10_isPole (gW yX10_isPole cX10_isPole 1 (some .boolean)) ({ frames := 0, cells := 0, slots := 0, locals := 0 } : Room) (kPreX D cI aK aV [.int a0] [] sz) (va_Qi (fun (r : Int32) (u : Unit) => (r = 1 ∧ (a0.toInt = 1 ∨ a0.toInt = 2 ∨ a0.toInt = 3)) ∨ (r = 0 ∧ a0.toInt ≠ 1 ∧ a0.toInt ≠ 2 ∧ a0.toInt ≠ 3)) (fun u t => kWd D cI (va_A [] sz) [] t) (va_A [] sz)) 0 0 (va_A [] sz) := by
  refine kMetIX (own := RX10) (by decide +kernel) rfl (Nat.le_of_ble_eq_true rfl) ?_
  intro p e s m args below meth c hx hb hT hown hname hml A Q hK hP hD hS hA hN hXS hRet ls hl
  have hl : lv_has ls 1 [(0, .int a0)] := hl
  refine lv_iload_n hx hb dX10_isPole_0 rfl (lv_at hl 0 rfl) ?_
  refine lv_iconst (v := 1) hx hb dX10_isPole_1 (by decide +kernel) ?_
  refine b_icmp_eq hx hb rfl zl_1 (tgt := 15) dX10_isPole_2 (by decide +kernel) (fun c_1 => ?_) (fun c_1 => ?_)
  · refine lv_iconst (v := 1) hx hb dX10_isPole_15 (by decide +kernel) ?_
    refine lv_goto (tgt := 20) hx hb dX10_isPole_16 (by decide +kernel) ?_
    exact hRet () [] (Or.inl ⟨rfl, (by omega)⟩) hP hD (by decide +kernel) rfl hS rfl dX10_isPole_20
  · refine lv_iload_n hx hb dX10_isPole_5 rfl (lv_at hl 0 rfl) ?_
    refine lv_iconst (v := 2) hx hb dX10_isPole_6 (by decide +kernel) ?_
    refine b_icmp_eq hx hb rfl zl_2 (tgt := 15) dX10_isPole_7 (by decide +kernel) (fun c_2 => ?_) (fun c_2 => ?_)
    · refine lv_iconst (v := 1) hx hb dX10_isPole_15 (by decide +kernel) ?_
      refine lv_goto (tgt := 20) hx hb dX10_isPole_16 (by decide +kernel) ?_
      exact hRet () [] (Or.inl ⟨rfl, (by omega)⟩) hP hD (by decide +kernel) rfl hS rfl dX10_isPole_20
    · refine lv_iload_n hx hb dX10_isPole_10 rfl (lv_at hl 0 rfl) ?_
      refine lv_iconst (v := 3) hx hb dX10_isPole_11 (by decide +kernel) ?_
      refine b_icmp_ne hx hb rfl zl_3 (tgt := 19) dX10_isPole_12 (by decide +kernel) (fun c_3 => ?_) (fun c_3 => ?_)
      · refine lv_iconst (v := 0) hx hb dX10_isPole_19 (by decide +kernel) ?_
        exact hRet () [] (Or.inr (⟨rfl, (by omega), (by omega), (by omega)⟩)) hP hD (by decide +kernel) rfl hS rfl dX10_isPole_20
      · refine lv_iconst (v := 1) hx hb dX10_isPole_15 (by decide +kernel) ?_
        refine lv_goto (tgt := 20) hx hb dX10_isPole_16 (by decide +kernel) ?_
        exact hRet () [] (Or.inl ⟨rfl, (by omega)⟩) hP hD (by decide +kernel) rfl hS rfl dX10_isPole_20

set_option maxHeartbeats 4000000 in
set_option maxRecDepth 100000 in
theorem c_X10_isIronD (l : Launch) (D : va_G) (cI : ClassId) (aK aV : Nat → Nat) (sz : Nat) (a0 : Int32) : Met l yX10_isIron (gW yX10_isIron cX10_isIron 1 (some .boolean)) ({ frames := 0, cells := 0, slots := 0, locals := 0 } : Room) (kPreX D cI aK aV [.int a0] [] sz) (va_Qi (fun (r : Int32) (u : Unit) => (r = 1 ∧ (a0.toInt = 2 ∨ a0.toInt = 3)) ∨ (r = 0 ∧ a0.toInt ≠ 2 ∧ a0.toInt ≠ 3)) (fun u t => kWd D cI (va_A [] sz) [] t) (va_A [] sz)) 0 0 (va_A [] sz) := by
  refine kMetIX (own := RX10) (by decide +kernel) rfl (Nat.le_of_ble_eq_true rfl) ?_
  intro p e s m args below meth c hx hb hT hown hname hml A Q hK hP hD hS hA hN hXS hRet ls hl
  have hl : lv_has ls 1 [(0, .int a0)] := hl
  refine lv_iload_n hx hb dX10_isIron_0 rfl (lv_at hl 0 rfl) ?_
  refine lv_iconst (v := 2) hx hb dX10_isIron_1 (by decide +kernel) ?_
  refine b_icmp_eq hx hb rfl zl_2 (tgt := 10) dX10_isIron_2 (by decide +kernel) (fun c_1 => ?_) (fun c_1 => ?_)
  · refine lv_iconst (v := 1) hx hb dX10_isIron_10 (by decide +kernel) ?_
    refine lv_goto (tgt := 15) hx hb dX10_isIron_11 (by decide +kernel) ?_
    exact hRet () [] (Or.inl ⟨rfl, (by omega)⟩) hP hD (by decide +kernel) rfl hS rfl dX10_isIron_15
  · refine lv_iload_n hx hb dX10_isIron_5 rfl (lv_at hl 0 rfl) ?_
    refine lv_iconst (v := 3) hx hb dX10_isIron_6 (by decide +kernel) ?_
    refine b_icmp_ne hx hb rfl zl_3 (tgt := 14) dX10_isIron_7 (by decide +kernel) (fun c_2 => ?_) (fun c_2 => ?_)
    · refine lv_iconst (v := 0) hx hb dX10_isIron_14 (by decide +kernel) ?_
      exact hRet () [] (Or.inr (⟨rfl, (by omega), (by omega)⟩)) hP hD (by decide +kernel) rfl hS rfl dX10_isIron_15
    · refine lv_iconst (v := 1) hx hb dX10_isIron_10 (by decide +kernel) ?_
      refine lv_goto (tgt := 15) hx hb dX10_isIron_11 (by decide +kernel) ?_
      exact hRet () [] (Or.inl ⟨rfl, (by omega)⟩) hP hD (by decide +kernel) rfl hS rfl dX10_isIron_15

set_option maxHeartbeats 4000000 in
set_option maxRecDepth 100000 in
theorem c_X10_kindAboveD (l : Launch) (D : va_G) (cI : ClassId) (aK aV : Nat → Nat) (sz : Nat) (a0 : Int32) : Met l yX10_kindAbove (gW yX10_kindAbove cX10_kindAbove 1 (some .int)) ({ frames := 0, cells := 0, slots := 0, locals := 0 } : Room) (kPreX D cI aK aV [.int a0] [] sz) (va_Qi (fun (r : Int32) (u : Unit) => (r = 1 ∧ a0.toInt = 2) ∨ (r = 2 ∧ a0.toInt = 3) ∨ (r = 4 ∧ a0.toInt = 5) ∨ (r = 0 ∧ a0.toInt ≠ 2 ∧ a0.toInt ≠ 3 ∧ a0.toInt ≠ 5)) (fun u t => kWd D cI (va_A [] sz) [] t) (va_A [] sz)) 0 0 (va_A [] sz) := by
  refine kMetIX (own := RX10) (by decide +kernel) rfl (Nat.le_of_ble_eq_true rfl) ?_
  intro p e s m args below meth c hx hb hT hown hname hml A Q hK hP hD hS hA hN hXS hRet ls hl
  have hl : lv_has ls 1 [(0, .int a0)] := hl
  have lo_a0 := k_lo a0
  have hi_a0 := k_hi a0
  refine lv_iload_n hx hb dX10_kindAbove_0 rfl (lv_at hl 0 rfl) ?_
  by_cases c_1 : a0.toInt = 2
  · refine lv_tableIn (off := 31) (tgt := 32) hx hb dX10_kindAbove_1 (by omega) (by omega) (by rw [c_1]; decide) (by decide +kernel) ?_
    refine lv_iconst (v := 1) hx hb dX10_kindAbove_32 (by decide +kernel) ?_
    exact hRet () [] (Or.inl ⟨rfl, (by omega)⟩) hP hD (by decide +kernel) rfl hS rfl dX10_kindAbove_33
  by_cases c_2 : a0.toInt = 3
  · refine lv_tableIn (off := 33) (tgt := 34) hx hb dX10_kindAbove_1 (by omega) (by omega) (by rw [c_2]; decide) (by decide +kernel) ?_
    refine lv_iconst (v := 2) hx hb dX10_kindAbove_34 (by decide +kernel) ?_
    exact hRet () [] (Or.inr (Or.inl ⟨rfl, (by omega)⟩)) hP hD (by decide +kernel) rfl hS rfl dX10_kindAbove_35
  by_cases c_3 : a0.toInt = 4
  · refine lv_tableIn (off := 37) (tgt := 38) hx hb dX10_kindAbove_1 (by omega) (by omega) (by rw [c_3]; decide) (by decide +kernel) ?_
    refine lv_iconst (v := 0) hx hb dX10_kindAbove_38 (by decide +kernel) ?_
    exact hRet () [] (Or.inr (Or.inr (Or.inr (⟨rfl, (by omega), (by omega), (by omega)⟩)))) hP hD (by decide +kernel) rfl hS rfl dX10_kindAbove_39
  by_cases c_4 : a0.toInt = 5
  · refine lv_tableIn (off := 35) (tgt := 36) hx hb dX10_kindAbove_1 (by omega) (by omega) (by rw [c_4]; decide) (by decide +kernel) ?_
    refine lv_iconst (v := 4) hx hb dX10_kindAbove_36 (by decide +kernel) ?_
    exact hRet () [] (Or.inr (Or.inr (Or.inl ⟨rfl, (by omega)⟩))) hP hD (by decide +kernel) rfl hS rfl dX10_kindAbove_37
  refine lv_tableOut (tgt := 38) hx hb dX10_kindAbove_1 (by omega) (by decide +kernel) ?_
  refine lv_iconst (v := 0) hx hb dX10_kindAbove_38 (by decide +kernel) ?_
  exact hRet () [] (Or.inr (Or.inr (Or.inr (⟨rfl, (by omega), (by omega), (by omega)⟩)))) hP hD (by decide +kernel) rfl hS rfl dX10_kindAbove_39

set_option maxHeartbeats 4000000 in
set_option maxRecDepth 100000 in
theorem c_X10_isOfD (l : Launch) (D : va_G) (cI : ClassId) (aK aV : Nat → Nat) (sz : Nat) (a0 : Int32) (a1 : Int32) (pre0 : 0 ≤ a0.toInt) (pre1 : a0.toInt ≤ 5) (pre2 : 0 ≤ a1.toInt) (pre3 : a1.toInt ≤ 5) : Met l yX10_isOf (gW yX10_isOf cX10_isOf 4 (some .boolean)) ({ frames := 1, cells := 0, slots := 0, locals := 20 } : Room) (kPreX D cI aK aV [.int a0, .int a1] [] sz) (va_Qi (fun (r : Int32) (u : Unit) => (r = 1 ∧ mU a0.toInt a1.toInt = 1) ∨ (r = 0 ∧ mU a0.toInt a1.toInt = 0)) (fun u t => kWd D cI (va_A [] sz) [] t) (va_A [] sz)) 0 0 (va_A [] sz) := by
  refine kMetIX (own := RX10) (by decide +kernel) rfl (Nat.le_of_ble_eq_true rfl) ?_
  intro p e s m args below meth c hx hb hT hown hname hml A Q hK hP hD hS hA hN hXS hRet ls hl
  have hl : lv_has ls 4 [(0, .int a0), (1, .int a1)] := hl
  have lo_a0 := k_lo a0
  have hi_a0 := k_hi a0
  have lo_a1 := k_lo a1
  have hi_a1 := k_hi a1
  refine lv_iload_n hx hb dX10_isOf_0 rfl (lv_at hl 0 rfl) ?_
  refine lv_istore_n (lv' := [(2, .int a0), (0, .int a0), (1, .int a1)]) hx hb dX10_isOf_1 rfl hl (by decide +kernel) rfl ?_
  clear hl
  intro ls hl
  refine lv_iconst (v := 0) hx hb dX10_isOf_2 (by decide +kernel) ?_
  refine lv_istore_n (lv' := [(3, .int 0), (2, .int a0), (0, .int a0), (1, .int a1)]) hx hb dX10_isOf_3 rfl hl (by decide +kernel) rfl ?_
  clear hl
  intro ls hl
  refine lv_iload_n hx hb dX10_isOf_4 rfl (lv_at hl 0 rfl) ?_
  refine lv_bipush (v := 6) hx hb dX10_isOf_5 (by decide +kernel) ?_
  refine b_icmp_ge hx hb zl_0 zl_6 (tgt := 26) dX10_isOf_7 (by decide +kernel) (fun c_1 => by exfalso; omega) (fun c_1 => ?_)
  refine lv_iload_n hx hb dX10_isOf_10 rfl (lv_at hl 1 rfl) ?_
  refine lv_iload_n hx hb dX10_isOf_11 rfl (lv_at hl 3 rfl) ?_
  refine b_icmp_eq hx hb rfl rfl (tgt := 26) dX10_isOf_12 (by decide +kernel) (fun c_2 => ?_) (fun c_2 => ?_)
  · refine lv_iload_n hx hb dX10_isOf_26 rfl (lv_at hl 1 rfl) ?_
    refine lv_iload_n hx hb dX10_isOf_27 rfl (lv_at hl 3 rfl) ?_
    refine b_icmp_ne hx hb rfl rfl (tgt := 35) dX10_isOf_28 (by decide +kernel) (fun c_3 => by exfalso; omega) (fun c_3 => ?_)
    refine lv_iconst (v := 1) hx hb dX10_isOf_31 (by decide +kernel) ?_
    refine lv_goto (tgt := 36) hx hb dX10_isOf_32 (by decide +kernel) ?_
    exact hRet () [] (Or.inl ⟨rfl, (by unfold mU; first | rw [if_pos (by omega)] | rw [if_neg (by omega)])⟩) hP hD (by decide +kernel) rfl hS rfl dX10_isOf_36
  · refine lv_iload_n hx hb dX10_isOf_15 rfl (lv_at hl 1 rfl) ?_
    refine kJi (wr := []) (va_runS (As := [.int a0]) (rest := []) ⟨hx, hb, hml, hown, hT⟩ (c_X10_kindAboveD l D cI aK aV s.heap.size a0) (cwS 1 hT (gS_in mw_390 mw_388 mw_389 mw_1) rfl rfl rfl (by decide +kernel) ⟨Nat.le_of_ble_eq_true rfl, Nat.le_of_ble_eq_true rfl⟩) (kStatX hK hP hD hN hXS hS hA [] rfl (by decide +kernel)) rfl rfl hl.1 rfl (lv_room (Nat.le_of_ble_eq_true rfl)) dX10_isOf_16 ⟨Nat.le_of_ble_eq_true rfl, Nat.le_of_ble_eq_true rfl⟩) hP hD hS hA [] [] rfl rfl (by decide +kernel) (by decide +kernel) ?_
    clear hP hD hS
    intro r_4 u_6 H locs w_5 hP hD hS
    replace hP : va_P D vwCl [] H := hP
    replace hD : va_D A [] := hD
    rcases w_5 with ⟨hr_4, h_7⟩ | ⟨hr_4, h_8⟩ | ⟨hr_4, h_9⟩ | ⟨hr_4, h_10, h_11, h_12⟩
    · have h_7 : a0.toInt = 2 := h_7
      obtain rfl : r_4 = 1 := hr_4.trans (by decide +kernel)
      refine lv_istore_n (lv' := [(2, .int 1), (3, .int 0), (0, .int a0), (1, .int a1)]) hx hb dX10_isOf_19 rfl hl (by decide +kernel) rfl ?_
      clear hl
      intro ls hl
      refine lv_iinc (v := 1) (lv' := [(3, .int 1), (2, .int 1), (0, .int a0), (1, .int a1)]) hx hb dX10_isOf_20 hl (k := 1) rfl (by decide +kernel) (by decide +kernel) rfl ?_
      clear hl
      intro ls hl
      refine lv_goto (tgt := 4) hx hb dX10_isOf_23 (by decide +kernel) ?_
      refine lv_iload_n hx hb dX10_isOf_4 rfl (lv_at hl 0 rfl) ?_
      refine lv_bipush (v := 6) hx hb dX10_isOf_5 (by decide +kernel) ?_
      refine b_icmp_ge hx hb zl_1 zl_6 (tgt := 26) dX10_isOf_7 (by decide +kernel) (fun c_13 => by exfalso; omega) (fun c_13 => ?_)
      refine lv_iload_n hx hb dX10_isOf_10 rfl (lv_at hl 1 rfl) ?_
      refine lv_iload_n hx hb dX10_isOf_11 rfl (lv_at hl 3 rfl) ?_
      refine b_icmp_eq hx hb zl_1 rfl (tgt := 26) dX10_isOf_12 (by decide +kernel) (fun c_14 => ?_) (fun c_14 => ?_)
      · refine lv_iload_n hx hb dX10_isOf_26 rfl (lv_at hl 1 rfl) ?_
        refine lv_iload_n hx hb dX10_isOf_27 rfl (lv_at hl 3 rfl) ?_
        refine b_icmp_ne hx hb zl_1 rfl (tgt := 35) dX10_isOf_28 (by decide +kernel) (fun c_15 => by exfalso; omega) (fun c_15 => ?_)
        refine lv_iconst (v := 1) hx hb dX10_isOf_31 (by decide +kernel) ?_
        refine lv_goto (tgt := 36) hx hb dX10_isOf_32 (by decide +kernel) ?_
        exact hRet () [] (Or.inl ⟨rfl, (by unfold mU; first | rw [if_pos (by omega)] | rw [if_neg (by omega)])⟩) hP hD (by decide +kernel) rfl hS rfl dX10_isOf_36
      · refine lv_iload_n hx hb dX10_isOf_15 rfl (lv_at hl 1 rfl) ?_
        refine kJi (wr := []) (va_runS (As := [.int 1]) (rest := []) ⟨hx, hb, hml, hown, hT⟩ (c_X10_kindAboveD l D cI aK aV H.size 1) (cwS 1 hT (gS_in mw_390 mw_388 mw_389 mw_1) rfl rfl rfl (by decide +kernel) ⟨Nat.le_of_ble_eq_true rfl, Nat.le_of_ble_eq_true rfl⟩) (kStatX hK hP hD hN hXS hS hA [] rfl (by decide +kernel)) rfl rfl hl.1 rfl (lv_room (Nat.le_of_ble_eq_true rfl)) dX10_isOf_16 ⟨Nat.le_of_ble_eq_true rfl, Nat.le_of_ble_eq_true rfl⟩) hP hD hS hA [] [] rfl rfl (by decide +kernel) (by decide +kernel) ?_
        clear hP hD hS
        intro r_16 u_18 H locs w_17 hP hD hS
        replace hP : va_P D vwCl [] H := hP
        replace hD : va_D A [] := hD
        rcases w_17 with ⟨hr_16, h_19⟩ | ⟨hr_16, h_20⟩ | ⟨hr_16, h_21⟩ | ⟨hr_16, h_22, h_23, h_24⟩
        · (try simp only [zl_1] at h_19); exfalso; omega
        · (try simp only [zl_1] at h_20); exfalso; omega
        · (try simp only [zl_1] at h_21); exfalso; omega
        · try simp only [zl_1] at h_22
          try simp only [zl_1] at h_23
          try simp only [zl_1] at h_24
          obtain rfl : r_16 = 0 := hr_16.trans (by decide +kernel)
          refine lv_istore_n (lv' := [(2, .int 0), (3, .int 1), (0, .int a0), (1, .int a1)]) hx hb dX10_isOf_19 rfl hl (by decide +kernel) rfl ?_
          clear hl
          intro ls hl
          refine lv_iinc (v := 2) (lv' := [(3, .int 2), (2, .int 0), (0, .int a0), (1, .int a1)]) hx hb dX10_isOf_20 hl (k := 1) rfl (by decide +kernel) (by decide +kernel) rfl ?_
          clear hl
          intro ls hl
          refine lv_goto (tgt := 4) hx hb dX10_isOf_23 (by decide +kernel) ?_
          refine lv_iload_n hx hb dX10_isOf_4 rfl (lv_at hl 0 rfl) ?_
          refine lv_bipush (v := 6) hx hb dX10_isOf_5 (by decide +kernel) ?_
          refine b_icmp_ge hx hb zl_2 zl_6 (tgt := 26) dX10_isOf_7 (by decide +kernel) (fun c_25 => by exfalso; omega) (fun c_25 => ?_)
          refine lv_iload_n hx hb dX10_isOf_10 rfl (lv_at hl 1 rfl) ?_
          refine lv_iload_n hx hb dX10_isOf_11 rfl (lv_at hl 3 rfl) ?_
          refine b_icmp_eq hx hb zl_0 rfl (tgt := 26) dX10_isOf_12 (by decide +kernel) (fun c_26 => ?_) (fun c_26 => ?_)
          · refine lv_iload_n hx hb dX10_isOf_26 rfl (lv_at hl 1 rfl) ?_
            refine lv_iload_n hx hb dX10_isOf_27 rfl (lv_at hl 3 rfl) ?_
            refine b_icmp_ne hx hb zl_0 rfl (tgt := 35) dX10_isOf_28 (by decide +kernel) (fun c_27 => by exfalso; omega) (fun c_27 => ?_)
            refine lv_iconst (v := 1) hx hb dX10_isOf_31 (by decide +kernel) ?_
            refine lv_goto (tgt := 36) hx hb dX10_isOf_32 (by decide +kernel) ?_
            exact hRet () [] (Or.inl ⟨rfl, (by unfold mU; first | rw [if_pos (by omega)] | rw [if_neg (by omega)])⟩) hP hD (by decide +kernel) rfl hS rfl dX10_isOf_36
          · refine lv_iload_n hx hb dX10_isOf_15 rfl (lv_at hl 1 rfl) ?_
            refine kJi (wr := []) (va_runS (As := [.int 0]) (rest := []) ⟨hx, hb, hml, hown, hT⟩ (c_X10_kindAboveD l D cI aK aV H.size 0) (cwS 1 hT (gS_in mw_390 mw_388 mw_389 mw_1) rfl rfl rfl (by decide +kernel) ⟨Nat.le_of_ble_eq_true rfl, Nat.le_of_ble_eq_true rfl⟩) (kStatX hK hP hD hN hXS hS hA [] rfl (by decide +kernel)) rfl rfl hl.1 rfl (lv_room (Nat.le_of_ble_eq_true rfl)) dX10_isOf_16 ⟨Nat.le_of_ble_eq_true rfl, Nat.le_of_ble_eq_true rfl⟩) hP hD hS hA [] [] rfl rfl (by decide +kernel) (by decide +kernel) ?_
            clear hP hD hS
            intro r_28 u_30 H locs w_29 hP hD hS
            replace hP : va_P D vwCl [] H := hP
            replace hD : va_D A [] := hD
            rcases w_29 with ⟨hr_28, h_31⟩ | ⟨hr_28, h_32⟩ | ⟨hr_28, h_33⟩ | ⟨hr_28, h_34, h_35, h_36⟩
            · (try simp only [zl_0] at h_31); exfalso; omega
            · (try simp only [zl_0] at h_32); exfalso; omega
            · (try simp only [zl_0] at h_33); exfalso; omega
            · try simp only [zl_0] at h_34
              try simp only [zl_0] at h_35
              try simp only [zl_0] at h_36
              obtain rfl : r_28 = 0 := hr_28.trans (by decide +kernel)
              refine lv_istore_n (lv' := [(2, .int 0), (3, .int 2), (0, .int a0), (1, .int a1)]) hx hb dX10_isOf_19 rfl hl (by decide +kernel) rfl ?_
              clear hl
              intro ls hl
              refine lv_iinc (v := 3) (lv' := [(3, .int 3), (2, .int 0), (0, .int a0), (1, .int a1)]) hx hb dX10_isOf_20 hl (k := 1) rfl (by decide +kernel) (by decide +kernel) rfl ?_
              clear hl
              intro ls hl
              refine lv_goto (tgt := 4) hx hb dX10_isOf_23 (by decide +kernel) ?_
              refine lv_iload_n hx hb dX10_isOf_4 rfl (lv_at hl 0 rfl) ?_
              refine lv_bipush (v := 6) hx hb dX10_isOf_5 (by decide +kernel) ?_
              refine b_icmp_ge hx hb zl_3 zl_6 (tgt := 26) dX10_isOf_7 (by decide +kernel) (fun c_37 => by exfalso; omega) (fun c_37 => ?_)
              refine lv_iload_n hx hb dX10_isOf_10 rfl (lv_at hl 1 rfl) ?_
              refine lv_iload_n hx hb dX10_isOf_11 rfl (lv_at hl 3 rfl) ?_
              refine b_icmp_eq hx hb zl_0 rfl (tgt := 26) dX10_isOf_12 (by decide +kernel) (fun c_38 => by exfalso; omega) (fun c_38 => ?_)
              refine lv_iload_n hx hb dX10_isOf_15 rfl (lv_at hl 1 rfl) ?_
              refine kJi (wr := []) (va_runS (As := [.int 0]) (rest := []) ⟨hx, hb, hml, hown, hT⟩ (c_X10_kindAboveD l D cI aK aV H.size 0) (cwS 1 hT (gS_in mw_390 mw_388 mw_389 mw_1) rfl rfl rfl (by decide +kernel) ⟨Nat.le_of_ble_eq_true rfl, Nat.le_of_ble_eq_true rfl⟩) (kStatX hK hP hD hN hXS hS hA [] rfl (by decide +kernel)) rfl rfl hl.1 rfl (lv_room (Nat.le_of_ble_eq_true rfl)) dX10_isOf_16 ⟨Nat.le_of_ble_eq_true rfl, Nat.le_of_ble_eq_true rfl⟩) hP hD hS hA [] [] rfl rfl (by decide +kernel) (by decide +kernel) ?_
              clear hP hD hS
              intro r_39 u_41 H locs w_40 hP hD hS
              replace hP : va_P D vwCl [] H := hP
              replace hD : va_D A [] := hD
              rcases w_40 with ⟨hr_39, h_42⟩ | ⟨hr_39, h_43⟩ | ⟨hr_39, h_44⟩ | ⟨hr_39, h_45, h_46, h_47⟩
              · (try simp only [zl_0] at h_42); exfalso; omega
              · (try simp only [zl_0] at h_43); exfalso; omega
              · (try simp only [zl_0] at h_44); exfalso; omega
              · try simp only [zl_0] at h_45
                try simp only [zl_0] at h_46
                try simp only [zl_0] at h_47
                obtain rfl : r_39 = 0 := hr_39.trans (by decide +kernel)
                refine lv_istore_n (lv' := [(2, .int 0), (3, .int 3), (0, .int a0), (1, .int a1)]) hx hb dX10_isOf_19 rfl hl (by decide +kernel) rfl ?_
                clear hl
                intro ls hl
                refine lv_iinc (v := 4) (lv' := [(3, .int 4), (2, .int 0), (0, .int a0), (1, .int a1)]) hx hb dX10_isOf_20 hl (k := 1) rfl (by decide +kernel) (by decide +kernel) rfl ?_
                clear hl
                intro ls hl
                refine lv_goto (tgt := 4) hx hb dX10_isOf_23 (by decide +kernel) ?_
                refine lv_iload_n hx hb dX10_isOf_4 rfl (lv_at hl 0 rfl) ?_
                refine lv_bipush (v := 6) hx hb dX10_isOf_5 (by decide +kernel) ?_
                refine b_icmp_ge hx hb zl_4 zl_6 (tgt := 26) dX10_isOf_7 (by decide +kernel) (fun c_48 => by exfalso; omega) (fun c_48 => ?_)
                refine lv_iload_n hx hb dX10_isOf_10 rfl (lv_at hl 1 rfl) ?_
                refine lv_iload_n hx hb dX10_isOf_11 rfl (lv_at hl 3 rfl) ?_
                refine b_icmp_eq hx hb zl_0 rfl (tgt := 26) dX10_isOf_12 (by decide +kernel) (fun c_49 => by exfalso; omega) (fun c_49 => ?_)
                refine lv_iload_n hx hb dX10_isOf_15 rfl (lv_at hl 1 rfl) ?_
                refine kJi (wr := []) (va_runS (As := [.int 0]) (rest := []) ⟨hx, hb, hml, hown, hT⟩ (c_X10_kindAboveD l D cI aK aV H.size 0) (cwS 1 hT (gS_in mw_390 mw_388 mw_389 mw_1) rfl rfl rfl (by decide +kernel) ⟨Nat.le_of_ble_eq_true rfl, Nat.le_of_ble_eq_true rfl⟩) (kStatX hK hP hD hN hXS hS hA [] rfl (by decide +kernel)) rfl rfl hl.1 rfl (lv_room (Nat.le_of_ble_eq_true rfl)) dX10_isOf_16 ⟨Nat.le_of_ble_eq_true rfl, Nat.le_of_ble_eq_true rfl⟩) hP hD hS hA [] [] rfl rfl (by decide +kernel) (by decide +kernel) ?_
                clear hP hD hS
                intro r_50 u_52 H locs w_51 hP hD hS
                replace hP : va_P D vwCl [] H := hP
                replace hD : va_D A [] := hD
                rcases w_51 with ⟨hr_50, h_53⟩ | ⟨hr_50, h_54⟩ | ⟨hr_50, h_55⟩ | ⟨hr_50, h_56, h_57, h_58⟩
                · (try simp only [zl_0] at h_53); exfalso; omega
                · (try simp only [zl_0] at h_54); exfalso; omega
                · (try simp only [zl_0] at h_55); exfalso; omega
                · try simp only [zl_0] at h_56
                  try simp only [zl_0] at h_57
                  try simp only [zl_0] at h_58
                  obtain rfl : r_50 = 0 := hr_50.trans (by decide +kernel)
                  refine lv_istore_n (lv' := [(2, .int 0), (3, .int 4), (0, .int a0), (1, .int a1)]) hx hb dX10_isOf_19 rfl hl (by decide +kernel) rfl ?_
                  clear hl
                  intro ls hl
                  refine lv_iinc (v := 5) (lv' := [(3, .int 5), (2, .int 0), (0, .int a0), (1, .int a1)]) hx hb dX10_isOf_20 hl (k := 1) rfl (by decide +kernel) (by decide +kernel) rfl ?_
                  clear hl
                  intro ls hl
                  refine lv_goto (tgt := 4) hx hb dX10_isOf_23 (by decide +kernel) ?_
                  refine lv_iload_n hx hb dX10_isOf_4 rfl (lv_at hl 0 rfl) ?_
                  refine lv_bipush (v := 6) hx hb dX10_isOf_5 (by decide +kernel) ?_
                  refine b_icmp_ge hx hb zl_5 zl_6 (tgt := 26) dX10_isOf_7 (by decide +kernel) (fun c_59 => by exfalso; omega) (fun c_59 => ?_)
                  refine lv_iload_n hx hb dX10_isOf_10 rfl (lv_at hl 1 rfl) ?_
                  refine lv_iload_n hx hb dX10_isOf_11 rfl (lv_at hl 3 rfl) ?_
                  refine b_icmp_eq hx hb zl_0 rfl (tgt := 26) dX10_isOf_12 (by decide +kernel) (fun c_60 => by exfalso; omega) (fun c_60 => ?_)
                  refine lv_iload_n hx hb dX10_isOf_15 rfl (lv_at hl 1 rfl) ?_
                  refine kJi (wr := []) (va_runS (As := [.int 0]) (rest := []) ⟨hx, hb, hml, hown, hT⟩ (c_X10_kindAboveD l D cI aK aV H.size 0) (cwS 1 hT (gS_in mw_390 mw_388 mw_389 mw_1) rfl rfl rfl (by decide +kernel) ⟨Nat.le_of_ble_eq_true rfl, Nat.le_of_ble_eq_true rfl⟩) (kStatX hK hP hD hN hXS hS hA [] rfl (by decide +kernel)) rfl rfl hl.1 rfl (lv_room (Nat.le_of_ble_eq_true rfl)) dX10_isOf_16 ⟨Nat.le_of_ble_eq_true rfl, Nat.le_of_ble_eq_true rfl⟩) hP hD hS hA [] [] rfl rfl (by decide +kernel) (by decide +kernel) ?_
                  clear hP hD hS
                  intro r_61 u_63 H locs w_62 hP hD hS
                  replace hP : va_P D vwCl [] H := hP
                  replace hD : va_D A [] := hD
                  rcases w_62 with ⟨hr_61, h_64⟩ | ⟨hr_61, h_65⟩ | ⟨hr_61, h_66⟩ | ⟨hr_61, h_67, h_68, h_69⟩
                  · (try simp only [zl_0] at h_64); exfalso; omega
                  · (try simp only [zl_0] at h_65); exfalso; omega
                  · (try simp only [zl_0] at h_66); exfalso; omega
                  · try simp only [zl_0] at h_67
                    try simp only [zl_0] at h_68
                    try simp only [zl_0] at h_69
                    obtain rfl : r_61 = 0 := hr_61.trans (by decide +kernel)
                    refine lv_istore_n (lv' := [(2, .int 0), (3, .int 5), (0, .int a0), (1, .int a1)]) hx hb dX10_isOf_19 rfl hl (by decide +kernel) rfl ?_
                    clear hl
                    intro ls hl
                    refine lv_iinc (v := 6) (lv' := [(3, .int 6), (2, .int 0), (0, .int a0), (1, .int a1)]) hx hb dX10_isOf_20 hl (k := 1) rfl (by decide +kernel) (by decide +kernel) rfl ?_
                    clear hl
                    intro ls hl
                    refine lv_goto (tgt := 4) hx hb dX10_isOf_23 (by decide +kernel) ?_
                    refine lv_iload_n hx hb dX10_isOf_4 rfl (lv_at hl 0 rfl) ?_
                    refine lv_bipush (v := 6) hx hb dX10_isOf_5 (by decide +kernel) ?_
                    refine b_icmp_ge hx hb zl_6 zl_6 (tgt := 26) dX10_isOf_7 (by decide +kernel) (fun c_70 => ?_) (fun c_70 => by exfalso; omega)
                    refine lv_iload_n hx hb dX10_isOf_26 rfl (lv_at hl 1 rfl) ?_
                    refine lv_iload_n hx hb dX10_isOf_27 rfl (lv_at hl 3 rfl) ?_
                    refine b_icmp_ne hx hb zl_0 rfl (tgt := 35) dX10_isOf_28 (by decide +kernel) (fun c_71 => ?_) (fun c_71 => by exfalso; omega)
                    refine lv_iconst (v := 0) hx hb dX10_isOf_35 (by decide +kernel) ?_
                    exact hRet () [] (Or.inr (⟨rfl, (by unfold mU; first | rw [if_pos (by omega)] | rw [if_neg (by omega)])⟩)) hP hD (by decide +kernel) rfl hS rfl dX10_isOf_36
    · have h_8 : a0.toInt = 3 := h_8
      obtain rfl : r_4 = 2 := hr_4.trans (by decide +kernel)
      refine lv_istore_n (lv' := [(2, .int 2), (3, .int 0), (0, .int a0), (1, .int a1)]) hx hb dX10_isOf_19 rfl hl (by decide +kernel) rfl ?_
      clear hl
      intro ls hl
      refine lv_iinc (v := 1) (lv' := [(3, .int 1), (2, .int 2), (0, .int a0), (1, .int a1)]) hx hb dX10_isOf_20 hl (k := 1) rfl (by decide +kernel) (by decide +kernel) rfl ?_
      clear hl
      intro ls hl
      refine lv_goto (tgt := 4) hx hb dX10_isOf_23 (by decide +kernel) ?_
      refine lv_iload_n hx hb dX10_isOf_4 rfl (lv_at hl 0 rfl) ?_
      refine lv_bipush (v := 6) hx hb dX10_isOf_5 (by decide +kernel) ?_
      refine b_icmp_ge hx hb zl_1 zl_6 (tgt := 26) dX10_isOf_7 (by decide +kernel) (fun c_72 => by exfalso; omega) (fun c_72 => ?_)
      refine lv_iload_n hx hb dX10_isOf_10 rfl (lv_at hl 1 rfl) ?_
      refine lv_iload_n hx hb dX10_isOf_11 rfl (lv_at hl 3 rfl) ?_
      refine b_icmp_eq hx hb zl_2 rfl (tgt := 26) dX10_isOf_12 (by decide +kernel) (fun c_73 => ?_) (fun c_73 => ?_)
      · refine lv_iload_n hx hb dX10_isOf_26 rfl (lv_at hl 1 rfl) ?_
        refine lv_iload_n hx hb dX10_isOf_27 rfl (lv_at hl 3 rfl) ?_
        refine b_icmp_ne hx hb zl_2 rfl (tgt := 35) dX10_isOf_28 (by decide +kernel) (fun c_74 => by exfalso; omega) (fun c_74 => ?_)
        refine lv_iconst (v := 1) hx hb dX10_isOf_31 (by decide +kernel) ?_
        refine lv_goto (tgt := 36) hx hb dX10_isOf_32 (by decide +kernel) ?_
        exact hRet () [] (Or.inl ⟨rfl, (by unfold mU; first | rw [if_pos (by omega)] | rw [if_neg (by omega)])⟩) hP hD (by decide +kernel) rfl hS rfl dX10_isOf_36
      · refine lv_iload_n hx hb dX10_isOf_15 rfl (lv_at hl 1 rfl) ?_
        refine kJi (wr := []) (va_runS (As := [.int 2]) (rest := []) ⟨hx, hb, hml, hown, hT⟩ (c_X10_kindAboveD l D cI aK aV H.size 2) (cwS 1 hT (gS_in mw_390 mw_388 mw_389 mw_1) rfl rfl rfl (by decide +kernel) ⟨Nat.le_of_ble_eq_true rfl, Nat.le_of_ble_eq_true rfl⟩) (kStatX hK hP hD hN hXS hS hA [] rfl (by decide +kernel)) rfl rfl hl.1 rfl (lv_room (Nat.le_of_ble_eq_true rfl)) dX10_isOf_16 ⟨Nat.le_of_ble_eq_true rfl, Nat.le_of_ble_eq_true rfl⟩) hP hD hS hA [] [] rfl rfl (by decide +kernel) (by decide +kernel) ?_
        clear hP hD hS
        intro r_75 u_77 H locs w_76 hP hD hS
        replace hP : va_P D vwCl [] H := hP
        replace hD : va_D A [] := hD
        rcases w_76 with ⟨hr_75, h_78⟩ | ⟨hr_75, h_79⟩ | ⟨hr_75, h_80⟩ | ⟨hr_75, h_81, h_82, h_83⟩
        · try simp only [zl_2] at h_78
          obtain rfl : r_75 = 1 := hr_75.trans (by decide +kernel)
          refine lv_istore_n (lv' := [(2, .int 1), (3, .int 1), (0, .int a0), (1, .int a1)]) hx hb dX10_isOf_19 rfl hl (by decide +kernel) rfl ?_
          clear hl
          intro ls hl
          refine lv_iinc (v := 2) (lv' := [(3, .int 2), (2, .int 1), (0, .int a0), (1, .int a1)]) hx hb dX10_isOf_20 hl (k := 1) rfl (by decide +kernel) (by decide +kernel) rfl ?_
          clear hl
          intro ls hl
          refine lv_goto (tgt := 4) hx hb dX10_isOf_23 (by decide +kernel) ?_
          refine lv_iload_n hx hb dX10_isOf_4 rfl (lv_at hl 0 rfl) ?_
          refine lv_bipush (v := 6) hx hb dX10_isOf_5 (by decide +kernel) ?_
          refine b_icmp_ge hx hb zl_2 zl_6 (tgt := 26) dX10_isOf_7 (by decide +kernel) (fun c_84 => by exfalso; omega) (fun c_84 => ?_)
          refine lv_iload_n hx hb dX10_isOf_10 rfl (lv_at hl 1 rfl) ?_
          refine lv_iload_n hx hb dX10_isOf_11 rfl (lv_at hl 3 rfl) ?_
          refine b_icmp_eq hx hb zl_1 rfl (tgt := 26) dX10_isOf_12 (by decide +kernel) (fun c_85 => ?_) (fun c_85 => ?_)
          · refine lv_iload_n hx hb dX10_isOf_26 rfl (lv_at hl 1 rfl) ?_
            refine lv_iload_n hx hb dX10_isOf_27 rfl (lv_at hl 3 rfl) ?_
            refine b_icmp_ne hx hb zl_1 rfl (tgt := 35) dX10_isOf_28 (by decide +kernel) (fun c_86 => by exfalso; omega) (fun c_86 => ?_)
            refine lv_iconst (v := 1) hx hb dX10_isOf_31 (by decide +kernel) ?_
            refine lv_goto (tgt := 36) hx hb dX10_isOf_32 (by decide +kernel) ?_
            exact hRet () [] (Or.inl ⟨rfl, (by unfold mU; first | rw [if_pos (by omega)] | rw [if_neg (by omega)])⟩) hP hD (by decide +kernel) rfl hS rfl dX10_isOf_36
          · refine lv_iload_n hx hb dX10_isOf_15 rfl (lv_at hl 1 rfl) ?_
            refine kJi (wr := []) (va_runS (As := [.int 1]) (rest := []) ⟨hx, hb, hml, hown, hT⟩ (c_X10_kindAboveD l D cI aK aV H.size 1) (cwS 1 hT (gS_in mw_390 mw_388 mw_389 mw_1) rfl rfl rfl (by decide +kernel) ⟨Nat.le_of_ble_eq_true rfl, Nat.le_of_ble_eq_true rfl⟩) (kStatX hK hP hD hN hXS hS hA [] rfl (by decide +kernel)) rfl rfl hl.1 rfl (lv_room (Nat.le_of_ble_eq_true rfl)) dX10_isOf_16 ⟨Nat.le_of_ble_eq_true rfl, Nat.le_of_ble_eq_true rfl⟩) hP hD hS hA [] [] rfl rfl (by decide +kernel) (by decide +kernel) ?_
            clear hP hD hS
            intro r_87 u_89 H locs w_88 hP hD hS
            replace hP : va_P D vwCl [] H := hP
            replace hD : va_D A [] := hD
            rcases w_88 with ⟨hr_87, h_90⟩ | ⟨hr_87, h_91⟩ | ⟨hr_87, h_92⟩ | ⟨hr_87, h_93, h_94, h_95⟩
            · (try simp only [zl_1] at h_90); exfalso; omega
            · (try simp only [zl_1] at h_91); exfalso; omega
            · (try simp only [zl_1] at h_92); exfalso; omega
            · try simp only [zl_1] at h_93
              try simp only [zl_1] at h_94
              try simp only [zl_1] at h_95
              obtain rfl : r_87 = 0 := hr_87.trans (by decide +kernel)
              refine lv_istore_n (lv' := [(2, .int 0), (3, .int 2), (0, .int a0), (1, .int a1)]) hx hb dX10_isOf_19 rfl hl (by decide +kernel) rfl ?_
              clear hl
              intro ls hl
              refine lv_iinc (v := 3) (lv' := [(3, .int 3), (2, .int 0), (0, .int a0), (1, .int a1)]) hx hb dX10_isOf_20 hl (k := 1) rfl (by decide +kernel) (by decide +kernel) rfl ?_
              clear hl
              intro ls hl
              refine lv_goto (tgt := 4) hx hb dX10_isOf_23 (by decide +kernel) ?_
              refine lv_iload_n hx hb dX10_isOf_4 rfl (lv_at hl 0 rfl) ?_
              refine lv_bipush (v := 6) hx hb dX10_isOf_5 (by decide +kernel) ?_
              refine b_icmp_ge hx hb zl_3 zl_6 (tgt := 26) dX10_isOf_7 (by decide +kernel) (fun c_96 => by exfalso; omega) (fun c_96 => ?_)
              refine lv_iload_n hx hb dX10_isOf_10 rfl (lv_at hl 1 rfl) ?_
              refine lv_iload_n hx hb dX10_isOf_11 rfl (lv_at hl 3 rfl) ?_
              refine b_icmp_eq hx hb zl_0 rfl (tgt := 26) dX10_isOf_12 (by decide +kernel) (fun c_97 => ?_) (fun c_97 => ?_)
              · refine lv_iload_n hx hb dX10_isOf_26 rfl (lv_at hl 1 rfl) ?_
                refine lv_iload_n hx hb dX10_isOf_27 rfl (lv_at hl 3 rfl) ?_
                refine b_icmp_ne hx hb zl_0 rfl (tgt := 35) dX10_isOf_28 (by decide +kernel) (fun c_98 => by exfalso; omega) (fun c_98 => ?_)
                refine lv_iconst (v := 1) hx hb dX10_isOf_31 (by decide +kernel) ?_
                refine lv_goto (tgt := 36) hx hb dX10_isOf_32 (by decide +kernel) ?_
                exact hRet () [] (Or.inl ⟨rfl, (by unfold mU; first | rw [if_pos (by omega)] | rw [if_neg (by omega)])⟩) hP hD (by decide +kernel) rfl hS rfl dX10_isOf_36
              · refine lv_iload_n hx hb dX10_isOf_15 rfl (lv_at hl 1 rfl) ?_
                refine kJi (wr := []) (va_runS (As := [.int 0]) (rest := []) ⟨hx, hb, hml, hown, hT⟩ (c_X10_kindAboveD l D cI aK aV H.size 0) (cwS 1 hT (gS_in mw_390 mw_388 mw_389 mw_1) rfl rfl rfl (by decide +kernel) ⟨Nat.le_of_ble_eq_true rfl, Nat.le_of_ble_eq_true rfl⟩) (kStatX hK hP hD hN hXS hS hA [] rfl (by decide +kernel)) rfl rfl hl.1 rfl (lv_room (Nat.le_of_ble_eq_true rfl)) dX10_isOf_16 ⟨Nat.le_of_ble_eq_true rfl, Nat.le_of_ble_eq_true rfl⟩) hP hD hS hA [] [] rfl rfl (by decide +kernel) (by decide +kernel) ?_
                clear hP hD hS
                intro r_99 u_101 H locs w_100 hP hD hS
                replace hP : va_P D vwCl [] H := hP
                replace hD : va_D A [] := hD
                rcases w_100 with ⟨hr_99, h_102⟩ | ⟨hr_99, h_103⟩ | ⟨hr_99, h_104⟩ | ⟨hr_99, h_105, h_106, h_107⟩
                · (try simp only [zl_0] at h_102); exfalso; omega
                · (try simp only [zl_0] at h_103); exfalso; omega
                · (try simp only [zl_0] at h_104); exfalso; omega
                · try simp only [zl_0] at h_105
                  try simp only [zl_0] at h_106
                  try simp only [zl_0] at h_107
                  obtain rfl : r_99 = 0 := hr_99.trans (by decide +kernel)
                  refine lv_istore_n (lv' := [(2, .int 0), (3, .int 3), (0, .int a0), (1, .int a1)]) hx hb dX10_isOf_19 rfl hl (by decide +kernel) rfl ?_
                  clear hl
                  intro ls hl
                  refine lv_iinc (v := 4) (lv' := [(3, .int 4), (2, .int 0), (0, .int a0), (1, .int a1)]) hx hb dX10_isOf_20 hl (k := 1) rfl (by decide +kernel) (by decide +kernel) rfl ?_
                  clear hl
                  intro ls hl
                  refine lv_goto (tgt := 4) hx hb dX10_isOf_23 (by decide +kernel) ?_
                  refine lv_iload_n hx hb dX10_isOf_4 rfl (lv_at hl 0 rfl) ?_
                  refine lv_bipush (v := 6) hx hb dX10_isOf_5 (by decide +kernel) ?_
                  refine b_icmp_ge hx hb zl_4 zl_6 (tgt := 26) dX10_isOf_7 (by decide +kernel) (fun c_108 => by exfalso; omega) (fun c_108 => ?_)
                  refine lv_iload_n hx hb dX10_isOf_10 rfl (lv_at hl 1 rfl) ?_
                  refine lv_iload_n hx hb dX10_isOf_11 rfl (lv_at hl 3 rfl) ?_
                  refine b_icmp_eq hx hb zl_0 rfl (tgt := 26) dX10_isOf_12 (by decide +kernel) (fun c_109 => by exfalso; omega) (fun c_109 => ?_)
                  refine lv_iload_n hx hb dX10_isOf_15 rfl (lv_at hl 1 rfl) ?_
                  refine kJi (wr := []) (va_runS (As := [.int 0]) (rest := []) ⟨hx, hb, hml, hown, hT⟩ (c_X10_kindAboveD l D cI aK aV H.size 0) (cwS 1 hT (gS_in mw_390 mw_388 mw_389 mw_1) rfl rfl rfl (by decide +kernel) ⟨Nat.le_of_ble_eq_true rfl, Nat.le_of_ble_eq_true rfl⟩) (kStatX hK hP hD hN hXS hS hA [] rfl (by decide +kernel)) rfl rfl hl.1 rfl (lv_room (Nat.le_of_ble_eq_true rfl)) dX10_isOf_16 ⟨Nat.le_of_ble_eq_true rfl, Nat.le_of_ble_eq_true rfl⟩) hP hD hS hA [] [] rfl rfl (by decide +kernel) (by decide +kernel) ?_
                  clear hP hD hS
                  intro r_110 u_112 H locs w_111 hP hD hS
                  replace hP : va_P D vwCl [] H := hP
                  replace hD : va_D A [] := hD
                  rcases w_111 with ⟨hr_110, h_113⟩ | ⟨hr_110, h_114⟩ | ⟨hr_110, h_115⟩ | ⟨hr_110, h_116, h_117, h_118⟩
                  · (try simp only [zl_0] at h_113); exfalso; omega
                  · (try simp only [zl_0] at h_114); exfalso; omega
                  · (try simp only [zl_0] at h_115); exfalso; omega
                  · try simp only [zl_0] at h_116
                    try simp only [zl_0] at h_117
                    try simp only [zl_0] at h_118
                    obtain rfl : r_110 = 0 := hr_110.trans (by decide +kernel)
                    refine lv_istore_n (lv' := [(2, .int 0), (3, .int 4), (0, .int a0), (1, .int a1)]) hx hb dX10_isOf_19 rfl hl (by decide +kernel) rfl ?_
                    clear hl
                    intro ls hl
                    refine lv_iinc (v := 5) (lv' := [(3, .int 5), (2, .int 0), (0, .int a0), (1, .int a1)]) hx hb dX10_isOf_20 hl (k := 1) rfl (by decide +kernel) (by decide +kernel) rfl ?_
                    clear hl
                    intro ls hl
                    refine lv_goto (tgt := 4) hx hb dX10_isOf_23 (by decide +kernel) ?_
                    refine lv_iload_n hx hb dX10_isOf_4 rfl (lv_at hl 0 rfl) ?_
                    refine lv_bipush (v := 6) hx hb dX10_isOf_5 (by decide +kernel) ?_
                    refine b_icmp_ge hx hb zl_5 zl_6 (tgt := 26) dX10_isOf_7 (by decide +kernel) (fun c_119 => by exfalso; omega) (fun c_119 => ?_)
                    refine lv_iload_n hx hb dX10_isOf_10 rfl (lv_at hl 1 rfl) ?_
                    refine lv_iload_n hx hb dX10_isOf_11 rfl (lv_at hl 3 rfl) ?_
                    refine b_icmp_eq hx hb zl_0 rfl (tgt := 26) dX10_isOf_12 (by decide +kernel) (fun c_120 => by exfalso; omega) (fun c_120 => ?_)
                    refine lv_iload_n hx hb dX10_isOf_15 rfl (lv_at hl 1 rfl) ?_
                    refine kJi (wr := []) (va_runS (As := [.int 0]) (rest := []) ⟨hx, hb, hml, hown, hT⟩ (c_X10_kindAboveD l D cI aK aV H.size 0) (cwS 1 hT (gS_in mw_390 mw_388 mw_389 mw_1) rfl rfl rfl (by decide +kernel) ⟨Nat.le_of_ble_eq_true rfl, Nat.le_of_ble_eq_true rfl⟩) (kStatX hK hP hD hN hXS hS hA [] rfl (by decide +kernel)) rfl rfl hl.1 rfl (lv_room (Nat.le_of_ble_eq_true rfl)) dX10_isOf_16 ⟨Nat.le_of_ble_eq_true rfl, Nat.le_of_ble_eq_true rfl⟩) hP hD hS hA [] [] rfl rfl (by decide +kernel) (by decide +kernel) ?_
                    clear hP hD hS
                    intro r_121 u_123 H locs w_122 hP hD hS
                    replace hP : va_P D vwCl [] H := hP
                    replace hD : va_D A [] := hD
                    rcases w_122 with ⟨hr_121, h_124⟩ | ⟨hr_121, h_125⟩ | ⟨hr_121, h_126⟩ | ⟨hr_121, h_127, h_128, h_129⟩
                    · (try simp only [zl_0] at h_124); exfalso; omega
                    · (try simp only [zl_0] at h_125); exfalso; omega
                    · (try simp only [zl_0] at h_126); exfalso; omega
                    · try simp only [zl_0] at h_127
                      try simp only [zl_0] at h_128
                      try simp only [zl_0] at h_129
                      obtain rfl : r_121 = 0 := hr_121.trans (by decide +kernel)
                      refine lv_istore_n (lv' := [(2, .int 0), (3, .int 5), (0, .int a0), (1, .int a1)]) hx hb dX10_isOf_19 rfl hl (by decide +kernel) rfl ?_
                      clear hl
                      intro ls hl
                      refine lv_iinc (v := 6) (lv' := [(3, .int 6), (2, .int 0), (0, .int a0), (1, .int a1)]) hx hb dX10_isOf_20 hl (k := 1) rfl (by decide +kernel) (by decide +kernel) rfl ?_
                      clear hl
                      intro ls hl
                      refine lv_goto (tgt := 4) hx hb dX10_isOf_23 (by decide +kernel) ?_
                      refine lv_iload_n hx hb dX10_isOf_4 rfl (lv_at hl 0 rfl) ?_
                      refine lv_bipush (v := 6) hx hb dX10_isOf_5 (by decide +kernel) ?_
                      refine b_icmp_ge hx hb zl_6 zl_6 (tgt := 26) dX10_isOf_7 (by decide +kernel) (fun c_130 => ?_) (fun c_130 => by exfalso; omega)
                      refine lv_iload_n hx hb dX10_isOf_26 rfl (lv_at hl 1 rfl) ?_
                      refine lv_iload_n hx hb dX10_isOf_27 rfl (lv_at hl 3 rfl) ?_
                      refine b_icmp_ne hx hb zl_0 rfl (tgt := 35) dX10_isOf_28 (by decide +kernel) (fun c_131 => ?_) (fun c_131 => by exfalso; omega)
                      refine lv_iconst (v := 0) hx hb dX10_isOf_35 (by decide +kernel) ?_
                      exact hRet () [] (Or.inr (⟨rfl, (by unfold mU; first | rw [if_pos (by omega)] | rw [if_neg (by omega)])⟩)) hP hD (by decide +kernel) rfl hS rfl dX10_isOf_36
        · (try simp only [zl_2] at h_79); exfalso; omega
        · (try simp only [zl_2] at h_80); exfalso; omega
        · (try simp only [zl_2] at h_81 h_82 h_83); exfalso; omega
    · have h_9 : a0.toInt = 5 := h_9
      obtain rfl : r_4 = 4 := hr_4.trans (by decide +kernel)
      refine lv_istore_n (lv' := [(2, .int 4), (3, .int 0), (0, .int a0), (1, .int a1)]) hx hb dX10_isOf_19 rfl hl (by decide +kernel) rfl ?_
      clear hl
      intro ls hl
      refine lv_iinc (v := 1) (lv' := [(3, .int 1), (2, .int 4), (0, .int a0), (1, .int a1)]) hx hb dX10_isOf_20 hl (k := 1) rfl (by decide +kernel) (by decide +kernel) rfl ?_
      clear hl
      intro ls hl
      refine lv_goto (tgt := 4) hx hb dX10_isOf_23 (by decide +kernel) ?_
      refine lv_iload_n hx hb dX10_isOf_4 rfl (lv_at hl 0 rfl) ?_
      refine lv_bipush (v := 6) hx hb dX10_isOf_5 (by decide +kernel) ?_
      refine b_icmp_ge hx hb zl_1 zl_6 (tgt := 26) dX10_isOf_7 (by decide +kernel) (fun c_132 => by exfalso; omega) (fun c_132 => ?_)
      refine lv_iload_n hx hb dX10_isOf_10 rfl (lv_at hl 1 rfl) ?_
      refine lv_iload_n hx hb dX10_isOf_11 rfl (lv_at hl 3 rfl) ?_
      refine b_icmp_eq hx hb zl_4 rfl (tgt := 26) dX10_isOf_12 (by decide +kernel) (fun c_133 => ?_) (fun c_133 => ?_)
      · refine lv_iload_n hx hb dX10_isOf_26 rfl (lv_at hl 1 rfl) ?_
        refine lv_iload_n hx hb dX10_isOf_27 rfl (lv_at hl 3 rfl) ?_
        refine b_icmp_ne hx hb zl_4 rfl (tgt := 35) dX10_isOf_28 (by decide +kernel) (fun c_134 => by exfalso; omega) (fun c_134 => ?_)
        refine lv_iconst (v := 1) hx hb dX10_isOf_31 (by decide +kernel) ?_
        refine lv_goto (tgt := 36) hx hb dX10_isOf_32 (by decide +kernel) ?_
        exact hRet () [] (Or.inl ⟨rfl, (by unfold mU; first | rw [if_pos (by omega)] | rw [if_neg (by omega)])⟩) hP hD (by decide +kernel) rfl hS rfl dX10_isOf_36
      · refine lv_iload_n hx hb dX10_isOf_15 rfl (lv_at hl 1 rfl) ?_
        refine kJi (wr := []) (va_runS (As := [.int 4]) (rest := []) ⟨hx, hb, hml, hown, hT⟩ (c_X10_kindAboveD l D cI aK aV H.size 4) (cwS 1 hT (gS_in mw_390 mw_388 mw_389 mw_1) rfl rfl rfl (by decide +kernel) ⟨Nat.le_of_ble_eq_true rfl, Nat.le_of_ble_eq_true rfl⟩) (kStatX hK hP hD hN hXS hS hA [] rfl (by decide +kernel)) rfl rfl hl.1 rfl (lv_room (Nat.le_of_ble_eq_true rfl)) dX10_isOf_16 ⟨Nat.le_of_ble_eq_true rfl, Nat.le_of_ble_eq_true rfl⟩) hP hD hS hA [] [] rfl rfl (by decide +kernel) (by decide +kernel) ?_
        clear hP hD hS
        intro r_135 u_137 H locs w_136 hP hD hS
        replace hP : va_P D vwCl [] H := hP
        replace hD : va_D A [] := hD
        rcases w_136 with ⟨hr_135, h_138⟩ | ⟨hr_135, h_139⟩ | ⟨hr_135, h_140⟩ | ⟨hr_135, h_141, h_142, h_143⟩
        · (try simp only [zl_4] at h_138); exfalso; omega
        · (try simp only [zl_4] at h_139); exfalso; omega
        · (try simp only [zl_4] at h_140); exfalso; omega
        · try simp only [zl_4] at h_141
          try simp only [zl_4] at h_142
          try simp only [zl_4] at h_143
          obtain rfl : r_135 = 0 := hr_135.trans (by decide +kernel)
          refine lv_istore_n (lv' := [(2, .int 0), (3, .int 1), (0, .int a0), (1, .int a1)]) hx hb dX10_isOf_19 rfl hl (by decide +kernel) rfl ?_
          clear hl
          intro ls hl
          refine lv_iinc (v := 2) (lv' := [(3, .int 2), (2, .int 0), (0, .int a0), (1, .int a1)]) hx hb dX10_isOf_20 hl (k := 1) rfl (by decide +kernel) (by decide +kernel) rfl ?_
          clear hl
          intro ls hl
          refine lv_goto (tgt := 4) hx hb dX10_isOf_23 (by decide +kernel) ?_
          refine lv_iload_n hx hb dX10_isOf_4 rfl (lv_at hl 0 rfl) ?_
          refine lv_bipush (v := 6) hx hb dX10_isOf_5 (by decide +kernel) ?_
          refine b_icmp_ge hx hb zl_2 zl_6 (tgt := 26) dX10_isOf_7 (by decide +kernel) (fun c_144 => by exfalso; omega) (fun c_144 => ?_)
          refine lv_iload_n hx hb dX10_isOf_10 rfl (lv_at hl 1 rfl) ?_
          refine lv_iload_n hx hb dX10_isOf_11 rfl (lv_at hl 3 rfl) ?_
          refine b_icmp_eq hx hb zl_0 rfl (tgt := 26) dX10_isOf_12 (by decide +kernel) (fun c_145 => ?_) (fun c_145 => ?_)
          · refine lv_iload_n hx hb dX10_isOf_26 rfl (lv_at hl 1 rfl) ?_
            refine lv_iload_n hx hb dX10_isOf_27 rfl (lv_at hl 3 rfl) ?_
            refine b_icmp_ne hx hb zl_0 rfl (tgt := 35) dX10_isOf_28 (by decide +kernel) (fun c_146 => by exfalso; omega) (fun c_146 => ?_)
            refine lv_iconst (v := 1) hx hb dX10_isOf_31 (by decide +kernel) ?_
            refine lv_goto (tgt := 36) hx hb dX10_isOf_32 (by decide +kernel) ?_
            exact hRet () [] (Or.inl ⟨rfl, (by unfold mU; first | rw [if_pos (by omega)] | rw [if_neg (by omega)])⟩) hP hD (by decide +kernel) rfl hS rfl dX10_isOf_36
          · refine lv_iload_n hx hb dX10_isOf_15 rfl (lv_at hl 1 rfl) ?_
            refine kJi (wr := []) (va_runS (As := [.int 0]) (rest := []) ⟨hx, hb, hml, hown, hT⟩ (c_X10_kindAboveD l D cI aK aV H.size 0) (cwS 1 hT (gS_in mw_390 mw_388 mw_389 mw_1) rfl rfl rfl (by decide +kernel) ⟨Nat.le_of_ble_eq_true rfl, Nat.le_of_ble_eq_true rfl⟩) (kStatX hK hP hD hN hXS hS hA [] rfl (by decide +kernel)) rfl rfl hl.1 rfl (lv_room (Nat.le_of_ble_eq_true rfl)) dX10_isOf_16 ⟨Nat.le_of_ble_eq_true rfl, Nat.le_of_ble_eq_true rfl⟩) hP hD hS hA [] [] rfl rfl (by decide +kernel) (by decide +kernel) ?_
            clear hP hD hS
            intro r_147 u_149 H locs w_148 hP hD hS
            replace hP : va_P D vwCl [] H := hP
            replace hD : va_D A [] := hD
            rcases w_148 with ⟨hr_147, h_150⟩ | ⟨hr_147, h_151⟩ | ⟨hr_147, h_152⟩ | ⟨hr_147, h_153, h_154, h_155⟩
            · (try simp only [zl_0] at h_150); exfalso; omega
            · (try simp only [zl_0] at h_151); exfalso; omega
            · (try simp only [zl_0] at h_152); exfalso; omega
            · try simp only [zl_0] at h_153
              try simp only [zl_0] at h_154
              try simp only [zl_0] at h_155
              obtain rfl : r_147 = 0 := hr_147.trans (by decide +kernel)
              refine lv_istore_n (lv' := [(2, .int 0), (3, .int 2), (0, .int a0), (1, .int a1)]) hx hb dX10_isOf_19 rfl hl (by decide +kernel) rfl ?_
              clear hl
              intro ls hl
              refine lv_iinc (v := 3) (lv' := [(3, .int 3), (2, .int 0), (0, .int a0), (1, .int a1)]) hx hb dX10_isOf_20 hl (k := 1) rfl (by decide +kernel) (by decide +kernel) rfl ?_
              clear hl
              intro ls hl
              refine lv_goto (tgt := 4) hx hb dX10_isOf_23 (by decide +kernel) ?_
              refine lv_iload_n hx hb dX10_isOf_4 rfl (lv_at hl 0 rfl) ?_
              refine lv_bipush (v := 6) hx hb dX10_isOf_5 (by decide +kernel) ?_
              refine b_icmp_ge hx hb zl_3 zl_6 (tgt := 26) dX10_isOf_7 (by decide +kernel) (fun c_156 => by exfalso; omega) (fun c_156 => ?_)
              refine lv_iload_n hx hb dX10_isOf_10 rfl (lv_at hl 1 rfl) ?_
              refine lv_iload_n hx hb dX10_isOf_11 rfl (lv_at hl 3 rfl) ?_
              refine b_icmp_eq hx hb zl_0 rfl (tgt := 26) dX10_isOf_12 (by decide +kernel) (fun c_157 => by exfalso; omega) (fun c_157 => ?_)
              refine lv_iload_n hx hb dX10_isOf_15 rfl (lv_at hl 1 rfl) ?_
              refine kJi (wr := []) (va_runS (As := [.int 0]) (rest := []) ⟨hx, hb, hml, hown, hT⟩ (c_X10_kindAboveD l D cI aK aV H.size 0) (cwS 1 hT (gS_in mw_390 mw_388 mw_389 mw_1) rfl rfl rfl (by decide +kernel) ⟨Nat.le_of_ble_eq_true rfl, Nat.le_of_ble_eq_true rfl⟩) (kStatX hK hP hD hN hXS hS hA [] rfl (by decide +kernel)) rfl rfl hl.1 rfl (lv_room (Nat.le_of_ble_eq_true rfl)) dX10_isOf_16 ⟨Nat.le_of_ble_eq_true rfl, Nat.le_of_ble_eq_true rfl⟩) hP hD hS hA [] [] rfl rfl (by decide +kernel) (by decide +kernel) ?_
              clear hP hD hS
              intro r_158 u_160 H locs w_159 hP hD hS
              replace hP : va_P D vwCl [] H := hP
              replace hD : va_D A [] := hD
              rcases w_159 with ⟨hr_158, h_161⟩ | ⟨hr_158, h_162⟩ | ⟨hr_158, h_163⟩ | ⟨hr_158, h_164, h_165, h_166⟩
              · (try simp only [zl_0] at h_161); exfalso; omega
              · (try simp only [zl_0] at h_162); exfalso; omega
              · (try simp only [zl_0] at h_163); exfalso; omega
              · try simp only [zl_0] at h_164
                try simp only [zl_0] at h_165
                try simp only [zl_0] at h_166
                obtain rfl : r_158 = 0 := hr_158.trans (by decide +kernel)
                refine lv_istore_n (lv' := [(2, .int 0), (3, .int 3), (0, .int a0), (1, .int a1)]) hx hb dX10_isOf_19 rfl hl (by decide +kernel) rfl ?_
                clear hl
                intro ls hl
                refine lv_iinc (v := 4) (lv' := [(3, .int 4), (2, .int 0), (0, .int a0), (1, .int a1)]) hx hb dX10_isOf_20 hl (k := 1) rfl (by decide +kernel) (by decide +kernel) rfl ?_
                clear hl
                intro ls hl
                refine lv_goto (tgt := 4) hx hb dX10_isOf_23 (by decide +kernel) ?_
                refine lv_iload_n hx hb dX10_isOf_4 rfl (lv_at hl 0 rfl) ?_
                refine lv_bipush (v := 6) hx hb dX10_isOf_5 (by decide +kernel) ?_
                refine b_icmp_ge hx hb zl_4 zl_6 (tgt := 26) dX10_isOf_7 (by decide +kernel) (fun c_167 => by exfalso; omega) (fun c_167 => ?_)
                refine lv_iload_n hx hb dX10_isOf_10 rfl (lv_at hl 1 rfl) ?_
                refine lv_iload_n hx hb dX10_isOf_11 rfl (lv_at hl 3 rfl) ?_
                refine b_icmp_eq hx hb zl_0 rfl (tgt := 26) dX10_isOf_12 (by decide +kernel) (fun c_168 => by exfalso; omega) (fun c_168 => ?_)
                refine lv_iload_n hx hb dX10_isOf_15 rfl (lv_at hl 1 rfl) ?_
                refine kJi (wr := []) (va_runS (As := [.int 0]) (rest := []) ⟨hx, hb, hml, hown, hT⟩ (c_X10_kindAboveD l D cI aK aV H.size 0) (cwS 1 hT (gS_in mw_390 mw_388 mw_389 mw_1) rfl rfl rfl (by decide +kernel) ⟨Nat.le_of_ble_eq_true rfl, Nat.le_of_ble_eq_true rfl⟩) (kStatX hK hP hD hN hXS hS hA [] rfl (by decide +kernel)) rfl rfl hl.1 rfl (lv_room (Nat.le_of_ble_eq_true rfl)) dX10_isOf_16 ⟨Nat.le_of_ble_eq_true rfl, Nat.le_of_ble_eq_true rfl⟩) hP hD hS hA [] [] rfl rfl (by decide +kernel) (by decide +kernel) ?_
                clear hP hD hS
                intro r_169 u_171 H locs w_170 hP hD hS
                replace hP : va_P D vwCl [] H := hP
                replace hD : va_D A [] := hD
                rcases w_170 with ⟨hr_169, h_172⟩ | ⟨hr_169, h_173⟩ | ⟨hr_169, h_174⟩ | ⟨hr_169, h_175, h_176, h_177⟩
                · (try simp only [zl_0] at h_172); exfalso; omega
                · (try simp only [zl_0] at h_173); exfalso; omega
                · (try simp only [zl_0] at h_174); exfalso; omega
                · try simp only [zl_0] at h_175
                  try simp only [zl_0] at h_176
                  try simp only [zl_0] at h_177
                  obtain rfl : r_169 = 0 := hr_169.trans (by decide +kernel)
                  refine lv_istore_n (lv' := [(2, .int 0), (3, .int 4), (0, .int a0), (1, .int a1)]) hx hb dX10_isOf_19 rfl hl (by decide +kernel) rfl ?_
                  clear hl
                  intro ls hl
                  refine lv_iinc (v := 5) (lv' := [(3, .int 5), (2, .int 0), (0, .int a0), (1, .int a1)]) hx hb dX10_isOf_20 hl (k := 1) rfl (by decide +kernel) (by decide +kernel) rfl ?_
                  clear hl
                  intro ls hl
                  refine lv_goto (tgt := 4) hx hb dX10_isOf_23 (by decide +kernel) ?_
                  refine lv_iload_n hx hb dX10_isOf_4 rfl (lv_at hl 0 rfl) ?_
                  refine lv_bipush (v := 6) hx hb dX10_isOf_5 (by decide +kernel) ?_
                  refine b_icmp_ge hx hb zl_5 zl_6 (tgt := 26) dX10_isOf_7 (by decide +kernel) (fun c_178 => by exfalso; omega) (fun c_178 => ?_)
                  refine lv_iload_n hx hb dX10_isOf_10 rfl (lv_at hl 1 rfl) ?_
                  refine lv_iload_n hx hb dX10_isOf_11 rfl (lv_at hl 3 rfl) ?_
                  refine b_icmp_eq hx hb zl_0 rfl (tgt := 26) dX10_isOf_12 (by decide +kernel) (fun c_179 => by exfalso; omega) (fun c_179 => ?_)
                  refine lv_iload_n hx hb dX10_isOf_15 rfl (lv_at hl 1 rfl) ?_
                  refine kJi (wr := []) (va_runS (As := [.int 0]) (rest := []) ⟨hx, hb, hml, hown, hT⟩ (c_X10_kindAboveD l D cI aK aV H.size 0) (cwS 1 hT (gS_in mw_390 mw_388 mw_389 mw_1) rfl rfl rfl (by decide +kernel) ⟨Nat.le_of_ble_eq_true rfl, Nat.le_of_ble_eq_true rfl⟩) (kStatX hK hP hD hN hXS hS hA [] rfl (by decide +kernel)) rfl rfl hl.1 rfl (lv_room (Nat.le_of_ble_eq_true rfl)) dX10_isOf_16 ⟨Nat.le_of_ble_eq_true rfl, Nat.le_of_ble_eq_true rfl⟩) hP hD hS hA [] [] rfl rfl (by decide +kernel) (by decide +kernel) ?_
                  clear hP hD hS
                  intro r_180 u_182 H locs w_181 hP hD hS
                  replace hP : va_P D vwCl [] H := hP
                  replace hD : va_D A [] := hD
                  rcases w_181 with ⟨hr_180, h_183⟩ | ⟨hr_180, h_184⟩ | ⟨hr_180, h_185⟩ | ⟨hr_180, h_186, h_187, h_188⟩
                  · (try simp only [zl_0] at h_183); exfalso; omega
                  · (try simp only [zl_0] at h_184); exfalso; omega
                  · (try simp only [zl_0] at h_185); exfalso; omega
                  · try simp only [zl_0] at h_186
                    try simp only [zl_0] at h_187
                    try simp only [zl_0] at h_188
                    obtain rfl : r_180 = 0 := hr_180.trans (by decide +kernel)
                    refine lv_istore_n (lv' := [(2, .int 0), (3, .int 5), (0, .int a0), (1, .int a1)]) hx hb dX10_isOf_19 rfl hl (by decide +kernel) rfl ?_
                    clear hl
                    intro ls hl
                    refine lv_iinc (v := 6) (lv' := [(3, .int 6), (2, .int 0), (0, .int a0), (1, .int a1)]) hx hb dX10_isOf_20 hl (k := 1) rfl (by decide +kernel) (by decide +kernel) rfl ?_
                    clear hl
                    intro ls hl
                    refine lv_goto (tgt := 4) hx hb dX10_isOf_23 (by decide +kernel) ?_
                    refine lv_iload_n hx hb dX10_isOf_4 rfl (lv_at hl 0 rfl) ?_
                    refine lv_bipush (v := 6) hx hb dX10_isOf_5 (by decide +kernel) ?_
                    refine b_icmp_ge hx hb zl_6 zl_6 (tgt := 26) dX10_isOf_7 (by decide +kernel) (fun c_189 => ?_) (fun c_189 => by exfalso; omega)
                    refine lv_iload_n hx hb dX10_isOf_26 rfl (lv_at hl 1 rfl) ?_
                    refine lv_iload_n hx hb dX10_isOf_27 rfl (lv_at hl 3 rfl) ?_
                    refine b_icmp_ne hx hb zl_0 rfl (tgt := 35) dX10_isOf_28 (by decide +kernel) (fun c_190 => ?_) (fun c_190 => by exfalso; omega)
                    refine lv_iconst (v := 0) hx hb dX10_isOf_35 (by decide +kernel) ?_
                    exact hRet () [] (Or.inr (⟨rfl, (by unfold mU; first | rw [if_pos (by omega)] | rw [if_neg (by omega)])⟩)) hP hD (by decide +kernel) rfl hS rfl dX10_isOf_36
    · have h_10 : a0.toInt ≠ 2 := h_10
      have h_11 : a0.toInt ≠ 3 := h_11
      have h_12 : a0.toInt ≠ 5 := h_12
      obtain rfl : r_4 = 0 := hr_4.trans (by decide +kernel)
      refine lv_istore_n (lv' := [(2, .int 0), (3, .int 0), (0, .int a0), (1, .int a1)]) hx hb dX10_isOf_19 rfl hl (by decide +kernel) rfl ?_
      clear hl
      intro ls hl
      refine lv_iinc (v := 1) (lv' := [(3, .int 1), (2, .int 0), (0, .int a0), (1, .int a1)]) hx hb dX10_isOf_20 hl (k := 1) rfl (by decide +kernel) (by decide +kernel) rfl ?_
      clear hl
      intro ls hl
      refine lv_goto (tgt := 4) hx hb dX10_isOf_23 (by decide +kernel) ?_
      refine lv_iload_n hx hb dX10_isOf_4 rfl (lv_at hl 0 rfl) ?_
      refine lv_bipush (v := 6) hx hb dX10_isOf_5 (by decide +kernel) ?_
      refine b_icmp_ge hx hb zl_1 zl_6 (tgt := 26) dX10_isOf_7 (by decide +kernel) (fun c_191 => by exfalso; omega) (fun c_191 => ?_)
      refine lv_iload_n hx hb dX10_isOf_10 rfl (lv_at hl 1 rfl) ?_
      refine lv_iload_n hx hb dX10_isOf_11 rfl (lv_at hl 3 rfl) ?_
      refine b_icmp_eq hx hb zl_0 rfl (tgt := 26) dX10_isOf_12 (by decide +kernel) (fun c_192 => ?_) (fun c_192 => ?_)
      · refine lv_iload_n hx hb dX10_isOf_26 rfl (lv_at hl 1 rfl) ?_
        refine lv_iload_n hx hb dX10_isOf_27 rfl (lv_at hl 3 rfl) ?_
        refine b_icmp_ne hx hb zl_0 rfl (tgt := 35) dX10_isOf_28 (by decide +kernel) (fun c_193 => by exfalso; omega) (fun c_193 => ?_)
        refine lv_iconst (v := 1) hx hb dX10_isOf_31 (by decide +kernel) ?_
        refine lv_goto (tgt := 36) hx hb dX10_isOf_32 (by decide +kernel) ?_
        exact hRet () [] (Or.inl ⟨rfl, (by unfold mU; first | rw [if_pos (by omega)] | rw [if_neg (by omega)])⟩) hP hD (by decide +kernel) rfl hS rfl dX10_isOf_36
      · refine lv_iload_n hx hb dX10_isOf_15 rfl (lv_at hl 1 rfl) ?_
        refine kJi (wr := []) (va_runS (As := [.int 0]) (rest := []) ⟨hx, hb, hml, hown, hT⟩ (c_X10_kindAboveD l D cI aK aV H.size 0) (cwS 1 hT (gS_in mw_390 mw_388 mw_389 mw_1) rfl rfl rfl (by decide +kernel) ⟨Nat.le_of_ble_eq_true rfl, Nat.le_of_ble_eq_true rfl⟩) (kStatX hK hP hD hN hXS hS hA [] rfl (by decide +kernel)) rfl rfl hl.1 rfl (lv_room (Nat.le_of_ble_eq_true rfl)) dX10_isOf_16 ⟨Nat.le_of_ble_eq_true rfl, Nat.le_of_ble_eq_true rfl⟩) hP hD hS hA [] [] rfl rfl (by decide +kernel) (by decide +kernel) ?_
        clear hP hD hS
        intro r_194 u_196 H locs w_195 hP hD hS
        replace hP : va_P D vwCl [] H := hP
        replace hD : va_D A [] := hD
        rcases w_195 with ⟨hr_194, h_197⟩ | ⟨hr_194, h_198⟩ | ⟨hr_194, h_199⟩ | ⟨hr_194, h_200, h_201, h_202⟩
        · (try simp only [zl_0] at h_197); exfalso; omega
        · (try simp only [zl_0] at h_198); exfalso; omega
        · (try simp only [zl_0] at h_199); exfalso; omega
        · try simp only [zl_0] at h_200
          try simp only [zl_0] at h_201
          try simp only [zl_0] at h_202
          obtain rfl : r_194 = 0 := hr_194.trans (by decide +kernel)
          refine lv_istore_n (lv' := [(2, .int 0), (3, .int 1), (0, .int a0), (1, .int a1)]) hx hb dX10_isOf_19 rfl hl (by decide +kernel) rfl ?_
          clear hl
          intro ls hl
          refine lv_iinc (v := 2) (lv' := [(3, .int 2), (2, .int 0), (0, .int a0), (1, .int a1)]) hx hb dX10_isOf_20 hl (k := 1) rfl (by decide +kernel) (by decide +kernel) rfl ?_
          clear hl
          intro ls hl
          refine lv_goto (tgt := 4) hx hb dX10_isOf_23 (by decide +kernel) ?_
          refine lv_iload_n hx hb dX10_isOf_4 rfl (lv_at hl 0 rfl) ?_
          refine lv_bipush (v := 6) hx hb dX10_isOf_5 (by decide +kernel) ?_
          refine b_icmp_ge hx hb zl_2 zl_6 (tgt := 26) dX10_isOf_7 (by decide +kernel) (fun c_203 => by exfalso; omega) (fun c_203 => ?_)
          refine lv_iload_n hx hb dX10_isOf_10 rfl (lv_at hl 1 rfl) ?_
          refine lv_iload_n hx hb dX10_isOf_11 rfl (lv_at hl 3 rfl) ?_
          refine b_icmp_eq hx hb zl_0 rfl (tgt := 26) dX10_isOf_12 (by decide +kernel) (fun c_204 => by exfalso; omega) (fun c_204 => ?_)
          refine lv_iload_n hx hb dX10_isOf_15 rfl (lv_at hl 1 rfl) ?_
          refine kJi (wr := []) (va_runS (As := [.int 0]) (rest := []) ⟨hx, hb, hml, hown, hT⟩ (c_X10_kindAboveD l D cI aK aV H.size 0) (cwS 1 hT (gS_in mw_390 mw_388 mw_389 mw_1) rfl rfl rfl (by decide +kernel) ⟨Nat.le_of_ble_eq_true rfl, Nat.le_of_ble_eq_true rfl⟩) (kStatX hK hP hD hN hXS hS hA [] rfl (by decide +kernel)) rfl rfl hl.1 rfl (lv_room (Nat.le_of_ble_eq_true rfl)) dX10_isOf_16 ⟨Nat.le_of_ble_eq_true rfl, Nat.le_of_ble_eq_true rfl⟩) hP hD hS hA [] [] rfl rfl (by decide +kernel) (by decide +kernel) ?_
          clear hP hD hS
          intro r_205 u_207 H locs w_206 hP hD hS
          replace hP : va_P D vwCl [] H := hP
          replace hD : va_D A [] := hD
          rcases w_206 with ⟨hr_205, h_208⟩ | ⟨hr_205, h_209⟩ | ⟨hr_205, h_210⟩ | ⟨hr_205, h_211, h_212, h_213⟩
          · (try simp only [zl_0] at h_208); exfalso; omega
          · (try simp only [zl_0] at h_209); exfalso; omega
          · (try simp only [zl_0] at h_210); exfalso; omega
          · try simp only [zl_0] at h_211
            try simp only [zl_0] at h_212
            try simp only [zl_0] at h_213
            obtain rfl : r_205 = 0 := hr_205.trans (by decide +kernel)
            refine lv_istore_n (lv' := [(2, .int 0), (3, .int 2), (0, .int a0), (1, .int a1)]) hx hb dX10_isOf_19 rfl hl (by decide +kernel) rfl ?_
            clear hl
            intro ls hl
            refine lv_iinc (v := 3) (lv' := [(3, .int 3), (2, .int 0), (0, .int a0), (1, .int a1)]) hx hb dX10_isOf_20 hl (k := 1) rfl (by decide +kernel) (by decide +kernel) rfl ?_
            clear hl
            intro ls hl
            refine lv_goto (tgt := 4) hx hb dX10_isOf_23 (by decide +kernel) ?_
            refine lv_iload_n hx hb dX10_isOf_4 rfl (lv_at hl 0 rfl) ?_
            refine lv_bipush (v := 6) hx hb dX10_isOf_5 (by decide +kernel) ?_
            refine b_icmp_ge hx hb zl_3 zl_6 (tgt := 26) dX10_isOf_7 (by decide +kernel) (fun c_214 => by exfalso; omega) (fun c_214 => ?_)
            refine lv_iload_n hx hb dX10_isOf_10 rfl (lv_at hl 1 rfl) ?_
            refine lv_iload_n hx hb dX10_isOf_11 rfl (lv_at hl 3 rfl) ?_
            refine b_icmp_eq hx hb zl_0 rfl (tgt := 26) dX10_isOf_12 (by decide +kernel) (fun c_215 => by exfalso; omega) (fun c_215 => ?_)
            refine lv_iload_n hx hb dX10_isOf_15 rfl (lv_at hl 1 rfl) ?_
            refine kJi (wr := []) (va_runS (As := [.int 0]) (rest := []) ⟨hx, hb, hml, hown, hT⟩ (c_X10_kindAboveD l D cI aK aV H.size 0) (cwS 1 hT (gS_in mw_390 mw_388 mw_389 mw_1) rfl rfl rfl (by decide +kernel) ⟨Nat.le_of_ble_eq_true rfl, Nat.le_of_ble_eq_true rfl⟩) (kStatX hK hP hD hN hXS hS hA [] rfl (by decide +kernel)) rfl rfl hl.1 rfl (lv_room (Nat.le_of_ble_eq_true rfl)) dX10_isOf_16 ⟨Nat.le_of_ble_eq_true rfl, Nat.le_of_ble_eq_true rfl⟩) hP hD hS hA [] [] rfl rfl (by decide +kernel) (by decide +kernel) ?_
            clear hP hD hS
            intro r_216 u_218 H locs w_217 hP hD hS
            replace hP : va_P D vwCl [] H := hP
            replace hD : va_D A [] := hD
            rcases w_217 with ⟨hr_216, h_219⟩ | ⟨hr_216, h_220⟩ | ⟨hr_216, h_221⟩ | ⟨hr_216, h_222, h_223, h_224⟩
            · (try simp only [zl_0] at h_219); exfalso; omega
            · (try simp only [zl_0] at h_220); exfalso; omega
            · (try simp only [zl_0] at h_221); exfalso; omega
            · try simp only [zl_0] at h_222
              try simp only [zl_0] at h_223
              try simp only [zl_0] at h_224
              obtain rfl : r_216 = 0 := hr_216.trans (by decide +kernel)
              refine lv_istore_n (lv' := [(2, .int 0), (3, .int 3), (0, .int a0), (1, .int a1)]) hx hb dX10_isOf_19 rfl hl (by decide +kernel) rfl ?_
              clear hl
              intro ls hl
              refine lv_iinc (v := 4) (lv' := [(3, .int 4), (2, .int 0), (0, .int a0), (1, .int a1)]) hx hb dX10_isOf_20 hl (k := 1) rfl (by decide +kernel) (by decide +kernel) rfl ?_
              clear hl
              intro ls hl
              refine lv_goto (tgt := 4) hx hb dX10_isOf_23 (by decide +kernel) ?_
              refine lv_iload_n hx hb dX10_isOf_4 rfl (lv_at hl 0 rfl) ?_
              refine lv_bipush (v := 6) hx hb dX10_isOf_5 (by decide +kernel) ?_
              refine b_icmp_ge hx hb zl_4 zl_6 (tgt := 26) dX10_isOf_7 (by decide +kernel) (fun c_225 => by exfalso; omega) (fun c_225 => ?_)
              refine lv_iload_n hx hb dX10_isOf_10 rfl (lv_at hl 1 rfl) ?_
              refine lv_iload_n hx hb dX10_isOf_11 rfl (lv_at hl 3 rfl) ?_
              refine b_icmp_eq hx hb zl_0 rfl (tgt := 26) dX10_isOf_12 (by decide +kernel) (fun c_226 => by exfalso; omega) (fun c_226 => ?_)
              refine lv_iload_n hx hb dX10_isOf_15 rfl (lv_at hl 1 rfl) ?_
              refine kJi (wr := []) (va_runS (As := [.int 0]) (rest := []) ⟨hx, hb, hml, hown, hT⟩ (c_X10_kindAboveD l D cI aK aV H.size 0) (cwS 1 hT (gS_in mw_390 mw_388 mw_389 mw_1) rfl rfl rfl (by decide +kernel) ⟨Nat.le_of_ble_eq_true rfl, Nat.le_of_ble_eq_true rfl⟩) (kStatX hK hP hD hN hXS hS hA [] rfl (by decide +kernel)) rfl rfl hl.1 rfl (lv_room (Nat.le_of_ble_eq_true rfl)) dX10_isOf_16 ⟨Nat.le_of_ble_eq_true rfl, Nat.le_of_ble_eq_true rfl⟩) hP hD hS hA [] [] rfl rfl (by decide +kernel) (by decide +kernel) ?_
              clear hP hD hS
              intro r_227 u_229 H locs w_228 hP hD hS
              replace hP : va_P D vwCl [] H := hP
              replace hD : va_D A [] := hD
              rcases w_228 with ⟨hr_227, h_230⟩ | ⟨hr_227, h_231⟩ | ⟨hr_227, h_232⟩ | ⟨hr_227, h_233, h_234, h_235⟩
              · (try simp only [zl_0] at h_230); exfalso; omega
              · (try simp only [zl_0] at h_231); exfalso; omega
              · (try simp only [zl_0] at h_232); exfalso; omega
              · try simp only [zl_0] at h_233
                try simp only [zl_0] at h_234
                try simp only [zl_0] at h_235
                obtain rfl : r_227 = 0 := hr_227.trans (by decide +kernel)
                refine lv_istore_n (lv' := [(2, .int 0), (3, .int 4), (0, .int a0), (1, .int a1)]) hx hb dX10_isOf_19 rfl hl (by decide +kernel) rfl ?_
                clear hl
                intro ls hl
                refine lv_iinc (v := 5) (lv' := [(3, .int 5), (2, .int 0), (0, .int a0), (1, .int a1)]) hx hb dX10_isOf_20 hl (k := 1) rfl (by decide +kernel) (by decide +kernel) rfl ?_
                clear hl
                intro ls hl
                refine lv_goto (tgt := 4) hx hb dX10_isOf_23 (by decide +kernel) ?_
                refine lv_iload_n hx hb dX10_isOf_4 rfl (lv_at hl 0 rfl) ?_
                refine lv_bipush (v := 6) hx hb dX10_isOf_5 (by decide +kernel) ?_
                refine b_icmp_ge hx hb zl_5 zl_6 (tgt := 26) dX10_isOf_7 (by decide +kernel) (fun c_236 => by exfalso; omega) (fun c_236 => ?_)
                refine lv_iload_n hx hb dX10_isOf_10 rfl (lv_at hl 1 rfl) ?_
                refine lv_iload_n hx hb dX10_isOf_11 rfl (lv_at hl 3 rfl) ?_
                refine b_icmp_eq hx hb zl_0 rfl (tgt := 26) dX10_isOf_12 (by decide +kernel) (fun c_237 => by exfalso; omega) (fun c_237 => ?_)
                refine lv_iload_n hx hb dX10_isOf_15 rfl (lv_at hl 1 rfl) ?_
                refine kJi (wr := []) (va_runS (As := [.int 0]) (rest := []) ⟨hx, hb, hml, hown, hT⟩ (c_X10_kindAboveD l D cI aK aV H.size 0) (cwS 1 hT (gS_in mw_390 mw_388 mw_389 mw_1) rfl rfl rfl (by decide +kernel) ⟨Nat.le_of_ble_eq_true rfl, Nat.le_of_ble_eq_true rfl⟩) (kStatX hK hP hD hN hXS hS hA [] rfl (by decide +kernel)) rfl rfl hl.1 rfl (lv_room (Nat.le_of_ble_eq_true rfl)) dX10_isOf_16 ⟨Nat.le_of_ble_eq_true rfl, Nat.le_of_ble_eq_true rfl⟩) hP hD hS hA [] [] rfl rfl (by decide +kernel) (by decide +kernel) ?_
                clear hP hD hS
                intro r_238 u_240 H locs w_239 hP hD hS
                replace hP : va_P D vwCl [] H := hP
                replace hD : va_D A [] := hD
                rcases w_239 with ⟨hr_238, h_241⟩ | ⟨hr_238, h_242⟩ | ⟨hr_238, h_243⟩ | ⟨hr_238, h_244, h_245, h_246⟩
                · (try simp only [zl_0] at h_241); exfalso; omega
                · (try simp only [zl_0] at h_242); exfalso; omega
                · (try simp only [zl_0] at h_243); exfalso; omega
                · try simp only [zl_0] at h_244
                  try simp only [zl_0] at h_245
                  try simp only [zl_0] at h_246
                  obtain rfl : r_238 = 0 := hr_238.trans (by decide +kernel)
                  refine lv_istore_n (lv' := [(2, .int 0), (3, .int 5), (0, .int a0), (1, .int a1)]) hx hb dX10_isOf_19 rfl hl (by decide +kernel) rfl ?_
                  clear hl
                  intro ls hl
                  refine lv_iinc (v := 6) (lv' := [(3, .int 6), (2, .int 0), (0, .int a0), (1, .int a1)]) hx hb dX10_isOf_20 hl (k := 1) rfl (by decide +kernel) (by decide +kernel) rfl ?_
                  clear hl
                  intro ls hl
                  refine lv_goto (tgt := 4) hx hb dX10_isOf_23 (by decide +kernel) ?_
                  refine lv_iload_n hx hb dX10_isOf_4 rfl (lv_at hl 0 rfl) ?_
                  refine lv_bipush (v := 6) hx hb dX10_isOf_5 (by decide +kernel) ?_
                  refine b_icmp_ge hx hb zl_6 zl_6 (tgt := 26) dX10_isOf_7 (by decide +kernel) (fun c_247 => ?_) (fun c_247 => by exfalso; omega)
                  refine lv_iload_n hx hb dX10_isOf_26 rfl (lv_at hl 1 rfl) ?_
                  refine lv_iload_n hx hb dX10_isOf_27 rfl (lv_at hl 3 rfl) ?_
                  refine b_icmp_ne hx hb zl_0 rfl (tgt := 35) dX10_isOf_28 (by decide +kernel) (fun c_248 => ?_) (fun c_248 => by exfalso; omega)
                  refine lv_iconst (v := 0) hx hb dX10_isOf_35 (by decide +kernel) ?_
                  exact hRet () [] (Or.inr (⟨rfl, (by unfold mU; first | rw [if_pos (by omega)] | rw [if_neg (by omega)])⟩)) hP hD (by decide +kernel) rfl hS rfl dX10_isOf_36

set_option maxHeartbeats 4000000 in
set_option maxRecDepth 100000 in
theorem c_X10_monthOfD (l : Launch) (D : va_G) (cI : ClassId) (aK aV : Nat → Nat) (sz : Nat) (a0 : Int32) (pre0 : 0 ≤ a0.toInt) : Met l yX10_monthOf (gW yX10_monthOf cX10_monthOf 1 (some .int)) ({ frames := 0, cells := 0, slots := 0, locals := 0 } : Room) (kPreX D cI aK aV [.int a0] [] sz) (va_Qi (fun (r : Int32) (u : Unit) => r.toInt = a0.toInt / 30 % 12 ∧ 0 ≤ r.toInt ∧ r.toInt ≤ 11) (fun u t => kWd D cI (va_A [] sz) [] t) (va_A [] sz)) 0 0 (va_A [] sz) := by
  refine kMetIX (own := RX10) (by decide +kernel) rfl (Nat.le_of_ble_eq_true rfl) ?_
  intro p e s m args below meth c hx hb hT hown hname hml A Q hK hP hD hS hA hN hXS hRet ls hl
  have hl : lv_has ls 1 [(0, .int a0)] := hl
  have lo_a0 := k_lo a0
  have hi_a0 := k_hi a0
  refine lv_iload_n hx hb dX10_monthOf_0 rfl (lv_at hl 0 rfl) ?_
  refine b_if_ge hx hb rfl (tgt := 8) dX10_monthOf_1 (by decide +kernel) (fun c_1 => ?_) (fun c_1 => by exfalso; omega)
  refine lv_iload_n hx hb dX10_monthOf_8 rfl (lv_at hl 0 rfl) ?_
  refine lv_bipush (v := 30) hx hb dX10_monthOf_9 (by decide +kernel) ?_
  refine lv_idiv hx hb dX10_monthOf_11 (by decide +kernel) ?_
  refine lv_topi (fun v_2 ev_2 => ?_)
  have tv_2 : v_2.toInt = a0.toInt / 30 := k_divv (w := 0) ev_2 zl_30 (by omega) (by decide +kernel)
  have lo_v_2 := k_lo v_2
  have hi_v_2 := k_hi v_2
  refine lv_bipush (v := 12) hx hb dX10_monthOf_12 (by decide +kernel) ?_
  refine lv_irem hx hb dX10_monthOf_14 (by decide +kernel) ?_
  refine lv_topi (fun v_3 ev_3 => ?_)
  have tv_3 : v_3.toInt = v_2.toInt % 12 := k_remv (w := 0) ev_3 zl_12 (by omega) (by decide +kernel)
  have lo_v_3 := k_lo v_3
  have hi_v_3 := k_hi v_3
  exact hRet () [] ⟨(by omega), (by first | omega | decide | assumption | rfl), (by first | omega | decide | assumption | rfl)⟩ hP hD (by decide +kernel) rfl hS rfl dX10_monthOf_15

set_option maxHeartbeats 4000000 in
set_option maxRecDepth 100000 in
theorem c_X10_effortInD (l : Launch) (D : va_G) (cI : ClassId) (aK aV : Nat → Nat) (sz : Nat) (a0 : Int32) (a1 : Int32) : Met l yX10_effortIn (gW yX10_effortIn cX10_effortIn 2 (some .int)) ({ frames := 0, cells := 0, slots := 0, locals := 0 } : Room) (kPreX D cI aK aV [.int a0, .int a1] [] sz) (va_Qi (fun (r : Int32) (u : Unit) => (r = 40 ∧ a0.toInt = 1) ∨ (a0.toInt = 2 ∧ r = 20 + 10 * a1) ∨ (r = 10 ∧ a0.toInt ≠ 1 ∧ a0.toInt ≠ 2)) (fun u t => kWd D cI (va_A [] sz) [] t) (va_A [] sz)) 0 0 (va_A [] sz) := by
  refine kMetIX (own := RX10) (by decide +kernel) rfl (Nat.le_of_ble_eq_true rfl) ?_
  intro p e s m args below meth c hx hb hT hown hname hml A Q hK hP hD hS hA hN hXS hRet ls hl
  have hl : lv_has ls 2 [(0, .int a0), (1, .int a1)] := hl
  have lo_a0 := k_lo a0
  have hi_a0 := k_hi a0
  refine lv_iload_n hx hb dX10_effortIn_0 rfl (lv_at hl 0 rfl) ?_
  by_cases c_1 : a0.toInt = 1
  · refine lv_lookup (off := 27) (tgt := 28) hx hb dX10_effortIn_1 (by decide +kernel) (by rw [c_1]; decide) (by decide +kernel) ?_
    refine lv_bipush (v := 40) hx hb dX10_effortIn_28 (by decide +kernel) ?_
    exact hRet () [] (by first | exact Or.inl ⟨rfl, (by omega)⟩ | exact Or.inr (Or.inl ⟨(by omega), (by omega)⟩)) hP hD (by decide +kernel) rfl hS rfl dX10_effortIn_30
  by_cases c_2 : a0.toInt = 2
  · refine lv_lookup (off := 30) (tgt := 31) hx hb dX10_effortIn_1 (by decide +kernel) (by rw [c_2]; decide) (by decide +kernel) ?_
    refine lv_bipush (v := 20) hx hb dX10_effortIn_31 (by decide +kernel) ?_
    refine lv_bipush (v := 10) hx hb dX10_effortIn_33 (by decide +kernel) ?_
    refine lv_iload_n hx hb dX10_effortIn_35 rfl (lv_at hl 1 rfl) ?_
    refine lv_imul hx hb dX10_effortIn_36 ?_
    refine lv_topi (fun v_3 ev_3 => ?_)
    have lo_v_3 := k_lo v_3
    have hi_v_3 := k_hi v_3
    refine lv_iadd hx hb dX10_effortIn_37 ?_
    refine lv_topi (fun v_4 ev_4 => ?_)
    have lo_v_4 := k_lo v_4
    have hi_v_4 := k_hi v_4
    exact hRet () [] (by first | exact Or.inl ⟨ev_4, (by omega)⟩ | exact Or.inr (Or.inl ⟨(by omega), (by rw [ev_4, ev_3])⟩) | exact Or.inr (Or.inr (⟨ev_4, (by omega), (by omega)⟩))) hP hD (by decide +kernel) rfl hS rfl dX10_effortIn_38
  refine lv_lookup (off := 38) (tgt := 39) hx hb dX10_effortIn_1 (by decide +kernel) (k_osw2 (by omega) (by omega)) (by decide +kernel) ?_
  refine lv_bipush (v := 10) hx hb dX10_effortIn_39 (by decide +kernel) ?_
  exact hRet () [] (by first | exact Or.inr (Or.inl ⟨(by omega), (by omega)⟩) | exact Or.inr (Or.inr (⟨rfl, (by omega), (by omega)⟩))) hP hD (by decide +kernel) rfl hS rfl dX10_effortIn_41

set_option maxHeartbeats 4000000 in
set_option maxRecDepth 100000 in
theorem c_X8_kindOfD (l : Launch) (D : va_G) (cI : ClassId) (aK aV : Nat → Nat) (k k0 k1 k2 k3 k4 k5 k6 k7 k8 : Nat) (sz : Nat) (c9 : Int32) (c0 : Nat → Int32) (a0 : Int32) : Met l yX8_kindOf (gW yX8_kindOf cX8_kindOf 2 (some .int)) ({ frames := 1, cells := 0, slots := 0, locals := 21 } : Room) (kPreX D cI aK aV [.ref k, .int a0] [(k, .inr (8, [.ref k0, .ref k1, .ref k2, .ref k3, .ref k4, .ref k5, .ref k6, .ref k7, .ref k8, .int c9])), (k0, .inl (cI, 60, .inl c0))] sz) (va_Qi (fun (r : Int32) (u : Unit) => (0 ≤ a0.toInt ∧ a0.toInt < c9.toInt ∧ a0.toInt ≤ 59 ∧ r = c0 a0.toNatClampNeg) ∨ (r = 0 ∧ (a0.toInt < 0 ∨ c9.toInt ≤ a0.toInt ∨ 60 ≤ a0.toInt))) (fun u t => kWd D cI (va_A [(k, .inr (8, [.ref k0, .ref k1, .ref k2, .ref k3, .ref k4, .ref k5, .ref k6, .ref k7, .ref k8, .int c9])), (k0, .inl (cI, 60, .inl c0))] sz) [(k, .inr (8, [.ref k0, .ref k1, .ref k2, .ref k3, .ref k4, .ref k5, .ref k6, .ref k7, .ref k8, .int c9])), (k0, .inl (cI, 60, .inl c0))] t) (va_A [(k, .inr (8, [.ref k0, .ref k1, .ref k2, .ref k3, .ref k4, .ref k5, .ref k6, .ref k7, .ref k8, .int c9])), (k0, .inl (cI, 60, .inl c0))] sz)) 0 0 (va_A [(k, .inr (8, [.ref k0, .ref k1, .ref k2, .ref k3, .ref k4, .ref k5, .ref k6, .ref k7, .ref k8, .int c9])), (k0, .inl (cI, 60, .inl c0))] sz) := by
  refine kMetIX (own := RX8) (by decide +kernel) rfl (Nat.le_of_ble_eq_true rfl) ?_
  intro p e s m args below meth c hx hb hT hown hname hml A Q hK hP hD hS hA hN hXS hRet ls hl
  have hl : lv_has ls 2 [(0, .ref k), (1, .int a0)] := hl
  have lo_a0 := k_lo a0
  have hi_a0 := k_hi a0
  have lo_c9 := k_lo c9
  have hi_c9 := k_hi c9
  refine lv_aload_n hx hb dX8_kindOf_0 rfl (lv_at hl 0 rfl) ?_
  refine lv_iload_n hx hb dX8_kindOf_1 rfl (lv_at hl 1 rfl) ?_
  refine kJi (wr := [(k0, .inl (cI, 60, .inl c0))]) (va_runV (As := [.int a0]) (rest := []) ⟨hx, hb, hml, hown, hT⟩ (c_X8_hasG l D cI aK aV k k0 k1 k2 k3 k4 k5 k6 k7 k8 s.heap.size c9 a0) (cwV 1 hT (gV_in mw_371 mw_368 mw_369 mw_370 mw_3) rfl rfl rfl (by decide +kernel) ⟨Nat.le_of_ble_eq_true rfl, Nat.le_of_ble_eq_true rfl⟩) (kRecvX (q0 := 0) (ci := 8) hK hP hD hN hXS hS hA rfl rfl [0] rfl (by decide +kernel)) rfl rfl hl.1 rfl (lv_room (Nat.le_of_ble_eq_true rfl)) dX8_kindOf_2 ⟨Nat.le_of_ble_eq_true rfl, Nat.le_of_ble_eq_true rfl⟩) hP hD hS hA [0] [1] rfl rfl (by decide +kernel) (by decide +kernel) ?_
  clear hP hD hS
  intro r_1 u_3 H locs w_2 hP hD hS
  replace hP : va_P D vwCl [(k0, .inl (cI, 60, .inl c0)), (k, .inr (8, [.ref k0, .ref k1, .ref k2, .ref k3, .ref k4, .ref k5, .ref k6, .ref k7, .ref k8, .int c9]))] H := hP
  replace hD : va_D A [(k0, .inl (cI, 60, .inl c0)), (k, .inr (8, [.ref k0, .ref k1, .ref k2, .ref k3, .ref k4, .ref k5, .ref k6, .ref k7, .ref k8, .int c9]))] := hD
  rcases w_2 with ⟨hr_1, h_4, h_5, h_6⟩ | ⟨hr_1, h_7⟩
  · have h_4 : 0 ≤ a0.toInt := h_4
    have h_5 : a0.toInt < c9.toInt := h_5
    have h_6 : a0.toInt < 60 := h_6
    obtain rfl : r_1 = 1 := hr_1.trans (by decide +kernel)
    refine b_if_eq hx hb zl_1 (tgt := 17) dX8_kindOf_5 (by decide +kernel) (fun c_8 => by exfalso; omega) (fun c_8 => ?_)
    refine lv_aload_n hx hb dX8_kindOf_8 rfl (lv_at hl 0 rfl) ?_
    refine va_get (D := D) (ci := 8) (v := .ref k0) (C := RX8) (T := TX8) (N := 10) hx hb hT giX8 hown hK hP 1 rfl rfl 0 (by decide +kernel) (hT (Cond.fieldLink RX8 9 "DesertWire$Works" "kinds" "[I") mw_40) (fun _ h9 => h9) rfl dX8_kindOf_9 ?_
    refine lv_iload_n hx hb dX8_kindOf_12 rfl (lv_at hl 1 rfl) ?_
    refine k_iald (v := (c0 a0.toNatClampNeg)) hx hb hK hP 0 0 rfl rfl (k_in (by omega) (by omega)) rfl dX8_kindOf_13 ?_
    refine lv_topi (fun v_9 ev_9 => ?_)
    have lo_v_9 := k_lo v_9
    have hi_v_9 := k_hi v_9
    have tv_9 : v_9.toInt = (c0 a0.toNatClampNeg).toInt := by rw [ev_9]
    refine lv_goto (tgt := 18) hx hb dX8_kindOf_14 (by decide +kernel) ?_
    exact hRet () [1, 0] (by first | exact Or.inl ⟨(by omega), (by omega), (by omega), ev_9⟩ | exact Or.inr (⟨ev_9, (by omega)⟩)) hP hD (by decide +kernel) rfl hS rfl dX8_kindOf_18
  · have h_7 : a0.toInt < 0 ∨ c9.toInt ≤ a0.toInt ∨ 60 ≤ a0.toInt := h_7
    obtain rfl : r_1 = 0 := hr_1.trans (by decide +kernel)
    refine b_if_eq hx hb zl_0 (tgt := 17) dX8_kindOf_5 (by decide +kernel) (fun c_10 => ?_) (fun c_10 => by exfalso; omega)
    refine lv_iconst (v := 0) hx hb dX8_kindOf_17 (by decide +kernel) ?_
    exact hRet () [1, 0] (by first | exact Or.inl ⟨(by omega), (by omega), (by omega), e0⟩ | exact Or.inr (⟨rfl, (by omega)⟩)) hP hD (by decide +kernel) rfl hS rfl dX8_kindOf_18

set_option maxHeartbeats 4000000 in
set_option maxRecDepth 100000 in
theorem c_X8_mileOfD (l : Launch) (D : va_G) (cI : ClassId) (aK aV : Nat → Nat) (k k0 k1 k2 k3 k4 k5 k6 k7 k8 : Nat) (sz : Nat) (c9 : Int32) (c1 : Nat → Int32) (a0 : Int32) : Met l yX8_mileOf (gW yX8_mileOf cX8_mileOf 2 (some .int)) ({ frames := 1, cells := 0, slots := 0, locals := 21 } : Room) (kPreX D cI aK aV [.ref k, .int a0] [(k, .inr (8, [.ref k0, .ref k1, .ref k2, .ref k3, .ref k4, .ref k5, .ref k6, .ref k7, .ref k8, .int c9])), (k1, .inl (cI, 60, .inl c1))] sz) (va_Qi (fun (r : Int32) (u : Unit) => (0 ≤ a0.toInt ∧ a0.toInt < c9.toInt ∧ a0.toInt ≤ 59 ∧ r = c1 a0.toNatClampNeg) ∨ (r = 0 ∧ (a0.toInt < 0 ∨ c9.toInt ≤ a0.toInt ∨ 60 ≤ a0.toInt))) (fun u t => kWd D cI (va_A [(k, .inr (8, [.ref k0, .ref k1, .ref k2, .ref k3, .ref k4, .ref k5, .ref k6, .ref k7, .ref k8, .int c9])), (k1, .inl (cI, 60, .inl c1))] sz) [(k, .inr (8, [.ref k0, .ref k1, .ref k2, .ref k3, .ref k4, .ref k5, .ref k6, .ref k7, .ref k8, .int c9])), (k1, .inl (cI, 60, .inl c1))] t) (va_A [(k, .inr (8, [.ref k0, .ref k1, .ref k2, .ref k3, .ref k4, .ref k5, .ref k6, .ref k7, .ref k8, .int c9])), (k1, .inl (cI, 60, .inl c1))] sz)) 0 0 (va_A [(k, .inr (8, [.ref k0, .ref k1, .ref k2, .ref k3, .ref k4, .ref k5, .ref k6, .ref k7, .ref k8, .int c9])), (k1, .inl (cI, 60, .inl c1))] sz) := by
  refine kMetIX (own := RX8) (by decide +kernel) rfl (Nat.le_of_ble_eq_true rfl) ?_
  intro p e s m args below meth c hx hb hT hown hname hml A Q hK hP hD hS hA hN hXS hRet ls hl
  have hl : lv_has ls 2 [(0, .ref k), (1, .int a0)] := hl
  have lo_a0 := k_lo a0
  have hi_a0 := k_hi a0
  have lo_c9 := k_lo c9
  have hi_c9 := k_hi c9
  refine lv_aload_n hx hb dX8_mileOf_0 rfl (lv_at hl 0 rfl) ?_
  refine lv_iload_n hx hb dX8_mileOf_1 rfl (lv_at hl 1 rfl) ?_
  refine kJi (wr := [(k1, .inl (cI, 60, .inl c1))]) (va_runV (As := [.int a0]) (rest := []) ⟨hx, hb, hml, hown, hT⟩ (c_X8_hasG l D cI aK aV k k0 k1 k2 k3 k4 k5 k6 k7 k8 s.heap.size c9 a0) (cwV 1 hT (gV_in mw_371 mw_368 mw_369 mw_370 mw_3) rfl rfl rfl (by decide +kernel) ⟨Nat.le_of_ble_eq_true rfl, Nat.le_of_ble_eq_true rfl⟩) (kRecvX (q0 := 0) (ci := 8) hK hP hD hN hXS hS hA rfl rfl [0] rfl (by decide +kernel)) rfl rfl hl.1 rfl (lv_room (Nat.le_of_ble_eq_true rfl)) dX8_mileOf_2 ⟨Nat.le_of_ble_eq_true rfl, Nat.le_of_ble_eq_true rfl⟩) hP hD hS hA [0] [1] rfl rfl (by decide +kernel) (by decide +kernel) ?_
  clear hP hD hS
  intro r_1 u_3 H locs w_2 hP hD hS
  replace hP : va_P D vwCl [(k1, .inl (cI, 60, .inl c1)), (k, .inr (8, [.ref k0, .ref k1, .ref k2, .ref k3, .ref k4, .ref k5, .ref k6, .ref k7, .ref k8, .int c9]))] H := hP
  replace hD : va_D A [(k1, .inl (cI, 60, .inl c1)), (k, .inr (8, [.ref k0, .ref k1, .ref k2, .ref k3, .ref k4, .ref k5, .ref k6, .ref k7, .ref k8, .int c9]))] := hD
  rcases w_2 with ⟨hr_1, h_4, h_5, h_6⟩ | ⟨hr_1, h_7⟩
  · have h_4 : 0 ≤ a0.toInt := h_4
    have h_5 : a0.toInt < c9.toInt := h_5
    have h_6 : a0.toInt < 60 := h_6
    obtain rfl : r_1 = 1 := hr_1.trans (by decide +kernel)
    refine b_if_eq hx hb zl_1 (tgt := 17) dX8_mileOf_5 (by decide +kernel) (fun c_8 => by exfalso; omega) (fun c_8 => ?_)
    refine lv_aload_n hx hb dX8_mileOf_8 rfl (lv_at hl 0 rfl) ?_
    refine va_get (D := D) (ci := 8) (v := .ref k1) (C := RX8) (T := TX8) (N := 10) hx hb hT giX8 hown hK hP 1 rfl rfl 1 (by decide +kernel) (hT (Cond.fieldLink RX8 15 "DesertWire$Works" "miles" "[I") mw_41) (fun _ h9 => h9) rfl dX8_mileOf_9 ?_
    refine lv_iload_n hx hb dX8_mileOf_12 rfl (lv_at hl 1 rfl) ?_
    refine k_iald (v := (c1 a0.toNatClampNeg)) hx hb hK hP 0 0 rfl rfl (k_in (by omega) (by omega)) rfl dX8_mileOf_13 ?_
    refine lv_topi (fun v_9 ev_9 => ?_)
    have lo_v_9 := k_lo v_9
    have hi_v_9 := k_hi v_9
    have tv_9 : v_9.toInt = (c1 a0.toNatClampNeg).toInt := by rw [ev_9]
    refine lv_goto (tgt := 18) hx hb dX8_mileOf_14 (by decide +kernel) ?_
    exact hRet () [1, 0] (by first | exact Or.inl ⟨(by omega), (by omega), (by omega), ev_9⟩ | exact Or.inr (⟨ev_9, (by omega)⟩)) hP hD (by decide +kernel) rfl hS rfl dX8_mileOf_18
  · have h_7 : a0.toInt < 0 ∨ c9.toInt ≤ a0.toInt ∨ 60 ≤ a0.toInt := h_7
    obtain rfl : r_1 = 0 := hr_1.trans (by decide +kernel)
    refine b_if_eq hx hb zl_0 (tgt := 17) dX8_mileOf_5 (by decide +kernel) (fun c_10 => ?_) (fun c_10 => by exfalso; omega)
    refine lv_iconst (v := 0) hx hb dX8_mileOf_17 (by decide +kernel) ?_
    exact hRet () [1, 0] (by first | exact Or.inl ⟨(by omega), (by omega), (by omega), e0⟩ | exact Or.inr (⟨rfl, (by omega)⟩)) hP hD (by decide +kernel) rfl hS rfl dX8_mileOf_18

set_option maxHeartbeats 4000000 in
set_option maxRecDepth 100000 in
theorem c_X8_sizeOfD (l : Launch) (D : va_G) (cI : ClassId) (aK aV : Nat → Nat) (k k0 k1 k2 k3 k4 k5 k6 k7 k8 : Nat) (sz : Nat) (c9 : Int32) (c2 : Nat → Int32) (a0 : Int32) : Met l yX8_sizeOf (gW yX8_sizeOf cX8_sizeOf 2 (some .int)) ({ frames := 1, cells := 0, slots := 0, locals := 21 } : Room) (kPreX D cI aK aV [.ref k, .int a0] [(k, .inr (8, [.ref k0, .ref k1, .ref k2, .ref k3, .ref k4, .ref k5, .ref k6, .ref k7, .ref k8, .int c9])), (k2, .inl (cI, 60, .inl c2))] sz) (va_Qi (fun (r : Int32) (u : Unit) => (0 ≤ a0.toInt ∧ a0.toInt < c9.toInt ∧ a0.toInt ≤ 59 ∧ r = c2 a0.toNatClampNeg) ∨ (r = 0 ∧ (a0.toInt < 0 ∨ c9.toInt ≤ a0.toInt ∨ 60 ≤ a0.toInt))) (fun u t => kWd D cI (va_A [(k, .inr (8, [.ref k0, .ref k1, .ref k2, .ref k3, .ref k4, .ref k5, .ref k6, .ref k7, .ref k8, .int c9])), (k2, .inl (cI, 60, .inl c2))] sz) [(k, .inr (8, [.ref k0, .ref k1, .ref k2, .ref k3, .ref k4, .ref k5, .ref k6, .ref k7, .ref k8, .int c9])), (k2, .inl (cI, 60, .inl c2))] t) (va_A [(k, .inr (8, [.ref k0, .ref k1, .ref k2, .ref k3, .ref k4, .ref k5, .ref k6, .ref k7, .ref k8, .int c9])), (k2, .inl (cI, 60, .inl c2))] sz)) 0 0 (va_A [(k, .inr (8, [.ref k0, .ref k1, .ref k2, .ref k3, .ref k4, .ref k5, .ref k6, .ref k7, .ref k8, .int c9])), (k2, .inl (cI, 60, .inl c2))] sz) := by
  refine kMetIX (own := RX8) (by decide +kernel) rfl (Nat.le_of_ble_eq_true rfl) ?_
  intro p e s m args below meth c hx hb hT hown hname hml A Q hK hP hD hS hA hN hXS hRet ls hl
  have hl : lv_has ls 2 [(0, .ref k), (1, .int a0)] := hl
  have lo_a0 := k_lo a0
  have hi_a0 := k_hi a0
  have lo_c9 := k_lo c9
  have hi_c9 := k_hi c9
  refine lv_aload_n hx hb dX8_sizeOf_0 rfl (lv_at hl 0 rfl) ?_
  refine lv_iload_n hx hb dX8_sizeOf_1 rfl (lv_at hl 1 rfl) ?_
  refine kJi (wr := [(k2, .inl (cI, 60, .inl c2))]) (va_runV (As := [.int a0]) (rest := []) ⟨hx, hb, hml, hown, hT⟩ (c_X8_hasG l D cI aK aV k k0 k1 k2 k3 k4 k5 k6 k7 k8 s.heap.size c9 a0) (cwV 1 hT (gV_in mw_371 mw_368 mw_369 mw_370 mw_3) rfl rfl rfl (by decide +kernel) ⟨Nat.le_of_ble_eq_true rfl, Nat.le_of_ble_eq_true rfl⟩) (kRecvX (q0 := 0) (ci := 8) hK hP hD hN hXS hS hA rfl rfl [0] rfl (by decide +kernel)) rfl rfl hl.1 rfl (lv_room (Nat.le_of_ble_eq_true rfl)) dX8_sizeOf_2 ⟨Nat.le_of_ble_eq_true rfl, Nat.le_of_ble_eq_true rfl⟩) hP hD hS hA [0] [1] rfl rfl (by decide +kernel) (by decide +kernel) ?_
  clear hP hD hS
  intro r_1 u_3 H locs w_2 hP hD hS
  replace hP : va_P D vwCl [(k2, .inl (cI, 60, .inl c2)), (k, .inr (8, [.ref k0, .ref k1, .ref k2, .ref k3, .ref k4, .ref k5, .ref k6, .ref k7, .ref k8, .int c9]))] H := hP
  replace hD : va_D A [(k2, .inl (cI, 60, .inl c2)), (k, .inr (8, [.ref k0, .ref k1, .ref k2, .ref k3, .ref k4, .ref k5, .ref k6, .ref k7, .ref k8, .int c9]))] := hD
  rcases w_2 with ⟨hr_1, h_4, h_5, h_6⟩ | ⟨hr_1, h_7⟩
  · have h_4 : 0 ≤ a0.toInt := h_4
    have h_5 : a0.toInt < c9.toInt := h_5
    have h_6 : a0.toInt < 60 := h_6
    obtain rfl : r_1 = 1 := hr_1.trans (by decide +kernel)
    refine b_if_eq hx hb zl_1 (tgt := 17) dX8_sizeOf_5 (by decide +kernel) (fun c_8 => by exfalso; omega) (fun c_8 => ?_)
    refine lv_aload_n hx hb dX8_sizeOf_8 rfl (lv_at hl 0 rfl) ?_
    refine va_get (D := D) (ci := 8) (v := .ref k2) (C := RX8) (T := TX8) (N := 10) hx hb hT giX8 hown hK hP 1 rfl rfl 2 (by decide +kernel) (hT (Cond.fieldLink RX8 18 "DesertWire$Works" "sizes" "[I") mw_42) (fun _ h9 => h9) rfl dX8_sizeOf_9 ?_
    refine lv_iload_n hx hb dX8_sizeOf_12 rfl (lv_at hl 1 rfl) ?_
    refine k_iald (v := (c2 a0.toNatClampNeg)) hx hb hK hP 0 0 rfl rfl (k_in (by omega) (by omega)) rfl dX8_sizeOf_13 ?_
    refine lv_topi (fun v_9 ev_9 => ?_)
    have lo_v_9 := k_lo v_9
    have hi_v_9 := k_hi v_9
    have tv_9 : v_9.toInt = (c2 a0.toNatClampNeg).toInt := by rw [ev_9]
    refine lv_goto (tgt := 18) hx hb dX8_sizeOf_14 (by decide +kernel) ?_
    exact hRet () [1, 0] (by first | exact Or.inl ⟨(by omega), (by omega), (by omega), ev_9⟩ | exact Or.inr (⟨ev_9, (by omega)⟩)) hP hD (by decide +kernel) rfl hS rfl dX8_sizeOf_18
  · have h_7 : a0.toInt < 0 ∨ c9.toInt ≤ a0.toInt ∨ 60 ≤ a0.toInt := h_7
    obtain rfl : r_1 = 0 := hr_1.trans (by decide +kernel)
    refine b_if_eq hx hb zl_0 (tgt := 17) dX8_sizeOf_5 (by decide +kernel) (fun c_10 => ?_) (fun c_10 => by exfalso; omega)
    refine lv_iconst (v := 0) hx hb dX8_sizeOf_17 (by decide +kernel) ?_
    exact hRet () [1, 0] (by first | exact Or.inl ⟨(by omega), (by omega), (by omega), e0⟩ | exact Or.inr (⟨rfl, (by omega)⟩)) hP hD (by decide +kernel) rfl hS rfl dX8_sizeOf_18

set_option maxHeartbeats 4000000 in
set_option maxRecDepth 100000 in
theorem c_X8_sinceOfD (l : Launch) (D : va_G) (cI : ClassId) (aK aV : Nat → Nat) (k k0 k1 k2 k3 k4 k5 k6 k7 k8 : Nat) (sz : Nat) (c9 : Int32) (c3 : Nat → Int32) (a0 : Int32) : Met l yX8_sinceOf (gW yX8_sinceOf cX8_sinceOf 2 (some .int)) ({ frames := 1, cells := 0, slots := 0, locals := 21 } : Room) (kPreX D cI aK aV [.ref k, .int a0] [(k, .inr (8, [.ref k0, .ref k1, .ref k2, .ref k3, .ref k4, .ref k5, .ref k6, .ref k7, .ref k8, .int c9])), (k3, .inl (cI, 60, .inl c3))] sz) (va_Qi (fun (r : Int32) (u : Unit) => (0 ≤ a0.toInt ∧ a0.toInt < c9.toInt ∧ a0.toInt ≤ 59 ∧ r = c3 a0.toNatClampNeg) ∨ (r = 0 ∧ (a0.toInt < 0 ∨ c9.toInt ≤ a0.toInt ∨ 60 ≤ a0.toInt))) (fun u t => kWd D cI (va_A [(k, .inr (8, [.ref k0, .ref k1, .ref k2, .ref k3, .ref k4, .ref k5, .ref k6, .ref k7, .ref k8, .int c9])), (k3, .inl (cI, 60, .inl c3))] sz) [(k, .inr (8, [.ref k0, .ref k1, .ref k2, .ref k3, .ref k4, .ref k5, .ref k6, .ref k7, .ref k8, .int c9])), (k3, .inl (cI, 60, .inl c3))] t) (va_A [(k, .inr (8, [.ref k0, .ref k1, .ref k2, .ref k3, .ref k4, .ref k5, .ref k6, .ref k7, .ref k8, .int c9])), (k3, .inl (cI, 60, .inl c3))] sz)) 0 0 (va_A [(k, .inr (8, [.ref k0, .ref k1, .ref k2, .ref k3, .ref k4, .ref k5, .ref k6, .ref k7, .ref k8, .int c9])), (k3, .inl (cI, 60, .inl c3))] sz) := by
  refine kMetIX (own := RX8) (by decide +kernel) rfl (Nat.le_of_ble_eq_true rfl) ?_
  intro p e s m args below meth c hx hb hT hown hname hml A Q hK hP hD hS hA hN hXS hRet ls hl
  have hl : lv_has ls 2 [(0, .ref k), (1, .int a0)] := hl
  have lo_a0 := k_lo a0
  have hi_a0 := k_hi a0
  have lo_c9 := k_lo c9
  have hi_c9 := k_hi c9
  refine lv_aload_n hx hb dX8_sinceOf_0 rfl (lv_at hl 0 rfl) ?_
  refine lv_iload_n hx hb dX8_sinceOf_1 rfl (lv_at hl 1 rfl) ?_
  refine kJi (wr := [(k3, .inl (cI, 60, .inl c3))]) (va_runV (As := [.int a0]) (rest := []) ⟨hx, hb, hml, hown, hT⟩ (c_X8_hasG l D cI aK aV k k0 k1 k2 k3 k4 k5 k6 k7 k8 s.heap.size c9 a0) (cwV 1 hT (gV_in mw_371 mw_368 mw_369 mw_370 mw_3) rfl rfl rfl (by decide +kernel) ⟨Nat.le_of_ble_eq_true rfl, Nat.le_of_ble_eq_true rfl⟩) (kRecvX (q0 := 0) (ci := 8) hK hP hD hN hXS hS hA rfl rfl [0] rfl (by decide +kernel)) rfl rfl hl.1 rfl (lv_room (Nat.le_of_ble_eq_true rfl)) dX8_sinceOf_2 ⟨Nat.le_of_ble_eq_true rfl, Nat.le_of_ble_eq_true rfl⟩) hP hD hS hA [0] [1] rfl rfl (by decide +kernel) (by decide +kernel) ?_
  clear hP hD hS
  intro r_1 u_3 H locs w_2 hP hD hS
  replace hP : va_P D vwCl [(k3, .inl (cI, 60, .inl c3)), (k, .inr (8, [.ref k0, .ref k1, .ref k2, .ref k3, .ref k4, .ref k5, .ref k6, .ref k7, .ref k8, .int c9]))] H := hP
  replace hD : va_D A [(k3, .inl (cI, 60, .inl c3)), (k, .inr (8, [.ref k0, .ref k1, .ref k2, .ref k3, .ref k4, .ref k5, .ref k6, .ref k7, .ref k8, .int c9]))] := hD
  rcases w_2 with ⟨hr_1, h_4, h_5, h_6⟩ | ⟨hr_1, h_7⟩
  · have h_4 : 0 ≤ a0.toInt := h_4
    have h_5 : a0.toInt < c9.toInt := h_5
    have h_6 : a0.toInt < 60 := h_6
    obtain rfl : r_1 = 1 := hr_1.trans (by decide +kernel)
    refine b_if_eq hx hb zl_1 (tgt := 17) dX8_sinceOf_5 (by decide +kernel) (fun c_8 => by exfalso; omega) (fun c_8 => ?_)
    refine lv_aload_n hx hb dX8_sinceOf_8 rfl (lv_at hl 0 rfl) ?_
    refine va_get (D := D) (ci := 8) (v := .ref k3) (C := RX8) (T := TX8) (N := 10) hx hb hT giX8 hown hK hP 1 rfl rfl 3 (by decide +kernel) (hT (Cond.fieldLink RX8 21 "DesertWire$Works" "sinces" "[I") mw_43) (fun _ h9 => h9) rfl dX8_sinceOf_9 ?_
    refine lv_iload_n hx hb dX8_sinceOf_12 rfl (lv_at hl 1 rfl) ?_
    refine k_iald (v := (c3 a0.toNatClampNeg)) hx hb hK hP 0 0 rfl rfl (k_in (by omega) (by omega)) rfl dX8_sinceOf_13 ?_
    refine lv_topi (fun v_9 ev_9 => ?_)
    have lo_v_9 := k_lo v_9
    have hi_v_9 := k_hi v_9
    have tv_9 : v_9.toInt = (c3 a0.toNatClampNeg).toInt := by rw [ev_9]
    refine lv_goto (tgt := 18) hx hb dX8_sinceOf_14 (by decide +kernel) ?_
    exact hRet () [1, 0] (by first | exact Or.inl ⟨(by omega), (by omega), (by omega), ev_9⟩ | exact Or.inr (⟨ev_9, (by omega)⟩)) hP hD (by decide +kernel) rfl hS rfl dX8_sinceOf_18
  · have h_7 : a0.toInt < 0 ∨ c9.toInt ≤ a0.toInt ∨ 60 ≤ a0.toInt := h_7
    obtain rfl : r_1 = 0 := hr_1.trans (by decide +kernel)
    refine b_if_eq hx hb zl_0 (tgt := 17) dX8_sinceOf_5 (by decide +kernel) (fun c_10 => ?_) (fun c_10 => by exfalso; omega)
    refine lv_iconst (v := 0) hx hb dX8_sinceOf_17 (by decide +kernel) ?_
    exact hRet () [1, 0] (by first | exact Or.inl ⟨(by omega), (by omega), (by omega), e0⟩ | exact Or.inr (⟨rfl, (by omega)⟩)) hP hD (by decide +kernel) rfl hS rfl dX8_sinceOf_18

set_option maxHeartbeats 4000000 in
set_option maxRecDepth 100000 in
theorem c_X8_foodOfD (l : Launch) (D : va_G) (cI : ClassId) (aK aV : Nat → Nat) (k k0 k1 k2 k3 k4 k5 k6 k7 k8 : Nat) (sz : Nat) (c9 : Int32) (c4 : Nat → Int32) (a0 : Int32) : Met l yX8_foodOf (gW yX8_foodOf cX8_foodOf 2 (some .int)) ({ frames := 1, cells := 0, slots := 0, locals := 21 } : Room) (kPreX D cI aK aV [.ref k, .int a0] [(k, .inr (8, [.ref k0, .ref k1, .ref k2, .ref k3, .ref k4, .ref k5, .ref k6, .ref k7, .ref k8, .int c9])), (k4, .inl (cI, 60, .inl c4))] sz) (va_Qi (fun (r : Int32) (u : Unit) => (0 ≤ a0.toInt ∧ a0.toInt < c9.toInt ∧ a0.toInt ≤ 59 ∧ r = c4 a0.toNatClampNeg) ∨ (r = 0 ∧ (a0.toInt < 0 ∨ c9.toInt ≤ a0.toInt ∨ 60 ≤ a0.toInt))) (fun u t => kWd D cI (va_A [(k, .inr (8, [.ref k0, .ref k1, .ref k2, .ref k3, .ref k4, .ref k5, .ref k6, .ref k7, .ref k8, .int c9])), (k4, .inl (cI, 60, .inl c4))] sz) [(k, .inr (8, [.ref k0, .ref k1, .ref k2, .ref k3, .ref k4, .ref k5, .ref k6, .ref k7, .ref k8, .int c9])), (k4, .inl (cI, 60, .inl c4))] t) (va_A [(k, .inr (8, [.ref k0, .ref k1, .ref k2, .ref k3, .ref k4, .ref k5, .ref k6, .ref k7, .ref k8, .int c9])), (k4, .inl (cI, 60, .inl c4))] sz)) 0 0 (va_A [(k, .inr (8, [.ref k0, .ref k1, .ref k2, .ref k3, .ref k4, .ref k5, .ref k6, .ref k7, .ref k8, .int c9])), (k4, .inl (cI, 60, .inl c4))] sz) := by
  refine kMetIX (own := RX8) (by decide +kernel) rfl (Nat.le_of_ble_eq_true rfl) ?_
  intro p e s m args below meth c hx hb hT hown hname hml A Q hK hP hD hS hA hN hXS hRet ls hl
  have hl : lv_has ls 2 [(0, .ref k), (1, .int a0)] := hl
  have lo_a0 := k_lo a0
  have hi_a0 := k_hi a0
  have lo_c9 := k_lo c9
  have hi_c9 := k_hi c9
  refine lv_aload_n hx hb dX8_foodOf_0 rfl (lv_at hl 0 rfl) ?_
  refine lv_iload_n hx hb dX8_foodOf_1 rfl (lv_at hl 1 rfl) ?_
  refine kJi (wr := [(k4, .inl (cI, 60, .inl c4))]) (va_runV (As := [.int a0]) (rest := []) ⟨hx, hb, hml, hown, hT⟩ (c_X8_hasG l D cI aK aV k k0 k1 k2 k3 k4 k5 k6 k7 k8 s.heap.size c9 a0) (cwV 1 hT (gV_in mw_371 mw_368 mw_369 mw_370 mw_3) rfl rfl rfl (by decide +kernel) ⟨Nat.le_of_ble_eq_true rfl, Nat.le_of_ble_eq_true rfl⟩) (kRecvX (q0 := 0) (ci := 8) hK hP hD hN hXS hS hA rfl rfl [0] rfl (by decide +kernel)) rfl rfl hl.1 rfl (lv_room (Nat.le_of_ble_eq_true rfl)) dX8_foodOf_2 ⟨Nat.le_of_ble_eq_true rfl, Nat.le_of_ble_eq_true rfl⟩) hP hD hS hA [0] [1] rfl rfl (by decide +kernel) (by decide +kernel) ?_
  clear hP hD hS
  intro r_1 u_3 H locs w_2 hP hD hS
  replace hP : va_P D vwCl [(k4, .inl (cI, 60, .inl c4)), (k, .inr (8, [.ref k0, .ref k1, .ref k2, .ref k3, .ref k4, .ref k5, .ref k6, .ref k7, .ref k8, .int c9]))] H := hP
  replace hD : va_D A [(k4, .inl (cI, 60, .inl c4)), (k, .inr (8, [.ref k0, .ref k1, .ref k2, .ref k3, .ref k4, .ref k5, .ref k6, .ref k7, .ref k8, .int c9]))] := hD
  rcases w_2 with ⟨hr_1, h_4, h_5, h_6⟩ | ⟨hr_1, h_7⟩
  · have h_4 : 0 ≤ a0.toInt := h_4
    have h_5 : a0.toInt < c9.toInt := h_5
    have h_6 : a0.toInt < 60 := h_6
    obtain rfl : r_1 = 1 := hr_1.trans (by decide +kernel)
    refine b_if_eq hx hb zl_1 (tgt := 17) dX8_foodOf_5 (by decide +kernel) (fun c_8 => by exfalso; omega) (fun c_8 => ?_)
    refine lv_aload_n hx hb dX8_foodOf_8 rfl (lv_at hl 0 rfl) ?_
    refine va_get (D := D) (ci := 8) (v := .ref k4) (C := RX8) (T := TX8) (N := 10) hx hb hT giX8 hown hK hP 1 rfl rfl 4 (by decide +kernel) (hT (Cond.fieldLink RX8 24 "DesertWire$Works" "foods" "[I") mw_44) (fun _ h9 => h9) rfl dX8_foodOf_9 ?_
    refine lv_iload_n hx hb dX8_foodOf_12 rfl (lv_at hl 1 rfl) ?_
    refine k_iald (v := (c4 a0.toNatClampNeg)) hx hb hK hP 0 0 rfl rfl (k_in (by omega) (by omega)) rfl dX8_foodOf_13 ?_
    refine lv_topi (fun v_9 ev_9 => ?_)
    have lo_v_9 := k_lo v_9
    have hi_v_9 := k_hi v_9
    have tv_9 : v_9.toInt = (c4 a0.toNatClampNeg).toInt := by rw [ev_9]
    refine lv_goto (tgt := 18) hx hb dX8_foodOf_14 (by decide +kernel) ?_
    exact hRet () [1, 0] (by first | exact Or.inl ⟨(by omega), (by omega), (by omega), ev_9⟩ | exact Or.inr (⟨ev_9, (by omega)⟩)) hP hD (by decide +kernel) rfl hS rfl dX8_foodOf_18
  · have h_7 : a0.toInt < 0 ∨ c9.toInt ≤ a0.toInt ∨ 60 ≤ a0.toInt := h_7
    obtain rfl : r_1 = 0 := hr_1.trans (by decide +kernel)
    refine b_if_eq hx hb zl_0 (tgt := 17) dX8_foodOf_5 (by decide +kernel) (fun c_10 => ?_) (fun c_10 => by exfalso; omega)
    refine lv_iconst (v := 0) hx hb dX8_foodOf_17 (by decide +kernel) ?_
    exact hRet () [1, 0] (by first | exact Or.inl ⟨(by omega), (by omega), (by omega), e0⟩ | exact Or.inr (⟨rfl, (by omega)⟩)) hP hD (by decide +kernel) rfl hS rfl dX8_foodOf_18

set_option maxHeartbeats 4000000 in
set_option maxRecDepth 100000 in
theorem c_X8_isDownD (l : Launch) (D : va_G) (cI : ClassId) (aK aV : Nat → Nat) (k k0 k1 k2 k3 k4 k5 k6 k7 k8 : Nat) (sz : Nat) (c9 : Int32) (c5 : Nat → Int32) (a0 : Int32) : Met l yX8_isDown (gW yX8_isDown cX8_isDown 2 (some .boolean)) ({ frames := 1, cells := 0, slots := 0, locals := 21 } : Room) (kPreX D cI aK aV [.ref k, .int a0] [(k, .inr (8, [.ref k0, .ref k1, .ref k2, .ref k3, .ref k4, .ref k5, .ref k6, .ref k7, .ref k8, .int c9])), (k5, .inl (cI, 60, .inl c5))] sz) (va_Qi (fun (r : Int32) (u : Unit) => (r = 1 ∧ 0 ≤ a0.toInt ∧ a0.toInt < c9.toInt ∧ a0.toInt ≤ 59 ∧ (c5 a0.toNatClampNeg).toInt ≠ 0) ∨ (r = 0 ∧ 0 ≤ a0.toInt ∧ a0.toInt < c9.toInt ∧ a0.toInt ≤ 59 ∧ (c5 a0.toNatClampNeg).toInt = 0) ∨ (r = 0 ∧ (a0.toInt < 0 ∨ c9.toInt ≤ a0.toInt ∨ 60 ≤ a0.toInt))) (fun u t => kWd D cI (va_A [(k, .inr (8, [.ref k0, .ref k1, .ref k2, .ref k3, .ref k4, .ref k5, .ref k6, .ref k7, .ref k8, .int c9])), (k5, .inl (cI, 60, .inl c5))] sz) [(k, .inr (8, [.ref k0, .ref k1, .ref k2, .ref k3, .ref k4, .ref k5, .ref k6, .ref k7, .ref k8, .int c9])), (k5, .inl (cI, 60, .inl c5))] t) (va_A [(k, .inr (8, [.ref k0, .ref k1, .ref k2, .ref k3, .ref k4, .ref k5, .ref k6, .ref k7, .ref k8, .int c9])), (k5, .inl (cI, 60, .inl c5))] sz)) 0 0 (va_A [(k, .inr (8, [.ref k0, .ref k1, .ref k2, .ref k3, .ref k4, .ref k5, .ref k6, .ref k7, .ref k8, .int c9])), (k5, .inl (cI, 60, .inl c5))] sz) := by
  refine kMetIX (own := RX8) (by decide +kernel) rfl (Nat.le_of_ble_eq_true rfl) ?_
  intro p e s m args below meth c hx hb hT hown hname hml A Q hK hP hD hS hA hN hXS hRet ls hl
  have hl : lv_has ls 2 [(0, .ref k), (1, .int a0)] := hl
  have lo_a0 := k_lo a0
  have hi_a0 := k_hi a0
  have lo_c9 := k_lo c9
  have hi_c9 := k_hi c9
  refine lv_aload_n hx hb dX8_isDown_0 rfl (lv_at hl 0 rfl) ?_
  refine lv_iload_n hx hb dX8_isDown_1 rfl (lv_at hl 1 rfl) ?_
  refine kJi (wr := [(k5, .inl (cI, 60, .inl c5))]) (va_runV (As := [.int a0]) (rest := []) ⟨hx, hb, hml, hown, hT⟩ (c_X8_hasG l D cI aK aV k k0 k1 k2 k3 k4 k5 k6 k7 k8 s.heap.size c9 a0) (cwV 1 hT (gV_in mw_371 mw_368 mw_369 mw_370 mw_3) rfl rfl rfl (by decide +kernel) ⟨Nat.le_of_ble_eq_true rfl, Nat.le_of_ble_eq_true rfl⟩) (kRecvX (q0 := 0) (ci := 8) hK hP hD hN hXS hS hA rfl rfl [0] rfl (by decide +kernel)) rfl rfl hl.1 rfl (lv_room (Nat.le_of_ble_eq_true rfl)) dX8_isDown_2 ⟨Nat.le_of_ble_eq_true rfl, Nat.le_of_ble_eq_true rfl⟩) hP hD hS hA [0] [1] rfl rfl (by decide +kernel) (by decide +kernel) ?_
  clear hP hD hS
  intro r_1 u_3 H locs w_2 hP hD hS
  replace hP : va_P D vwCl [(k5, .inl (cI, 60, .inl c5)), (k, .inr (8, [.ref k0, .ref k1, .ref k2, .ref k3, .ref k4, .ref k5, .ref k6, .ref k7, .ref k8, .int c9]))] H := hP
  replace hD : va_D A [(k5, .inl (cI, 60, .inl c5)), (k, .inr (8, [.ref k0, .ref k1, .ref k2, .ref k3, .ref k4, .ref k5, .ref k6, .ref k7, .ref k8, .int c9]))] := hD
  rcases w_2 with ⟨hr_1, h_4, h_5, h_6⟩ | ⟨hr_1, h_7⟩
  · have h_4 : 0 ≤ a0.toInt := h_4
    have h_5 : a0.toInt < c9.toInt := h_5
    have h_6 : a0.toInt < 60 := h_6
    obtain rfl : r_1 = 1 := hr_1.trans (by decide +kernel)
    refine b_if_eq hx hb zl_1 (tgt := 21) dX8_isDown_5 (by decide +kernel) (fun c_8 => by exfalso; omega) (fun c_8 => ?_)
    refine lv_aload_n hx hb dX8_isDown_8 rfl (lv_at hl 0 rfl) ?_
    refine va_get (D := D) (ci := 8) (v := .ref k5) (C := RX8) (T := TX8) (N := 10) hx hb hT giX8 hown hK hP 1 rfl rfl 5 (by decide +kernel) (hT (Cond.fieldLink RX8 27 "DesertWire$Works" "downs" "[I") mw_45) (fun _ h9 => h9) rfl dX8_isDown_9 ?_
    refine lv_iload_n hx hb dX8_isDown_12 rfl (lv_at hl 1 rfl) ?_
    refine k_iald (v := (c5 a0.toNatClampNeg)) hx hb hK hP 0 0 rfl rfl (k_in (by omega) (by omega)) rfl dX8_isDown_13 ?_
    refine lv_topi (fun v_9 ev_9 => ?_)
    have lo_v_9 := k_lo v_9
    have hi_v_9 := k_hi v_9
    have tv_9 : v_9.toInt = (c5 a0.toNatClampNeg).toInt := by rw [ev_9]
    refine b_if_eq hx hb rfl (tgt := 21) dX8_isDown_14 (by decide +kernel) (fun c_10 => ?_) (fun c_10 => ?_)
    · refine lv_iconst (v := 0) hx hb dX8_isDown_21 (by decide +kernel) ?_
      exact hRet () [1, 0] (by first | exact Or.inr (Or.inl ⟨rfl, (by omega), (by omega), (by omega), (by omega)⟩) | exact Or.inr (Or.inr (⟨rfl, (by omega)⟩))) hP hD (by decide +kernel) rfl hS rfl dX8_isDown_22
    · refine lv_iconst (v := 1) hx hb dX8_isDown_17 (by decide +kernel) ?_
      refine lv_goto (tgt := 22) hx hb dX8_isDown_18 (by decide +kernel) ?_
      exact hRet () [1, 0] (Or.inl ⟨rfl, (by omega), (by omega), (by omega), (by omega)⟩) hP hD (by decide +kernel) rfl hS rfl dX8_isDown_22
  · have h_7 : a0.toInt < 0 ∨ c9.toInt ≤ a0.toInt ∨ 60 ≤ a0.toInt := h_7
    obtain rfl : r_1 = 0 := hr_1.trans (by decide +kernel)
    refine b_if_eq hx hb zl_0 (tgt := 21) dX8_isDown_5 (by decide +kernel) (fun c_11 => ?_) (fun c_11 => by exfalso; omega)
    refine lv_iconst (v := 0) hx hb dX8_isDown_21 (by decide +kernel) ?_
    exact hRet () [1, 0] (by first | exact Or.inr (Or.inl ⟨rfl, (by omega), (by omega), (by omega), (by omega)⟩) | exact Or.inr (Or.inr (⟨rfl, (by omega)⟩))) hP hD (by decide +kernel) rfl hS rfl dX8_isDown_22
