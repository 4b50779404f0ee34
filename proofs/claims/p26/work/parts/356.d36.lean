
set_option maxHeartbeats 4000000 in
set_option maxRecDepth 100000 in
theorem c_X3_setD6 (l : Launch) (D : va_G) (cI : ClassId) (aK aV : Nat → Nat) (k k0 : Nat) (sz : Nat) (c1 : Int32) (c0 : Nat → Int32) (gx : Nat → Int32) (a0 : Int32) (a1 : Int32) (a2 : Int32) (pre0 : PTR c0 c1 gx) (pre1 : 0 ≤ a0.toInt) (pre2 : a0.toInt < c1.toInt) (pre3 : a1 = 6) : Met l yX3_set (gW yX3_set cX3_set 4 none) ({ frames := 1, cells := 0, slots := 0, locals := 21 } : Room) (kPreX D cI aK aV [.ref k, .int a0, .int 6, .int a2] [(k, .inr (3, [.ref k0, .int c1])), (k0, .inl (cI, 36, .inl c0))] sz) (va_Qv (fun (u : (Nat → Int32)) => PTR u c1 (upd gx (459 + 9 * a0.toInt.toNat + 6) a2)) (fun u t => kWd D cI (va_A [(k, .inr (3, [.ref k0, .int c1])), (k0, .inl (cI, 36, .inl c0))] sz) [(k, .inr (3, [.ref k0, .int c1])), (k0, .inl (cI, 36, .inl u))] t) (va_A [(k, .inr (3, [.ref k0, .int c1])), (k0, .inl (cI, 36, .inl c0))] sz)) 0 0 (va_A [(k, .inr (3, [.ref k0, .int c1])), (k0, .inl (cI, 36, .inl c0))] sz) := by
  refine kMetVX (own := RX3) (by decide +kernel) rfl (Nat.le_of_ble_eq_true rfl) ?_
  intro p e s m args below meth c hx hb hT hown hname hml A Q hK hP hD hS hA hN hXS hRet ls hl
  subst pre3
  have hl : lv_has ls 4 [(0, .ref k), (1, .int a0), (2, .int 6), (3, .int a2)] := hl
  have lo_a0 := k_lo a0
  have hi_a0 := k_hi a0
  have lo_c1 := k_lo c1
  have hi_c1 := k_hi c1
  have pre0 : PTR c0 c1 gx := pre0
  have b_1 : 0 ≤ c1.toInt ∧ c1.toInt ≤ 4 := (pre0).2.1
  have t_2 : c1.toInt = (gx 2).toInt := PTR.nt pre0
  refine lv_aload_n hx hb dX3_set_0 rfl (lv_at hl 0 rfl) ?_
  refine lv_iload_n hx hb dX3_set_1 rfl (lv_at hl 1 rfl) ?_
  refine kJi (wr := [(k0, .inl (cI, 36, .inl c0))]) (va_runV (As := [.int a0]) (rest := []) ⟨hx, hb, hml, hown, hT⟩ (c_X3_hasG l D cI aK aV k k0 s.heap.size c1 a0) (cwV 1 hT (gV_in mw_717 mw_714 mw_715 mw_716 mw_4) rfl rfl rfl (by decide +kernel) ⟨Nat.le_of_ble_eq_true rfl, Nat.le_of_ble_eq_true rfl⟩) (kRecvX (q0 := 0) (ci := 3) hK hP hD hN hXS hS hA rfl rfl [0] rfl (by decide +kernel)) rfl rfl hl.1 rfl (lv_room (Nat.le_of_ble_eq_true rfl)) dX3_set_2 ⟨Nat.le_of_ble_eq_true rfl, Nat.le_of_ble_eq_true rfl⟩) hP hD hS hA [0] [1] rfl rfl (by decide +kernel) (by decide +kernel) ?_
  clear hP hD hS
  intro r_3 u_5 H locs w_4 hP hD hS
  replace hP : va_P D vwCl [(k0, .inl (cI, 36, .inl c0)), (k, .inr (3, [.ref k0, .int c1]))] H := hP
  replace hD : va_D A [(k0, .inl (cI, 36, .inl c0)), (k, .inr (3, [.ref k0, .int c1]))] := hD
  rcases w_4 with ⟨hr_3, h_6, h_7, h_8⟩ | ⟨hr_3, h_9⟩
  · have h_6 : 0 ≤ a0.toInt := h_6
    have h_7 : a0.toInt < c1.toInt := h_7
    have h_8 : a0.toInt < 4 := h_8
    obtain rfl : r_3 = 1 := hr_3.trans (by decide +kernel)
    refine b_if_eq hx hb zl_1 (tgt := 30) dX3_set_5 (by decide +kernel) (fun c_10 => by exfalso; omega) (fun c_10 => ?_)
    refine lv_iload_n hx hb dX3_set_8 rfl (lv_at hl 2 rfl) ?_
    refine b_if_lt hx hb zl_6 (tgt := 30) dX3_set_9 (by decide +kernel) (fun c_11 => by exfalso; omega) (fun c_11 => ?_)
    refine lv_iload_n hx hb dX3_set_12 rfl (lv_at hl 2 rfl) ?_
    refine lv_bipush (v := 9) hx hb dX3_set_13 (by decide +kernel) ?_
    refine b_icmp_ge hx hb zl_6 zl_9 (tgt := 30) dX3_set_15 (by decide +kernel) (fun c_12 => by exfalso; omega) (fun c_12 => ?_)
    refine lv_aload_n hx hb dX3_set_18 rfl (lv_at hl 0 rfl) ?_
    refine va_get (D := D) (ci := 3) (v := .ref k0) (C := RX3) (T := TX3) (N := 2) hx hb hT giX3 hown hK hP 1 rfl rfl 0 (by decide +kernel) (hT (Cond.fieldLink RX3 9 "DesertWire$Parties" "facts" "[I") mw_80) (fun _ h9 => h9) rfl dX3_set_19 ?_
    refine lv_iload_n hx hb dX3_set_22 rfl (lv_at hl 1 rfl) ?_
    refine lv_bipush (v := 9) hx hb dX3_set_23 (by decide +kernel) ?_
    refine lv_imul hx hb dX3_set_25 ?_
    refine lv_topi (fun v_13 ev_13 => ?_)
    have tv_13 : v_13.toInt = a0.toInt * 9 := by rw [ev_13]; exact k_mulv rfl zl_9 (by omega) (by omega)
    refine lv_iload_n hx hb dX3_set_26 rfl (lv_at hl 2 rfl) ?_
    refine lv_iadd hx hb dX3_set_27 ?_
    refine lv_topi (fun v_14 ev_14 => ?_)
    have tv_14 : v_14.toInt = v_13.toInt + 6 := by rw [ev_14]; exact k_addv rfl zl_6 (by omega) (by omega)
    refine lv_iload_n hx hb dX3_set_28 rfl (lv_at hl 3 rfl) ?_
    refine va_iast hx hb hK hP hD hS 0 0 rfl rfl (k_in (by omega) (by omega)) dX3_set_29 ?_
    clear hP hD hS
    intro H locs hP hD hS
    replace hP : va_P D vwCl [(k0, .inl (cI, 36, .inl (upd c0 v_14.toNatClampNeg a2))), (k, .inr (3, [.ref k0, .int c1]))] H := hP
    replace hD : va_D A [(k0, .inl (cI, 36, .inl (upd c0 v_14.toNatClampNeg a2))), (k, .inr (3, [.ref k0, .int c1]))] := hD
    obtain ⟨f_15, ef_15⟩ : ∃ g : Nat → Int32, g = upd c0 v_14.toNatClampNeg a2 := ⟨_, rfl⟩
    rw [← ef_15] at hP hD
    exact hRet f_15 [1, 0] (PTR.put pre0 (by omega) (by omega) (by omega) ef_15 (by omega)) hP hD (by decide +kernel) rfl hS dX3_set_30
  · exfalso; omega

set_option maxHeartbeats 4000000 in
set_option maxRecDepth 100000 in
theorem c_X3_getD7 (l : Launch) (D : va_G) (cI : ClassId) (aK aV : Nat → Nat) (k k0 : Nat) (sz : Nat) (c1 : Int32) (c0 : Nat → Int32) (gx : Nat → Int32) (a0 : Int32) (a1 : Int32) (pre0 : PTR c0 c1 gx) (pre1 : 0 ≤ a0.toInt) (pre2 : a0.toInt < c1.toInt) (pre3 : a1 = 7) : Met l yX3_get (gW yX3_get cX3_get 3 (some .int)) ({ frames := 1, cells := 0, slots := 0, locals := 21 } : Room) (kPreX D cI aK aV [.ref k, .int a0, .int 7] [(k, .inr (3, [.ref k0, .int c1])), (k0, .inl (cI, 36, .inl c0))] sz) (va_Qi (fun (r : Int32) (u : Unit) => r = pW gx a0 7) (fun u t => kWd D cI (va_A [(k, .inr (3, [.ref k0, .int c1])), (k0, .inl (cI, 36, .inl c0))] sz) [(k, .inr (3, [.ref k0, .int c1])), (k0, .inl (cI, 36, .inl c0))] t) (va_A [(k, .inr (3, [.ref k0, .int c1])), (k0, .inl (cI, 36, .inl c0))] sz)) 0 0 (va_A [(k, .inr (3, [.ref k0, .int c1])), (k0, .inl (cI, 36, .inl c0))] sz) := by
  refine kMetIX (own := RX3) (by decide +kernel) rfl (Nat.le_of_ble_eq_true rfl) ?_
  intro p e s m args below meth c hx hb hT hown hname hml A Q hK hP hD hS hA hN hXS hRet ls hl
  subst pre3
  have hl : lv_has ls 3 [(0, .ref k), (1, .int a0), (2, .int 7)] := hl
  have lo_a0 := k_lo a0
  have hi_a0 := k_hi a0
  have lo_c1 := k_lo c1
  have hi_c1 := k_hi c1
  have pre0 : PTR c0 c1 gx := pre0
  have b_1 : 0 ≤ c1.toInt ∧ c1.toInt ≤ 4 := (pre0).2.1
  have t_2 : c1.toInt = (gx 2).toInt := PTR.nt pre0
  refine lv_aload_n hx hb dX3_get_0 rfl (lv_at hl 0 rfl) ?_
  refine lv_iload_n hx hb dX3_get_1 rfl (lv_at hl 1 rfl) ?_
  refine kJi (wr := [(k0, .inl (cI, 36, .inl c0))]) (va_runV (As := [.int a0]) (rest := []) ⟨hx, hb, hml, hown, hT⟩ (c_X3_hasG l D cI aK aV k k0 s.heap.size c1 a0) (cwV 1 hT (gV_in mw_717 mw_714 mw_715 mw_716 mw_4) rfl rfl rfl (by decide +kernel) ⟨Nat.le_of_ble_eq_true rfl, Nat.le_of_ble_eq_true rfl⟩) (kRecvX (q0 := 0) (ci := 3) hK hP hD hN hXS hS hA rfl rfl [0] rfl (by decide +kernel)) rfl rfl hl.1 rfl (lv_room (Nat.le_of_ble_eq_true rfl)) dX3_get_2 ⟨Nat.le_of_ble_eq_true rfl, Nat.le_of_ble_eq_true rfl⟩) hP hD hS hA [0] [1] rfl rfl (by decide +kernel) (by decide +kernel) ?_
  clear hP hD hS
  intro r_3 u_5 H locs w_4 hP hD hS
  replace hP : va_P D vwCl [(k0, .inl (cI, 36, .inl c0)), (k, .inr (3, [.ref k0, .int c1]))] H := hP
  replace hD : va_D A [(k0, .inl (cI, 36, .inl c0)), (k, .inr (3, [.ref k0, .int c1]))] := hD
  rcases w_4 with ⟨hr_3, h_6, h_7, h_8⟩ | ⟨hr_3, h_9⟩
  · have h_6 : 0 ≤ a0.toInt := h_6
    have h_7 : a0.toInt < c1.toInt := h_7
    have h_8 : a0.toInt < 4 := h_8
    obtain rfl : r_3 = 1 := hr_3.trans (by decide +kernel)
    refine b_if_eq hx hb zl_1 (tgt := 32) dX3_get_5 (by decide +kernel) (fun c_10 => by exfalso; omega) (fun c_10 => ?_)
    refine lv_iload_n hx hb dX3_get_8 rfl (lv_at hl 2 rfl) ?_
    refine b_if_lt hx hb zl_7 (tgt := 32) dX3_get_9 (by decide +kernel) (fun c_11 => by exfalso; omega) (fun c_11 => ?_)
    refine lv_iload_n hx hb dX3_get_12 rfl (lv_at hl 2 rfl) ?_
    refine lv_bipush (v := 9) hx hb dX3_get_13 (by decide +kernel) ?_
    refine b_icmp_ge hx hb zl_7 zl_9 (tgt := 32) dX3_get_15 (by decide +kernel) (fun c_12 => by exfalso; omega) (fun c_12 => ?_)
    refine lv_aload_n hx hb dX3_get_18 rfl (lv_at hl 0 rfl) ?_
    refine va_get (D := D) (ci := 3) (v := .ref k0) (C := RX3) (T := TX3) (N := 2) hx hb hT giX3 hown hK hP 1 rfl rfl 0 (by decide +kernel) (hT (Cond.fieldLink RX3 9 "DesertWire$Parties" "facts" "[I") mw_80) (fun _ h9 => h9) rfl dX3_get_19 ?_
    refine lv_iload_n hx hb dX3_get_22 rfl (lv_at hl 1 rfl) ?_
    refine lv_bipush (v := 9) hx hb dX3_get_23 (by decide +kernel) ?_
    refine lv_imul hx hb dX3_get_25 ?_
    refine lv_topi (fun v_13 ev_13 => ?_)
    have tv_13 : v_13.toInt = a0.toInt * 9 := by rw [ev_13]; exact k_mulv rfl zl_9 (by omega) (by omega)
    refine lv_iload_n hx hb dX3_get_26 rfl (lv_at hl 2 rfl) ?_
    refine lv_iadd hx hb dX3_get_27 ?_
    refine lv_topi (fun v_14 ev_14 => ?_)
    have tv_14 : v_14.toInt = v_13.toInt + 7 := by rw [ev_14]; exact k_addv rfl zl_7 (by omega) (by omega)
    refine k_iald (v := (c0 v_14.toNatClampNeg)) hx hb hK hP 0 0 rfl rfl (k_in (by omega) (by omega)) rfl dX3_get_28 ?_
    refine lv_topi (fun v_15 ev_15 => ?_)
    have lo_v_15 := k_lo v_15
    have hi_v_15 := k_hi v_15
    have tv_15 : v_15.toInt = (c0 v_14.toNatClampNeg).toInt := by rw [ev_15]
    refine lv_goto (tgt := 33) hx hb dX3_get_29 (by decide +kernel) ?_
    exact hRet () [1, 0] (PTR.rd pre0 (by omega) (by omega) (by omega) ev_15 (by omega)) hP hD (by decide +kernel) rfl hS rfl dX3_get_33
  · exfalso; omega

set_option maxHeartbeats 4000000 in
set_option maxRecDepth 100000 in
theorem c_X3_setD7 (l : Launch) (D : va_G) (cI : ClassId) (aK aV : Nat → Nat) (k k0 : Nat) (sz : Nat) (c1 : Int32) (c0 : Nat → Int32) (gx : Nat → Int32) (a0 : Int32) (a1 : Int32) (a2 : Int32) (pre0 : PTR c0 c1 gx) (pre1 : 0 ≤ a0.toInt) (pre2 : a0.toInt < c1.toInt) (pre3 : a1 = 7) : Met l yX3_set (gW yX3_set cX3_set 4 none) ({ frames := 1, cells := 0, slots := 0, locals := 21 } : Room) (kPreX D cI aK aV [.ref k, .int a0, .int 7, .int a2] [(k, .inr (3, [.ref k0, .int c1])), (k0, .inl (cI, 36, .inl c0))] sz) (va_Qv (fun (u : (Nat → Int32)) => PTR u c1 (upd gx (459 + 9 * a0.toInt.toNat + 7) a2)) (fun u t => kWd D cI (va_A [(k, .inr (3, [.ref k0, .int c1])), (k0, .inl (cI, 36, .inl c0))] sz) [(k, .inr (3, [.ref k0, .int c1])), (k0, .inl (cI, 36, .inl u))] t) (va_A [(k, .inr (3, [.ref k0, .int c1])), (k0, .inl (cI, 36, .inl c0))] sz)) 0 0 (va_A [(k, .inr (3, [.ref k0, .int c1])), (k0, .inl (cI, 36, .inl c0))] sz) := by
  refine kMetVX (own := RX3) (by decide +kernel) rfl (Nat.le_of_ble_eq_true rfl) ?_
  intro p e s m args below meth c hx hb hT hown hname hml A Q hK hP hD hS hA hN hXS hRet ls hl
  subst pre3
  have hl : lv_has ls 4 [(0, .ref k), (1, .int a0), (2, .int 7), (3, .int a2)] := hl
  have lo_a0 := k_lo a0
  have hi_a0 := k_hi a0
  have lo_c1 := k_lo c1
  have hi_c1 := k_hi c1
  have pre0 : PTR c0 c1 gx := pre0
  have b_1 : 0 ≤ c1.toInt ∧ c1.toInt ≤ 4 := (pre0).2.1
  have t_2 : c1.toInt = (gx 2).toInt := PTR.nt pre0
  refine lv_aload_n hx hb dX3_set_0 rfl (lv_at hl 0 rfl) ?_
  refine lv_iload_n hx hb dX3_set_1 rfl (lv_at hl 1 rfl) ?_
  refine kJi (wr := [(k0, .inl (cI, 36, .inl c0))]) (va_runV (As := [.int a0]) (rest := []) ⟨hx, hb, hml, hown, hT⟩ (c_X3_hasG l D cI aK aV k k0 s.heap.size c1 a0) (cwV 1 hT (gV_in mw_717 mw_714 mw_715 mw_716 mw_4) rfl rfl rfl (by decide +kernel) ⟨Nat.le_of_ble_eq_true rfl, Nat.le_of_ble_eq_true rfl⟩) (kRecvX (q0 := 0) (ci := 3) hK hP hD hN hXS hS hA rfl rfl [0] rfl (by decide +kernel)) rfl rfl hl.1 rfl (lv_room (Nat.le_of_ble_eq_true rfl)) dX3_set_2 ⟨Nat.le_of_ble_eq_true rfl, Nat.le_of_ble_eq_true rfl⟩) hP hD hS hA [0] [1] rfl rfl (by decide +kernel) (by decide +kernel) ?_
  clear hP hD hS
  intro r_3 u_5 H locs w_4 hP hD hS
  replace hP : va_P D vwCl [(k0, .inl (cI, 36, .inl c0)), (k, .inr (3, [.ref k0, .int c1]))] H := hP
  replace hD : va_D A [(k0, .inl (cI, 36, .inl c0)), (k, .inr (3, [.ref k0, .int c1]))] := hD
  rcases w_4 with ⟨hr_3, h_6, h_7, h_8⟩ | ⟨hr_3, h_9⟩
  · have h_6 : 0 ≤ a0.toInt := h_6
    have h_7 : a0.toInt < c1.toInt := h_7
    have h_8 : a0.toInt < 4 := h_8
    obtain rfl : r_3 = 1 := hr_3.trans (by decide +kernel)
    refine b_if_eq hx hb zl_1 (tgt := 30) dX3_set_5 (by decide +kernel) (fun c_10 => by exfalso; omega) (fun c_10 => ?_)
    refine lv_iload_n hx hb dX3_set_8 rfl (lv_at hl 2 rfl) ?_
    refine b_if_lt hx hb zl_7 (tgt := 30) dX3_set_9 (by decide +kernel) (fun c_11 => by exfalso; omega) (fun c_11 => ?_)
    refine lv_iload_n hx hb dX3_set_12 rfl (lv_at hl 2 rfl) ?_
    refine lv_bipush (v := 9) hx hb dX3_set_13 (by decide +kernel) ?_
    refine b_icmp_ge hx hb zl_7 zl_9 (tgt := 30) dX3_set_15 (by decide +kernel) (fun c_12 => by exfalso; omega) (fun c_12 => ?_)
    refine lv_aload_n hx hb dX3_set_18 rfl (lv_at hl 0 rfl) ?_
    refine va_get (D := D) (ci := 3) (v := .ref k0) (C := RX3) (T := TX3) (N := 2) hx hb hT giX3 hown hK hP 1 rfl rfl 0 (by decide +kernel) (hT (Cond.fieldLink RX3 9 "DesertWire$Parties" "facts" "[I") mw_80) (fun _ h9 => h9) rfl dX3_set_19 ?_
    refine lv_iload_n hx hb dX3_set_22 rfl (lv_at hl 1 rfl) ?_
    refine lv_bipush (v := 9) hx hb dX3_set_23 (by decide +kernel) ?_
    refine lv_imul hx hb dX3_set_25 ?_
    refine lv_topi (fun v_13 ev_13 => ?_)
    have tv_13 : v_13.toInt = a0.toInt * 9 := by rw [ev_13]; exact k_mulv rfl zl_9 (by omega) (by omega)
    refine lv_iload_n hx hb dX3_set_26 rfl (lv_at hl 2 rfl) ?_
    refine lv_iadd hx hb dX3_set_27 ?_
    refine lv_topi (fun v_14 ev_14 => ?_)
    have tv_14 : v_14.toInt = v_13.toInt + 7 := by rw [ev_14]; exact k_addv rfl zl_7 (by omega) (by omega)
    refine lv_iload_n hx hb dX3_set_28 rfl (lv_at hl 3 rfl) ?_
    refine va_iast hx hb hK hP hD hS 0 0 rfl rfl (k_in (by omega) (by omega)) dX3_set_29 ?_
    clear hP hD hS
    intro H locs hP hD hS
    replace hP : va_P D vwCl [(k0, .inl (cI, 36, .inl (upd c0 v_14.toNatClampNeg a2))), (k, .inr (3, [.ref k0, .int c1]))] H := hP
    replace hD : va_D A [(k0, .inl (cI, 36, .inl (upd c0 v_14.toNatClampNeg a2))), (k, .inr (3, [.ref k0, .int c1]))] := hD
    obtain ⟨f_15, ef_15⟩ : ∃ g : Nat → Int32, g = upd c0 v_14.toNatClampNeg a2 := ⟨_, rfl⟩
    rw [← ef_15] at hP hD
    exact hRet f_15 [1, 0] (PTR.put pre0 (by omega) (by omega) (by omega) ef_15 (by omega)) hP hD (by decide +kernel) rfl hS dX3_set_30
  · exfalso; omega

set_option maxHeartbeats 4000000 in
set_option maxRecDepth 100000 in
theorem c_X3_getD8 (l : Launch) (D : va_G) (cI : ClassId) (aK aV : Nat → Nat) (k k0 : Nat) (sz : Nat) (c1 : Int32) (c0 : Nat → Int32) (gx : Nat → Int32) (a0 : Int32) (a1 : Int32) (pre0 : PTR c0 c1 gx) (pre1 : 0 ≤ a0.toInt) (pre2 : a0.toInt < c1.toInt) (pre3 : a1 = 8) : Met l yX3_get (gW yX3_get cX3_get 3 (some .int)) ({ frames := 1, cells := 0, slots := 0, locals := 21 } : Room) (kPreX D cI aK aV [.ref k, .int a0, .int 8] [(k, .inr (3, [.ref k0, .int c1])), (k0, .inl (cI, 36, .inl c0))] sz) (va_Qi (fun (r : Int32) (u : Unit) => r = pW gx a0 8) (fun u t => kWd D cI (va_A [(k, .inr (3, [.ref k0, .int c1])), (k0, .inl (cI, 36, .inl c0))] sz) [(k, .inr (3, [.ref k0, .int c1])), (k0, .inl (cI, 36, .inl c0))] t) (va_A [(k, .inr (3, [.ref k0, .int c1])), (k0, .inl (cI, 36, .inl c0))] sz)) 0 0 (va_A [(k, .inr (3, [.ref k0, .int c1])), (k0, .inl (cI, 36, .inl c0))] sz) := by
  refine kMetIX (own := RX3) (by decide +kernel) rfl (Nat.le_of_ble_eq_true rfl) ?_
  intro p e s m args below meth c hx hb hT hown hname hml A Q hK hP hD hS hA hN hXS hRet ls hl
  subst pre3
  have hl : lv_has ls 3 [(0, .ref k), (1, .int a0), (2, .int 8)] := hl
  have lo_a0 := k_lo a0
  have hi_a0 := k_hi a0
  have lo_c1 := k_lo c1
  have hi_c1 := k_hi c1
  have pre0 : PTR c0 c1 gx := pre0
  have b_1 : 0 ≤ c1.toInt ∧ c1.toInt ≤ 4 := (pre0).2.1
  have t_2 : c1.toInt = (gx 2).toInt := PTR.nt pre0
  refine lv_aload_n hx hb dX3_get_0 rfl (lv_at hl 0 rfl) ?_
  refine lv_iload_n hx hb dX3_get_1 rfl (lv_at hl 1 rfl) ?_
  refine kJi (wr := [(k0, .inl (cI, 36, .inl c0))]) (va_runV (As := [.int a0]) (rest := []) ⟨hx, hb, hml, hown, hT⟩ (c_X3_hasG l D cI aK aV k k0 s.heap.size c1 a0) (cwV 1 hT (gV_in mw_717 mw_714 mw_715 mw_716 mw_4) rfl rfl rfl (by decide +kernel) ⟨Nat.le_of_ble_eq_true rfl, Nat.le_of_ble_eq_true rfl⟩) (kRecvX (q0 := 0) (ci := 3) hK hP hD hN hXS hS hA rfl rfl [0] rfl (by decide +kernel)) rfl rfl hl.1 rfl (lv_room (Nat.le_of_ble_eq_true rfl)) dX3_get_2 ⟨Nat.le_of_ble_eq_true rfl, Nat.le_of_ble_eq_true rfl⟩) hP hD hS hA [0] [1] rfl rfl (by decide +kernel) (by decide +kernel) ?_
  clear hP hD hS
  intro r_3 u_5 H locs w_4 hP hD hS
  replace hP : va_P D vwCl [(k0, .inl (cI, 36, .inl c0)), (k, .inr (3, [.ref k0, .int c1]))] H := hP
  replace hD : va_D A [(k0, .inl (cI, 36, .inl c0)), (k, .inr (3, [.ref k0, .int c1]))] := hD
  rcases w_4 with ⟨hr_3, h_6, h_7, h_8⟩ | ⟨hr_3, h_9⟩
  · have h_6 : 0 ≤ a0.toInt := h_6
    have h_7 : a0.toInt < c1.toInt := h_7
    have h_8 : a0.toInt < 4 := h_8
    obtain rfl : r_3 = 1 := hr_3.trans (by decide +kernel)
    refine b_if_eq hx hb zl_1 (tgt := 32) dX3_get_5 (by decide +kernel) (fun c_10 => by exfalso; omega) (fun c_10 => ?_)
    refine lv_iload_n hx hb dX3_get_8 rfl (lv_at hl 2 rfl) ?_
    refine b_if_lt hx hb zl_8 (tgt := 32) dX3_get_9 (by decide +kernel) (fun c_11 => by exfalso; omega) (fun c_11 => ?_)
    refine lv_iload_n hx hb dX3_get_12 rfl (lv_at hl 2 rfl) ?_
    refine lv_bipush (v := 9) hx hb dX3_get_13 (by decide +kernel) ?_
    refine b_icmp_ge hx hb zl_8 zl_9 (tgt := 32) dX3_get_15 (by decide +kernel) (fun c_12 => by exfalso; omega) (fun c_12 => ?_)
    refine lv_aload_n hx hb dX3_get_18 rfl (lv_at hl 0 rfl) ?_
    refine va_get (D := D) (ci := 3) (v := .ref k0) (C := RX3) (T := TX3) (N := 2) hx hb hT giX3 hown hK hP 1 rfl rfl 0 (by decide +kernel) (hT (Cond.fieldLink RX3 9 "DesertWire$Parties" "facts" "[I") mw_80) (fun _ h9 => h9) rfl dX3_get_19 ?_
    refine lv_iload_n hx hb dX3_get_22 rfl (lv_at hl 1 rfl) ?_
    refine lv_bipush (v := 9) hx hb dX3_get_23 (by decide +kernel) ?_
    refine lv_imul hx hb dX3_get_25 ?_
    refine lv_topi (fun v_13 ev_13 => ?_)
    have tv_13 : v_13.toInt = a0.toInt * 9 := by rw [ev_13]; exact k_mulv rfl zl_9 (by omega) (by omega)
    refine lv_iload_n hx hb dX3_get_26 rfl (lv_at hl 2 rfl) ?_
    refine lv_iadd hx hb dX3_get_27 ?_
    refine lv_topi (fun v_14 ev_14 => ?_)
    have tv_14 : v_14.toInt = v_13.toInt + 8 := by rw [ev_14]; exact k_addv rfl zl_8 (by omega) (by omega)
    refine k_iald (v := (c0 v_14.toNatClampNeg)) hx hb hK hP 0 0 rfl rfl (k_in (by omega) (by omega)) rfl dX3_get_28 ?_
    refine lv_topi (fun v_15 ev_15 => ?_)
    have lo_v_15 := k_lo v_15
    have hi_v_15 := k_hi v_15
    have tv_15 : v_15.toInt = (c0 v_14.toNatClampNeg).toInt := by rw [ev_15]
    refine lv_goto (tgt := 33) hx hb dX3_get_29 (by decide +kernel) ?_
    exact hRet () [1, 0] (PTR.rd pre0 (by omega) (by omega) (by omega) ev_15 (by omega)) hP hD (by decide +kernel) rfl hS rfl dX3_get_33
  · exfalso; omega

set_option maxHeartbeats 4000000 in
set_option maxRecDepth 100000 in
theorem c_X3_setD8 (l : Launch) (D : va_G) (cI : ClassId) (aK aV : Nat → Nat) (k k0 : Nat) (sz : Nat) (c1 : Int32) (c0 : Nat → Int32) (gx : Nat → Int32) (a0 : Int32) (a1 : Int32) (a2 : Int32) (pre0 : PTR c0 c1 gx) (pre1 : 0 ≤ a0.toInt) (pre2 : a0.toInt < c1.toInt) (pre3 : a1 = 8) : Met l yX3_set (gW yX3_set cX3_set 4 none) ({ frames := 1, cells := 0, slots := 0, locals := 21 } : Room) (kPreX D cI aK aV [.ref k, .int a0, .int 8, .int a2] [(k, .inr (3, [.ref k0, .int c1])), (k0, .inl (cI, 36, .inl c0))] sz) (va_Qv (fun (u : (Nat → Int32)) => PTR u c1 (upd gx (459 + 9 * a0.toInt.toNat + 8) a2)) (fun u t => kWd D cI (va_A [(k, .inr (3, [.ref k0, .int c1])), (k0, .inl (cI, 36, .inl c0))] sz) [(k, .inr (3, [.ref k0, .int c1])), (k0, .inl (cI, 36, .inl u))] t) (va_A [(k, .inr (3, [.ref k0, .int c1])), (k0, .inl (cI, 36, .inl c0))] sz)) 0 0 (va_A [(k, .inr (3, [.ref k0, .int c1])), (k0, .inl (cI, 36, .inl c0))] sz) := by
  refine kMetVX (own := RX3) (by decide +kernel) rfl (Nat.le_of_ble_eq_true rfl) ?_
  intro p e s m args below meth c hx hb hT hown hname hml A Q hK hP hD hS hA hN hXS hRet ls hl
  subst pre3
  have hl : lv_has ls 4 [(0, .ref k), (1, .int a0), (2, .int 8), (3, .int a2)] := hl
  have lo_a0 := k_lo a0
  have hi_a0 := k_hi a0
  have lo_c1 := k_lo c1
  have hi_c1 := k_hi c1
  have pre0 : PTR c0 c1 gx := pre0
  have b_1 : 0 ≤ c1.toInt ∧ c1.toInt ≤ 4 := (pre0).2.1
  have t_2 : c1.toInt = (gx 2).toInt := PTR.nt pre0
  refine lv_aload_n hx hb dX3_set_0 rfl (lv_at hl 0 rfl) ?_
  refine lv_iload_n hx hb dX3_set_1 rfl (lv_at hl 1 rfl) ?_
  refine kJi (wr := [(k0, .inl (cI, 36, .inl c0))]) (va_runV (As := [.int a0]) (rest := []) ⟨hx, hb, hml, hown, hT⟩ (c_X3_hasG l D cI aK aV k k0 s.heap.size c1 a0) (cwV 1 hT (gV_in mw_717 mw_714 mw_715 mw_716 mw_4) rfl rfl rfl (by decide +kernel) ⟨Nat.le_of_ble_eq_true rfl, Nat.le_of_ble_eq_true rfl⟩) (kRecvX (q0 := 0) (ci := 3) hK hP hD hN hXS hS hA rfl rfl [0] rfl (by decide +kernel)) rfl rfl hl.1 rfl (lv_room (Nat.le_of_ble_eq_true rfl)) dX3_set_2 ⟨Nat.le_of_ble_eq_true rfl, Nat.le_of_ble_eq_true rfl⟩) hP hD hS hA [0] [1] rfl rfl (by decide +kernel) (by decide +kernel) ?_
  clear hP hD hS
  intro r_3 u_5 H locs w_4 hP hD hS
  replace hP : va_P D vwCl [(k0, .inl (cI, 36, .inl c0)), (k, .inr (3, [.ref k0, .int c1]))] H := hP
  replace hD : va_D A [(k0, .inl (cI, 36, .inl c0)), (k, .inr (3, [.ref k0, .int c1]))] := hD
  rcases w_4 with ⟨hr_3, h_6, h_7, h_8⟩ | ⟨hr_3, h_9⟩
  · have h_6 : 0 ≤ a0.toInt := h_6
    have h_7 : a0.toInt < c1.toInt := h_7
    have h_8 : a0.toInt < 4 := h_8
    obtain rfl : r_3 = 1 := hr_3.trans (by decide +kernel)
    refine b_if_eq hx hb zl_1 (tgt := 30) dX3_set_5 (by decide +kernel) (fun c_10 => by exfalso; omega) (fun c_10 => ?_)
    refine lv_iload_n hx hb dX3_set_8 rfl (lv_at hl 2 rfl) ?_
    refine b_if_lt hx hb zl_8 (tgt := 30) dX3_set_9 (by decide +kernel) (fun c_11 => by exfalso; omega) (fun c_11 => ?_)
    refine lv_iload_n hx hb dX3_set_12 rfl (lv_at hl 2 rfl) ?_
    refine lv_bipush (v := 9) hx hb dX3_set_13 (by decide +kernel) ?_
    refine b_icmp_ge hx hb zl_8 zl_9 (tgt := 30) dX3_set_15 (by decide +kernel) (fun c_12 => by exfalso; omega) (fun c_12 => ?_)
    refine lv_aload_n hx hb dX3_set_18 rfl (lv_at hl 0 rfl) ?_
    refine va_get (D := D) (ci := 3) (v := .ref k0) (C := RX3) (T := TX3) (N := 2) hx hb hT giX3 hown hK hP 1 rfl rfl 0 (by decide +kernel) (hT (Cond.fieldLink RX3 9 "DesertWire$Parties" "facts" "[I") mw_80) (fun _ h9 => h9) rfl dX3_set_19 ?_
    refine lv_iload_n hx hb dX3_set_22 rfl (lv_at hl 1 rfl) ?_
    refine lv_bipush (v := 9) hx hb dX3_set_23 (by decide +kernel) ?_
    refine lv_imul hx hb dX3_set_25 ?_
    refine lv_topi (fun v_13 ev_13 => ?_)
    have tv_13 : v_13.toInt = a0.toInt * 9 := by rw [ev_13]; exact k_mulv rfl zl_9 (by omega) (by omega)
    refine lv_iload_n hx hb dX3_set_26 rfl (lv_at hl 2 rfl) ?_
    refine lv_iadd hx hb dX3_set_27 ?_
    refine lv_topi (fun v_14 ev_14 => ?_)
    have tv_14 : v_14.toInt = v_13.toInt + 8 := by rw [ev_14]; exact k_addv rfl zl_8 (by omega) (by omega)
    refine lv_iload_n hx hb dX3_set_28 rfl (lv_at hl 3 rfl) ?_
    refine va_iast hx hb hK hP hD hS 0 0 rfl rfl (k_in (by omega) (by omega)) dX3_set_29 ?_
    clear hP hD hS
    intro H locs hP hD hS
    replace hP : va_P D vwCl [(k0, .inl (cI, 36, .inl (upd c0 v_14.toNatClampNeg a2))), (k, .inr (3, [.ref k0, .int c1]))] H := hP
    replace hD : va_D A [(k0, .inl (cI, 36, .inl (upd c0 v_14.toNatClampNeg a2))), (k, .inr (3, [.ref k0, .int c1]))] := hD
    obtain ⟨f_15, ef_15⟩ : ∃ g : Nat → Int32, g = upd c0 v_14.toNatClampNeg a2 := ⟨_, rfl⟩
    rw [← ef_15] at hP hD
    exact hRet f_15 [1, 0] (PTR.put pre0 (by omega) (by omega) (by omega) ef_15 (by omega)) hP hD (by decide +kernel) rfl hS dX3_set_30
  · exfalso; omega

set_option maxHeartbeats 4000000 in
set_option maxRecDepth 100000 in
theorem c_X3_getDV (l : Launch) (D : va_G) (cI : ClassId) (aK aV : Nat → Nat) (k k0 : Nat) (sz : Nat) (c1 : Int32) (c0 : Nat → Int32) (gx : Nat → Int32) (a0 : Int32) (a1 : Int32) (pre0 : PTR c0 c1 gx) (pre1 : 0 ≤ a0.toInt) (pre2 : a0.toInt < c1.toInt) (pre3 : 0 ≤ a1.toInt) (pre4 : a1.toInt ≤ 8) : Met l yX3_get (gW yX3_get cX3_get 3 (some .int)) ({ frames := 1, cells := 0, slots := 0, locals := 21 } : Room) (kPreX D cI aK aV [.ref k, .int a0, .int a1] [(k, .inr (3, [.ref k0, .int c1])), (k0, .inl (cI, 36, .inl c0))] sz) (va_Qi (fun (r : Int32) (u : Unit) => r = gx (459 + 9 * a0.toInt.toNat + a1.toInt.toNat)) (fun u t => kWd D cI (va_A [(k, .inr (3, [.ref k0, .int c1])), (k0, .inl (cI, 36, .inl c0))] sz) [(k, .inr (3, [.ref k0, .int c1])), (k0, .inl (cI, 36, .inl c0))] t) (va_A [(k, .inr (3, [.ref k0, .int c1])), (k0, .inl (cI, 36, .inl c0))] sz)) 0 0 (va_A [(k, .inr (3, [.ref k0, .int c1])), (k0, .inl (cI, 36, .inl c0))] sz) := by
  refine kMetIX (own := RX3) (by decide +kernel) rfl (Nat.le_of_ble_eq_true rfl) ?_
  intro p e s m args below meth c hx hb hT hown hname hml A Q hK hP hD hS hA hN hXS hRet ls hl
  have hl : lv_has ls 3 [(0, .ref k), (1, .int a0), (2, .int a1)] := hl
  have lo_a0 := k_lo a0
  have hi_a0 := k_hi a0
  have lo_a1 := k_lo a1
  have hi_a1 := k_hi a1
  have lo_c1 := k_lo c1
  have hi_c1 := k_hi c1
  have pre0 : PTR c0 c1 gx := pre0
  have b_1 : 0 ≤ c1.toInt ∧ c1.toInt ≤ 4 := (pre0).2.1
  have t_2 : c1.toInt = (gx 2).toInt := PTR.nt pre0
  refine lv_aload_n hx hb dX3_get_0 rfl (lv_at hl 0 rfl) ?_
  refine lv_iload_n hx hb dX3_get_1 rfl (lv_at hl 1 rfl) ?_
  refine kJi (wr := [(k0, .inl (cI, 36, .inl c0))]) (va_runV (As := [.int a0]) (rest := []) ⟨hx, hb, hml, hown, hT⟩ (c_X3_hasG l D cI aK aV k k0 s.heap.size c1 a0) (cwV 1 hT (gV_in mw_717 mw_714 mw_715 mw_716 mw_4) rfl rfl rfl (by decide +kernel) ⟨Nat.le_of_ble_eq_true rfl, Nat.le_of_ble_eq_true rfl⟩) (kRecvX (q0 := 0) (ci := 3) hK hP hD hN hXS hS hA rfl rfl [0] rfl (by decide +kernel)) rfl rfl hl.1 rfl (lv_room (Nat.le_of_ble_eq_true rfl)) dX3_get_2 ⟨Nat.le_of_ble_eq_true rfl, Nat.le_of_ble_eq_true rfl⟩) hP hD hS hA [0] [1] rfl rfl (by decide +kernel) (by decide +kernel) ?_
  clear hP hD hS
  intro r_3 u_5 H locs w_4 hP hD hS
  replace hP : va_P D vwCl [(k0, .inl (cI, 36, .inl c0)), (k, .inr (3, [.ref k0, .int c1]))] H := hP
  replace hD : va_D A [(k0, .inl (cI, 36, .inl c0)), (k, .inr (3, [.ref k0, .int c1]))] := hD
  rcases w_4 with ⟨hr_3, h_6, h_7, h_8⟩ | ⟨hr_3, h_9⟩
  · have h_6 : 0 ≤ a0.toInt := h_6
    have h_7 : a0.toInt < c1.toInt := h_7
    have h_8 : a0.toInt < 4 := h_8
    obtain rfl : r_3 = 1 := hr_3.trans (by decide +kernel)
    refine b_if_eq hx hb zl_1 (tgt := 32) dX3_get_5 (by decide +kernel) (fun c_10 => by exfalso; omega) (fun c_10 => ?_)
    refine lv_iload_n hx hb dX3_get_8 rfl (lv_at hl 2 rfl) ?_
    refine b_if_lt hx hb rfl (tgt := 32) dX3_get_9 (by decide +kernel) (fun c_11 => by exfalso; omega) (fun c_11 => ?_)
    refine lv_iload_n hx hb dX3_get_12 rfl (lv_at hl 2 rfl) ?_
    refine lv_bipush (v := 9) hx hb dX3_get_13 (by decide +kernel) ?_
    refine b_icmp_ge hx hb rfl zl_9 (tgt := 32) dX3_get_15 (by decide +kernel) (fun c_12 => by exfalso; omega) (fun c_12 => ?_)
    refine lv_aload_n hx hb dX3_get_18 rfl (lv_at hl 0 rfl) ?_
    refine va_get (D := D) (ci := 3) (v := .ref k0) (C := RX3) (T := TX3) (N := 2) hx hb hT giX3 hown hK hP 1 rfl rfl 0 (by decide +kernel) (hT (Cond.fieldLink RX3 9 "DesertWire$Parties" "facts" "[I") mw_80) (fun _ h9 => h9) rfl dX3_get_19 ?_
    refine lv_iload_n hx hb dX3_get_22 rfl (lv_at hl 1 rfl) ?_
    refine lv_bipush (v := 9) hx hb dX3_get_23 (by decide +kernel) ?_
    refine lv_imul hx hb dX3_get_25 ?_
    refine lv_topi (fun v_13 ev_13 => ?_)
    have tv_13 : v_13.toInt = a0.toInt * 9 := by rw [ev_13]; exact k_mulv rfl zl_9 (by omega) (by omega)
    refine lv_iload_n hx hb dX3_get_26 rfl (lv_at hl 2 rfl) ?_
    refine lv_iadd hx hb dX3_get_27 ?_
    refine lv_topi (fun v_14 ev_14 => ?_)
    have tv_14 : v_14.toInt = v_13.toInt + a1.toInt := by rw [ev_14]; exact k_addv rfl rfl (by omega) (by omega)
    refine k_iald (v := (c0 v_14.toNatClampNeg)) hx hb hK hP 0 0 rfl rfl (k_in (by omega) (by omega)) rfl dX3_get_28 ?_
    refine lv_topi (fun v_15 ev_15 => ?_)
    have lo_v_15 := k_lo v_15
    have hi_v_15 := k_hi v_15
    have tv_15 : v_15.toInt = (c0 v_14.toNatClampNeg).toInt := by rw [ev_15]
    refine lv_goto (tgt := 33) hx hb dX3_get_29 (by decide +kernel) ?_
    exact hRet () [1, 0] (PTR.rv pre0 (by omega) (by omega) (by omega) (by omega) ev_15 (by omega)) hP hD (by decide +kernel) rfl hS rfl dX3_get_33
  · exfalso; omega

set_option maxHeartbeats 4000000 in
set_option maxRecDepth 100000 in
theorem c_X3_moreD2 (l : Launch) (D : va_G) (cI : ClassId) (aK aV : Nat → Nat) (k k0 : Nat) (sz : Nat) (c1 : Int32) (c0 : Nat → Int32) (gx : Nat → Int32) (a0 : Int32) (a1 : Int32) (a2 : Int32) (pre0 : PTR c0 c1 gx) (pre1 : 0 ≤ a0.toInt) (pre2 : a0.toInt < c1.toInt) (pre3 : a1 = 2) : Met l yX3_more (gW yX3_more cX3_more 4 none) ({ frames := 2, cells := 0, slots := 0, locals := 44 } : Room) (kPreX D cI aK aV [.ref k, .int a0, .int 2, .int a2] [(k, .inr (3, [.ref k0, .int c1])), (k0, .inl (cI, 36, .inl c0))] sz) (va_Qv (fun (u : (Nat → Int32)) => PTR u c1 (upd gx (459 + 9 * a0.toInt.toNat + 2) (pW gx a0 2 + a2))) (fun u t => kWd D cI (va_A [(k, .inr (3, [.ref k0, .int c1])), (k0, .inl (cI, 36, .inl c0))] sz) [(k, .inr (3, [.ref k0, .int c1])), (k0, .inl (cI, 36, .inl u))] t) (va_A [(k, .inr (3, [.ref k0, .int c1])), (k0, .inl (cI, 36, .inl c0))] sz)) 0 0 (va_A [(k, .inr (3, [.ref k0, .int c1])), (k0, .inl (cI, 36, .inl c0))] sz) := by
  refine kMetVX (own := RX3) (by decide +kernel) rfl (Nat.le_of_ble_eq_true rfl) ?_
  intro p e s m args below meth c hx hb hT hown hname hml A Q hK hP hD hS hA hN hXS hRet ls hl
  subst pre3
  have hl : lv_has ls 4 [(0, .ref k), (1, .int a0), (2, .int 2), (3, .int a2)] := hl
  have lo_a0 := k_lo a0
  have hi_a0 := k_hi a0
  have lo_c1 := k_lo c1
  have hi_c1 := k_hi c1
  have pre0 : PTR c0 c1 gx := pre0
  have b_1 : 0 ≤ c1.toInt ∧ c1.toInt ≤ 4 := (pre0).2.1
  have t_2 : c1.toInt = (gx 2).toInt := PTR.nt pre0
  refine lv_aload_n hx hb dX3_more_0 rfl (lv_at hl 0 rfl) ?_
  refine lv_iload_n hx hb dX3_more_1 rfl (lv_at hl 1 rfl) ?_
  refine lv_iload_n hx hb dX3_more_2 rfl (lv_at hl 2 rfl) ?_
  refine lv_aload_n hx hb dX3_more_3 rfl (lv_at hl 0 rfl) ?_
  refine lv_iload_n hx hb dX3_more_4 rfl (lv_at hl 1 rfl) ?_
  refine lv_iload_n hx hb dX3_more_5 rfl (lv_at hl 2 rfl) ?_
  refine kJi (wr := []) (va_runV (As := [.int a0, .int 2]) (rest := [.int 2, .int a0, .ref k]) ⟨hx, hb, hml, hown, hT⟩ (c_X3_getD2 l D cI aK aV k k0 s.heap.size c1 c0 gx a0 2 pre0 (by first | omega | (simp only [zl_2]; first | done | omega) | decide | assumption | rfl) (by first | omega | (simp only [zl_2]; first | done | omega) | decide | assumption | rfl) (by first | omega | (simp only [zl_2]; first | done | omega) | decide | assumption | rfl)) (cwV 2 hT (gV_in mw_726 mw_735 mw_724 mw_725 mw_4) rfl rfl rfl (by decide +kernel) ⟨Nat.le_of_ble_eq_true rfl, Nat.le_of_ble_eq_true rfl⟩) (kRecvX (q0 := 0) (ci := 3) hK hP hD hN hXS hS hA rfl rfl [0, 1] rfl (by decide +kernel)) rfl rfl hl.1 rfl (lv_room (Nat.le_of_ble_eq_true rfl)) dX3_more_6 ⟨Nat.le_of_ble_eq_true rfl, Nat.le_of_ble_eq_true rfl⟩) hP hD hS hA [0, 1] [] rfl rfl (by decide +kernel) (by decide +kernel) ?_
  clear hP hD hS
  intro r_3 u_5 H locs w_4 hP hD hS
  replace hP : va_P D vwCl [(k, .inr (3, [.ref k0, .int c1])), (k0, .inl (cI, 36, .inl c0))] H := hP
  replace hD : va_D A [(k, .inr (3, [.ref k0, .int c1])), (k0, .inl (cI, 36, .inl c0))] := hD
  have h_6 := w_4
  have h_6 : r_3 = pW gx a0 2 := h_6
  have t_7 : r_3.toInt = (pW gx a0 2).toInt := by rw [h_6]
  have lo_r_3 := k_lo r_3
  have hi_r_3 := k_hi r_3
  refine lv_iload_n hx hb dX3_more_9 rfl (lv_at hl 3 rfl) ?_
  refine lv_iadd hx hb dX3_more_10 ?_
  refine lv_topi (fun v_8 ev_8 => ?_)
  have lo_v_8 := k_lo v_8
  have hi_v_8 := k_hi v_8
  refine kJv (wr := []) (va_runV (As := [.int a0, .int 2, .int v_8]) (rest := []) ⟨hx, hb, hml, hown, hT⟩ (c_X3_setD2 l D cI aK aV k k0 H.size c1 c0 gx a0 2 v_8 pre0 (by first | omega | (simp only [zl_2]; first | done | omega) | decide | assumption | rfl) (by first | omega | (simp only [zl_2]; first | done | omega) | decide | assumption | rfl) (by first | omega | (simp only [zl_2]; first | done | omega) | decide | assumption | rfl)) (cwV 3 hT (gV_in mw_713 mw_752 mw_711 mw_712 mw_4) rfl rfl rfl (by decide +kernel) ⟨Nat.le_of_ble_eq_true rfl, Nat.le_of_ble_eq_true rfl⟩) (kRecvX (q0 := 0) (ci := 3) hK hP hD hN hXS hS hA rfl rfl [0, 1] rfl (by decide +kernel)) rfl rfl hl.1 rfl (lv_room (Nat.le_of_ble_eq_true rfl)) dX3_more_11 ⟨Nat.le_of_ble_eq_true rfl, Nat.le_of_ble_eq_true rfl⟩) hP hD hS hA [0, 1] [] rfl rfl (by decide +kernel) (by decide +kernel) ?_
  clear hP hD hS
  intro sc0_11 H locs w_10 hP hD hS
  replace hP : va_P D vwCl [(k, .inr (3, [.ref k0, .int c1])), (k0, .inl (cI, 36, .inl sc0_11))] H := hP
  replace hD : va_D A [(k, .inr (3, [.ref k0, .int c1])), (k0, .inl (cI, 36, .inl sc0_11))] := hD
  have h_12 := w_10
  try simp only [zl_2] at h_12
  have h_12 : PTR sc0_11 c1 (upd gx (459 + 9 * a0.toInt.toNat + 2) v_8) := h_12
  have h_12 : PTR sc0_11 c1 (upd gx (459 + 9 * a0.toInt.toNat + 2) v_8) := h_12
  obtain ⟨gg_13, egg_13⟩ : ∃ g_ : Nat → Int32, g_ = (upd gx (459 + 9 * a0.toInt.toNat + 2) v_8) := ⟨_, rfl⟩
  rw [← egg_13] at h_12
  have t_14 : c1.toInt = (gg_13 2).toInt := PTR.nt h_12
  exact hRet sc0_11 [0, 1] (PTR.gt h_12 (by rw [egg_13, ev_8, h_6])) hP hD (by decide +kernel) rfl hS dX3_more_14

set_option maxHeartbeats 4000000 in
set_option maxRecDepth 100000 in
theorem c_X3_moreD3 (l : Launch) (D : va_G) (cI : ClassId) (aK aV : Nat → Nat) (k k0 : Nat) (sz : Nat) (c1 : Int32) (c0 : Nat → Int32) (gx : Nat → Int32) (a0 : Int32) (a1 : Int32) (a2 : Int32) (pre0 : PTR c0 c1 gx) (pre1 : 0 ≤ a0.toInt) (pre2 : a0.toInt < c1.toInt) (pre3 : a1 = 3) : Met l yX3_more (gW yX3_more cX3_more 4 none) ({ frames := 2, cells := 0, slots := 0, locals := 44 } : Room) (kPreX D cI aK aV [.ref k, .int a0, .int 3, .int a2] [(k, .inr (3, [.ref k0, .int c1])), (k0, .inl (cI, 36, .inl c0))] sz) (va_Qv (fun (u : (Nat → Int32)) => PTR u c1 (upd gx (459 + 9 * a0.toInt.toNat + 3) (pW gx a0 3 + a2))) (fun u t => kWd D cI (va_A [(k, .inr (3, [.ref k0, .int c1])), (k0, .inl (cI, 36, .inl c0))] sz) [(k, .inr (3, [.ref k0, .int c1])), (k0, .inl (cI, 36, .inl u))] t) (va_A [(k, .inr (3, [.ref k0, .int c1])), (k0, .inl (cI, 36, .inl c0))] sz)) 0 0 (va_A [(k, .inr (3, [.ref k0, .int c1])), (k0, .inl (cI, 36, .inl c0))] sz) := by
  refine kMetVX (own := RX3) (by decide +kernel) rfl (Nat.le_of_ble_eq_true rfl) ?_
  intro p e s m args below meth c hx hb hT hown hname hml A Q hK hP hD hS hA hN hXS hRet ls hl
  subst pre3
  have hl : lv_has ls 4 [(0, .ref k), (1, .int a0), (2, .int 3), (3, .int a2)] := hl
  have lo_a0 := k_lo a0
  have hi_a0 := k_hi a0
  have lo_c1 := k_lo c1
  have hi_c1 := k_hi c1
  have pre0 : PTR c0 c1 gx := pre0
  have b_1 : 0 ≤ c1.toInt ∧ c1.toInt ≤ 4 := (pre0).2.1
  have t_2 : c1.toInt = (gx 2).toInt := PTR.nt pre0
  refine lv_aload_n hx hb dX3_more_0 rfl (lv_at hl 0 rfl) ?_
  refine lv_iload_n hx hb dX3_more_1 rfl (lv_at hl 1 rfl) ?_
  refine lv_iload_n hx hb dX3_more_2 rfl (lv_at hl 2 rfl) ?_
  refine lv_aload_n hx hb dX3_more_3 rfl (lv_at hl 0 rfl) ?_
  refine lv_iload_n hx hb dX3_more_4 rfl (lv_at hl 1 rfl) ?_
  refine lv_iload_n hx hb dX3_more_5 rfl (lv_at hl 2 rfl) ?_
  refine kJi (wr := []) (va_runV (As := [.int a0, .int 3]) (rest := [.int 3, .int a0, .ref k]) ⟨hx, hb, hml, hown, hT⟩ (c_X3_getD3 l D cI aK aV k k0 s.heap.size c1 c0 gx a0 3 pre0 (by first | omega | (simp only [zl_3]; first | done | omega) | decide | assumption | rfl) (by first | omega | (simp only [zl_3]; first | done | omega) | decide | assumption | rfl) (by first | omega | (simp only [zl_3]; first | done | omega) | decide | assumption | rfl)) (cwV 2 hT (gV_in mw_726 mw_735 mw_724 mw_725 mw_4) rfl rfl rfl (by decide +kernel) ⟨Nat.le_of_ble_eq_true rfl, Nat.le_of_ble_eq_true rfl⟩) (kRecvX (q0 := 0) (ci := 3) hK hP hD hN hXS hS hA rfl rfl [0, 1] rfl (by decide +kernel)) rfl rfl hl.1 rfl (lv_room (Nat.le_of_ble_eq_true rfl)) dX3_more_6 ⟨Nat.le_of_ble_eq_true rfl, Nat.le_of_ble_eq_true rfl⟩) hP hD hS hA [0, 1] [] rfl rfl (by decide +kernel) (by decide +kernel) ?_
  clear hP hD hS
  intro r_3 u_5 H locs w_4 hP hD hS
  replace hP : va_P D vwCl [(k, .inr (3, [.ref k0, .int c1])), (k0, .inl (cI, 36, .inl c0))] H := hP
  replace hD : va_D A [(k, .inr (3, [.ref k0, .int c1])), (k0, .inl (cI, 36, .inl c0))] := hD
  have h_6 := w_4
  have h_6 : r_3 = pW gx a0 3 := h_6
  have t_7 : r_3.toInt = (pW gx a0 3).toInt := by rw [h_6]
  have lo_r_3 := k_lo r_3
  have hi_r_3 := k_hi r_3
  refine lv_iload_n hx hb dX3_more_9 rfl (lv_at hl 3 rfl) ?_
  refine lv_iadd hx hb dX3_more_10 ?_
  refine lv_topi (fun v_8 ev_8 => ?_)
  have lo_v_8 := k_lo v_8
  have hi_v_8 := k_hi v_8
  refine kJv (wr := []) (va_runV (As := [.int a0, .int 3, .int v_8]) (rest := []) ⟨hx, hb, hml, hown, hT⟩ (c_X3_setD3 l D cI aK aV k k0 H.size c1 c0 gx a0 3 v_8 pre0 (by first | omega | (simp only [zl_3]; first | done | omega) | decide | assumption | rfl) (by first | omega | (simp only [zl_3]; first | done | omega) | decide | assumption | rfl) (by first | omega | (simp only [zl_3]; first | done | omega) | decide | assumption | rfl)) (cwV 3 hT (gV_in mw_713 mw_752 mw_711 mw_712 mw_4) rfl rfl rfl (by decide +kernel) ⟨Nat.le_of_ble_eq_true rfl, Nat.le_of_ble_eq_true rfl⟩) (kRecvX (q0 := 0) (ci := 3) hK hP hD hN hXS hS hA rfl rfl [0, 1] rfl (by decide +kernel)) rfl rfl hl.1 rfl (lv_room (Nat.le_of_ble_eq_true rfl)) dX3_more_11 ⟨Nat.le_of_ble_eq_true rfl, Nat.le_of_ble_eq_true rfl⟩) hP hD hS hA [0, 1] [] rfl rfl (by decide +kernel) (by decide +kernel) ?_
  clear hP hD hS
  intro sc0_11 H locs w_10 hP hD hS
  replace hP : va_P D vwCl [(k, .inr (3, [.ref k0, .int c1])), (k0, .inl (cI, 36, .inl sc0_11))] H := hP
  replace hD : va_D A [(k, .inr (3, [.ref k0, .int c1])), (k0, .inl (cI, 36, .inl sc0_11))] := hD
  have h_12 := w_10
  try simp only [zl_3] at h_12
  have h_12 : PTR sc0_11 c1 (upd gx (459 + 9 * a0.toInt.toNat + 3) v_8) := h_12
  have h_12 : PTR sc0_11 c1 (upd gx (459 + 9 * a0.toInt.toNat + 3) v_8) := h_12
  obtain ⟨gg_13, egg_13⟩ : ∃ g_ : Nat → Int32, g_ = (upd gx (459 + 9 * a0.toInt.toNat + 3) v_8) := ⟨_, rfl⟩
  rw [← egg_13] at h_12
  have t_14 : c1.toInt = (gg_13 2).toInt := PTR.nt h_12
  exact hRet sc0_11 [0, 1] (PTR.gt h_12 (by rw [egg_13, ev_8, h_6])) hP hD (by decide +kernel) rfl hS dX3_more_14

set_option maxHeartbeats 4000000 in
set_option maxRecDepth 100000 in
theorem c_X3_moreD4 (l : Launch) (D : va_G) (cI : ClassId) (aK aV : Nat → Nat) (k k0 : Nat) (sz : Nat) (c1 : Int32) (c0 : Nat → Int32) (gx : Nat → Int32) (a0 : Int32) (a1 : Int32) (a2 : Int32) (pre0 : PTR c0 c1 gx) (pre1 : 0 ≤ a0.toInt) (pre2 : a0.toInt < c1.toInt) (pre3 : a1 = 4) : Met l yX3_more (gW yX3_more cX3_more 4 none) ({ frames := 2, cells := 0, slots := 0, locals := 44 } : Room) (kPreX D cI aK aV [.ref k, .int a0, .int 4, .int a2] [(k, .inr (3, [.ref k0, .int c1])), (k0, .inl (cI, 36, .inl c0))] sz) (va_Qv (fun (u : (Nat → Int32)) => PTR u c1 (upd gx (459 + 9 * a0.toInt.toNat + 4) (pW gx a0 4 + a2))) (fun u t => kWd D cI (va_A [(k, .inr (3, [.ref k0, .int c1])), (k0, .inl (cI, 36, .inl c0))] sz) [(k, .inr (3, [.ref k0, .int c1])), (k0, .inl (cI, 36, .inl u))] t) (va_A [(k, .inr (3, [.ref k0, .int c1])), (k0, .inl (cI, 36, .inl c0))] sz)) 0 0 (va_A [(k, .inr (3, [.ref k0, .int c1])), (k0, .inl (cI, 36, .inl c0))] sz) := by
  refine kMetVX (own := RX3) (by decide +kernel) rfl (Nat.le_of_ble_eq_true rfl) ?_
  intro p e s m args below meth c hx hb hT hown hname hml A Q hK hP hD hS hA hN hXS hRet ls hl
  subst pre3
  have hl : lv_has ls 4 [(0, .ref k), (1, .int a0), (2, .int 4), (3, .int a2)] := hl
  have lo_a0 := k_lo a0
  have hi_a0 := k_hi a0
  have lo_c1 := k_lo c1
  have hi_c1 := k_hi c1
  have pre0 : PTR c0 c1 gx := pre0
  have b_1 : 0 ≤ c1.toInt ∧ c1.toInt ≤ 4 := (pre0).2.1
  have t_2 : c1.toInt = (gx 2).toInt := PTR.nt pre0
  refine lv_aload_n hx hb dX3_more_0 rfl (lv_at hl 0 rfl) ?_
  refine lv_iload_n hx hb dX3_more_1 rfl (lv_at hl 1 rfl) ?_
  refine lv_iload_n hx hb dX3_more_2 rfl (lv_at hl 2 rfl) ?_
  refine lv_aload_n hx hb dX3_more_3 rfl (lv_at hl 0 rfl) ?_
  refine lv_iload_n hx hb dX3_more_4 rfl (lv_at hl 1 rfl) ?_
  refine lv_iload_n hx hb dX3_more_5 rfl (lv_at hl 2 rfl) ?_
  refine kJi (wr := []) (va_runV (As := [.int a0, .int 4]) (rest := [.int 4, .int a0, .ref k]) ⟨hx, hb, hml, hown, hT⟩ (c_X3_getD4 l D cI aK aV k k0 s.heap.size c1 c0 gx a0 4 pre0 (by first | omega | (simp only [zl_4]; first | done | omega) | decide | assumption | rfl) (by first | omega | (simp only [zl_4]; first | done | omega) | decide | assumption | rfl) (by first | omega | (simp only [zl_4]; first | done | omega) | decide | assumption | rfl)) (cwV 2 hT (gV_in mw_726 mw_735 mw_724 mw_725 mw_4) rfl rfl rfl (by decide +kernel) ⟨Nat.le_of_ble_eq_true rfl, Nat.le_of_ble_eq_true rfl⟩) (kRecvX (q0 := 0) (ci := 3) hK hP hD hN hXS hS hA rfl rfl [0, 1] rfl (by decide +kernel)) rfl rfl hl.1 rfl (lv_room (Nat.le_of_ble_eq_true rfl)) dX3_more_6 ⟨Nat.le_of_ble_eq_true rfl, Nat.le_of_ble_eq_true rfl⟩) hP hD hS hA [0, 1] [] rfl rfl (by decide +kernel) (by decide +kernel) ?_
  clear hP hD hS
  intro r_3 u_5 H locs w_4 hP hD hS
  replace hP : va_P D vwCl [(k, .inr (3, [.ref k0, .int c1])), (k0, .inl (cI, 36, .inl c0))] H := hP
  replace hD : va_D A [(k, .inr (3, [.ref k0, .int c1])), (k0, .inl (cI, 36, .inl c0))] := hD
  have h_6 := w_4
  have h_6 : r_3 = pW gx a0 4 := h_6
  have t_7 : r_3.toInt = (pW gx a0 4).toInt := by rw [h_6]
  have lo_r_3 := k_lo r_3
  have hi_r_3 := k_hi r_3
  refine lv_iload_n hx hb dX3_more_9 rfl (lv_at hl 3 rfl) ?_
  refine lv_iadd hx hb dX3_more_10 ?_
  refine lv_topi (fun v_8 ev_8 => ?_)
  have lo_v_8 := k_lo v_8
  have hi_v_8 := k_hi v_8
  refine kJv (wr := []) (va_runV (As := [.int a0, .int 4, .int v_8]) (rest := []) ⟨hx, hb, hml, hown, hT⟩ (c_X3_setD4 l D cI aK aV k k0 H.size c1 c0 gx a0 4 v_8 pre0 (by first | omega | (simp only [zl_4]; first | done | omega) | decide | assumption | rfl) (by first | omega | (simp only [zl_4]; first | done | omega) | decide | assumption | rfl) (by first | omega | (simp only [zl_4]; first | done | omega) | decide | assumption | rfl)) (cwV 3 hT (gV_in mw_713 mw_752 mw_711 mw_712 mw_4) rfl rfl rfl (by decide +kernel) ⟨Nat.le_of_ble_eq_true rfl, Nat.le_of_ble_eq_true rfl⟩) (kRecvX (q0 := 0) (ci := 3) hK hP hD hN hXS hS hA rfl rfl [0, 1] rfl (by decide +kernel)) rfl rfl hl.1 rfl (lv_room (Nat.le_of_ble_eq_true rfl)) dX3_more_11 ⟨Nat.le_of_ble_eq_true rfl, Nat.le_of_ble_eq_true rfl⟩) hP hD hS hA [0, 1] [] rfl rfl (by decide +kernel) (by decide +kernel) ?_
  clear hP hD hS
  intro sc0_11 H locs w_10 hP hD hS
  replace hP : va_P D vwCl [(k, .inr (3, [.ref k0, .int c1])), (k0, .inl (cI, 36, .inl sc0_11))] H := hP
  replace hD : va_D A [(k, .inr (3, [.ref k0, .int c1])), (k0, .inl (cI, 36, .inl sc0_11))] := hD
  have h_12 := w_10
  try simp only [zl_4] at h_12
  have h_12 : PTR sc0_11 c1 (upd gx (459 + 9 * a0.toInt.toNat + 4) v_8) := h_12
  have h_12 : PTR sc0_11 c1 (upd gx (459 + 9 * a0.toInt.toNat + 4) v_8) := h_12
  obtain ⟨gg_13, egg_13⟩ : ∃ g_ : Nat → Int32, g_ = (upd gx (459 + 9 * a0.toInt.toNat + 4) v_8) := ⟨_, rfl⟩
  rw [← egg_13] at h_12
  have t_14 : c1.toInt = (gg_13 2).toInt := PTR.nt h_12
  exact hRet sc0_11 [0, 1] (PTR.gt h_12 (by rw [egg_13, ev_8, h_6])) hP hD (by decide +kernel) rfl hS dX3_more_14

set_option maxHeartbeats 4000000 in
set_option maxRecDepth 100000 in
theorem c_X3_moreD7 (l : Launch) (D : va_G) (cI : ClassId) (aK aV : Nat → Nat) (k k0 : Nat) (sz : Nat) (c1 : Int32) (c0 : Nat → Int32) (gx : Nat → Int32) (a0 : Int32) (a1 : Int32) (a2 : Int32) (pre0 : PTR c0 c1 gx) (pre1 : 0 ≤ a0.toInt) (pre2 : a0.toInt < c1.toInt) (pre3 : a1 = 7) : Met l yX3_more (gW yX3_more cX3_more 4 none) ({ frames := 2, cells := 0, slots := 0, locals := 44 } : Room) (kPreX D cI aK aV [.ref k, .int a0, .int 7, .int a2] [(k, .inr (3, [.ref k0, .int c1])), (k0, .inl (cI, 36, .inl c0))] sz) (va_Qv (fun (u : (Nat → Int32)) => PTR u c1 (upd gx (459 + 9 * a0.toInt.toNat + 7) (pW gx a0 7 + a2))) (fun u t => kWd D cI (va_A [(k, .inr (3, [.ref k0, .int c1])), (k0, .inl (cI, 36, .inl c0))] sz) [(k, .inr (3, [.ref k0, .int c1])), (k0, .inl (cI, 36, .inl u))] t) (va_A [(k, .inr (3, [.ref k0, .int c1])), (k0, .inl (cI, 36, .inl c0))] sz)) 0 0 (va_A [(k, .inr (3, [.ref k0, .int c1])), (k0, .inl (cI, 36, .inl c0))] sz) := by
  refine kMetVX (own := RX3) (by decide +kernel) rfl (Nat.le_of_ble_eq_true rfl) ?_
  intro p e s m args below meth c hx hb hT hown hname hml A Q hK hP hD hS hA hN hXS hRet ls hl
  subst pre3
  have hl : lv_has ls 4 [(0, .ref k), (1, .int a0), (2, .int 7), (3, .int a2)] := hl
  have lo_a0 := k_lo a0
  have hi_a0 := k_hi a0
  have lo_c1 := k_lo c1
  have hi_c1 := k_hi c1
  have pre0 : PTR c0 c1 gx := pre0
  have b_1 : 0 ≤ c1.toInt ∧ c1.toInt ≤ 4 := (pre0).2.1
  have t_2 : c1.toInt = (gx 2).toInt := PTR.nt pre0
  refine lv_aload_n hx hb dX3_more_0 rfl (lv_at hl 0 rfl) ?_
  refine lv_iload_n hx hb dX3_more_1 rfl (lv_at hl 1 rfl) ?_
  refine lv_iload_n hx hb dX3_more_2 rfl (lv_at hl 2 rfl) ?_
  refine lv_aload_n hx hb dX3_more_3 rfl (lv_at hl 0 rfl) ?_
  refine lv_iload_n hx hb dX3_more_4 rfl (lv_at hl 1 rfl) ?_
  refine lv_iload_n hx hb dX3_more_5 rfl (lv_at hl 2 rfl) ?_
  refine kJi (wr := []) (va_runV (As := [.int a0, .int 7]) (rest := [.int 7, .int a0, .ref k]) ⟨hx, hb, hml, hown, hT⟩ (c_X3_getD7 l D cI aK aV k k0 s.heap.size c1 c0 gx a0 7 pre0 (by first | omega | (simp only [zl_7]; first | done | omega) | decide | assumption | rfl) (by first | omega | (simp only [zl_7]; first | done | omega) | decide | assumption | rfl) (by first | omega | (simp only [zl_7]; first | done | omega) | decide | assumption | rfl)) (cwV 2 hT (gV_in mw_726 mw_735 mw_724 mw_725 mw_4) rfl rfl rfl (by decide +kernel) ⟨Nat.le_of_ble_eq_true rfl, Nat.le_of_ble_eq_true rfl⟩) (kRecvX (q0 := 0) (ci := 3) hK hP hD hN hXS hS hA rfl rfl [0, 1] rfl (by decide +kernel)) rfl rfl hl.1 rfl (lv_room (Nat.le_of_ble_eq_true rfl)) dX3_more_6 ⟨Nat.le_of_ble_eq_true rfl, Nat.le_of_ble_eq_true rfl⟩) hP hD hS hA [0, 1] [] rfl rfl (by decide +kernel) (by decide +kernel) ?_
  clear hP hD hS
  intro r_3 u_5 H locs w_4 hP hD hS
  replace hP : va_P D vwCl [(k, .inr (3, [.ref k0, .int c1])), (k0, .inl (cI, 36, .inl c0))] H := hP
  replace hD : va_D A [(k, .inr (3, [.ref k0, .int c1])), (k0, .inl (cI, 36, .inl c0))] := hD
  have h_6 := w_4
  have h_6 : r_3 = pW gx a0 7 := h_6
  have t_7 : r_3.toInt = (pW gx a0 7).toInt := by rw [h_6]
  have lo_r_3 := k_lo r_3
  have hi_r_3 := k_hi r_3
  refine lv_iload_n hx hb dX3_more_9 rfl (lv_at hl 3 rfl) ?_
  refine lv_iadd hx hb dX3_more_10 ?_
  refine lv_topi (fun v_8 ev_8 => ?_)
  have lo_v_8 := k_lo v_8
  have hi_v_8 := k_hi v_8
  refine kJv (wr := []) (va_runV (As := [.int a0, .int 7, .int v_8]) (rest := []) ⟨hx, hb, hml, hown, hT⟩ (c_X3_setD7 l D cI aK aV k k0 H.size c1 c0 gx a0 7 v_8 pre0 (by first | omega | (simp only [zl_7]; first | done | omega) | decide | assumption | rfl) (by first | omega | (simp only [zl_7]; first | done | omega) | decide | assumption | rfl) (by first | omega | (simp only [zl_7]; first | done | omega) | decide | assumption | rfl)) (cwV 3 hT (gV_in mw_713 mw_752 mw_711 mw_712 mw_4) rfl rfl rfl (by decide +kernel) ⟨Nat.le_of_ble_eq_true rfl, Nat.le_of_ble_eq_true rfl⟩) (kRecvX (q0 := 0) (ci := 3) hK hP hD hN hXS hS hA rfl rfl [0, 1] rfl (by decide +kernel)) rfl rfl hl.1 rfl (lv_room (Nat.le_of_ble_eq_true rfl)) dX3_more_11 ⟨Nat.le_of_ble_eq_true rfl, Nat.le_of_ble_eq_true rfl⟩) hP hD hS hA [0, 1] [] rfl rfl (by decide +kernel) (by decide +kernel) ?_
  clear hP hD hS
  intro sc0_11 H locs w_10 hP hD hS
  replace hP : va_P D vwCl [(k, .inr (3, [.ref k0, .int c1])), (k0, .inl (cI, 36, .inl sc0_11))] H := hP
  replace hD : va_D A [(k, .inr (3, [.ref k0, .int c1])), (k0, .inl (cI, 36, .inl sc0_11))] := hD
  have h_12 := w_10
  try simp only [zl_7] at h_12
  have h_12 : PTR sc0_11 c1 (upd gx (459 + 9 * a0.toInt.toNat + 7) v_8) := h_12
  have h_12 : PTR sc0_11 c1 (upd gx (459 + 9 * a0.toInt.toNat + 7) v_8) := h_12
  obtain ⟨gg_13, egg_13⟩ : ∃ g_ : Nat → Int32, g_ = (upd gx (459 + 9 * a0.toInt.toNat + 7) v_8) := ⟨_, rfl⟩
  rw [← egg_13] at h_12
  have t_14 : c1.toInt = (gg_13 2).toInt := PTR.nt h_12
  exact hRet sc0_11 [0, 1] (PTR.gt h_12 (by rw [egg_13, ev_8, h_6])) hP hD (by decide +kernel) rfl hS dX3_more_14

set_option maxHeartbeats 4000000 in
set_option maxRecDepth 100000 in
theorem c_X3_isLostD (l : Launch) (D : va_G) (cI : ClassId) (aK aV : Nat → Nat) (k k0 : Nat) (sz : Nat) (c1 : Int32) (c0 : Nat → Int32) (gx : Nat → Int32) (a0 : Int32) (pre0 : PTR c0 c1 gx) (pre1 : 0 ≤ a0.toInt) (pre2 : a0.toInt < c1.toInt) : Met l yX3_isLost (gW yX3_isLost cX3_isLost 2 (some .boolean)) ({ frames := 2, cells := 0, slots := 0, locals := 43 } : Room) (kPreX D cI aK aV [.ref k, .int a0] [(k, .inr (3, [.ref k0, .int c1])), (k0, .inl (cI, 36, .inl c0))] sz) (va_Qi (fun (r : Int32) (u : Unit) => (r = 1 ∧ (pW gx a0 8).toInt = 2) ∨ (r = 0 ∧ (pW gx a0 8).toInt ≠ 2)) (fun u t => kWd D cI (va_A [(k, .inr (3, [.ref k0, .int c1])), (k0, .inl (cI, 36, .inl c0))] sz) [(k, .inr (3, [.ref k0, .int c1])), (k0, .inl (cI, 36, .inl c0))] t) (va_A [(k, .inr (3, [.ref k0, .int c1])), (k0, .inl (cI, 36, .inl c0))] sz)) 0 0 (va_A [(k, .inr (3, [.ref k0, .int c1])), (k0, .inl (cI, 36, .inl c0))] sz) := by
  refine kMetIX (own := RX3) (by decide +kernel) rfl (Nat.le_of_ble_eq_true rfl) ?_
  intro p e s m args below meth c hx hb hT hown hname hml A Q hK hP hD hS hA hN hXS hRet ls hl
  have hl : lv_has ls 2 [(0, .ref k), (1, .int a0)] := hl
  have lo_a0 := k_lo a0
  have hi_a0 := k_hi a0
  have lo_c1 := k_lo c1
  have hi_c1 := k_hi c1
  have pre0 : PTR c0 c1 gx := pre0
  have b_1 : 0 ≤ c1.toInt ∧ c1.toInt ≤ 4 := (pre0).2.1
  have t_2 : c1.toInt = (gx 2).toInt := PTR.nt pre0
  refine lv_aload_n hx hb dX3_isLost_0 rfl (lv_at hl 0 rfl) ?_
  refine lv_iload_n hx hb dX3_isLost_1 rfl (lv_at hl 1 rfl) ?_
  refine lv_bipush (v := 8) hx hb dX3_isLost_2 (by decide +kernel) ?_
  refine kJi (wr := []) (va_runV (As := [.int a0, .int 8]) (rest := []) ⟨hx, hb, hml, hown, hT⟩ (c_X3_getD8 l D cI aK aV k k0 s.heap.size c1 c0 gx a0 8 pre0 (by first | omega | (simp only [zl_8]; first | done | omega) | decide | assumption | rfl) (by first | omega | (simp only [zl_8]; first | done | omega) | decide | assumption | rfl) (by first | omega | (simp only [zl_8]; first | done | omega) | decide | assumption | rfl)) (cwV 2 hT (gV_in mw_726 mw_735 mw_724 mw_725 mw_4) rfl rfl rfl (by decide +kernel) ⟨Nat.le_of_ble_eq_true rfl, Nat.le_of_ble_eq_true rfl⟩) (kRecvX (q0 := 0) (ci := 3) hK hP hD hN hXS hS hA rfl rfl [0, 1] rfl (by decide +kernel)) rfl rfl hl.1 rfl (lv_room (Nat.le_of_ble_eq_true rfl)) dX3_isLost_4 ⟨Nat.le_of_ble_eq_true rfl, Nat.le_of_ble_eq_true rfl⟩) hP hD hS hA [0, 1] [] rfl rfl (by decide +kernel) (by decide +kernel) ?_
  clear hP hD hS
  intro r_3 u_5 H locs w_4 hP hD hS
  replace hP : va_P D vwCl [(k, .inr (3, [.ref k0, .int c1])), (k0, .inl (cI, 36, .inl c0))] H := hP
  replace hD : va_D A [(k, .inr (3, [.ref k0, .int c1])), (k0, .inl (cI, 36, .inl c0))] := hD
  have h_6 := w_4
  have h_6 : r_3 = pW gx a0 8 := h_6
  have t_7 : r_3.toInt = (pW gx a0 8).toInt := by rw [h_6]
  have lo_r_3 := k_lo r_3
  have hi_r_3 := k_hi r_3
  refine lv_iconst (v := 2) hx hb dX3_isLost_7 (by decide +kernel) ?_
  refine b_icmp_ne hx hb rfl zl_2 (tgt := 15) dX3_isLost_8 (by decide +kernel) (fun c_8 => ?_) (fun c_8 => ?_)
  · refine lv_iconst (v := 0) hx hb dX3_isLost_15 (by decide +kernel) ?_
    exact hRet () [0, 1] (Or.inr (⟨rfl, (by omega)⟩)) hP hD (by decide +kernel) rfl hS rfl dX3_isLost_16
  · refine lv_iconst (v := 1) hx hb dX3_isLost_11 (by decide +kernel) ?_
    refine lv_goto (tgt := 16) hx hb dX3_isLost_12 (by decide +kernel) ?_
    exact hRet () [0, 1] (Or.inl ⟨rfl, (by omega)⟩) hP hD (by decide +kernel) rfl hS rfl dX3_isLost_16

set_option maxHeartbeats 4000000 in
set_option maxRecDepth 100000 in
theorem c_X3_addD (l : Launch) (D : va_G) (cI : ClassId) (aK aV : Nat → Nat) (k k0 : Nat) (sz : Nat) (c1 : Int32) (c0 : Nat → Int32) (gx : Nat → Int32) (pre0 : PTR c0 c1 gx) (pre1 : c1.toInt < 4) : Met l yX3_add (gW yX3_add cX3_add 2 (some .int)) ({ frames := 1, cells := 0, slots := 0, locals := 20 } : Room) (kPreX D cI aK aV [.ref k] [(k, .inr (3, [.ref k0, .int c1])), (k0, .inl (cI, 36, .inl c0))] sz) (va_Qi (fun (r : Int32) (u : Int32 × (Nat → Int32)) => r = c1 ∧ r.toInt = c1.toInt ∧ u.1.toInt = c1.toInt + 1 ∧ PTR u.2 u.1 (padS gx)) (fun u t => kWd D cI (va_A [(k, .inr (3, [.ref k0, .int c1])), (k0, .inl (cI, 36, .inl c0))] sz) [(k, .inr (3, [.ref k0, .int u.1])), (k0, .inl (cI, 36, .inl u.2))] t) (va_A [(k, .inr (3, [.ref k0, .int c1])), (k0, .inl (cI, 36, .inl c0))] sz)) 0 0 (va_A [(k, .inr (3, [.ref k0, .int c1])), (k0, .inl (cI, 36, .inl c0))] sz) := by
  refine kMetIX (own := RX3) (by decide +kernel) rfl (Nat.le_of_ble_eq_true rfl) ?_
  intro p e s m args below meth c hx hb hT hown hname hml A Q hK hP hD hS hA hN hXS hRet ls hl
  have hl : lv_has ls 2 [(0, .ref k)] := hl
  have lo_c1 := k_lo c1
  have hi_c1 := k_hi c1
  have pre0 : PTR c0 c1 gx := pre0
  have b_1 : 0 ≤ c1.toInt ∧ c1.toInt ≤ 4 := (pre0).2.1
  have t_2 : c1.toInt = (gx 2).toInt := PTR.nt pre0
  refine lv_aload_n hx hb dX3_add_0 rfl (lv_at hl 0 rfl) ?_
  refine kJi (wr := [(k0, .inl (cI, 36, .inl c0))]) (va_runV (As := []) (rest := []) ⟨hx, hb, hml, hown, hT⟩ (c_X3_hasRoomG l D cI aK aV k k0 s.heap.size c1) (cwV 0 hT (gV_in mw_704 mw_709 mw_702 mw_703 mw_4) rfl rfl rfl (by decide +kernel) ⟨Nat.le_of_ble_eq_true rfl, Nat.le_of_ble_eq_true rfl⟩) (kRecvX (q0 := 0) (ci := 3) hK hP hD hN hXS hS hA rfl rfl [0] rfl (by decide +kernel)) rfl rfl hl.1 rfl (lv_room (Nat.le_of_ble_eq_true rfl)) dX3_add_1 ⟨Nat.le_of_ble_eq_true rfl, Nat.le_of_ble_eq_true rfl⟩) hP hD hS hA [0] [1] rfl rfl (by decide +kernel) (by decide +kernel) ?_
  clear hP hD hS
  intro r_3 u_5 H locs w_4 hP hD hS
  replace hP : va_P D vwCl [(k0, .inl (cI, 36, .inl c0)), (k, .inr (3, [.ref k0, .int c1]))] H := hP
  replace hD : va_D A [(k0, .inl (cI, 36, .inl c0)), (k, .inr (3, [.ref k0, .int c1]))] := hD
  rcases w_4 with ⟨hr_3, h_6, h_7⟩ | ⟨hr_3, h_8⟩
  · have h_6 : 0 ≤ c1.toInt := h_6
    have h_7 : c1.toInt < 4 := h_7
    obtain rfl : r_3 = 1 := hr_3.trans (by decide +kernel)
    refine b_if_ne hx hb zl_1 (tgt := 9) dX3_add_4 (by decide +kernel) (fun c_9 => ?_) (fun c_9 => by exfalso; omega)
    refine lv_iconst (v := 0) hx hb dX3_add_9 (by decide +kernel) ?_
    refine lv_istore_n (lv' := [(1, .int 0), (0, .ref k)]) hx hb dX3_add_10 rfl hl (by decide +kernel) rfl ?_
    clear hl
    intro ls hl
    have hloop_11 : ∀ (fu_ : Nat) (l11_1 : Int32) (g11_k0 : Nat → Int32), 0 ≤ l11_1.toInt → l11_1.toInt ≤ 9 → 0 ≤ l11_1.toInt → (∀ j : Nat, j < 36 → g11_k0 j = pzN gx c1.toInt.toNat l11_1.toInt.toNat (459 + j)) → (9 - l11_1.toInt).toNat < fu_ → ∀ (ls : Array Slot) (H : Heap) (locs : List Loc), lv_has ls 2 [(1, .int l11_1), (0, .ref k)] → va_P D vwCl [(k0, .inl (cI, 36, .inl g11_k0)), (k, .inr (3, [.ref k0, .int c1]))] H → va_D A [(k0, .inl (cI, 36, .inl g11_k0)), (k, .inr (3, [.ref k0, .int c1]))] → va_S A s.heap H locs → W p l e ({ frames := 1, cells := 0, slots := 0, locals := 20 } : Room) s m args below meth c H locs 0 0 Q (F0 m 11 ls []) := by
      intro fu_; induction fu_ with
      | zero => intro l11_1 g11_k0 i11_0 i11_1 i11_2 i11_3 hm; exact absurd hm (by omega)
      | succ fu_ ih11 =>
          intro l11_1 g11_k0 i11_0 i11_1 i11_2 i11_3 hm ls H locs hl hP hD hS
          have lo_l11_1 := k_lo l11_1
          have hi_l11_1 := k_hi l11_1
          refine lv_iload_n hx hb dX3_add_11 rfl (lv_at hl 0 rfl) ?_
          refine lv_bipush (v := 9) hx hb dX3_add_12 (by decide +kernel) ?_
          refine b_icmp_ge hx hb rfl zl_9 (tgt := 38) dX3_add_14 (by decide +kernel) (fun c_10 => ?_) (fun c_10 => ?_)
          · refine lv_aload_n hx hb dX3_add_38 rfl (lv_at hl 1 rfl) ?_
            refine lv_dup hx hb dX3_add_39 rfl ?_
            refine va_get (D := D) (ci := 3) (v := .int c1) (C := RX3) (T := TX3) (N := 2) hx hb hT giX3 hown hK hP 1 rfl rfl 1 (by decide +kernel) (hT (Cond.fieldLink RX3 15 "DesertWire$Parties" "number" "I") mw_81) (fun _ h9 => h9) rfl dX3_add_40 ?_
            refine lv_iconst (v := 1) hx hb dX3_add_43 (by decide +kernel) ?_
            refine lv_iadd hx hb dX3_add_44 ?_
            refine lv_topi (fun v_11 ev_11 => ?_)
            have tv_11 : v_11.toInt = c1.toInt + 1 := by rw [ev_11]; exact k_addv rfl zl_1 (by omega) (by omega)
            refine va_put (D := D) (ci := 3) (v := .int v_11) (ty := .int) (C := RX3) (T := TX3) (N := 2) hx hb hT giX3 tyX3 tyX3_ok nmX3 hown hK hP hD hS 1 rfl rfl 1 (by decide +kernel) (hT (Cond.fieldLink RX3 15 "DesertWire$Parties" "number" "I") mw_81) (fun _ h9 => h9) rfl (by decide +kernel) rfl rfl (Nat.le_of_ble_eq_true rfl) dX3_add_45 ?_
            clear hP hD hS
            intro H locs hP hD hS
            replace hP : va_P D vwCl [(k0, .inl (cI, 36, .inl g11_k0)), (k, .inr (3, [.ref k0, .int v_11]))] H := hP
            replace hD : va_D A [(k0, .inl (cI, 36, .inl g11_k0)), (k, .inr (3, [.ref k0, .int v_11]))] := hD
            refine lv_aload_n hx hb dX3_add_48 rfl (lv_at hl 1 rfl) ?_
            refine va_get (D := D) (ci := 3) (v := .int v_11) (C := RX3) (T := TX3) (N := 2) hx hb hT giX3 hown hK hP 1 rfl rfl 1 (by decide +kernel) (hT (Cond.fieldLink RX3 15 "DesertWire$Parties" "number" "I") mw_81) (fun _ h9 => h9) rfl dX3_add_49 ?_
            refine lv_iconst (v := 1) hx hb dX3_add_52 (by decide +kernel) ?_
            refine lv_isub hx hb dX3_add_53 ?_
            refine lv_topi (fun v_12 ev_12 => ?_)
            have tv_12 : v_12.toInt = v_11.toInt - 1 := by rw [ev_12]; exact k_subv rfl zl_1 (by omega) (by omega)
            exact hRet (v_11, g11_k0) [1, 0] ⟨(k_inj (by omega)), (by first | omega | decide | assumption | rfl | (dsimp only; first | omega)), (by first | omega | decide | assumption | rfl | (dsimp only; first | omega)), (pad_in pre0 (by omega) (by have z := i11_3; rw [show l11_1.toInt.toNat = 9 from by omega] at z; exact z) ev_11)⟩ hP hD (by decide +kernel) rfl hS rfl dX3_add_54
          · refine lv_aload_n hx hb dX3_add_17 rfl (lv_at hl 1 rfl) ?_
            refine va_get (D := D) (ci := 3) (v := .ref k0) (C := RX3) (T := TX3) (N := 2) hx hb hT giX3 hown hK hP 1 rfl rfl 0 (by decide +kernel) (hT (Cond.fieldLink RX3 9 "DesertWire$Parties" "facts" "[I") mw_80) (fun _ h9 => h9) rfl dX3_add_18 ?_
            refine lv_aload_n hx hb dX3_add_21 rfl (lv_at hl 1 rfl) ?_
            refine va_get (D := D) (ci := 3) (v := .int c1) (C := RX3) (T := TX3) (N := 2) hx hb hT giX3 hown hK hP 1 rfl rfl 1 (by decide +kernel) (hT (Cond.fieldLink RX3 15 "DesertWire$Parties" "number" "I") mw_81) (fun _ h9 => h9) rfl dX3_add_22 ?_
            refine lv_bipush (v := 9) hx hb dX3_add_25 (by decide +kernel) ?_
            refine lv_imul hx hb dX3_add_27 ?_
            refine lv_topi (fun v_13 ev_13 => ?_)
            have tv_13 : v_13.toInt = c1.toInt * 9 := by rw [ev_13]; exact k_mulv rfl zl_9 (by omega) (by omega)
            refine lv_iload_n hx hb dX3_add_28 rfl (lv_at hl 0 rfl) ?_
            refine lv_iadd hx hb dX3_add_29 ?_
            refine lv_topi (fun v_14 ev_14 => ?_)
            have tv_14 : v_14.toInt = v_13.toInt + l11_1.toInt := by rw [ev_14]; exact k_addv rfl rfl (by omega) (by omega)
            refine lv_iconst (v := 0) hx hb dX3_add_30 (by decide +kernel) ?_
            refine va_iast hx hb hK hP hD hS 0 0 rfl rfl (k_in (by omega) (by omega)) dX3_add_31 ?_
            clear hP hD hS
            intro H locs hP hD hS
            replace hP : va_P D vwCl [(k0, .inl (cI, 36, .inl (upd g11_k0 v_14.toNatClampNeg 0))), (k, .inr (3, [.ref k0, .int c1]))] H := hP
            replace hD : va_D A [(k0, .inl (cI, 36, .inl (upd g11_k0 v_14.toNatClampNeg 0))), (k, .inr (3, [.ref k0, .int c1]))] := hD
            obtain ⟨f_15, ef_15⟩ : ∃ g : Nat → Int32, g = upd g11_k0 v_14.toNatClampNeg 0 := ⟨_, rfl⟩
            rw [← ef_15] at hP hD
            obtain ⟨v_16, ev_16⟩ : ∃ y : Int32, y = l11_1 + 1 := ⟨_, rfl⟩
            have tv_16 : v_16.toInt = l11_1.toInt + 1 := by rw [ev_16]; exact k_addv rfl zl_1 (by omega) (by omega)
            refine lv_iinc (v := v_16) (lv' := [(1, .int v_16), (0, .ref k)]) hx hb dX3_add_32 hl (k := 0) rfl (by rw [ev_16]; rfl) (by decide +kernel) rfl ?_
            clear hl
            intro ls hl
            refine lv_goto (tgt := 11) hx hb dX3_add_35 (by decide +kernel) ?_
            exact ih11 v_16 f_15 (by first | omega | decide | assumption | rfl) (by first | omega | decide | assumption | rfl) (by first | omega | decide | assumption | rfl) (pz_step i11_3 (by omega) (by omega) (by omega) ef_15 (by omega)) (by omega) ls _ _ (lv_sub hl [0, 1] rfl) (hP.sub [0, 1] rfl) (hD.sub [0, 1] (by decide +kernel) rfl) hS
    exact hloop_11 _ 0 c0 (by first | omega | (simp only [zl_0]; first | done | omega) | decide | assumption | rfl) (by first | omega | (simp only [zl_0]; first | done | omega) | decide | assumption | rfl) (by first | omega | (simp only [zl_0]; first | done | omega) | decide | assumption | rfl) (fun j hj => by rw [zl_0]; exact pre0.2.2 j hj) (Nat.lt_succ_self _) ls _ _ (lv_sub hl [0, 1] rfl) hP hD hS
  · exfalso; omega
