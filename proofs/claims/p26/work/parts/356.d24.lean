
set_option maxHeartbeats 4000000 in
set_option maxRecDepth 100000 in
theorem c_X3_setD0 (l : Launch) (D : va_G) (cI : ClassId) (aK aV : Nat → Nat) (k k0 : Nat) (sz : Nat) (c1 : Int32) (c0 : Nat → Int32) (gx : Nat → Int32) (a0 : Int32) (a1 : Int32) (a2 : Int32) (pre0 : PTR c0 c1 gx) (pre1 : 0 ≤ a0.toInt) (pre2 : a0.toInt < c1.toInt) (pre3 : a1 = 0) : Met l yX3_set (gW yX3_set cX3_set 4 none) ({ frames := 1, cells := 0, slots := 0, locals := 21 } : Room) (kPreX D cI aK aV [.ref k, .int a0, .int 0, .int a2] [(k, .inr (3, [.ref k0, .int c1])), (k0, .inl (cI, 36, .inl c0))] sz) (va_Qv (fun (u : (Nat → Int32)) => PTR u c1 (upd gx (459 + 9 * a0.toInt.toNat + 0) a2)) (fun u t => kWd D cI (va_A [(k, .inr (3, [.ref k0, .int c1])), (k0, .inl (cI, 36, .inl c0))] sz) [(k, .inr (3, [.ref k0, .int c1])), (k0, .inl (cI, 36, .inl u))] t) (va_A [(k, .inr (3, [.ref k0, .int c1])), (k0, .inl (cI, 36, .inl c0))] sz)) 0 0 (va_A [(k, .inr (3, [.ref k0, .int c1])), (k0, .inl (cI, 36, .inl c0))] sz) := by
  refine kMetVX (own := RX3) (by decide +kernel) rfl (Nat.le_of_ble_eq_true rfl) ?_
  intro p e s m args below meth c hx hb hT hown hname hml A Q hK hP hD hS hA hN hXS hRet ls hl
  subst pre3
  have hl : lv_has ls 4 [(0, .ref k), (1, .int a0), (2, .int 0), (3, .int a2)] := hl
  have lo_a0 := k_lo a0
  have hi_a0 := k_hi a0
  have lo_c1 := k_lo c1
  have hi_c1 := k_hi c1
  have pre0 : PTR c0 c1 gx := pre0
  have b_1 : 0 ≤ c1.toInt ∧ c1.toInt ≤ 4 := (pre0).2.1
  have t_2 : c1.toInt = (gx 2).toInt := PTR.nt pre0
  refine lv_aload_n hx hb dX3_set_0 rfl (lv_at hl 0 rfl) ?_
  refine lv_iload_n hx hb dX3_set_1 rfl (lv_at hl 1 rfl) ?_
  refine kJi (wr := [(k0, .inl (cI, 36, .inl c0))]) (va_runV (As := [.int a0]) (rest := []) ⟨hx, hb, hml, hown, hT⟩ (c_X3_hasG l D cI aK aV k k0 s.heap.size c1 a0) (cwV 1 hT (gV_in mw_717 mw_714 mw_715 mw_716 mw_4) rfl rfl rfl (by decide +kernel) ⟨Nat.le_of_ble_eq_true rfl, Nat.le_of_ble_eq_true rfl⟩) (kRecvX (q0 := 0) (ci := 3) hK hP hD hN hXS hS hA rfl rfl [0] rfl (by decide +kernel)) rfl rfl hl.1 rfl (lv_room (Nat.le_of_ble_eq_true rfl)) dX3_set_2 ⟨Nat.le_of_ble_eq_true rfl, Nat.le_of_ble_eq_true rfl⟩) hP hD hS hA [0] [1] rfl rfl (by decide +kernel) (by decide +kernel) ?_
  clear hP hD hS
  intro r_3 u_5 H locs w_4 hP hD hS
  replace hP : va_P D vwCl [(k0, .inl (cI, 36, .inl c0)), (k, .inr (3, [.ref k0, .int c1]))] H := hP
  replace hD : va_D A [(k0, .inl (cI, 36, .inl c0)), (k, .inr (3, [.ref k0, .int c1]))] := hD
  rcases w_4 with ⟨hr_3, h_6, h_7, h_8⟩ | ⟨hr_3, h_9⟩
  · have h_6 : 0 ≤ a0.toInt := h_6
    have h_7 : a0.toInt < c1.toInt := h_7
    have h_8 : a0.toInt < 4 := h_8
    obtain rfl : r_3 = 1 := hr_3.trans (by decide +kernel)
    refine b_if_eq hx hb zl_1 (tgt := 30) dX3_set_5 (by decide +kernel) (fun c_10 => by exfalso; omega) (fun c_10 => ?_)
    refine lv_iload_n hx hb dX3_set_8 rfl (lv_at hl 2 rfl) ?_
    refine b_if_lt hx hb zl_0 (tgt := 30) dX3_set_9 (by decide +kernel) (fun c_11 => by exfalso; omega) (fun c_11 => ?_)
    refine lv_iload_n hx hb dX3_set_12 rfl (lv_at hl 2 rfl) ?_
    refine lv_bipush (v := 9) hx hb dX3_set_13 (by decide +kernel) ?_
    refine b_icmp_ge hx hb zl_0 zl_9 (tgt := 30) dX3_set_15 (by decide +kernel) (fun c_12 => by exfalso; omega) (fun c_12 => ?_)
    refine lv_aload_n hx hb dX3_set_18 rfl (lv_at hl 0 rfl) ?_
    refine va_get (D := D) (ci := 3) (v := .ref k0) (C := RX3) (T := TX3) (N := 2) hx hb hT giX3 hown hK hP 1 rfl rfl 0 (by decide +kernel) (hT (Cond.fieldLink RX3 9 "DesertWire$Parties" "facts" "[I") mw_80) (fun _ h9 => h9) rfl dX3_set_19 ?_
    refine lv_iload_n hx hb dX3_set_22 rfl (lv_at hl 1 rfl) ?_
    refine lv_bipush (v := 9) hx hb dX3_set_23 (by decide +kernel) ?_
    refine lv_imul hx hb dX3_set_25 ?_
    refine lv_topi (fun v_13 ev_13 => ?_)
    have tv_13 : v_13.toInt = a0.toInt * 9 := by rw [ev_13]; exact k_mulv rfl zl_9 (by omega) (by omega)
    refine lv_iload_n hx hb dX3_set_26 rfl (lv_at hl 2 rfl) ?_
    refine lv_iadd hx hb dX3_set_27 ?_
    refine lv_topi (fun v_14 ev_14 => ?_)
    have tv_14 : v_14.toInt = v_13.toInt + 0 := by rw [ev_14]; exact k_addv rfl zl_0 (by omega) (by omega)
    refine lv_iload_n hx hb dX3_set_28 rfl (lv_at hl 3 rfl) ?_
    refine va_iast hx hb hK hP hD hS 0 0 rfl rfl (k_in (by omega) (by omega)) dX3_set_29 ?_
    clear hP hD hS
    intro H locs hP hD hS
    replace hP : va_P D vwCl [(k0, .inl (cI, 36, .inl (upd c0 v_14.toNatClampNeg a2))), (k, .inr (3, [.ref k0, .int c1]))] H := hP
    replace hD : va_D A [(k0, .inl (cI, 36, .inl (upd c0 v_14.toNatClampNeg a2))), (k, .inr (3, [.ref k0, .int c1]))] := hD
    obtain ⟨f_15, ef_15⟩ : ∃ g : Nat → Int32, g = upd c0 v_14.toNatClampNeg a2 := ⟨_, rfl⟩
    rw [← ef_15] at hP hD
    exact hRet f_15 [1, 0] (PTR.put pre0 (by omega) (by omega) (by omega) ef_15 (by omega)) hP hD (by decide +kernel) rfl hS dX3_set_30
  · exfalso; omega

set_option maxHeartbeats 4000000 in
set_option maxRecDepth 100000 in
theorem c_X3_getD1 (l : Launch) (D : va_G) (cI : ClassId) (aK aV : Nat → Nat) (k k0 : Nat) (sz : Nat) (c1 : Int32) (c0 : Nat → Int32) (gx : Nat → Int32) (a0 : Int32) (a1 : Int32) (pre0 : PTR c0 c1 gx) (pre1 : 0 ≤ a0.toInt) (pre2 : a0.toInt < c1.toInt) (pre3 : a1 = 1) : Met l yX3_get (gW yX3_get cX3_get 3 (some .int)) ({ frames := 1, cells := 0, slots := 0, locals := 21 } : Room) (kPreX D cI aK aV [.ref k, .int a0, .int 1] [(k, .inr (3, [.ref k0, .int c1])), (k0, .inl (cI, 36, .inl c0))] sz) (va_Qi (fun (r : Int32) (u : Unit) => r = pW gx a0 1) (fun u t => kWd D cI (va_A [(k, .inr (3, [.ref k0, .int c1])), (k0, .inl (cI, 36, .inl c0))] sz) [(k, .inr (3, [.ref k0, .int c1])), (k0, .inl (cI, 36, .inl c0))] t) (va_A [(k, .inr (3, [.ref k0, .int c1])), (k0, .inl (cI, 36, .inl c0))] sz)) 0 0 (va_A [(k, .inr (3, [.ref k0, .int c1])), (k0, .inl (cI, 36, .inl c0))] sz) := by
  refine kMetIX (own := RX3) (by decide +kernel) rfl (Nat.le_of_ble_eq_true rfl) ?_
  intro p e s m args below meth c hx hb hT hown hname hml A Q hK hP hD hS hA hN hXS hRet ls hl
  subst pre3
  have hl : lv_has ls 3 [(0, .ref k), (1, .int a0), (2, .int 1)] := hl
  have lo_a0 := k_lo a0
  have hi_a0 := k_hi a0
  have lo_c1 := k_lo c1
  have hi_c1 := k_hi c1
  have pre0 : PTR c0 c1 gx := pre0
  have b_1 : 0 ≤ c1.toInt ∧ c1.toInt ≤ 4 := (pre0).2.1
  have t_2 : c1.toInt = (gx 2).toInt := PTR.nt pre0
  refine lv_aload_n hx hb dX3_get_0 rfl (lv_at hl 0 rfl) ?_
  refine lv_iload_n hx hb dX3_get_1 rfl (lv_at hl 1 rfl) ?_
  refine kJi (wr := [(k0, .inl (cI, 36, .inl c0))]) (va_runV (As := [.int a0]) (rest := []) ⟨hx, hb, hml, hown, hT⟩ (c_X3_hasG l D cI aK aV k k0 s.heap.size c1 a0) (cwV 1 hT (gV_in mw_717 mw_714 mw_715 mw_716 mw_4) rfl rfl rfl (by decide +kernel) ⟨Nat.le_of_ble_eq_true rfl, Nat.le_of_ble_eq_true rfl⟩) (kRecvX (q0 := 0) (ci := 3) hK hP hD hN hXS hS hA rfl rfl [0] rfl (by decide +kernel)) rfl rfl hl.1 rfl (lv_room (Nat.le_of_ble_eq_true rfl)) dX3_get_2 ⟨Nat.le_of_ble_eq_true rfl, Nat.le_of_ble_eq_true rfl⟩) hP hD hS hA [0] [1] rfl rfl (by decide +kernel) (by decide +kernel) ?_
  clear hP hD hS
  intro r_3 u_5 H locs w_4 hP hD hS
  replace hP : va_P D vwCl [(k0, .inl (cI, 36, .inl c0)), (k, .inr (3, [.ref k0, .int c1]))] H := hP
  replace hD : va_D A [(k0, .inl (cI, 36, .inl c0)), (k, .inr (3, [.ref k0, .int c1]))] := hD
  rcases w_4 with ⟨hr_3, h_6, h_7, h_8⟩ | ⟨hr_3, h_9⟩
  · have h_6 : 0 ≤ a0.toInt := h_6
    have h_7 : a0.toInt < c1.toInt := h_7
    have h_8 : a0.toInt < 4 := h_8
    obtain rfl : r_3 = 1 := hr_3.trans (by decide +kernel)
    refine b_if_eq hx hb zl_1 (tgt := 32) dX3_get_5 (by decide +kernel) (fun c_10 => by exfalso; omega) (fun c_10 => ?_)
    refine lv_iload_n hx hb dX3_get_8 rfl (lv_at hl 2 rfl) ?_
    refine b_if_lt hx hb zl_1 (tgt := 32) dX3_get_9 (by decide +kernel) (fun c_11 => by exfalso; omega) (fun c_11 => ?_)
    refine lv_iload_n hx hb dX3_get_12 rfl (lv_at hl 2 rfl) ?_
    refine lv_bipush (v := 9) hx hb dX3_get_13 (by decide +kernel) ?_
    refine b_icmp_ge hx hb zl_1 zl_9 (tgt := 32) dX3_get_15 (by decide +kernel) (fun c_12 => by exfalso; omega) (fun c_12 => ?_)
    refine lv_aload_n hx hb dX3_get_18 rfl (lv_at hl 0 rfl) ?_
    refine va_get (D := D) (ci := 3) (v := .ref k0) (C := RX3) (T := TX3) (N := 2) hx hb hT giX3 hown hK hP 1 rfl rfl 0 (by decide +kernel) (hT (Cond.fieldLink RX3 9 "DesertWire$Parties" "facts" "[I") mw_80) (fun _ h9 => h9) rfl dX3_get_19 ?_
    refine lv_iload_n hx hb dX3_get_22 rfl (lv_at hl 1 rfl) ?_
    refine lv_bipush (v := 9) hx hb dX3_get_23 (by decide +kernel) ?_
    refine lv_imul hx hb dX3_get_25 ?_
    refine lv_topi (fun v_13 ev_13 => ?_)
    have tv_13 : v_13.toInt = a0.toInt * 9 := by rw [ev_13]; exact k_mulv rfl zl_9 (by omega) (by omega)
    refine lv_iload_n hx hb dX3_get_26 rfl (lv_at hl 2 rfl) ?_
    refine lv_iadd hx hb dX3_get_27 ?_
    refine lv_topi (fun v_14 ev_14 => ?_)
    have tv_14 : v_14.toInt = v_13.toInt + 1 := by rw [ev_14]; exact k_addv rfl zl_1 (by omega) (by omega)
    refine k_iald (v := (c0 v_14.toNatClampNeg)) hx hb hK hP 0 0 rfl rfl (k_in (by omega) (by omega)) rfl dX3_get_28 ?_
    refine lv_topi (fun v_15 ev_15 => ?_)
    have lo_v_15 := k_lo v_15
    have hi_v_15 := k_hi v_15
    have tv_15 : v_15.toInt = (c0 v_14.toNatClampNeg).toInt := by rw [ev_15]
    refine lv_goto (tgt := 33) hx hb dX3_get_29 (by decide +kernel) ?_
    exact hRet () [1, 0] (PTR.rd pre0 (by omega) (by omega) (by omega) ev_15 (by omega)) hP hD (by decide +kernel) rfl hS rfl dX3_get_33
  · exfalso; omega

set_option maxHeartbeats 4000000 in
set_option maxRecDepth 100000 in
theorem c_X3_setD1 (l : Launch) (D : va_G) (cI : ClassId) (aK aV : Nat → Nat) (k k0 : Nat) (sz : Nat) (c1 : Int32) (c0 : Nat → Int32) (gx : Nat → Int32) (a0 : Int32) (a1 : Int32) (a2 : Int32) (pre0 : PTR c0 c1 gx) (pre1 : 0 ≤ a0.toInt) (pre2 : a0.toInt < c1.toInt) (pre3 : a1 = 1) : Met l yX3_set (gW yX3_set cX3_set 4 none) ({ frames := 1, cells := 0, slots := 0, locals := 21 } : Room) (kPreX D cI aK aV [.ref k, .int a0, .int 1, .int a2] [(k, .inr (3, [.ref k0, .int c1])), (k0, .inl (cI, 36, .inl c0))] sz) (va_Qv (fun (u : (Nat → Int32)) => PTR u c1 (upd gx (459 + 9 * a0.toInt.toNat + 1) a2)) (fun u t => kWd D cI (va_A [(k, .inr (3, [.ref k0, .int c1])), (k0, .inl (cI, 36, .inl c0))] sz) [(k, .inr (3, [.ref k0, .int c1])), (k0, .inl (cI, 36, .inl u))] t) (va_A [(k, .inr (3, [.ref k0, .int c1])), (k0, .inl (cI, 36, .inl c0))] sz)) 0 0 (va_A [(k, .inr (3, [.ref k0, .int c1])), (k0, .inl (cI, 36, .inl c0))] sz) := by
  refine kMetVX (own := RX3) (by decide +kernel) rfl (Nat.le_of_ble_eq_true rfl) ?_
  intro p e s m args below meth c hx hb hT hown hname hml A Q hK hP hD hS hA hN hXS hRet ls hl
  subst pre3
  have hl : lv_has ls 4 [(0, .ref k), (1, .int a0), (2, .int 1), (3, .int a2)] := hl
  have lo_a0 := k_lo a0
  have hi_a0 := k_hi a0
  have lo_c1 := k_lo c1
  have hi_c1 := k_hi c1
  have pre0 : PTR c0 c1 gx := pre0
  have b_1 : 0 ≤ c1.toInt ∧ c1.toInt ≤ 4 := (pre0).2.1
  have t_2 : c1.toInt = (gx 2).toInt := PTR.nt pre0
  refine lv_aload_n hx hb dX3_set_0 rfl (lv_at hl 0 rfl) ?_
  refine lv_iload_n hx hb dX3_set_1 rfl (lv_at hl 1 rfl) ?_
  refine kJi (wr := [(k0, .inl (cI, 36, .inl c0))]) (va_runV (As := [.int a0]) (rest := []) ⟨hx, hb, hml, hown, hT⟩ (c_X3_hasG l D cI aK aV k k0 s.heap.size c1 a0) (cwV 1 hT (gV_in mw_717 mw_714 mw_715 mw_716 mw_4) rfl rfl rfl (by decide +kernel) ⟨Nat.le_of_ble_eq_true rfl, Nat.le_of_ble_eq_true rfl⟩) (kRecvX (q0 := 0) (ci := 3) hK hP hD hN hXS hS hA rfl rfl [0] rfl (by decide +kernel)) rfl rfl hl.1 rfl (lv_room (Nat.le_of_ble_eq_true rfl)) dX3_set_2 ⟨Nat.le_of_ble_eq_true rfl, Nat.le_of_ble_eq_true rfl⟩) hP hD hS hA [0] [1] rfl rfl (by decide +kernel) (by decide +kernel) ?_
  clear hP hD hS
  intro r_3 u_5 H locs w_4 hP hD hS
  replace hP : va_P D vwCl [(k0, .inl (cI, 36, .inl c0)), (k, .inr (3, [.ref k0, .int c1]))] H := hP
  replace hD : va_D A [(k0, .inl (cI, 36, .inl c0)), (k, .inr (3, [.ref k0, .int c1]))] := hD
  rcases w_4 with ⟨hr_3, h_6, h_7, h_8⟩ | ⟨hr_3, h_9⟩
  · have h_6 : 0 ≤ a0.toInt := h_6
    have h_7 : a0.toInt < c1.toInt := h_7
    have h_8 : a0.toInt < 4 := h_8
    obtain rfl : r_3 = 1 := hr_3.trans (by decide +kernel)
    refine b_if_eq hx hb zl_1 (tgt := 30) dX3_set_5 (by decide +kernel) (fun c_10 => by exfalso; omega) (fun c_10 => ?_)
    refine lv_iload_n hx hb dX3_set_8 rfl (lv_at hl 2 rfl) ?_
    refine b_if_lt hx hb zl_1 (tgt := 30) dX3_set_9 (by decide +kernel) (fun c_11 => by exfalso; omega) (fun c_11 => ?_)
    refine lv_iload_n hx hb dX3_set_12 rfl (lv_at hl 2 rfl) ?_
    refine lv_bipush (v := 9) hx hb dX3_set_13 (by decide +kernel) ?_
    refine b_icmp_ge hx hb zl_1 zl_9 (tgt := 30) dX3_set_15 (by decide +kernel) (fun c_12 => by exfalso; omega) (fun c_12 => ?_)
    refine lv_aload_n hx hb dX3_set_18 rfl (lv_at hl 0 rfl) ?_
    refine va_get (D := D) (ci := 3) (v := .ref k0) (C := RX3) (T := TX3) (N := 2) hx hb hT giX3 hown hK hP 1 rfl rfl 0 (by decide +kernel) (hT (Cond.fieldLink RX3 9 "DesertWire$Parties" "facts" "[I") mw_80) (fun _ h9 => h9) rfl dX3_set_19 ?_
    refine lv_iload_n hx hb dX3_set_22 rfl (lv_at hl 1 rfl) ?_
    refine lv_bipush (v := 9) hx hb dX3_set_23 (by decide +kernel) ?_
    refine lv_imul hx hb dX3_set_25 ?_
    refine lv_topi (fun v_13 ev_13 => ?_)
    have tv_13 : v_13.toInt = a0.toInt * 9 := by rw [ev_13]; exact k_mulv rfl zl_9 (by omega) (by omega)
    refine lv_iload_n hx hb dX3_set_26 rfl (lv_at hl 2 rfl) ?_
    refine lv_iadd hx hb dX3_set_27 ?_
    refine lv_topi (fun v_14 ev_14 => ?_)
    have tv_14 : v_14.toInt = v_13.toInt + 1 := by rw [ev_14]; exact k_addv rfl zl_1 (by omega) (by omega)
    refine lv_iload_n hx hb dX3_set_28 rfl (lv_at hl 3 rfl) ?_
    refine va_iast hx hb hK hP hD hS 0 0 rfl rfl (k_in (by omega) (by omega)) dX3_set_29 ?_
    clear hP hD hS
    intro H locs hP hD hS
    replace hP : va_P D vwCl [(k0, .inl (cI, 36, .inl (upd c0 v_14.toNatClampNeg a2))), (k, .inr (3, [.ref k0, .int c1]))] H := hP
    replace hD : va_D A [(k0, .inl (cI, 36, .inl (upd c0 v_14.toNatClampNeg a2))), (k, .inr (3, [.ref k0, .int c1]))] := hD
    obtain ⟨f_15, ef_15⟩ : ∃ g : Nat → Int32, g = upd c0 v_14.toNatClampNeg a2 := ⟨_, rfl⟩
    rw [← ef_15] at hP hD
    exact hRet f_15 [1, 0] (PTR.put pre0 (by omega) (by omega) (by omega) ef_15 (by omega)) hP hD (by decide +kernel) rfl hS dX3_set_30
  · exfalso; omega

set_option maxHeartbeats 4000000 in
set_option maxRecDepth 100000 in
theorem c_X3_getD2 (l : Launch) (D : va_G) (cI : ClassId) (aK aV : Nat → Nat) (k k0 : Nat) (sz : Nat) (c1 : Int32) (c0 : Nat → Int32) (gx : Nat → Int32) (a0 : Int32) (a1 : Int32) (pre0 : PTR c0 c1 gx) (pre1 : 0 ≤ a0.toInt) (pre2 : a0.toInt < c1.toInt) (pre3 : a1 = 2) : Met l yX3_get (gW yX3_get cX3_get 3 (some .int)) ({ frames := 1, cells := 0, slots := 0, locals := 21 } : Room) (kPreX D cI aK aV [.ref k, .int a0, .int 2] [(k, .inr (3, [.ref k0, .int c1])), (k0, .inl (cI, 36, .inl c0))] sz) (va_Qi (fun (r : Int32) (u : Unit) => r = pW gx a0 2) (fun u t => kWd D cI (va_A [(k, .inr (3, [.ref k0, .int c1])), (k0, .inl (cI, 36, .inl c0))] sz) [(k, .inr (3, [.ref k0, .int c1])), (k0, .inl (cI, 36, .inl c0))] t) (va_A [(k, .inr (3, [.ref k0, .int c1])), (k0, .inl (cI, 36, .inl c0))] sz)) 0 0 (va_A [(k, .inr (3, [.ref k0, .int c1])), (k0, .inl (cI, 36, .inl c0))] sz) := by
  refine kMetIX (own := RX3) (by decide +kernel) rfl (Nat.le_of_ble_eq_true rfl) ?_
  intro p e s m args below meth c hx hb hT hown hname hml A Q hK hP hD hS hA hN hXS hRet ls hl
  subst pre3
  have hl : lv_has ls 3 [(0, .ref k), (1, .int a0), (2, .int 2)] := hl
  have lo_a0 := k_lo a0
  have hi_a0 := k_hi a0
  have lo_c1 := k_lo c1
  have hi_c1 := k_hi c1
  have pre0 : PTR c0 c1 gx := pre0
  have b_1 : 0 ≤ c1.toInt ∧ c1.toInt ≤ 4 := (pre0).2.1
  have t_2 : c1.toInt = (gx 2).toInt := PTR.nt pre0
  refine lv_aload_n hx hb dX3_get_0 rfl (lv_at hl 0 rfl) ?_
  refine lv_iload_n hx hb dX3_get_1 rfl (lv_at hl 1 rfl) ?_
  refine kJi (wr := [(k0, .inl (cI, 36, .inl c0))]) (va_runV (As := [.int a0]) (rest := []) ⟨hx, hb, hml, hown, hT⟩ (c_X3_hasG l D cI aK aV k k0 s.heap.size c1 a0) (cwV 1 hT (gV_in mw_717 mw_714 mw_715 mw_716 mw_4) rfl rfl rfl (by decide +kernel) ⟨Nat.le_of_ble_eq_true rfl, Nat.le_of_ble_eq_true rfl⟩) (kRecvX (q0 := 0) (ci := 3) hK hP hD hN hXS hS hA rfl rfl [0] rfl (by decide +kernel)) rfl rfl hl.1 rfl (lv_room (Nat.le_of_ble_eq_true rfl)) dX3_get_2 ⟨Nat.le_of_ble_eq_true rfl, Nat.le_of_ble_eq_true rfl⟩) hP hD hS hA [0] [1] rfl rfl (by decide +kernel) (by decide +kernel) ?_
  clear hP hD hS
  intro r_3 u_5 H locs w_4 hP hD hS
  replace hP : va_P D vwCl [(k0, .inl (cI, 36, .inl c0)), (k, .inr (3, [.ref k0, .int c1]))] H := hP
  replace hD : va_D A [(k0, .inl (cI, 36, .inl c0)), (k, .inr (3, [.ref k0, .int c1]))] := hD
  rcases w_4 with ⟨hr_3, h_6, h_7, h_8⟩ | ⟨hr_3, h_9⟩
  · have h_6 : 0 ≤ a0.toInt := h_6
    have h_7 : a0.toInt < c1.toInt := h_7
    have h_8 : a0.toInt < 4 := h_8
    obtain rfl : r_3 = 1 := hr_3.trans (by decide +kernel)
    refine b_if_eq hx hb zl_1 (tgt := 32) dX3_get_5 (by decide +kernel) (fun c_10 => by exfalso; omega) (fun c_10 => ?_)
    refine lv_iload_n hx hb dX3_get_8 rfl (lv_at hl 2 rfl) ?_
    refine b_if_lt hx hb zl_2 (tgt := 32) dX3_get_9 (by decide +kernel) (fun c_11 => by exfalso; omega) (fun c_11 => ?_)
    refine lv_iload_n hx hb dX3_get_12 rfl (lv_at hl 2 rfl) ?_
    refine lv_bipush (v := 9) hx hb dX3_get_13 (by decide +kernel) ?_
    refine b_icmp_ge hx hb zl_2 zl_9 (tgt := 32) dX3_get_15 (by decide +kernel) (fun c_12 => by exfalso; omega) (fun c_12 => ?_)
    refine lv_aload_n hx hb dX3_get_18 rfl (lv_at hl 0 rfl) ?_
    refine va_get (D := D) (ci := 3) (v := .ref k0) (C := RX3) (T := TX3) (N := 2) hx hb hT giX3 hown hK hP 1 rfl rfl 0 (by decide +kernel) (hT (Cond.fieldLink RX3 9 "DesertWire$Parties" "facts" "[I") mw_80) (fun _ h9 => h9) rfl dX3_get_19 ?_
    refine lv_iload_n hx hb dX3_get_22 rfl (lv_at hl 1 rfl) ?_
    refine lv_bipush (v := 9) hx hb dX3_get_23 (by decide +kernel) ?_
    refine lv_imul hx hb dX3_get_25 ?_
    refine lv_topi (fun v_13 ev_13 => ?_)
    have tv_13 : v_13.toInt = a0.toInt * 9 := by rw [ev_13]; exact k_mulv rfl zl_9 (by omega) (by omega)
    refine lv_iload_n hx hb dX3_get_26 rfl (lv_at hl 2 rfl) ?_
    refine lv_iadd hx hb dX3_get_27 ?_
    refine lv_topi (fun v_14 ev_14 => ?_)
    have tv_14 : v_14.toInt = v_13.toInt + 2 := by rw [ev_14]; exact k_addv rfl zl_2 (by omega) (by omega)
    refine k_iald (v := (c0 v_14.toNatClampNeg)) hx hb hK hP 0 0 rfl rfl (k_in (by omega) (by omega)) rfl dX3_get_28 ?_
    refine lv_topi (fun v_15 ev_15 => ?_)
    have lo_v_15 := k_lo v_15
    have hi_v_15 := k_hi v_15
    have tv_15 : v_15.toInt = (c0 v_14.toNatClampNeg).toInt := by rw [ev_15]
    refine lv_goto (tgt := 33) hx hb dX3_get_29 (by decide +kernel) ?_
    exact hRet () [1, 0] (PTR.rd pre0 (by omega) (by omega) (by omega) ev_15 (by omega)) hP hD (by decide +kernel) rfl hS rfl dX3_get_33
  · exfalso; omega

set_option maxHeartbeats 4000000 in
set_option maxRecDepth 100000 in
theorem c_X3_setD2 (l : Launch) (D : va_G) (cI : ClassId) (aK aV : Nat → Nat) (k k0 : Nat) (sz : Nat) (c1 : Int32) (c0 : Nat → Int32) (gx : Nat → Int32) (a0 : Int32) (a1 : Int32) (a2 : Int32) (pre0 : PTR c0 c1 gx) (pre1 : 0 ≤ a0.toInt) (pre2 : a0.toInt < c1.toInt) (pre3 : a1 = 2) : Met l yX3_set (gW yX3_set cX3_set 4 none) ({ frames := 1, cells := 0, slots := 0, locals := 21 } : Room) (kPreX D cI aK aV [.ref k, .int a0, .int 2, .int a2] [(k, .inr (3, [.ref k0, .int c1])), (k0, .inl (cI, 36, .inl c0))] sz) (va_Qv (fun (u : (Nat → Int32)) => PTR u c1 (upd gx (459 + 9 * a0.toInt.toNat + 2) a2)) (fun u t => kWd D cI (va_A [(k, .inr (3, [.ref k0, .int c1])), (k0, .inl (cI, 36, .inl c0))] sz) [(k, .inr (3, [.ref k0, .int c1])), (k0, .inl (cI, 36, .inl u))] t) (va_A [(k, .inr (3, [.ref k0, .int c1])), (k0, .inl (cI, 36, .inl c0))] sz)) 0 0 (va_A [(k, .inr (3, [.ref k0, .int c1])), (k0, .inl (cI, 36, .inl c0))] sz) := by
  refine kMetVX (own := RX3) (by decide +kernel) rfl (Nat.le_of_ble_eq_true rfl) ?_
  intro p e s m args below meth c hx hb hT hown hname hml A Q hK hP hD hS hA hN hXS hRet ls hl
  subst pre3
  have hl : lv_has ls 4 [(0, .ref k), (1, .int a0), (2, .int 2), (3, .int a2)] := hl
  have lo_a0 := k_lo a0
  have hi_a0 := k_hi a0
  have lo_c1 := k_lo c1
  have hi_c1 := k_hi c1
  have pre0 : PTR c0 c1 gx := pre0
  have b_1 : 0 ≤ c1.toInt ∧ c1.toInt ≤ 4 := (pre0).2.1
  have t_2 : c1.toInt = (gx 2).toInt := PTR.nt pre0
  refine lv_aload_n hx hb dX3_set_0 rfl (lv_at hl 0 rfl) ?_
  refine lv_iload_n hx hb dX3_set_1 rfl (lv_at hl 1 rfl) ?_
  refine kJi (wr := [(k0, .inl (cI, 36, .inl c0))]) (va_runV (As := [.int a0]) (rest := []) ⟨hx, hb, hml, hown, hT⟩ (c_X3_hasG l D cI aK aV k k0 s.heap.size c1 a0) (cwV 1 hT (gV_in mw_717 mw_714 mw_715 mw_716 mw_4) rfl rfl rfl (by decide +kernel) ⟨Nat.le_of_ble_eq_true rfl, Nat.le_of_ble_eq_true rfl⟩) (kRecvX (q0 := 0) (ci := 3) hK hP hD hN hXS hS hA rfl rfl [0] rfl (by decide +kernel)) rfl rfl hl.1 rfl (lv_room (Nat.le_of_ble_eq_true rfl)) dX3_set_2 ⟨Nat.le_of_ble_eq_true rfl, Nat.le_of_ble_eq_true rfl⟩) hP hD hS hA [0] [1] rfl rfl (by decide +kernel) (by decide +kernel) ?_
  clear hP hD hS
  intro r_3 u_5 H locs w_4 hP hD hS
  replace hP : va_P D vwCl [(k0, .inl (cI, 36, .inl c0)), (k, .inr (3, [.ref k0, .int c1]))] H := hP
  replace hD : va_D A [(k0, .inl (cI, 36, .inl c0)), (k, .inr (3, [.ref k0, .int c1]))] := hD
  rcases w_4 with ⟨hr_3, h_6, h_7, h_8⟩ | ⟨hr_3, h_9⟩
  · have h_6 : 0 ≤ a0.toInt := h_6
    have h_7 : a0.toInt < c1.toInt := h_7
    have h_8 : a0.toInt < 4 := h_8
    obtain rfl : r_3 = 1 := hr_3.trans (by decide +kernel)
    refine b_if_eq hx hb zl_1 (tgt := 30) dX3_set_5 (by decide +kernel) (fun c_10 => by exfalso; omega) (fun c_10 => ?_)
    refine lv_iload_n hx hb dX3_set_8 rfl (lv_at hl 2 rfl) ?_
    refine b_if_lt hx hb zl_2 (tgt := 30) dX3_set_9 (by decide +kernel) (fun c_11 => by exfalso; omega) (fun c_11 => ?_)
    refine lv_iload_n hx hb dX3_set_12 rfl (lv_at hl 2 rfl) ?_
    refine lv_bipush (v := 9) hx hb dX3_set_13 (by decide +kernel) ?_
    refine b_icmp_ge hx hb zl_2 zl_9 (tgt := 30) dX3_set_15 (by decide +kernel) (fun c_12 => by exfalso; omega) (fun c_12 => ?_)
    refine lv_aload_n hx hb dX3_set_18 rfl (lv_at hl 0 rfl) ?_
    refine va_get (D := D) (ci := 3) (v := .ref k0) (C := RX3) (T := TX3) (N := 2) hx hb hT giX3 hown hK hP 1 rfl rfl 0 (by decide +kernel) (hT (Cond.fieldLink RX3 9 "DesertWire$Parties" "facts" "[I") mw_80) (fun _ h9 => h9) rfl dX3_set_19 ?_
    refine lv_iload_n hx hb dX3_set_22 rfl (lv_at hl 1 rfl) ?_
    refine lv_bipush (v := 9) hx hb dX3_set_23 (by decide +kernel) ?_
    refine lv_imul hx hb dX3_set_25 ?_
    refine lv_topi (fun v_13 ev_13 => ?_)
    have tv_13 : v_13.toInt = a0.toInt * 9 := by rw [ev_13]; exact k_mulv rfl zl_9 (by omega) (by omega)
    refine lv_iload_n hx hb dX3_set_26 rfl (lv_at hl 2 rfl) ?_
    refine lv_iadd hx hb dX3_set_27 ?_
    refine lv_topi (fun v_14 ev_14 => ?_)
    have tv_14 : v_14.toInt = v_13.toInt + 2 := by rw [ev_14]; exact k_addv rfl zl_2 (by omega) (by omega)
    refine lv_iload_n hx hb dX3_set_28 rfl (lv_at hl 3 rfl) ?_
    refine va_iast hx hb hK hP hD hS 0 0 rfl rfl (k_in (by omega) (by omega)) dX3_set_29 ?_
    clear hP hD hS
    intro H locs hP hD hS
    replace hP : va_P D vwCl [(k0, .inl (cI, 36, .inl (upd c0 v_14.toNatClampNeg a2))), (k, .inr (3, [.ref k0, .int c1]))] H := hP
    replace hD : va_D A [(k0, .inl (cI, 36, .inl (upd c0 v_14.toNatClampNeg a2))), (k, .inr (3, [.ref k0, .int c1]))] := hD
    obtain ⟨f_15, ef_15⟩ : ∃ g : Nat → Int32, g = upd c0 v_14.toNatClampNeg a2 := ⟨_, rfl⟩
    rw [← ef_15] at hP hD
    exact hRet f_15 [1, 0] (PTR.put pre0 (by omega) (by omega) (by omega) ef_15 (by omega)) hP hD (by decide +kernel) rfl hS dX3_set_30
  · exfalso; omega

set_option maxHeartbeats 4000000 in
set_option maxRecDepth 100000 in
theorem c_X3_getD3 (l : Launch) (D : va_G) (cI : ClassId) (aK aV : Nat → Nat) (k k0 : Nat) (sz : Nat) (c1 : Int32) (c0 : Nat → Int32) (gx : Nat → Int32) (a0 : Int32) (a1 : Int32) (pre0 : PTR c0 c1 gx) (pre1 : 0 ≤ a0.toInt) (pre2 : a0.toInt < c1.toInt) (pre3 : a1 = 3) : Met l yX3_get (gW yX3_get cX3_get 3 (some .int)) ({ frames := 1, cells := 0, slots := 0, locals := 21 } : Room) (kPreX D cI aK aV [.ref k, .int a0, .int 3] [(k, .inr (3, [.ref k0, .int c1])), (k0, .inl (cI, 36, .inl c0))] sz) (va_Qi (fun (r : Int32) (u : Unit) => r = pW gx a0 3) (fun u t => kWd D cI (va_A [(k, .inr (3, [.ref k0, .int c1])), (k0, .inl (cI, 36, .inl c0))] sz) [(k, .inr (3, [.ref k0, .int c1])), (k0, .inl (cI, 36, .inl c0))] t) (va_A [(k, .inr (3, [.ref k0, .int c1])), (k0, .inl (cI, 36, .inl c0))] sz)) 0 0 (va_A [(k, .inr (3, [.ref k0, .int c1])), (k0, .inl (cI, 36, .inl c0))] sz) := by
  refine kMetIX (own := RX3) (by decide +kernel) rfl (Nat.le_of_ble_eq_true rfl) ?_
  intro p e s m args below meth c hx hb hT hown hname hml A Q hK hP hD hS hA hN hXS hRet ls hl
  subst pre3
  have hl : lv_has ls 3 [(0, .ref k), (1, .int a0), (2, .int 3)] := hl
  have lo_a0 := k_lo a0
  have hi_a0 := k_hi a0
  have lo_c1 := k_lo c1
  have hi_c1 := k_hi c1
  have pre0 : PTR c0 c1 gx := pre0
  have b_1 : 0 ≤ c1.toInt ∧ c1.toInt ≤ 4 := (pre0).2.1
  have t_2 : c1.toInt = (gx 2).toInt := PTR.nt pre0
  refine lv_aload_n hx hb dX3_get_0 rfl (lv_at hl 0 rfl) ?_
  refine lv_iload_n hx hb dX3_get_1 rfl (lv_at hl 1 rfl) ?_
  refine kJi (wr := [(k0, .inl (cI, 36, .inl c0))]) (va_runV (As := [.int a0]) (rest := []) ⟨hx, hb, hml, hown, hT⟩ (c_X3_hasG l D cI aK aV k k0 s.heap.size c1 a0) (cwV 1 hT (gV_in mw_717 mw_714 mw_715 mw_716 mw_4) rfl rfl rfl (by decide +kernel) ⟨Nat.le_of_ble_eq_true rfl, Nat.le_of_ble_eq_true rfl⟩) (kRecvX (q0 := 0) (ci := 3) hK hP hD hN hXS hS hA rfl rfl [0] rfl (by decide +kernel)) rfl rfl hl.1 rfl (lv_room (Nat.le_of_ble_eq_true rfl)) dX3_get_2 ⟨Nat.le_of_ble_eq_true rfl, Nat.le_of_ble_eq_true rfl⟩) hP hD hS hA [0] [1] rfl rfl (by decide +kernel) (by decide +kernel) ?_
  clear hP hD hS
  intro r_3 u_5 H locs w_4 hP hD hS
  replace hP : va_P D vwCl [(k0, .inl (cI, 36, .inl c0)), (k, .inr (3, [.ref k0, .int c1]))] H := hP
  replace hD : va_D A [(k0, .inl (cI, 36, .inl c0)), (k, .inr (3, [.ref k0, .int c1]))] := hD
  rcases w_4 with ⟨hr_3, h_6, h_7, h_8⟩ | ⟨hr_3, h_9⟩
  · have h_6 : 0 ≤ a0.toInt := h_6
    have h_7 : a0.toInt < c1.toInt := h_7
    have h_8 : a0.toInt < 4 := h_8
    obtain rfl : r_3 = 1 := hr_3.trans (by decide +kernel)
    refine b_if_eq hx hb zl_1 (tgt := 32) dX3_get_5 (by decide +kernel) (fun c_10 => by exfalso; omega) (fun c_10 => ?_)
    refine lv_iload_n hx hb dX3_get_8 rfl (lv_at hl 2 rfl) ?_
    refine b_if_lt hx hb zl_3 (tgt := 32) dX3_get_9 (by decide +kernel) (fun c_11 => by exfalso; omega) (fun c_11 => ?_)
    refine lv_iload_n hx hb dX3_get_12 rfl (lv_at hl 2 rfl) ?_
    refine lv_bipush (v := 9) hx hb dX3_get_13 (by decide +kernel) ?_
    refine b_icmp_ge hx hb zl_3 zl_9 (tgt := 32) dX3_get_15 (by decide +kernel) (fun c_12 => by exfalso; omega) (fun c_12 => ?_)
    refine lv_aload_n hx hb dX3_get_18 rfl (lv_at hl 0 rfl) ?_
    refine va_get (D := D) (ci := 3) (v := .ref k0) (C := RX3) (T := TX3) (N := 2) hx hb hT giX3 hown hK hP 1 rfl rfl 0 (by decide +kernel) (hT (Cond.fieldLink RX3 9 "DesertWire$Parties" "facts" "[I") mw_80) (fun _ h9 => h9) rfl dX3_get_19 ?_
    refine lv_iload_n hx hb dX3_get_22 rfl (lv_at hl 1 rfl) ?_
    refine lv_bipush (v := 9) hx hb dX3_get_23 (by decide +kernel) ?_
    refine lv_imul hx hb dX3_get_25 ?_
    refine lv_topi (fun v_13 ev_13 => ?_)
    have tv_13 : v_13.toInt = a0.toInt * 9 := by rw [ev_13]; exact k_mulv rfl zl_9 (by omega) (by omega)
    refine lv_iload_n hx hb dX3_get_26 rfl (lv_at hl 2 rfl) ?_
    refine lv_iadd hx hb dX3_get_27 ?_
    refine lv_topi (fun v_14 ev_14 => ?_)
    have tv_14 : v_14.toInt = v_13.toInt + 3 := by rw [ev_14]; exact k_addv rfl zl_3 (by omega) (by omega)
    refine k_iald (v := (c0 v_14.toNatClampNeg)) hx hb hK hP 0 0 rfl rfl (k_in (by omega) (by omega)) rfl dX3_get_28 ?_
    refine lv_topi (fun v_15 ev_15 => ?_)
    have lo_v_15 := k_lo v_15
    have hi_v_15 := k_hi v_15
    have tv_15 : v_15.toInt = (c0 v_14.toNatClampNeg).toInt := by rw [ev_15]
    refine lv_goto (tgt := 33) hx hb dX3_get_29 (by decide +kernel) ?_
    exact hRet () [1, 0] (PTR.rd pre0 (by omega) (by omega) (by omega) ev_15 (by omega)) hP hD (by decide +kernel) rfl hS rfl dX3_get_33
  · exfalso; omega

set_option maxHeartbeats 4000000 in
set_option maxRecDepth 100000 in
theorem c_X3_setD3 (l : Launch) (D : va_G) (cI : ClassId) (aK aV : Nat → Nat) (k k0 : Nat) (sz : Nat) (c1 : Int32) (c0 : Nat → Int32) (gx : Nat → Int32) (a0 : Int32) (a1 : Int32) (a2 : Int32) (pre0 : PTR c0 c1 gx) (pre1 : 0 ≤ a0.toInt) (pre2 : a0.toInt < c1.toInt) (pre3 : a1 = 3) : Met l yX3_set (gW yX3_set cX3_set 4 none) ({ frames := 1, cells := 0, slots := 0, locals := 21 } : Room) (kPreX D cI aK aV [.ref k, .int a0, .int 3, .int a2] [(k, .inr (3, [.ref k0, .int c1])), (k0, .inl (cI, 36, .inl c0))] sz) (va_Qv (fun (u : (Nat → Int32)) => PTR u c1 (upd gx (459 + 9 * a0.toInt.toNat + 3) a2)) (fun u t => kWd D cI (va_A [(k, .inr (3, [.ref k0, .int c1])), (k0, .inl (cI, 36, .inl c0))] sz) [(k, .inr (3, [.ref k0, .int c1])), (k0, .inl (cI, 36, .inl u))] t) (va_A [(k, .inr (3, [.ref k0, .int c1])), (k0, .inl (cI, 36, .inl c0))] sz)) 0 0 (va_A [(k, .inr (3, [.ref k0, .int c1])), (k0, .inl (cI, 36, .inl c0))] sz) := by
  refine kMetVX (own := RX3) (by decide +kernel) rfl (Nat.le_of_ble_eq_true rfl) ?_
  intro p e s m args below meth c hx hb hT hown hname hml A Q hK hP hD hS hA hN hXS hRet ls hl
  subst pre3
  have hl : lv_has ls 4 [(0, .ref k), (1, .int a0), (2, .int 3), (3, .int a2)] := hl
  have lo_a0 := k_lo a0
  have hi_a0 := k_hi a0
  have lo_c1 := k_lo c1
  have hi_c1 := k_hi c1
  have pre0 : PTR c0 c1 gx := pre0
  have b_1 : 0 ≤ c1.toInt ∧ c1.toInt ≤ 4 := (pre0).2.1
  have t_2 : c1.toInt = (gx 2).toInt := PTR.nt pre0
  refine lv_aload_n hx hb dX3_set_0 rfl (lv_at hl 0 rfl) ?_
  refine lv_iload_n hx hb dX3_set_1 rfl (lv_at hl 1 rfl) ?_
  refine kJi (wr := [(k0, .inl (cI, 36, .inl c0))]) (va_runV (As := [.int a0]) (rest := []) ⟨hx, hb, hml, hown, hT⟩ (c_X3_hasG l D cI aK aV k k0 s.heap.size c1 a0) (cwV 1 hT (gV_in mw_717 mw_714 mw_715 mw_716 mw_4) rfl rfl rfl (by decide +kernel) ⟨Nat.le_of_ble_eq_true rfl, Nat.le_of_ble_eq_true rfl⟩) (kRecvX (q0 := 0) (ci := 3) hK hP hD hN hXS hS hA rfl rfl [0] rfl (by decide +kernel)) rfl rfl hl.1 rfl (lv_room (Nat.le_of_ble_eq_true rfl)) dX3_set_2 ⟨Nat.le_of_ble_eq_true rfl, Nat.le_of_ble_eq_true rfl⟩) hP hD hS hA [0] [1] rfl rfl (by decide +kernel) (by decide +kernel) ?_
  clear hP hD hS
  intro r_3 u_5 H locs w_4 hP hD hS
  replace hP : va_P D vwCl [(k0, .inl (cI, 36, .inl c0)), (k, .inr (3, [.ref k0, .int c1]))] H := hP
  replace hD : va_D A [(k0, .inl (cI, 36, .inl c0)), (k, .inr (3, [.ref k0, .int c1]))] := hD
  rcases w_4 with ⟨hr_3, h_6, h_7, h_8⟩ | ⟨hr_3, h_9⟩
  · have h_6 : 0 ≤ a0.toInt := h_6
    have h_7 : a0.toInt < c1.toInt := h_7
    have h_8 : a0.toInt < 4 := h_8
    obtain rfl : r_3 = 1 := hr_3.trans (by decide +kernel)
    refine b_if_eq hx hb zl_1 (tgt := 30) dX3_set_5 (by decide +kernel) (fun c_10 => by exfalso; omega) (fun c_10 => ?_)
    refine lv_iload_n hx hb dX3_set_8 rfl (lv_at hl 2 rfl) ?_
    refine b_if_lt hx hb zl_3 (tgt := 30) dX3_set_9 (by decide +kernel) (fun c_11 => by exfalso; omega) (fun c_11 => ?_)
    refine lv_iload_n hx hb dX3_set_12 rfl (lv_at hl 2 rfl) ?_
    refine lv_bipush (v := 9) hx hb dX3_set_13 (by decide +kernel) ?_
    refine b_icmp_ge hx hb zl_3 zl_9 (tgt := 30) dX3_set_15 (by decide +kernel) (fun c_12 => by exfalso; omega) (fun c_12 => ?_)
    refine lv_aload_n hx hb dX3_set_18 rfl (lv_at hl 0 rfl) ?_
    refine va_get (D := D) (ci := 3) (v := .ref k0) (C := RX3) (T := TX3) (N := 2) hx hb hT giX3 hown hK hP 1 rfl rfl 0 (by decide +kernel) (hT (Cond.fieldLink RX3 9 "DesertWire$Parties" "facts" "[I") mw_80) (fun _ h9 => h9) rfl dX3_set_19 ?_
    refine lv_iload_n hx hb dX3_set_22 rfl (lv_at hl 1 rfl) ?_
    refine lv_bipush (v := 9) hx hb dX3_set_23 (by decide +kernel) ?_
    refine lv_imul hx hb dX3_set_25 ?_
    refine lv_topi (fun v_13 ev_13 => ?_)
    have tv_13 : v_13.toInt = a0.toInt * 9 := by rw [ev_13]; exact k_mulv rfl zl_9 (by omega) (by omega)
    refine lv_iload_n hx hb dX3_set_26 rfl (lv_at hl 2 rfl) ?_
    refine lv_iadd hx hb dX3_set_27 ?_
    refine lv_topi (fun v_14 ev_14 => ?_)
    have tv_14 : v_14.toInt = v_13.toInt + 3 := by rw [ev_14]; exact k_addv rfl zl_3 (by omega) (by omega)
    refine lv_iload_n hx hb dX3_set_28 rfl (lv_at hl 3 rfl) ?_
    refine va_iast hx hb hK hP hD hS 0 0 rfl rfl (k_in (by omega) (by omega)) dX3_set_29 ?_
    clear hP hD hS
    intro H locs hP hD hS
    replace hP : va_P D vwCl [(k0, .inl (cI, 36, .inl (upd c0 v_14.toNatClampNeg a2))), (k, .inr (3, [.ref k0, .int c1]))] H := hP
    replace hD : va_D A [(k0, .inl (cI, 36, .inl (upd c0 v_14.toNatClampNeg a2))), (k, .inr (3, [.ref k0, .int c1]))] := hD
    obtain ⟨f_15, ef_15⟩ : ∃ g : Nat → Int32, g = upd c0 v_14.toNatClampNeg a2 := ⟨_, rfl⟩
    rw [← ef_15] at hP hD
    exact hRet f_15 [1, 0] (PTR.put pre0 (by omega) (by omega) (by omega) ef_15 (by omega)) hP hD (by decide +kernel) rfl hS dX3_set_30
  · exfalso; omega

set_option maxHeartbeats 4000000 in
set_option maxRecDepth 100000 in
theorem c_X3_getD4 (l : Launch) (D : va_G) (cI : ClassId) (aK aV : Nat → Nat) (k k0 : Nat) (sz : Nat) (c1 : Int32) (c0 : Nat → Int32) (gx : Nat → Int32) (a0 : Int32) (a1 : Int32) (pre0 : PTR c0 c1 gx) (pre1 : 0 ≤ a0.toInt) (pre2 : a0.toInt < c1.toInt) (pre3 : a1 = 4) : Met l yX3_get (gW yX3_get cX3_get 3 (some .int)) ({ frames := 1, cells := 0, slots := 0, locals := 21 } : Room) (kPreX D cI aK aV [.ref k, .int a0, .int 4] [(k, .inr (3, [.ref k0, .int c1])), (k0, .inl (cI, 36, .inl c0))] sz) (va_Qi (fun (r : Int32) (u : Unit) => r = pW gx a0 4) (fun u t => kWd D cI (va_A [(k, .inr (3, [.ref k0, .int c1])), (k0, .inl (cI, 36, .inl c0))] sz) [(k, .inr (3, [.ref k0, .int c1])), (k0, .inl (cI, 36, .inl c0))] t) (va_A [(k, .inr (3, [.ref k0, .int c1])), (k0, .inl (cI, 36, .inl c0))] sz)) 0 0 (va_A [(k, .inr (3, [.ref k0, .int c1])), (k0, .inl (cI, 36, .inl c0))] sz) := by
  refine kMetIX (own := RX3) (by decide +kernel) rfl (Nat.le_of_ble_eq_true rfl) ?_
  intro p e s m args below meth c hx hb hT hown hname hml A Q hK hP hD hS hA hN hXS hRet ls hl
  subst pre3
  have hl : lv_has ls 3 [(0, .ref k), (1, .int a0), (2, .int 4)] := hl
  have lo_a0 := k_lo a0
  have hi_a0 := k_hi a0
  have lo_c1 := k_lo c1
  have hi_c1 := k_hi c1
  have pre0 : PTR c0 c1 gx := pre0
  have b_1 : 0 ≤ c1.toInt ∧ c1.toInt ≤ 4 := (pre0).2.1
  have t_2 : c1.toInt = (gx 2).toInt := PTR.nt pre0
  refine lv_aload_n hx hb dX3_get_0 rfl (lv_at hl 0 rfl) ?_
  refine lv_iload_n hx hb dX3_get_1 rfl (lv_at hl 1 rfl) ?_
  refine kJi (wr := [(k0, .inl (cI, 36, .inl c0))]) (va_runV (As := [.int a0]) (rest := []) ⟨hx, hb, hml, hown, hT⟩ (c_X3_hasG l D cI aK aV k k0 s.heap.size c1 a0) (cwV 1 hT (gV_in mw_717 mw_714 mw_715 mw_716 mw_4) rfl rfl rfl (by decide +kernel) ⟨Nat.le_of_ble_eq_true rfl, Nat.le_of_ble_eq_true rfl⟩) (kRecvX (q0 := 0) (ci := 3) hK hP hD hN hXS hS hA rfl rfl [0] rfl (by decide +kernel)) rfl rfl hl.1 rfl (lv_room (Nat.le_of_ble_eq_true rfl)) dX3_get_2 ⟨Nat.le_of_ble_eq_true rfl, Nat.le_of_ble_eq_true rfl⟩) hP hD hS hA [0] [1] rfl rfl (by decide +kernel) (by decide +kernel) ?_
  clear hP hD hS
  intro r_3 u_5 H locs w_4 hP hD hS
  replace hP : va_P D vwCl [(k0, .inl (cI, 36, .inl c0)), (k, .inr (3, [.ref k0, .int c1]))] H := hP
  replace hD : va_D A [(k0, .inl (cI, 36, .inl c0)), (k, .inr (3, [.ref k0, .int c1]))] := hD
  rcases w_4 with ⟨hr_3, h_6, h_7, h_8⟩ | ⟨hr_3, h_9⟩
  · have h_6 : 0 ≤ a0.toInt := h_6
    have h_7 : a0.toInt < c1.toInt := h_7
    have h_8 : a0.toInt < 4 := h_8
    obtain rfl : r_3 = 1 := hr_3.trans (by decide +kernel)
    refine b_if_eq hx hb zl_1 (tgt := 32) dX3_get_5 (by decide +kernel) (fun c_10 => by exfalso; omega) (fun c_10 => ?_)
    refine lv_iload_n hx hb dX3_get_8 rfl (lv_at hl 2 rfl) ?_
    refine b_if_lt hx hb zl_4 (tgt := 32) dX3_get_9 (by decide +kernel) (fun c_11 => by exfalso; omega) (fun c_11 => ?_)
    refine lv_iload_n hx hb dX3_get_12 rfl (lv_at hl 2 rfl) ?_
    refine lv_bipush (v := 9) hx hb dX3_get_13 (by decide +kernel) ?_
    refine b_icmp_ge hx hb zl_4 zl_9 (tgt := 32) dX3_get_15 (by decide +kernel) (fun c_12 => by exfalso; omega) (fun c_12 => ?_)
    refine lv_aload_n hx hb dX3_get_18 rfl (lv_at hl 0 rfl) ?_
    refine va_get (D := D) (ci := 3) (v := .ref k0) (C := RX3) (T := TX3) (N := 2) hx hb hT giX3 hown hK hP 1 rfl rfl 0 (by decide +kernel) (hT (Cond.fieldLink RX3 9 "DesertWire$Parties" "facts" "[I") mw_80) (fun _ h9 => h9) rfl dX3_get_19 ?_
    refine lv_iload_n hx hb dX3_get_22 rfl (lv_at hl 1 rfl) ?_
    refine lv_bipush (v := 9) hx hb dX3_get_23 (by decide +kernel) ?_
    refine lv_imul hx hb dX3_get_25 ?_
    refine lv_topi (fun v_13 ev_13 => ?_)
    have tv_13 : v_13.toInt = a0.toInt * 9 := by rw [ev_13]; exact k_mulv rfl zl_9 (by omega) (by omega)
    refine lv_iload_n hx hb dX3_get_26 rfl (lv_at hl 2 rfl) ?_
    refine lv_iadd hx hb dX3_get_27 ?_
    refine lv_topi (fun v_14 ev_14 => ?_)
    have tv_14 : v_14.toInt = v_13.toInt + 4 := by rw [ev_14]; exact k_addv rfl zl_4 (by omega) (by omega)
    refine k_iald (v := (c0 v_14.toNatClampNeg)) hx hb hK hP 0 0 rfl rfl (k_in (by omega) (by omega)) rfl dX3_get_28 ?_
    refine lv_topi (fun v_15 ev_15 => ?_)
    have lo_v_15 := k_lo v_15
    have hi_v_15 := k_hi v_15
    have tv_15 : v_15.toInt = (c0 v_14.toNatClampNeg).toInt := by rw [ev_15]
    refine lv_goto (tgt := 33) hx hb dX3_get_29 (by decide +kernel) ?_
    exact hRet () [1, 0] (PTR.rd pre0 (by omega) (by omega) (by omega) ev_15 (by omega)) hP hD (by decide +kernel) rfl hS rfl dX3_get_33
  · exfalso; omega

set_option maxHeartbeats 4000000 in
set_option maxRecDepth 100000 in
theorem c_X3_setD4 (l : Launch) (D : va_G) (cI : ClassId) (aK aV : Nat → Nat) (k k0 : Nat) (sz : Nat) (c1 : Int32) (c0 : Nat → Int32) (gx : Nat → Int32) (a0 : Int32) (a1 : Int32) (a2 : Int32) (pre0 : PTR c0 c1 gx) (pre1 : 0 ≤ a0.toInt) (pre2 : a0.toInt < c1.toInt) (pre3 : a1 = 4) : Met l yX3_set (gW yX3_set cX3_set 4 none) ({ frames := 1, cells := 0, slots := 0, locals := 21 } : Room) (kPreX D cI aK aV [.ref k, .int a0, .int 4, .int a2] [(k, .inr (3, [.ref k0, .int c1])), (k0, .inl (cI, 36, .inl c0))] sz) (va_Qv (fun (u : (Nat → Int32)) => PTR u c1 (upd gx (459 + 9 * a0.toInt.toNat + 4) a2)) (fun u t => kWd D cI (va_A [(k, .inr (3, [.ref k0, .int c1])), (k0, .inl (cI, 36, .inl c0))] sz) [(k, .inr (3, [.ref k0, .int c1])), (k0, .inl (cI, 36, .inl u))] t) (va_A [(k, .inr (3, [.ref k0, .int c1])), (k0, .inl (cI, 36, .inl c0))] sz)) 0 0 (va_A [(k, .inr (3, [.ref k0, .int c1])), (k0, .inl (cI, 36, .inl c0))] sz) := by
  refine kMetVX (own := RX3) (by decide +kernel) rfl (Nat.le_of_ble_eq_true rfl) ?_
  intro p e s m args below meth c hx hb hT hown hname hml A Q hK hP hD hS hA hN hXS hRet ls hl
  subst pre3
  have hl : lv_has ls 4 [(0, .ref k), (1, .int a0), (2, .int 4), (3, .int a2)] := hl
  have lo_a0 := k_lo a0
  have hi_a0 := k_hi a0
  have lo_c1 := k_lo c1
  have hi_c1 := k_hi c1
  have pre0 : PTR c0 c1 gx := pre0
  have b_1 : 0 ≤ c1.toInt ∧ c1.toInt ≤ 4 := (pre0).2.1
  have t_2 : c1.toInt = (gx 2).toInt := PTR.nt pre0
  refine lv_aload_n hx hb dX3_set_0 rfl (lv_at hl 0 rfl) ?_
  refine lv_iload_n hx hb dX3_set_1 rfl (lv_at hl 1 rfl) ?_
  refine kJi (wr := [(k0, .inl (cI, 36, .inl c0))]) (va_runV (As := [.int a0]) (rest := []) ⟨hx, hb, hml, hown, hT⟩ (c_X3_hasG l D cI aK aV k k0 s.heap.size c1 a0) (cwV 1 hT (gV_in mw_717 mw_714 mw_715 mw_716 mw_4) rfl rfl rfl (by decide +kernel) ⟨Nat.le_of_ble_eq_true rfl, Nat.le_of_ble_eq_true rfl⟩) (kRecvX (q0 := 0) (ci := 3) hK hP hD hN hXS hS hA rfl rfl [0] rfl (by decide +kernel)) rfl rfl hl.1 rfl (lv_room (Nat.le_of_ble_eq_true rfl)) dX3_set_2 ⟨Nat.le_of_ble_eq_true rfl, Nat.le_of_ble_eq_true rfl⟩) hP hD hS hA [0] [1] rfl rfl (by decide +kernel) (by decide +kernel) ?_
  clear hP hD hS
  intro r_3 u_5 H locs w_4 hP hD hS
  replace hP : va_P D vwCl [(k0, .inl (cI, 36, .inl c0)), (k, .inr (3, [.ref k0, .int c1]))] H := hP
  replace hD : va_D A [(k0, .inl (cI, 36, .inl c0)), (k, .inr (3, [.ref k0, .int c1]))] := hD
  rcases w_4 with ⟨hr_3, h_6, h_7, h_8⟩ | ⟨hr_3, h_9⟩
  · have h_6 : 0 ≤ a0.toInt := h_6
    have h_7 : a0.toInt < c1.toInt := h_7
    have h_8 : a0.toInt < 4 := h_8
    obtain rfl : r_3 = 1 := hr_3.trans (by decide +kernel)
    refine b_if_eq hx hb zl_1 (tgt := 30) dX3_set_5 (by decide +kernel) (fun c_10 => by exfalso; omega) (fun c_10 => ?_)
    refine lv_iload_n hx hb dX3_set_8 rfl (lv_at hl 2 rfl) ?_
    refine b_if_lt hx hb zl_4 (tgt := 30) dX3_set_9 (by decide +kernel) (fun c_11 => by exfalso; omega) (fun c_11 => ?_)
    refine lv_iload_n hx hb dX3_set_12 rfl (lv_at hl 2 rfl) ?_
    refine lv_bipush (v := 9) hx hb dX3_set_13 (by decide +kernel) ?_
    refine b_icmp_ge hx hb zl_4 zl_9 (tgt := 30) dX3_set_15 (by decide +kernel) (fun c_12 => by exfalso; omega) (fun c_12 => ?_)
    refine lv_aload_n hx hb dX3_set_18 rfl (lv_at hl 0 rfl) ?_
    refine va_get (D := D) (ci := 3) (v := .ref k0) (C := RX3) (T := TX3) (N := 2) hx hb hT giX3 hown hK hP 1 rfl rfl 0 (by decide +kernel) (hT (Cond.fieldLink RX3 9 "DesertWire$Parties" "facts" "[I") mw_80) (fun _ h9 => h9) rfl dX3_set_19 ?_
    refine lv_iload_n hx hb dX3_set_22 rfl (lv_at hl 1 rfl) ?_
    refine lv_bipush (v := 9) hx hb dX3_set_23 (by decide +kernel) ?_
    refine lv_imul hx hb dX3_set_25 ?_
    refine lv_topi (fun v_13 ev_13 => ?_)
    have tv_13 : v_13.toInt = a0.toInt * 9 := by rw [ev_13]; exact k_mulv rfl zl_9 (by omega) (by omega)
    refine lv_iload_n hx hb dX3_set_26 rfl (lv_at hl 2 rfl) ?_
    refine lv_iadd hx hb dX3_set_27 ?_
    refine lv_topi (fun v_14 ev_14 => ?_)
    have tv_14 : v_14.toInt = v_13.toInt + 4 := by rw [ev_14]; exact k_addv rfl zl_4 (by omega) (by omega)
    refine lv_iload_n hx hb dX3_set_28 rfl (lv_at hl 3 rfl) ?_
    refine va_iast hx hb hK hP hD hS 0 0 rfl rfl (k_in (by omega) (by omega)) dX3_set_29 ?_
    clear hP hD hS
    intro H locs hP hD hS
    replace hP : va_P D vwCl [(k0, .inl (cI, 36, .inl (upd c0 v_14.toNatClampNeg a2))), (k, .inr (3, [.ref k0, .int c1]))] H := hP
    replace hD : va_D A [(k0, .inl (cI, 36, .inl (upd c0 v_14.toNatClampNeg a2))), (k, .inr (3, [.ref k0, .int c1]))] := hD
    obtain ⟨f_15, ef_15⟩ : ∃ g : Nat → Int32, g = upd c0 v_14.toNatClampNeg a2 := ⟨_, rfl⟩
    rw [← ef_15] at hP hD
    exact hRet f_15 [1, 0] (PTR.put pre0 (by omega) (by omega) (by omega) ef_15 (by omega)) hP hD (by decide +kernel) rfl hS dX3_set_30
  · exfalso; omega

set_option maxHeartbeats 4000000 in
set_option maxRecDepth 100000 in
theorem c_X3_getD5 (l : Launch) (D : va_G) (cI : ClassId) (aK aV : Nat → Nat) (k k0 : Nat) (sz : Nat) (c1 : Int32) (c0 : Nat → Int32) (gx : Nat → Int32) (a0 : Int32) (a1 : Int32) (pre0 : PTR c0 c1 gx) (pre1 : 0 ≤ a0.toInt) (pre2 : a0.toInt < c1.toInt) (pre3 : a1 = 5) : Met l yX3_get (gW yX3_get cX3_get 3 (some .int)) ({ frames := 1, cells := 0, slots := 0, locals := 21 } : Room) (kPreX D cI aK aV [.ref k, .int a0, .int 5] [(k, .inr (3, [.ref k0, .int c1])), (k0, .inl (cI, 36, .inl c0))] sz) (va_Qi (fun (r : Int32) (u : Unit) => r = pW gx a0 5) (fun u t => kWd D cI (va_A [(k, .inr (3, [.ref k0, .int c1])), (k0, .inl (cI, 36, .inl c0))] sz) [(k, .inr (3, [.ref k0, .int c1])), (k0, .inl (cI, 36, .inl c0))] t) (va_A [(k, .inr (3, [.ref k0, .int c1])), (k0, .inl (cI, 36, .inl c0))] sz)) 0 0 (va_A [(k, .inr (3, [.ref k0, .int c1])), (k0, .inl (cI, 36, .inl c0))] sz) := by
  refine kMetIX (own := RX3) (by decide +kernel) rfl (Nat.le_of_ble_eq_true rfl) ?_
  intro p e s m args below meth c hx hb hT hown hname hml A Q hK hP hD hS hA hN hXS hRet ls hl
  subst pre3
  have hl : lv_has ls 3 [(0, .ref k), (1, .int a0), (2, .int 5)] := hl
  have lo_a0 := k_lo a0
  have hi_a0 := k_hi a0
  have lo_c1 := k_lo c1
  have hi_c1 := k_hi c1
  have pre0 : PTR c0 c1 gx := pre0
  have b_1 : 0 ≤ c1.toInt ∧ c1.toInt ≤ 4 := (pre0).2.1
  have t_2 : c1.toInt = (gx 2).toInt := PTR.nt pre0
  refine lv_aload_n hx hb dX3_get_0 rfl (lv_at hl 0 rfl) ?_
  refine lv_iload_n hx hb dX3_get_1 rfl (lv_at hl 1 rfl) ?_
  refine kJi (wr := [(k0, .inl (cI, 36, .inl c0))]) (va_runV (As := [.int a0]) (rest := []) ⟨hx, hb, hml, hown, hT⟩ (c_X3_hasG l D cI aK aV k k0 s.heap.size c1 a0) (cwV 1 hT (gV_in mw_717 mw_714 mw_715 mw_716 mw_4) rfl rfl rfl (by decide +kernel) ⟨Nat.le_of_ble_eq_true rfl, Nat.le_of_ble_eq_true rfl⟩) (kRecvX (q0 := 0) (ci := 3) hK hP hD hN hXS hS hA rfl rfl [0] rfl (by decide +kernel)) rfl rfl hl.1 rfl (lv_room (Nat.le_of_ble_eq_true rfl)) dX3_get_2 ⟨Nat.le_of_ble_eq_true rfl, Nat.le_of_ble_eq_true rfl⟩) hP hD hS hA [0] [1] rfl rfl (by decide +kernel) (by decide +kernel) ?_
  clear hP hD hS
  intro r_3 u_5 H locs w_4 hP hD hS
  replace hP : va_P D vwCl [(k0, .inl (cI, 36, .inl c0)), (k, .inr (3, [.ref k0, .int c1]))] H := hP
  replace hD : va_D A [(k0, .inl (cI, 36, .inl c0)), (k, .inr (3, [.ref k0, .int c1]))] := hD
  rcases w_4 with ⟨hr_3, h_6, h_7, h_8⟩ | ⟨hr_3, h_9⟩
  · have h_6 : 0 ≤ a0.toInt := h_6
    have h_7 : a0.toInt < c1.toInt := h_7
    have h_8 : a0.toInt < 4 := h_8
    obtain rfl : r_3 = 1 := hr_3.trans (by decide +kernel)
    refine b_if_eq hx hb zl_1 (tgt := 32) dX3_get_5 (by decide +kernel) (fun c_10 => by exfalso; omega) (fun c_10 => ?_)
    refine lv_iload_n hx hb dX3_get_8 rfl (lv_at hl 2 rfl) ?_
    refine b_if_lt hx hb zl_5 (tgt := 32) dX3_get_9 (by decide +kernel) (fun c_11 => by exfalso; omega) (fun c_11 => ?_)
    refine lv_iload_n hx hb dX3_get_12 rfl (lv_at hl 2 rfl) ?_
    refine lv_bipush (v := 9) hx hb dX3_get_13 (by decide +kernel) ?_
    refine b_icmp_ge hx hb zl_5 zl_9 (tgt := 32) dX3_get_15 (by decide +kernel) (fun c_12 => by exfalso; omega) (fun c_12 => ?_)
    refine lv_aload_n hx hb dX3_get_18 rfl (lv_at hl 0 rfl) ?_
    refine va_get (D := D) (ci := 3) (v := .ref k0) (C := RX3) (T := TX3) (N := 2) hx hb hT giX3 hown hK hP 1 rfl rfl 0 (by decide +kernel) (hT (Cond.fieldLink RX3 9 "DesertWire$Parties" "facts" "[I") mw_80) (fun _ h9 => h9) rfl dX3_get_19 ?_
    refine lv_iload_n hx hb dX3_get_22 rfl (lv_at hl 1 rfl) ?_
    refine lv_bipush (v := 9) hx hb dX3_get_23 (by decide +kernel) ?_
    refine lv_imul hx hb dX3_get_25 ?_
    refine lv_topi (fun v_13 ev_13 => ?_)
    have tv_13 : v_13.toInt = a0.toInt * 9 := by rw [ev_13]; exact k_mulv rfl zl_9 (by omega) (by omega)
    refine lv_iload_n hx hb dX3_get_26 rfl (lv_at hl 2 rfl) ?_
    refine lv_iadd hx hb dX3_get_27 ?_
    refine lv_topi (fun v_14 ev_14 => ?_)
    have tv_14 : v_14.toInt = v_13.toInt + 5 := by rw [ev_14]; exact k_addv rfl zl_5 (by omega) (by omega)
    refine k_iald (v := (c0 v_14.toNatClampNeg)) hx hb hK hP 0 0 rfl rfl (k_in (by omega) (by omega)) rfl dX3_get_28 ?_
    refine lv_topi (fun v_15 ev_15 => ?_)
    have lo_v_15 := k_lo v_15
    have hi_v_15 := k_hi v_15
    have tv_15 : v_15.toInt = (c0 v_14.toNatClampNeg).toInt := by rw [ev_15]
    refine lv_goto (tgt := 33) hx hb dX3_get_29 (by decide +kernel) ?_
    exact hRet () [1, 0] (PTR.rd pre0 (by omega) (by omega) (by omega) ev_15 (by omega)) hP hD (by decide +kernel) rfl hS rfl dX3_get_33
  · exfalso; omega

set_option maxHeartbeats 4000000 in
set_option maxRecDepth 100000 in
theorem c_X3_setD5 (l : Launch) (D : va_G) (cI : ClassId) (aK aV : Nat → Nat) (k k0 : Nat) (sz : Nat) (c1 : Int32) (c0 : Nat → Int32) (gx : Nat → Int32) (a0 : Int32) (a1 : Int32) (a2 : Int32) (pre0 : PTR c0 c1 gx) (pre1 : 0 ≤ a0.toInt) (pre2 : a0.toInt < c1.toInt) (pre3 : a1 = 5) : Met l yX3_set (gW yX3_set cX3_set 4 none) ({ frames := 1, cells := 0, slots := 0, locals := 21 } : Room) (kPreX D cI aK aV [.ref k, .int a0, .int 5, .int a2] [(k, .inr (3, [.ref k0, .int c1])), (k0, .inl (cI, 36, .inl c0))] sz) (va_Qv (fun (u : (Nat → Int32)) => PTR u c1 (upd gx (459 + 9 * a0.toInt.toNat + 5) a2)) (fun u t => kWd D cI (va_A [(k, .inr (3, [.ref k0, .int c1])), (k0, .inl (cI, 36, .inl c0))] sz) [(k, .inr (3, [.ref k0, .int c1])), (k0, .inl (cI, 36, .inl u))] t) (va_A [(k, .inr (3, [.ref k0, .int c1])), (k0, .inl (cI, 36, .inl c0))] sz)) 0 0 (va_A [(k, .inr (3, [.ref k0, .int c1])), (k0, .inl (cI, 36, .inl c0))] sz) := by
  refine kMetVX (own := RX3) (by decide +kernel) rfl (Nat.le_of_ble_eq_true rfl) ?_
  intro p e s m args below meth c hx hb hT hown hname hml A Q hK hP hD hS hA hN hXS hRet ls hl
  subst pre3
  have hl : lv_has ls 4 [(0, .ref k), (1, .int a0), (2, .int 5), (3, .int a2)] := hl
  have lo_a0 := k_lo a0
  have hi_a0 := k_hi a0
  have lo_c1 := k_lo c1
  have hi_c1 := k_hi c1
  have pre0 : PTR c0 c1 gx := pre0
  have b_1 : 0 ≤ c1.toInt ∧ c1.toInt ≤ 4 := (pre0).2.1
  have t_2 : c1.toInt = (gx 2).toInt := PTR.nt pre0
  refine lv_aload_n hx hb dX3_set_0 rfl (lv_at hl 0 rfl) ?_
  refine lv_iload_n hx hb dX3_set_1 rfl (lv_at hl 1 rfl) ?_
  refine kJi (wr := [(k0, .inl (cI, 36, .inl c0))]) (va_runV (As := [.int a0]) (rest := []) ⟨hx, hb, hml, hown, hT⟩ (c_X3_hasG l D cI aK aV k k0 s.heap.size c1 a0) (cwV 1 hT (gV_in mw_717 mw_714 mw_715 mw_716 mw_4) rfl rfl rfl (by decide +kernel) ⟨Nat.le_of_ble_eq_true rfl, Nat.le_of_ble_eq_true rfl⟩) (kRecvX (q0 := 0) (ci := 3) hK hP hD hN hXS hS hA rfl rfl [0] rfl (by decide +kernel)) rfl rfl hl.1 rfl (lv_room (Nat.le_of_ble_eq_true rfl)) dX3_set_2 ⟨Nat.le_of_ble_eq_true rfl, Nat.le_of_ble_eq_true rfl⟩) hP hD hS hA [0] [1] rfl rfl (by decide +kernel) (by decide +kernel) ?_
  clear hP hD hS
  intro r_3 u_5 H locs w_4 hP hD hS
  replace hP : va_P D vwCl [(k0, .inl (cI, 36, .inl c0)), (k, .inr (3, [.ref k0, .int c1]))] H := hP
  replace hD : va_D A [(k0, .inl (cI, 36, .inl c0)), (k, .inr (3, [.ref k0, .int c1]))] := hD
  rcases w_4 with ⟨hr_3, h_6, h_7, h_8⟩ | ⟨hr_3, h_9⟩
  · have h_6 : 0 ≤ a0.toInt := h_6
    have h_7 : a0.toInt < c1.toInt := h_7
    have h_8 : a0.toInt < 4 := h_8
    obtain rfl : r_3 = 1 := hr_3.trans (by decide +kernel)
    refine b_if_eq hx hb zl_1 (tgt := 30) dX3_set_5 (by decide +kernel) (fun c_10 => by exfalso; omega) (fun c_10 => ?_)
    refine lv_iload_n hx hb dX3_set_8 rfl (lv_at hl 2 rfl) ?_
    refine b_if_lt hx hb zl_5 (tgt := 30) dX3_set_9 (by decide +kernel) (fun c_11 => by exfalso; omega) (fun c_11 => ?_)
    refine lv_iload_n hx hb dX3_set_12 rfl (lv_at hl 2 rfl) ?_
    refine lv_bipush (v := 9) hx hb dX3_set_13 (by decide +kernel) ?_
    refine b_icmp_ge hx hb zl_5 zl_9 (tgt := 30) dX3_set_15 (by decide +kernel) (fun c_12 => by exfalso; omega) (fun c_12 => ?_)
    refine lv_aload_n hx hb dX3_set_18 rfl (lv_at hl 0 rfl) ?_
    refine va_get (D := D) (ci := 3) (v := .ref k0) (C := RX3) (T := TX3) (N := 2) hx hb hT giX3 hown hK hP 1 rfl rfl 0 (by decide +kernel) (hT (Cond.fieldLink RX3 9 "DesertWire$Parties" "facts" "[I") mw_80) (fun _ h9 => h9) rfl dX3_set_19 ?_
    refine lv_iload_n hx hb dX3_set_22 rfl (lv_at hl 1 rfl) ?_
    refine lv_bipush (v := 9) hx hb dX3_set_23 (by decide +kernel) ?_
    refine lv_imul hx hb dX3_set_25 ?_
    refine lv_topi (fun v_13 ev_13 => ?_)
    have tv_13 : v_13.toInt = a0.toInt * 9 := by rw [ev_13]; exact k_mulv rfl zl_9 (by omega) (by omega)
    refine lv_iload_n hx hb dX3_set_26 rfl (lv_at hl 2 rfl) ?_
    refine lv_iadd hx hb dX3_set_27 ?_
    refine lv_topi (fun v_14 ev_14 => ?_)
    have tv_14 : v_14.toInt = v_13.toInt + 5 := by rw [ev_14]; exact k_addv rfl zl_5 (by omega) (by omega)
    refine lv_iload_n hx hb dX3_set_28 rfl (lv_at hl 3 rfl) ?_
    refine va_iast hx hb hK hP hD hS 0 0 rfl rfl (k_in (by omega) (by omega)) dX3_set_29 ?_
    clear hP hD hS
    intro H locs hP hD hS
    replace hP : va_P D vwCl [(k0, .inl (cI, 36, .inl (upd c0 v_14.toNatClampNeg a2))), (k, .inr (3, [.ref k0, .int c1]))] H := hP
    replace hD : va_D A [(k0, .inl (cI, 36, .inl (upd c0 v_14.toNatClampNeg a2))), (k, .inr (3, [.ref k0, .int c1]))] := hD
    obtain ⟨f_15, ef_15⟩ : ∃ g : Nat → Int32, g = upd c0 v_14.toNatClampNeg a2 := ⟨_, rfl⟩
    rw [← ef_15] at hP hD
    exact hRet f_15 [1, 0] (PTR.put pre0 (by omega) (by omega) (by omega) ef_15 (by omega)) hP hD (by decide +kernel) rfl hS dX3_set_30
  · exfalso; omega

set_option maxHeartbeats 4000000 in
set_option maxRecDepth 100000 in
theorem c_X3_getD6 (l : Launch) (D : va_G) (cI : ClassId) (aK aV : Nat → Nat) (k k0 : Nat) (sz : Nat) (c1 : Int32) (c0 : Nat → Int32) (gx : Nat → Int32) (a0 : Int32) (a1 : Int32) (pre0 : PTR c0 c1 gx) (pre1 : 0 ≤ a0.toInt) (pre2 : a0.toInt < c1.toInt) (pre3 : a1 = 6) : Met l yX3_get (gW yX3_get cX3_get 3 (some .int)) ({ frames := 1, cells := 0, slots := 0, locals := 21 } : Room) (kPreX D cI aK aV [.ref k, .int a0, .int 6] [(k, .inr (3, [.ref k0, .int c1])), (k0, .inl (cI, 36, .inl c0))] sz) (va_Qi (fun (r : Int32) (u : Unit) => r = pW gx a0 6) (fun u t => kWd D cI (va_A [(k, .inr (3, [.ref k0, .int c1])), (k0, .inl (cI, 36, .inl c0))] sz) [(k, .inr (3, [.ref k0, .int c1])), (k0, .inl (cI, 36, .inl c0))] t) (va_A [(k, .inr (3, [.ref k0, .int c1])), (k0, .inl (cI, 36, .inl c0))] sz)) 0 0 (va_A [(k, .inr (3, [.ref k0, .int c1])), (k0, .inl (cI, 36, .inl c0))] sz) := by
  refine kMetIX (own := RX3) (by decide +kernel) rfl (Nat.le_of_ble_eq_true rfl) ?_
  intro p e s m args below meth c hx hb hT hown hname hml A Q hK hP hD hS hA hN hXS hRet ls hl
  subst pre3
  have hl : lv_has ls 3 [(0, .ref k), (1, .int a0), (2, .int 6)] := hl
  have lo_a0 := k_lo a0
  have hi_a0 := k_hi a0
  have lo_c1 := k_lo c1
  have hi_c1 := k_hi c1
  have pre0 : PTR c0 c1 gx := pre0
  have b_1 : 0 ≤ c1.toInt ∧ c1.toInt ≤ 4 := (pre0).2.1
  have t_2 : c1.toInt = (gx 2).toInt := PTR.nt pre0
  refine lv_aload_n hx hb dX3_get_0 rfl (lv_at hl 0 rfl) ?_
  refine lv_iload_n hx hb dX3_get_1 rfl (lv_at hl 1 rfl) ?_
  refine kJi (wr := [(k0, .inl (cI, 36, .inl c0))]) (va_runV (As := [.int a0]) (rest := []) ⟨hx, hb, hml, hown, hT⟩ (c_X3_hasG l D cI aK aV k k0 s.heap.size c1 a0) (cwV 1 hT (gV_in mw_717 mw_714 mw_715 mw_716 mw_4) rfl rfl rfl (by decide +kernel) ⟨Nat.le_of_ble_eq_true rfl, Nat.le_of_ble_eq_true rfl⟩) (kRecvX (q0 := 0) (ci := 3) hK hP hD hN hXS hS hA rfl rfl [0] rfl (by decide +kernel)) rfl rfl hl.1 rfl (lv_room (Nat.le_of_ble_eq_true rfl)) dX3_get_2 ⟨Nat.le_of_ble_eq_true rfl, Nat.le_of_ble_eq_true rfl⟩) hP hD hS hA [0] [1] rfl rfl (by decide +kernel) (by decide +kernel) ?_
  clear hP hD hS
  intro r_3 u_5 H locs w_4 hP hD hS
  replace hP : va_P D vwCl [(k0, .inl (cI, 36, .inl c0)), (k, .inr (3, [.ref k0, .int c1]))] H := hP
  replace hD : va_D A [(k0, .inl (cI, 36, .inl c0)), (k, .inr (3, [.ref k0, .int c1]))] := hD
  rcases w_4 with ⟨hr_3, h_6, h_7, h_8⟩ | ⟨hr_3, h_9⟩
  · have h_6 : 0 ≤ a0.toInt := h_6
    have h_7 : a0.toInt < c1.toInt := h_7
    have h_8 : a0.toInt < 4 := h_8
    obtain rfl : r_3 = 1 := hr_3.trans (by decide +kernel)
    refine b_if_eq hx hb zl_1 (tgt := 32) dX3_get_5 (by decide +kernel) (fun c_10 => by exfalso; omega) (fun c_10 => ?_)
    refine lv_iload_n hx hb dX3_get_8 rfl (lv_at hl 2 rfl) ?_
    refine b_if_lt hx hb zl_6 (tgt := 32) dX3_get_9 (by decide +kernel) (fun c_11 => by exfalso; omega) (fun c_11 => ?_)
    refine lv_iload_n hx hb dX3_get_12 rfl (lv_at hl 2 rfl) ?_
    refine lv_bipush (v := 9) hx hb dX3_get_13 (by decide +kernel) ?_
    refine b_icmp_ge hx hb zl_6 zl_9 (tgt := 32) dX3_get_15 (by decide +kernel) (fun c_12 => by exfalso; omega) (fun c_12 => ?_)
    refine lv_aload_n hx hb dX3_get_18 rfl (lv_at hl 0 rfl) ?_
    refine va_get (D := D) (ci := 3) (v := .ref k0) (C := RX3) (T := TX3) (N := 2) hx hb hT giX3 hown hK hP 1 rfl rfl 0 (by decide +kernel) (hT (Cond.fieldLink RX3 9 "DesertWire$Parties" "facts" "[I") mw_80) (fun _ h9 => h9) rfl dX3_get_19 ?_
    refine lv_iload_n hx hb dX3_get_22 rfl (lv_at hl 1 rfl) ?_
    refine lv_bipush (v := 9) hx hb dX3_get_23 (by decide +kernel) ?_
    refine lv_imul hx hb dX3_get_25 ?_
    refine lv_topi (fun v_13 ev_13 => ?_)
    have tv_13 : v_13.toInt = a0.toInt * 9 := by rw [ev_13]; exact k_mulv rfl zl_9 (by omega) (by omega)
    refine lv_iload_n hx hb dX3_get_26 rfl (lv_at hl 2 rfl) ?_
    refine lv_iadd hx hb dX3_get_27 ?_
    refine lv_topi (fun v_14 ev_14 => ?_)
    have tv_14 : v_14.toInt = v_13.toInt + 6 := by rw [ev_14]; exact k_addv rfl zl_6 (by omega) (by omega)
    refine k_iald (v := (c0 v_14.toNatClampNeg)) hx hb hK hP 0 0 rfl rfl (k_in (by omega) (by omega)) rfl dX3_get_28 ?_
    refine lv_topi (fun v_15 ev_15 => ?_)
    have lo_v_15 := k_lo v_15
    have hi_v_15 := k_hi v_15
    have tv_15 : v_15.toInt = (c0 v_14.toNatClampNeg).toInt := by rw [ev_15]
    refine lv_goto (tgt := 33) hx hb dX3_get_29 (by decide +kernel) ?_
    exact hRet () [1, 0] (PTR.rd pre0 (by omega) (by omega) (by omega) ev_15 (by omega)) hP hD (by decide +kernel) rfl hS rfl dX3_get_33
  · exfalso; omega
