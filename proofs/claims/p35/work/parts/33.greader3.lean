theorem dX5_valueFor_0 : decode cX5_valueFor 0 = .ok (.aload_n 0, 1) := by decide +kernel
theorem dX5_valueFor_1 : decode cX5_valueFor 1 = .ok (.iload_n 1, 1) := by decide +kernel
theorem dX5_valueFor_2 : decode cX5_valueFor 2 = .ok (.putfield 26, 3) := by decide +kernel
theorem dX5_valueFor_5 : decode cX5_valueFor 5 = .ok (.aload_n 0, 1) := by decide +kernel
theorem dX5_valueFor_6 : decode cX5_valueFor 6 = .ok (.iload_n 2, 1) := by decide +kernel
theorem dX5_valueFor_7 : decode cX5_valueFor 7 = .ok (.putfield 29, 3) := by decide +kernel
theorem dX5_valueFor_10 : decode cX5_valueFor 10 = .ok (.aload_n 0, 1) := by decide +kernel
theorem dX5_valueFor_11 : decode cX5_valueFor 11 = .ok (.iload_n 3, 1) := by decide +kernel
theorem dX5_valueFor_12 : decode cX5_valueFor 12 = .ok (.putfield 32, 3) := by decide +kernel
theorem dX5_valueFor_15 : decode cX5_valueFor 15 = .ok (.aload_n 0, 1) := by decide +kernel
theorem dX5_valueFor_16 : decode cX5_valueFor 16 = .ok (.iload 4, 2) := by decide +kernel
theorem dX5_valueFor_18 : decode cX5_valueFor 18 = .ok (.putfield 35, 3) := by decide +kernel
theorem dX5_valueFor_21 : decode cX5_valueFor 21 = .ok (.aload_n 0, 1) := by decide +kernel
theorem dX5_valueFor_22 : decode cX5_valueFor 22 = .ok (.iconst 0, 1) := by decide +kernel
theorem dX5_valueFor_23 : decode cX5_valueFor 23 = .ok (.putfield 19, 3) := by decide +kernel
theorem dX5_valueFor_26 : decode cX5_valueFor 26 = .ok (.aload_n 0, 1) := by decide +kernel
theorem dX5_valueFor_27 : decode cX5_valueFor 27 = .ok (.iconst 0, 1) := by decide +kernel
theorem dX5_valueFor_28 : decode cX5_valueFor 28 = .ok (.putfield 22, 3) := by decide +kernel
theorem dX5_valueFor_31 : decode cX5_valueFor 31 = .ok (.aload_n 0, 1) := by decide +kernel
theorem dX5_valueFor_32 : decode cX5_valueFor 32 = .ok (.iconst 0, 1) := by decide +kernel
theorem dX5_valueFor_33 : decode cX5_valueFor 33 = .ok (.invokevirtual 38, 3) := by decide +kernel
theorem dX5_valueFor_36 : decode cX5_valueFor 36 = .ok (.istore 5, 2) := by decide +kernel
theorem dX5_valueFor_38 : decode cX5_valueFor 38 = .ok (.aload_n 0, 1) := by decide +kernel
theorem dX5_valueFor_39 : decode cX5_valueFor 39 = .ok (.getfield 19, 3) := by decide +kernel
theorem dX5_valueFor_42 : decode cX5_valueFor 42 = .ok (.aload_n 0, 1) := by decide +kernel
theorem dX5_valueFor_43 : decode cX5_valueFor 43 = .ok (.getfield 15, 3) := by decide +kernel
theorem dX5_valueFor_46 : decode cX5_valueFor 46 = .ok (.if_icmp .ge 8, 3) := by decide +kernel
theorem dX5_valueFor_49 : decode cX5_valueFor 49 = .ok (.aload_n 0, 1) := by decide +kernel
theorem dX5_valueFor_50 : decode cX5_valueFor 50 = .ok (.iconst 1, 1) := by decide +kernel
theorem dX5_valueFor_51 : decode cX5_valueFor 51 = .ok (.putfield 22, 3) := by decide +kernel
theorem dX5_valueFor_54 : decode cX5_valueFor 54 = .ok (.iload 5, 2) := by decide +kernel
theorem dX5_valueFor_56 : decode cX5_valueFor 56 = .ok (.ireturn, 1) := by decide +kernel
set_option maxHeartbeats 4000000 in
set_option maxRecDepth 100000 in
theorem c_X5_valueForG (l : Launch) (D : va_G) (cI : ClassId) (aK aV : Nat → Nat) (k k0 : Nat) (sz : Nat) (c1 : Int32) (c2 : Int32) (c3 : Int32) (c4 : Int32) (c5 : Int32) (c6 : Int32) (c7 : Int32) (c0 : Nat → Int32) (a0 : Int32) (a1 : Int32) (a2 : Int32) (a3 : Int32) : Met l yX5_valueFor (gW yX5_valueFor cX5_valueFor 6 (some .int)) ({ frames := 39, cells := 0, slots := 0, locals := 944 } : Room) (kPreX D cI aK aV [.ref k, .int a0, .int a1, .int a2, .int a3] [(k, .inr (5, [.ref k0, .int c1, .int c2, .int c3, .int c4, .int c5, .int c6, .int c7])), (k0, .inl (cI, 50, .inl c0))] sz) (va_Qi (fun (r : Int32) (u : Int32 × Int32 × Int32 × Int32 × Int32 × Int32) => True) (fun u t => kWd D cI (va_A [(k, .inr (5, [.ref k0, .int c1, .int c2, .int c3, .int c4, .int c5, .int c6, .int c7])), (k0, .inl (cI, 50, .inl c0))] sz) [(k, .inr (5, [.ref k0, .int c1, .int u.1, .int u.2.1, .int u.2.2.1, .int u.2.2.2.1, .int u.2.2.2.2.1, .int u.2.2.2.2.2])), (k0, .inl (cI, 50, .inl c0))] t) (va_A [(k, .inr (5, [.ref k0, .int c1, .int c2, .int c3, .int c4, .int c5, .int c6, .int c7])), (k0, .inl (cI, 50, .inl c0))] sz)) 0 0 (va_A [(k, .inr (5, [.ref k0, .int c1, .int c2, .int c3, .int c4, .int c5, .int c6, .int c7])), (k0, .inl (cI, 50, .inl c0))] sz) := by
  refine kMetIX (own := RX5) (by decide) rfl (Nat.le_of_ble_eq_true rfl) ?_
  intro p e s m args below meth c hx hb hT hown hname hml A Q hK hP hD hS hA hN hXS hRet ls hl
  have hl : lv_has ls 6 [(0, .ref k), (1, .int a0), (2, .int a1), (3, .int a2), (4, .int a3)] := hl
  have lo_a0 := k_lo a0
  have hi_a0 := k_hi a0
  have lo_a1 := k_lo a1
  have hi_a1 := k_hi a1
  have lo_a2 := k_lo a2
  have hi_a2 := k_hi a2
  have lo_a3 := k_lo a3
  have hi_a3 := k_hi a3
  have lo_c1 := k_lo c1
  have hi_c1 := k_hi c1
  have lo_c2 := k_lo c2
  have hi_c2 := k_hi c2
  have lo_c3 := k_lo c3
  have hi_c3 := k_hi c3
  have lo_c4 := k_lo c4
  have hi_c4 := k_hi c4
  have lo_c5 := k_lo c5
  have hi_c5 := k_hi c5
  have lo_c6 := k_lo c6
  have hi_c6 := k_hi c6
  have lo_c7 := k_lo c7
  have hi_c7 := k_hi c7
  refine lv_aload_n hx hb dX5_valueFor_0 rfl (lv_at hl 0 rfl) ?_
  refine lv_iload_n hx hb dX5_valueFor_1 rfl (lv_at hl 1 rfl) ?_
  refine va_put (D := D) (ci := 5) (v := .int a0) (ty := .int) (C := RX5) (T := TX5) (N := 8) hx hb hT giX5 tyX5 tyX5_ok nmX5 hown hK hP hD hS 0 rfl rfl 4 (by decide) (hT (Cond.fieldLink RX5 26 "DesertWire$Reader" "use" "I") mw_172) (fun _ h9 => h9) rfl (by decide +kernel) rfl rfl (Nat.le_of_ble_eq_true rfl) dX5_valueFor_2 (fun H locs hP hD hS => ?_)
  have hP : va_P D vwCl [(k, .inr (5, [.ref k0, .int c1, .int c2, .int c3, .int a0, .int c5, .int c6, .int c7])), (k0, .inl (cI, 50, .inl c0))] H := hP
  have hD : va_D A [(k, .inr (5, [.ref k0, .int c1, .int c2, .int c3, .int a0, .int c5, .int c6, .int c7])), (k0, .inl (cI, 50, .inl c0))] := hD
  refine lv_aload_n hx hb dX5_valueFor_5 rfl (lv_at hl 0 rfl) ?_
  refine lv_iload_n hx hb dX5_valueFor_6 rfl (lv_at hl 2 rfl) ?_
  refine va_put (D := D) (ci := 5) (v := .int a1) (ty := .int) (C := RX5) (T := TX5) (N := 8) hx hb hT giX5 tyX5 tyX5_ok nmX5 hown hK hP hD hS 0 rfl rfl 5 (by decide) (hT (Cond.fieldLink RX5 29 "DesertWire$Reader" "first" "I") mw_173) (fun _ h9 => h9) rfl (by decide +kernel) rfl rfl (Nat.le_of_ble_eq_true rfl) dX5_valueFor_7 (fun H locs hP hD hS => ?_)
  have hP : va_P D vwCl [(k, .inr (5, [.ref k0, .int c1, .int c2, .int c3, .int a0, .int a1, .int c6, .int c7])), (k0, .inl (cI, 50, .inl c0))] H := hP
  have hD : va_D A [(k, .inr (5, [.ref k0, .int c1, .int c2, .int c3, .int a0, .int a1, .int c6, .int c7])), (k0, .inl (cI, 50, .inl c0))] := hD
  refine lv_aload_n hx hb dX5_valueFor_10 rfl (lv_at hl 0 rfl) ?_
  refine lv_iload_n hx hb dX5_valueFor_11 rfl (lv_at hl 3 rfl) ?_
  refine va_put (D := D) (ci := 5) (v := .int a2) (ty := .int) (C := RX5) (T := TX5) (N := 8) hx hb hT giX5 tyX5 tyX5_ok nmX5 hown hK hP hD hS 0 rfl rfl 6 (by decide) (hT (Cond.fieldLink RX5 32 "DesertWire$Reader" "second" "I") mw_174) (fun _ h9 => h9) rfl (by decide +kernel) rfl rfl (Nat.le_of_ble_eq_true rfl) dX5_valueFor_12 (fun H locs hP hD hS => ?_)
  have hP : va_P D vwCl [(k, .inr (5, [.ref k0, .int c1, .int c2, .int c3, .int a0, .int a1, .int a2, .int c7])), (k0, .inl (cI, 50, .inl c0))] H := hP
  have hD : va_D A [(k, .inr (5, [.ref k0, .int c1, .int c2, .int c3, .int a0, .int a1, .int a2, .int c7])), (k0, .inl (cI, 50, .inl c0))] := hD
  refine lv_aload_n hx hb dX5_valueFor_15 rfl (lv_at hl 0 rfl) ?_
  refine lv_iload hx hb dX5_valueFor_16 (lv_at hl 4 rfl) ?_
  refine va_put (D := D) (ci := 5) (v := .int a3) (ty := .int) (C := RX5) (T := TX5) (N := 8) hx hb hT giX5 tyX5 tyX5_ok nmX5 hown hK hP hD hS 0 rfl rfl 7 (by decide) (hT (Cond.fieldLink RX5 35 "DesertWire$Reader" "third" "I") mw_175) (fun _ h9 => h9) rfl (by decide +kernel) rfl rfl (Nat.le_of_ble_eq_true rfl) dX5_valueFor_18 (fun H locs hP hD hS => ?_)
  have hP : va_P D vwCl [(k, .inr (5, [.ref k0, .int c1, .int c2, .int c3, .int a0, .int a1, .int a2, .int a3])), (k0, .inl (cI, 50, .inl c0))] H := hP
  have hD : va_D A [(k, .inr (5, [.ref k0, .int c1, .int c2, .int c3, .int a0, .int a1, .int a2, .int a3])), (k0, .inl (cI, 50, .inl c0))] := hD
  refine lv_aload_n hx hb dX5_valueFor_21 rfl (lv_at hl 0 rfl) ?_
  refine lv_iconst (v := 0) hx hb dX5_valueFor_22 (by decide) ?_
  refine va_put (D := D) (ci := 5) (v := .int 0) (ty := .int) (C := RX5) (T := TX5) (N := 8) hx hb hT giX5 tyX5 tyX5_ok nmX5 hown hK hP hD hS 0 rfl rfl 2 (by decide) (hT (Cond.fieldLink RX5 19 "DesertWire$Reader" "at" "I") mw_170) (fun _ h9 => h9) rfl (by decide +kernel) rfl rfl (Nat.le_of_ble_eq_true rfl) dX5_valueFor_23 (fun H locs hP hD hS => ?_)
  have hP : va_P D vwCl [(k, .inr (5, [.ref k0, .int c1, .int 0, .int c3, .int a0, .int a1, .int a2, .int a3])), (k0, .inl (cI, 50, .inl c0))] H := hP
  have hD : va_D A [(k, .inr (5, [.ref k0, .int c1, .int 0, .int c3, .int a0, .int a1, .int a2, .int a3])), (k0, .inl (cI, 50, .inl c0))] := hD
  refine lv_aload_n hx hb dX5_valueFor_26 rfl (lv_at hl 0 rfl) ?_
  refine lv_iconst (v := 0) hx hb dX5_valueFor_27 (by decide) ?_
  refine va_put (D := D) (ci := 5) (v := .int 0) (ty := .boolean) (C := RX5) (T := TX5) (N := 8) hx hb hT giX5 tyX5 tyX5_ok nmX5 hown hK hP hD hS 0 rfl rfl 3 (by decide) (hT (Cond.fieldLink RX5 22 "DesertWire$Reader" "bad" "Z") mw_171) (fun _ h9 => h9) rfl (by decide +kernel) rfl rfl (Nat.le_of_ble_eq_true rfl) dX5_valueFor_28 (fun H locs hP hD hS => ?_)
  have hP : va_P D vwCl [(k, .inr (5, [.ref k0, .int c1, .int 0, .int 0, .int a0, .int a1, .int a2, .int a3])), (k0, .inl (cI, 50, .inl c0))] H := hP
  have hD : va_D A [(k, .inr (5, [.ref k0, .int c1, .int 0, .int 0, .int a0, .int a1, .int a2, .int a3])), (k0, .inl (cI, 50, .inl c0))] := hD
  refine lv_aload_n hx hb dX5_valueFor_31 rfl (lv_at hl 0 rfl) ?_
  refine lv_iconst (v := 0) hx hb dX5_valueFor_32 (by decide) ?_
  refine kJi (wr := []) (va_runV (As := [.int 0]) (rest := []) ⟨hx, hb, hml, hown, hT⟩ (c_X5_eitherG0 l D cI aK aV k k0 H.size c1 0 0 a0 a1 a2 a3 c0 0 (by first | omega | (simp only [zl_0] <;> omega) | decide | assumption | rfl)) (cwV 1 hT (gV_in mw_460 mw_457 mw_459 mw_p1_5 mw_6) rfl rfl rfl (by decide +kernel) ⟨Nat.le_of_ble_eq_true rfl, Nat.le_of_ble_eq_true rfl⟩) (kRecvX (q0 := 0) (ci := 5) hK hP hD hN hXS hS hA rfl rfl [0, 1] rfl (by decide)) rfl rfl hl.1 rfl (lv_room (Nat.le_of_ble_eq_true rfl)) dX5_valueFor_33 ⟨Nat.le_of_ble_eq_true rfl, Nat.le_of_ble_eq_true rfl⟩) hP hD hS hA [0, 1] [] rfl rfl (by decide) (by decide) (fun r_1 u_5 H locs w_2 hP hD hS => ?_)
  obtain ⟨sc2_3, sc3_4⟩ := u_5
  have hP : va_P D vwCl [(k, .inr (5, [.ref k0, .int c1, .int sc2_3, .int sc3_4, .int a0, .int a1, .int a2, .int a3])), (k0, .inl (cI, 50, .inl c0))] H := hP
  have hD : va_D A [(k, .inr (5, [.ref k0, .int c1, .int sc2_3, .int sc3_4, .int a0, .int a1, .int a2, .int a3])), (k0, .inl (cI, 50, .inl c0))] := hD
  have lo_sc2_3 := k_lo sc2_3
  have hi_sc2_3 := k_hi sc2_3
  have lo_sc3_4 := k_lo sc3_4
  have hi_sc3_4 := k_hi sc3_4
  have lo_r_1 := k_lo r_1
  have hi_r_1 := k_hi r_1
  refine lv_istore (lv' := [(5, .int r_1), (0, .ref k), (1, .int a0), (2, .int a1), (3, .int a2), (4, .int a3)]) hx hb dX5_valueFor_36 hl (by decide) rfl (fun ls hl => ?_)
  refine lv_aload_n hx hb dX5_valueFor_38 rfl (lv_at hl 1 rfl) ?_
  refine va_get (D := D) (ci := 5) (v := .int sc2_3) (C := RX5) (T := TX5) (N := 8) hx hb hT giX5 hown hK hP 0 rfl rfl 2 (by decide) (hT (Cond.fieldLink RX5 19 "DesertWire$Reader" "at" "I") mw_170) (fun _ h9 => h9) rfl dX5_valueFor_39 ?_
  refine lv_aload_n hx hb dX5_valueFor_42 rfl (lv_at hl 1 rfl) ?_
  refine va_get (D := D) (ci := 5) (v := .int c1) (C := RX5) (T := TX5) (N := 8) hx hb hT giX5 hown hK hP 0 rfl rfl 1 (by decide) (hT (Cond.fieldLink RX5 15 "DesertWire$Reader" "length" "I") mw_169) (fun _ h9 => h9) rfl dX5_valueFor_43 ?_
  refine b_icmp_ge hx hb rfl rfl (tgt := 54) dX5_valueFor_46 (by decide) (fun c_6 => ?_) (fun c_6 => ?_)
  · refine lv_iload hx hb dX5_valueFor_54 (lv_at hl 0 rfl) ?_
    exact hRet (sc2_3, sc3_4, a0, a1, a2, a3) [0, 1] trivial hP hD (by decide) rfl hS rfl dX5_valueFor_56
  · refine lv_aload_n hx hb dX5_valueFor_49 rfl (lv_at hl 1 rfl) ?_
    refine lv_iconst (v := 1) hx hb dX5_valueFor_50 (by decide) ?_
    refine va_put (D := D) (ci := 5) (v := .int 1) (ty := .boolean) (C := RX5) (T := TX5) (N := 8) hx hb hT giX5 tyX5 tyX5_ok nmX5 hown hK hP hD hS 0 rfl rfl 3 (by decide) (hT (Cond.fieldLink RX5 22 "DesertWire$Reader" "bad" "Z") mw_171) (fun _ h9 => h9) rfl (by decide +kernel) rfl rfl (Nat.le_of_ble_eq_true rfl) dX5_valueFor_51 (fun H locs hP hD hS => ?_)
    have hP : va_P D vwCl [(k, .inr (5, [.ref k0, .int c1, .int sc2_3, .int 1, .int a0, .int a1, .int a2, .int a3])), (k0, .inl (cI, 50, .inl c0))] H := hP
    have hD : va_D A [(k, .inr (5, [.ref k0, .int c1, .int sc2_3, .int 1, .int a0, .int a1, .int a2, .int a3])), (k0, .inl (cI, 50, .inl c0))] := hD
    refine lv_iload hx hb dX5_valueFor_54 (lv_at hl 0 rfl) ?_
    exact hRet (sc2_3, 1, a0, a1, a2, a3) [0, 1] trivial hP hD (by decide) rfl hS rfl dX5_valueFor_56
theorem dX5_fault_0 : decode cX5_fault 0 = .ok (.aload_n 0, 1) := by decide +kernel
theorem dX5_fault_1 : decode cX5_fault 1 = .ok (.getfield 22, 3) := by decide +kernel
theorem dX5_fault_4 : decode cX5_fault 4 = .ok (.ifCond .eq 10, 3) := by decide +kernel
theorem dX5_fault_7 : decode cX5_fault 7 = .ok (.aload_n 0, 1) := by decide +kernel
theorem dX5_fault_8 : decode cX5_fault 8 = .ok (.getfield 19, 3) := by decide +kernel
theorem dX5_fault_11 : decode cX5_fault 11 = .ok (.goto 4, 3) := by decide +kernel
theorem dX5_fault_14 : decode cX5_fault 14 = .ok (.iconst (-1), 1) := by decide +kernel
theorem dX5_fault_15 : decode cX5_fault 15 = .ok (.ireturn, 1) := by decide +kernel
set_option maxHeartbeats 4000000 in
set_option maxRecDepth 100000 in
theorem c_X5_faultG (l : Launch) (D : va_G) (cI : ClassId) (aK aV : Nat → Nat) (k k0 : Nat) (sz : Nat) (c1 : Int32) (c2 : Int32) (c3 : Int32) (c4 : Int32) (c5 : Int32) (c6 : Int32) (c7 : Int32) : Met l yX5_fault (gW yX5_fault cX5_fault 1 (some .int)) ({ frames := 0, cells := 0, slots := 0, locals := 0 } : Room) (kPreX D cI aK aV [.ref k] [(k, .inr (5, [.ref k0, .int c1, .int c2, .int c3, .int c4, .int c5, .int c6, .int c7]))] sz) (va_Qi (fun (r : Int32) (u : Unit) => True) (fun u t => kWd D cI (va_A [(k, .inr (5, [.ref k0, .int c1, .int c2, .int c3, .int c4, .int c5, .int c6, .int c7]))] sz) [(k, .inr (5, [.ref k0, .int c1, .int c2, .int c3, .int c4, .int c5, .int c6, .int c7]))] t) (va_A [(k, .inr (5, [.ref k0, .int c1, .int c2, .int c3, .int c4, .int c5, .int c6, .int c7]))] sz)) 0 0 (va_A [(k, .inr (5, [.ref k0, .int c1, .int c2, .int c3, .int c4, .int c5, .int c6, .int c7]))] sz) := by
  refine kMetIX (own := RX5) (by decide) rfl (Nat.le_of_ble_eq_true rfl) ?_
  intro p e s m args below meth c hx hb hT hown hname hml A Q hK hP hD hS hA hN hXS hRet ls hl
  have hl : lv_has ls 1 [(0, .ref k)] := hl
  have lo_c1 := k_lo c1
  have hi_c1 := k_hi c1
  have lo_c2 := k_lo c2
  have hi_c2 := k_hi c2
  have lo_c3 := k_lo c3
  have hi_c3 := k_hi c3
  have lo_c4 := k_lo c4
  have hi_c4 := k_hi c4
  have lo_c5 := k_lo c5
  have hi_c5 := k_hi c5
  have lo_c6 := k_lo c6
  have hi_c6 := k_hi c6
  have lo_c7 := k_lo c7
  have hi_c7 := k_hi c7
  refine lv_aload_n hx hb dX5_fault_0 rfl (lv_at hl 0 rfl) ?_
  refine va_get (D := D) (ci := 5) (v := .int c3) (C := RX5) (T := TX5) (N := 8) hx hb hT giX5 hown hK hP 0 rfl rfl 3 (by decide) (hT (Cond.fieldLink RX5 22 "DesertWire$Reader" "bad" "Z") mw_171) (fun _ h9 => h9) rfl dX5_fault_1 ?_
  refine b_if_eq hx hb rfl (tgt := 14) dX5_fault_4 (by decide) (fun c_1 => ?_) (fun c_1 => ?_)
  · refine lv_iconst (v := (-1)) hx hb dX5_fault_14 (by decide) ?_
    exact hRet () [0] trivial hP hD (by decide) rfl hS rfl dX5_fault_15
  · refine lv_aload_n hx hb dX5_fault_7 rfl (lv_at hl 0 rfl) ?_
    refine va_get (D := D) (ci := 5) (v := .int c2) (C := RX5) (T := TX5) (N := 8) hx hb hT giX5 hown hK hP 0 rfl rfl 2 (by decide) (hT (Cond.fieldLink RX5 19 "DesertWire$Reader" "at" "I") mw_170) (fun _ h9 => h9) rfl dX5_fault_8 ?_
    refine lv_goto (tgt := 15) hx hb dX5_fault_11 (by decide) ?_
    exact hRet () [0] trivial hP hD (by decide) rfl hS rfl dX5_fault_15
