theorem dX10_trace_0 : decode cX10_trace 0 = .ok (.iload_n 1, 1) := by decide +kernel
theorem dX10_trace_1 : decode cX10_trace 1 = .ok (.ifCond .lt 14, 3) := by decide +kernel
theorem dX10_trace_4 : decode cX10_trace 4 = .ok (.iload_n 1, 1) := by decide +kernel
theorem dX10_trace_5 : decode cX10_trace 5 = .ok (.aload_n 0, 1) := by decide +kernel
theorem dX10_trace_6 : decode cX10_trace 6 = .ok (.getfield 63, 3) := by decide +kernel
theorem dX10_trace_9 : decode cX10_trace 9 = .ok (.getfield 353, 3) := by decide +kernel
theorem dX10_trace_12 : decode cX10_trace 12 = .ok (.if_icmp .lt 9, 3) := by decide +kernel
theorem dX10_trace_15 : decode cX10_trace 15 = .ok (.aload_n 0, 1) := by decide +kernel
theorem dX10_trace_16 : decode cX10_trace 16 = .ok (.iconst 2, 1) := by decide +kernel
theorem dX10_trace_17 : decode cX10_trace 17 = .ok (.invokevirtual 82, 3) := by decide +kernel
theorem dX10_trace_20 : decode cX10_trace 20 = .ok (.ireturn, 1) := by decide +kernel
theorem dX10_trace_21 : decode cX10_trace 21 = .ok (.aload_n 0, 1) := by decide +kernel
theorem dX10_trace_22 : decode cX10_trace 22 = .ok (.getfield 63, 3) := by decide +kernel
theorem dX10_trace_25 : decode cX10_trace 25 = .ok (.iload_n 1, 1) := by decide +kernel
theorem dX10_trace_26 : decode cX10_trace 26 = .ok (.invokevirtual 356, 3) := by decide +kernel
theorem dX10_trace_29 : decode cX10_trace 29 = .ok (.ireturn, 1) := by decide +kernel
set_option maxHeartbeats 4000000 in
set_option maxRecDepth 100000 in
theorem c_X10_traceG (l : Launch) (D : va_G) (cI : ClassId) (aK aV : Nat → Nat) (k k0 k1 k2 k3 k4 k5 k6 k7 k8 k9 ka kb k90 : Nat) (sz : Nat) (cc : Int32) (c91 : Int32) (c92 : Int32) (c93 : Int32) (c94 : Int32) (cb : Nat → Int32) (c90 : Nat → Int32) (a0 : Int32) : Met l yX10_trace (gW yX10_trace cX10_trace 2 (some .int)) ({ frames := 1, cells := 0, slots := 0, locals := 21 } : Room) (kPreX D cI aK aV [.ref k, .int a0] [(k, .inr (10, [.ref k0, .ref k1, .ref k2, .ref k3, .ref k4, .ref k5, .ref k6, .ref k7, .ref k8, .ref k9, .ref ka, .ref kb, .int cc])), (k9, .inr (7, [.ref k90, .int c91, .int c92, .int c93, .int c94])), (kb, .inl (cI, 6, .inl cb)), (k90, .inl (cI, 40, .inl c90))] sz) (va_Qi (fun (r : Int32) (u : (Nat → Int32)) => True) (fun u t => kWd D cI (va_A [(k, .inr (10, [.ref k0, .ref k1, .ref k2, .ref k3, .ref k4, .ref k5, .ref k6, .ref k7, .ref k8, .ref k9, .ref ka, .ref kb, .int cc])), (k9, .inr (7, [.ref k90, .int c91, .int c92, .int c93, .int c94])), (kb, .inl (cI, 6, .inl cb)), (k90, .inl (cI, 40, .inl c90))] sz) [(k, .inr (10, [.ref k0, .ref k1, .ref k2, .ref k3, .ref k4, .ref k5, .ref k6, .ref k7, .ref k8, .ref k9, .ref ka, .ref kb, .int cc])), (k9, .inr (7, [.ref k90, .int c91, .int c92, .int c93, .int c94])), (kb, .inl (cI, 6, .inl u)), (k90, .inl (cI, 40, .inl c90))] t) (va_A [(k, .inr (10, [.ref k0, .ref k1, .ref k2, .ref k3, .ref k4, .ref k5, .ref k6, .ref k7, .ref k8, .ref k9, .ref ka, .ref kb, .int cc])), (k9, .inr (7, [.ref k90, .int c91, .int c92, .int c93, .int c94])), (kb, .inl (cI, 6, .inl cb)), (k90, .inl (cI, 40, .inl c90))] sz)) 0 0 (va_A [(k, .inr (10, [.ref k0, .ref k1, .ref k2, .ref k3, .ref k4, .ref k5, .ref k6, .ref k7, .ref k8, .ref k9, .ref ka, .ref kb, .int cc])), (k9, .inr (7, [.ref k90, .int c91, .int c92, .int c93, .int c94])), (kb, .inl (cI, 6, .inl cb)), (k90, .inl (cI, 40, .inl c90))] sz) := by
  refine kMetIX (own := RX10) (by decide) rfl (Nat.le_of_ble_eq_true rfl) ?_
  intro p e s m args below meth c hx hb hT hown hname hml A Q hK hP hD hS hA hN hXS hRet ls hl
  have hl : lv_has ls 2 [(0, .ref k), (1, .int a0)] := hl
  have lo_a0 := k_lo a0
  have hi_a0 := k_hi a0
  have lo_c91 := k_lo c91
  have hi_c91 := k_hi c91
  refine lv_iload_n hx hb dX10_trace_0 rfl (lv_at hl 1 rfl) ?_
  refine b_if_lt hx hb rfl (tgt := 15) dX10_trace_1 (by decide) (fun c_1 => ?_) (fun c_1 => ?_)
  · refine lv_aload_n hx hb dX10_trace_15 rfl (lv_at hl 0 rfl) ?_
    refine lv_iconst (v := 2) hx hb dX10_trace_16 (by decide) ?_
    refine kJi (wr := [(k9, .inr (7, [.ref k90, .int c91, .int c92, .int c93, .int c94])), (k90, .inl (cI, 40, .inl c90))]) (va_runV (As := [.int 2]) (rest := []) ⟨hx, hb, hml, hown, hT⟩ (c_X10_findingG l D cI aK aV k k0 k1 k2 k3 k4 k5 k6 k7 k8 k9 ka kb s.heap.size cc cb 2) (cwV 1 hT (gV_in mw_338 mw_335 mw_337 mw_p1_0 mw_1) rfl rfl rfl (by decide +kernel) ⟨Nat.le_of_ble_eq_true rfl, Nat.le_of_ble_eq_true rfl⟩) (kRecvX (q0 := 0) (ci := 10) hK hP hD hN hXS hS hA rfl rfl [0, 2] rfl (by decide)) rfl rfl hl.1 rfl (lv_room (Nat.le_of_ble_eq_true rfl)) dX10_trace_17 ⟨Nat.le_of_ble_eq_true rfl, Nat.le_of_ble_eq_true rfl⟩) hP hD hS hA [0, 2] [1, 3] rfl rfl (by decide) (by decide) ?_
    clear hP hD hS
    intro r_2 scb_4 H locs w_3 hP hD hS
    replace hP : va_P D vwCl [(k9, .inr (7, [.ref k90, .int c91, .int c92, .int c93, .int c94])), (k90, .inl (cI, 40, .inl c90)), (k, .inr (10, [.ref k0, .ref k1, .ref k2, .ref k3, .ref k4, .ref k5, .ref k6, .ref k7, .ref k8, .ref k9, .ref ka, .ref kb, .int cc])), (kb, .inl (cI, 6, .inl scb_4))] H := hP
    replace hD : va_D A [(k9, .inr (7, [.ref k90, .int c91, .int c92, .int c93, .int c94])), (k90, .inl (cI, 40, .inl c90)), (k, .inr (10, [.ref k0, .ref k1, .ref k2, .ref k3, .ref k4, .ref k5, .ref k6, .ref k7, .ref k8, .ref k9, .ref ka, .ref kb, .int cc])), (kb, .inl (cI, 6, .inl scb_4))] := hD
    have hr_2 := w_3
    obtain rfl : r_2 = (-1000002) := hr_2.trans (by decide)
    exact hRet scb_4 [2, 0, 3, 1] trivial hP hD (by decide) rfl hS rfl dX10_trace_20
  · refine lv_iload_n hx hb dX10_trace_4 rfl (lv_at hl 1 rfl) ?_
    refine lv_aload_n hx hb dX10_trace_5 rfl (lv_at hl 0 rfl) ?_
    refine va_get (D := D) (ci := 10) (v := .ref k9) (C := RX10) (T := TX10) (N := 13) hx hb hT giX10 hown hK hP 0 rfl rfl 9 (by decide) (hT (Cond.fieldLink RX10 63 "DesertWire" "voices" "LDesertWire$Voices;") mw_300) (fun _ h9 => h9) rfl dX10_trace_6 ?_
    refine va_get (D := D) (ci := 7) (v := .int c91) (C := RX7) (T := TX7) (N := 5) hx hb hT giX7 hown hK hP 1 rfl rfl 1 (by decide) (hT (Cond.fieldLink RX10 353 "DesertWire$Voices" "begun" "I") mw_260) (fun _ h9 => h9) rfl dX10_trace_9 ?_
    refine b_icmp_lt hx hb rfl rfl (tgt := 21) dX10_trace_12 (by decide) (fun c_5 => ?_) (fun c_5 => ?_)
    · refine lv_aload_n hx hb dX10_trace_21 rfl (lv_at hl 0 rfl) ?_
      refine va_get (D := D) (ci := 10) (v := .ref k9) (C := RX10) (T := TX10) (N := 13) hx hb hT giX10 hown hK hP 0 rfl rfl 9 (by decide) (hT (Cond.fieldLink RX10 63 "DesertWire" "voices" "LDesertWire$Voices;") mw_300) (fun _ h9 => h9) rfl dX10_trace_22 ?_
      refine lv_iload_n hx hb dX10_trace_25 rfl (lv_at hl 1 rfl) ?_
      refine kJi (wr := [(k, .inr (10, [.ref k0, .ref k1, .ref k2, .ref k3, .ref k4, .ref k5, .ref k6, .ref k7, .ref k8, .ref k9, .ref ka, .ref kb, .int cc])), (kb, .inl (cI, 6, .inl cb))]) (va_runV (As := [.int a0]) (rest := []) ⟨hx, hb, hml, hown, hT⟩ (c_X7_bodyAtG l D cI aK aV k9 k90 s.heap.size c91 c92 c93 c94 c90 a0) (cwV 1 hT (gV_in mw_1068 mw_1065 mw_1066 mw_1067 mw_10) rfl rfl rfl (by decide +kernel) ⟨Nat.le_of_ble_eq_true rfl, Nat.le_of_ble_eq_true rfl⟩) (kRecvX (q0 := 1) (ci := 7) hK hP hD hN hXS hS hA rfl rfl [1, 3] rfl (by decide)) rfl rfl hl.1 rfl (lv_room (Nat.le_of_ble_eq_true rfl)) dX10_trace_26 ⟨Nat.le_of_ble_eq_true rfl, Nat.le_of_ble_eq_true rfl⟩) hP hD hS hA [1, 3] [0, 2] rfl rfl (by decide) (by decide) ?_
      clear hP hD hS
      intro r_6 u_8 H locs w_7 hP hD hS
      replace hP : va_P D vwCl [(k, .inr (10, [.ref k0, .ref k1, .ref k2, .ref k3, .ref k4, .ref k5, .ref k6, .ref k7, .ref k8, .ref k9, .ref ka, .ref kb, .int cc])), (kb, .inl (cI, 6, .inl cb)), (k9, .inr (7, [.ref k90, .int c91, .int c92, .int c93, .int c94])), (k90, .inl (cI, 40, .inl c90))] H := hP
      replace hD : va_D A [(k, .inr (10, [.ref k0, .ref k1, .ref k2, .ref k3, .ref k4, .ref k5, .ref k6, .ref k7, .ref k8, .ref k9, .ref ka, .ref kb, .int cc])), (kb, .inl (cI, 6, .inl cb)), (k9, .inr (7, [.ref k90, .int c91, .int c92, .int c93, .int c94])), (k90, .inl (cI, 40, .inl c90))] := hD
      have lo_r_6 := k_lo r_6
      have hi_r_6 := k_hi r_6
      exact hRet cb [0, 2, 1, 3] trivial hP hD (by decide) rfl hS rfl dX10_trace_29
    · refine lv_aload_n hx hb dX10_trace_15 rfl (lv_at hl 0 rfl) ?_
      refine lv_iconst (v := 2) hx hb dX10_trace_16 (by decide) ?_
      refine kJi (wr := [(k9, .inr (7, [.ref k90, .int c91, .int c92, .int c93, .int c94])), (k90, .inl (cI, 40, .inl c90))]) (va_runV (As := [.int 2]) (rest := []) ⟨hx, hb, hml, hown, hT⟩ (c_X10_findingG l D cI aK aV k k0 k1 k2 k3 k4 k5 k6 k7 k8 k9 ka kb s.heap.size cc cb 2) (cwV 1 hT (gV_in mw_338 mw_335 mw_337 mw_p1_0 mw_1) rfl rfl rfl (by decide +kernel) ⟨Nat.le_of_ble_eq_true rfl, Nat.le_of_ble_eq_true rfl⟩) (kRecvX (q0 := 0) (ci := 10) hK hP hD hN hXS hS hA rfl rfl [0, 2] rfl (by decide)) rfl rfl hl.1 rfl (lv_room (Nat.le_of_ble_eq_true rfl)) dX10_trace_17 ⟨Nat.le_of_ble_eq_true rfl, Nat.le_of_ble_eq_true rfl⟩) hP hD hS hA [0, 2] [1, 3] rfl rfl (by decide) (by decide) ?_
      clear hP hD hS
      intro r_9 scb_11 H locs w_10 hP hD hS
      replace hP : va_P D vwCl [(k9, .inr (7, [.ref k90, .int c91, .int c92, .int c93, .int c94])), (k90, .inl (cI, 40, .inl c90)), (k, .inr (10, [.ref k0, .ref k1, .ref k2, .ref k3, .ref k4, .ref k5, .ref k6, .ref k7, .ref k8, .ref k9, .ref ka, .ref kb, .int cc])), (kb, .inl (cI, 6, .inl scb_11))] H := hP
      replace hD : va_D A [(k9, .inr (7, [.ref k90, .int c91, .int c92, .int c93, .int c94])), (k90, .inl (cI, 40, .inl c90)), (k, .inr (10, [.ref k0, .ref k1, .ref k2, .ref k3, .ref k4, .ref k5, .ref k6, .ref k7, .ref k8, .ref k9, .ref ka, .ref kb, .int cc])), (kb, .inl (cI, 6, .inl scb_11))] := hD
      have hr_9 := w_10
      obtain rfl : r_9 = (-1000002) := hr_9.trans (by decide)
      exact hRet scb_11 [2, 0, 3, 1] trivial hP hD (by decide) rfl hS rfl dX10_trace_20
theorem dX10_voice_0 : decode cX10_voice 0 = .ok (.aload_n 0, 1) := by decide +kernel
theorem dX10_voice_1 : decode cX10_voice 1 = .ok (.getfield 12, 3) := by decide +kernel
theorem dX10_voice_4 : decode cX10_voice 4 = .ok (.getfield 99, 3) := by decide +kernel
theorem dX10_voice_7 : decode cX10_voice 7 = .ok (.iload_n 1, 1) := by decide +kernel
theorem dX10_voice_8 : decode cX10_voice 8 = .ok (.invokevirtual 116, 3) := by decide +kernel
theorem dX10_voice_11 : decode cX10_voice 11 = .ok (.ifCond .eq 12, 3) := by decide +kernel
theorem dX10_voice_14 : decode cX10_voice 14 = .ok (.iload_n 2, 1) := by decide +kernel
theorem dX10_voice_15 : decode cX10_voice 15 = .ok (.ifCond .lt 8, 3) := by decide +kernel
theorem dX10_voice_18 : decode cX10_voice 18 = .ok (.iload_n 2, 1) := by decide +kernel
theorem dX10_voice_19 : decode cX10_voice 19 = .ok (.iconst 3, 1) := by decide +kernel
theorem dX10_voice_20 : decode cX10_voice 20 = .ok (.if_icmp .le 9, 3) := by decide +kernel
theorem dX10_voice_23 : decode cX10_voice 23 = .ok (.aload_n 0, 1) := by decide +kernel
theorem dX10_voice_24 : decode cX10_voice 24 = .ok (.iconst 1, 1) := by decide +kernel
theorem dX10_voice_25 : decode cX10_voice 25 = .ok (.invokevirtual 82, 3) := by decide +kernel
theorem dX10_voice_28 : decode cX10_voice 28 = .ok (.ireturn, 1) := by decide +kernel
theorem dX10_voice_29 : decode cX10_voice 29 = .ok (.aload_n 0, 1) := by decide +kernel
theorem dX10_voice_30 : decode cX10_voice 30 = .ok (.getfield 63, 3) := by decide +kernel
theorem dX10_voice_33 : decode cX10_voice 33 = .ok (.aload_n 0, 1) := by decide +kernel
theorem dX10_voice_34 : decode cX10_voice 34 = .ok (.getfield 12, 3) := by decide +kernel
theorem dX10_voice_37 : decode cX10_voice 37 = .ok (.getfield 99, 3) := by decide +kernel
theorem dX10_voice_40 : decode cX10_voice 40 = .ok (.iload_n 1, 1) := by decide +kernel
theorem dX10_voice_41 : decode cX10_voice 41 = .ok (.invokevirtual 119, 3) := by decide +kernel
theorem dX10_voice_44 : decode cX10_voice 44 = .ok (.iload_n 1, 1) := by decide +kernel
theorem dX10_voice_45 : decode cX10_voice 45 = .ok (.aload_n 0, 1) := by decide +kernel
theorem dX10_voice_46 : decode cX10_voice 46 = .ok (.getfield 12, 3) := by decide +kernel
theorem dX10_voice_49 : decode cX10_voice 49 = .ok (.getfield 99, 3) := by decide +kernel
theorem dX10_voice_52 : decode cX10_voice 52 = .ok (.iload_n 1, 1) := by decide +kernel
theorem dX10_voice_53 : decode cX10_voice 53 = .ok (.invokevirtual 126, 3) := by decide +kernel
theorem dX10_voice_56 : decode cX10_voice 56 = .ok (.iload_n 2, 1) := by decide +kernel
theorem dX10_voice_57 : decode cX10_voice 57 = .ok (.iload_n 3, 1) := by decide +kernel
theorem dX10_voice_58 : decode cX10_voice 58 = .ok (.invokevirtual 349, 3) := by decide +kernel
theorem dX10_voice_61 : decode cX10_voice 61 = .ok (.ireturn, 1) := by decide +kernel
set_option maxHeartbeats 4000000 in
set_option maxRecDepth 100000 in
theorem c_X10_voiceG (l : Launch) (D : va_G) (cI : ClassId) (aK aV : Nat → Nat) (k k0 k1 k2 k3 k4 k5 k6 k7 k8 k9 ka kb k00 k01 k02 k03 k04 k05 k90 k040 k041 k042 k043 k044 k045 k046 k047 k048 : Nat) (sz : Nat) (cc : Int32) (c06 : Int32) (c07 : Int32) (c08 : Int32) (c91 : Int32) (c92 : Int32) (c93 : Int32) (c94 : Int32) (cb : Nat → Int32) (c049 : Int32) (c90 : Nat → Int32) (c040 : Nat → Int32) (c042 : Nat → Int32) (a0 : Int32) (a1 : Int32) (a2 : Int32) : Met l yX10_voice (gW yX10_voice cX10_voice 4 (some .int)) ({ frames := 172, cells := 0, slots := 0, locals := 5488 } : Room) (kPreX D cI aK aV [.ref k, .int a0, .int a1, .int a2] [(k, .inr (10, [.ref k0, .ref k1, .ref k2, .ref k3, .ref k4, .ref k5, .ref k6, .ref k7, .ref k8, .ref k9, .ref ka, .ref kb, .int cc])), (k0, .inr (9, [.ref k00, .ref k01, .ref k02, .ref k03, .ref k04, .ref k05, .int c06, .int c07, .int c08])), (k9, .inr (7, [.ref k90, .int c91, .int c92, .int c93, .int c94])), (kb, .inl (cI, 6, .inl cb)), (k04, .inr (8, [.ref k040, .ref k041, .ref k042, .ref k043, .ref k044, .ref k045, .ref k046, .ref k047, .ref k048, .int c049])), (k90, .inl (cI, 40, .inl c90)), (k040, .inl (cI, 60, .inl c040)), (k042, .inl (cI, 60, .inl c042))] sz) (va_Qi (fun (r : Int32) (u : Int32 × Int32 × Int32 × Int32 × (Nat → Int32) × (Nat → Int32)) => True) (fun u t => kWd D cI (va_A [(k, .inr (10, [.ref k0, .ref k1, .ref k2, .ref k3, .ref k4, .ref k5, .ref k6, .ref k7, .ref k8, .ref k9, .ref ka, .ref kb, .int cc])), (k0, .inr (9, [.ref k00, .ref k01, .ref k02, .ref k03, .ref k04, .ref k05, .int c06, .int c07, .int c08])), (k9, .inr (7, [.ref k90, .int c91, .int c92, .int c93, .int c94])), (kb, .inl (cI, 6, .inl cb)), (k04, .inr (8, [.ref k040, .ref k041, .ref k042, .ref k043, .ref k044, .ref k045, .ref k046, .ref k047, .ref k048, .int c049])), (k90, .inl (cI, 40, .inl c90)), (k040, .inl (cI, 60, .inl c040)), (k042, .inl (cI, 60, .inl c042))] sz) [(k, .inr (10, [.ref k0, .ref k1, .ref k2, .ref k3, .ref k4, .ref k5, .ref k6, .ref k7, .ref k8, .ref k9, .ref ka, .ref kb, .int cc])), (k0, .inr (9, [.ref k00, .ref k01, .ref k02, .ref k03, .ref k04, .ref k05, .int c06, .int c07, .int c08])), (k9, .inr (7, [.ref k90, .int u.1, .int u.2.1, .int u.2.2.1, .int u.2.2.2.1])), (kb, .inl (cI, 6, .inl u.2.2.2.2.1)), (k04, .inr (8, [.ref k040, .ref k041, .ref k042, .ref k043, .ref k044, .ref k045, .ref k046, .ref k047, .ref k048, .int c049])), (k90, .inl (cI, 40, .inl u.2.2.2.2.2)), (k040, .inl (cI, 60, .inl c040)), (k042, .inl (cI, 60, .inl c042))] t) (va_A [(k, .inr (10, [.ref k0, .ref k1, .ref k2, .ref k3, .ref k4, .ref k5, .ref k6, .ref k7, .ref k8, .ref k9, .ref ka, .ref kb, .int cc])), (k0, .inr (9, [.ref k00, .ref k01, .ref k02, .ref k03, .ref k04, .ref k05, .int c06, .int c07, .int c08])), (k9, .inr (7, [.ref k90, .int c91, .int c92, .int c93, .int c94])), (kb, .inl (cI, 6, .inl cb)), (k04, .inr (8, [.ref k040, .ref k041, .ref k042, .ref k043, .ref k044, .ref k045, .ref k046, .ref k047, .ref k048, .int c049])), (k90, .inl (cI, 40, .inl c90)), (k040, .inl (cI, 60, .inl c040)), (k042, .inl (cI, 60, .inl c042))] sz)) 0 0 (va_A [(k, .inr (10, [.ref k0, .ref k1, .ref k2, .ref k3, .ref k4, .ref k5, .ref k6, .ref k7, .ref k8, .ref k9, .ref ka, .ref kb, .int cc])), (k0, .inr (9, [.ref k00, .ref k01, .ref k02, .ref k03, .ref k04, .ref k05, .int c06, .int c07, .int c08])), (k9, .inr (7, [.ref k90, .int c91, .int c92, .int c93, .int c94])), (kb, .inl (cI, 6, .inl cb)), (k04, .inr (8, [.ref k040, .ref k041, .ref k042, .ref k043, .ref k044, .ref k045, .ref k046, .ref k047, .ref k048, .int c049])), (k90, .inl (cI, 40, .inl c90)), (k040, .inl (cI, 60, .inl c040)), (k042, .inl (cI, 60, .inl c042))] sz) := by
  refine kMetIX (own := RX10) (by decide) rfl (Nat.le_of_ble_eq_true rfl) ?_
  intro p e s m args below meth c hx hb hT hown hname hml A Q hK hP hD hS hA hN hXS hRet ls hl
  have hl : lv_has ls 4 [(0, .ref k), (1, .int a0), (2, .int a1), (3, .int a2)] := hl
  have lo_a0 := k_lo a0
  have hi_a0 := k_hi a0
  have lo_a1 := k_lo a1
  have hi_a1 := k_hi a1
  have lo_a2 := k_lo a2
  have hi_a2 := k_hi a2
  have lo_c049 := k_lo c049
  have hi_c049 := k_hi c049
  refine lv_aload_n hx hb dX10_voice_0 rfl (lv_at hl 0 rfl) ?_
  refine va_get (D := D) (ci := 10) (v := .ref k0) (C := RX10) (T := TX10) (N := 13) hx hb hT giX10 hown hK hP 0 rfl rfl 0 (by decide) (hT (Cond.fieldLink RX10 12 "DesertWire" "now" "LDesertWire$World;") mw_291) (fun _ h9 => h9) rfl dX10_voice_1 ?_
  refine va_get (D := D) (ci := 9) (v := .ref k04) (C := RX9) (T := TX9) (N := 9) hx hb hT giX9 hown hK hP 1 rfl rfl 4 (by decide) (hT (Cond.fieldLink RX10 99 "DesertWire$World" "works" "LDesertWire$Works;") mw_99) (fun _ h9 => h9) rfl dX10_voice_4 ?_
  refine lv_iload_n hx hb dX10_voice_7 rfl (lv_at hl 1 rfl) ?_
  refine kJi (wr := [(k, .inr (10, [.ref k0, .ref k1, .ref k2, .ref k3, .ref k4, .ref k5, .ref k6, .ref k7, .ref k8, .ref k9, .ref ka, .ref kb, .int cc])), (k0, .inr (9, [.ref k00, .ref k01, .ref k02, .ref k03, .ref k04, .ref k05, .int c06, .int c07, .int c08])), (k9, .inr (7, [.ref k90, .int c91, .int c92, .int c93, .int c94])), (kb, .inl (cI, 6, .inl cb)), (k90, .inl (cI, 40, .inl c90)), (k040, .inl (cI, 60, .inl c040)), (k042, .inl (cI, 60, .inl c042))]) (va_runV (As := [.int a0]) (rest := []) ⟨hx, hb, hml, hown, hT⟩ (c_X8_hasG l D cI aK aV k04 k040 k041 k042 k043 k044 k045 k046 k047 k048 s.heap.size c049 a0) (cwV 1 hT (gV_in mw_371 mw_380 mw_369 mw_370 mw_3) rfl rfl rfl (by decide +kernel) ⟨Nat.le_of_ble_eq_true rfl, Nat.le_of_ble_eq_true rfl⟩) (kRecvX (q0 := 4) (ci := 8) hK hP hD hN hXS hS hA rfl rfl [4] rfl (by decide)) rfl rfl hl.1 rfl (lv_room (Nat.le_of_ble_eq_true rfl)) dX10_voice_8 ⟨Nat.le_of_ble_eq_true rfl, Nat.le_of_ble_eq_true rfl⟩) hP hD hS hA [4] [0, 1, 2, 3, 5, 6, 7] rfl rfl (by decide) (by decide) ?_
  clear hP hD hS
  intro r_1 u_3 H locs w_2 hP hD hS
  replace hP : va_P D vwCl [(k, .inr (10, [.ref k0, .ref k1, .ref k2, .ref k3, .ref k4, .ref k5, .ref k6, .ref k7, .ref k8, .ref k9, .ref ka, .ref kb, .int cc])), (k0, .inr (9, [.ref k00, .ref k01, .ref k02, .ref k03, .ref k04, .ref k05, .int c06, .int c07, .int c08])), (k9, .inr (7, [.ref k90, .int c91, .int c92, .int c93, .int c94])), (kb, .inl (cI, 6, .inl cb)), (k90, .inl (cI, 40, .inl c90)), (k040, .inl (cI, 60, .inl c040)), (k042, .inl (cI, 60, .inl c042)), (k04, .inr (8, [.ref k040, .ref k041, .ref k042, .ref k043, .ref k044, .ref k045, .ref k046, .ref k047, .ref k048, .int c049]))] H := hP
  replace hD : va_D A [(k, .inr (10, [.ref k0, .ref k1, .ref k2, .ref k3, .ref k4, .ref k5, .ref k6, .ref k7, .ref k8, .ref k9, .ref ka, .ref kb, .int cc])), (k0, .inr (9, [.ref k00, .ref k01, .ref k02, .ref k03, .ref k04, .ref k05, .int c06, .int c07, .int c08])), (k9, .inr (7, [.ref k90, .int c91, .int c92, .int c93, .int c94])), (kb, .inl (cI, 6, .inl cb)), (k90, .inl (cI, 40, .inl c90)), (k040, .inl (cI, 60, .inl c040)), (k042, .inl (cI, 60, .inl c042)), (k04, .inr (8, [.ref k040, .ref k041, .ref k042, .ref k043, .ref k044, .ref k045, .ref k046, .ref k047, .ref k048, .int c049]))] := hD
  rcases w_2 with ⟨hr_1, h_4, h_5, h_6⟩ | ⟨hr_1, h_7⟩
  · have h_4 : 0 ≤ a0.toInt := h_4
    have h_5 : a0.toInt < c049.toInt := h_5
    have h_6 : a0.toInt < 60 := h_6
    obtain rfl : r_1 = 1 := hr_1.trans (by decide)
    refine b_if_eq hx hb zl_1 (tgt := 23) dX10_voice_11 (by decide) (fun c_8 => by exfalso; omega) (fun c_8 => ?_)
    refine lv_iload_n hx hb dX10_voice_14 rfl (lv_at hl 2 rfl) ?_
    refine b_if_lt hx hb rfl (tgt := 23) dX10_voice_15 (by decide) (fun c_9 => ?_) (fun c_9 => ?_)
    · refine lv_aload_n hx hb dX10_voice_23 rfl (lv_at hl 0 rfl) ?_
      refine lv_iconst (v := 1) hx hb dX10_voice_24 (by decide) ?_
      refine kJi (wr := [(k0, .inr (9, [.ref k00, .ref k01, .ref k02, .ref k03, .ref k04, .ref k05, .int c06, .int c07, .int c08])), (k9, .inr (7, [.ref k90, .int c91, .int c92, .int c93, .int c94])), (k90, .inl (cI, 40, .inl c90)), (k040, .inl (cI, 60, .inl c040)), (k042, .inl (cI, 60, .inl c042)), (k04, .inr (8, [.ref k040, .ref k041, .ref k042, .ref k043, .ref k044, .ref k045, .ref k046, .ref k047, .ref k048, .int c049]))]) (va_runV (As := [.int 1]) (rest := []) ⟨hx, hb, hml, hown, hT⟩ (c_X10_findingG l D cI aK aV k k0 k1 k2 k3 k4 k5 k6 k7 k8 k9 ka kb H.size cc cb 1) (cwV 1 hT (gV_in mw_338 mw_335 mw_337 mw_p1_0 mw_1) rfl rfl rfl (by decide +kernel) ⟨Nat.le_of_ble_eq_true rfl, Nat.le_of_ble_eq_true rfl⟩) (kRecvX (q0 := 0) (ci := 10) hK hP hD hN hXS hS hA rfl rfl [0, 3] rfl (by decide)) rfl rfl hl.1 rfl (lv_room (Nat.le_of_ble_eq_true rfl)) dX10_voice_25 ⟨Nat.le_of_ble_eq_true rfl, Nat.le_of_ble_eq_true rfl⟩) hP hD hS hA [0, 3] [1, 2, 4, 5, 6, 7] rfl rfl (by decide) (by decide) ?_
      clear hP hD hS
      intro r_10 scb_12 H locs w_11 hP hD hS
      replace hP : va_P D vwCl [(k0, .inr (9, [.ref k00, .ref k01, .ref k02, .ref k03, .ref k04, .ref k05, .int c06, .int c07, .int c08])), (k9, .inr (7, [.ref k90, .int c91, .int c92, .int c93, .int c94])), (k90, .inl (cI, 40, .inl c90)), (k040, .inl (cI, 60, .inl c040)), (k042, .inl (cI, 60, .inl c042)), (k04, .inr (8, [.ref k040, .ref k041, .ref k042, .ref k043, .ref k044, .ref k045, .ref k046, .ref k047, .ref k048, .int c049])), (k, .inr (10, [.ref k0, .ref k1, .ref k2, .ref k3, .ref k4, .ref k5, .ref k6, .ref k7, .ref k8, .ref k9, .ref ka, .ref kb, .int cc])), (kb, .inl (cI, 6, .inl scb_12))] H := hP
      replace hD : va_D A [(k0, .inr (9, [.ref k00, .ref k01, .ref k02, .ref k03, .ref k04, .ref k05, .int c06, .int c07, .int c08])), (k9, .inr (7, [.ref k90, .int c91, .int c92, .int c93, .int c94])), (k90, .inl (cI, 40, .inl c90)), (k040, .inl (cI, 60, .inl c040)), (k042, .inl (cI, 60, .inl c042)), (k04, .inr (8, [.ref k040, .ref k041, .ref k042, .ref k043, .ref k044, .ref k045, .ref k046, .ref k047, .ref k048, .int c049])), (k, .inr (10, [.ref k0, .ref k1, .ref k2, .ref k3, .ref k4, .ref k5, .ref k6, .ref k7, .ref k8, .ref k9, .ref ka, .ref kb, .int cc])), (kb, .inl (cI, 6, .inl scb_12))] := hD
      have hr_10 := w_11
      obtain rfl : r_10 = (-1000001) := hr_10.trans (by decide)
      exact hRet (c91, c92, c93, c94, scb_12, c90) [6, 0, 1, 7, 5, 2, 3, 4] trivial hP hD (by decide) rfl hS rfl dX10_voice_28
    · refine lv_iload_n hx hb dX10_voice_18 rfl (lv_at hl 2 rfl) ?_
      refine lv_iconst (v := 3) hx hb dX10_voice_19 (by decide) ?_
      refine b_icmp_le hx hb rfl zl_3 (tgt := 29) dX10_voice_20 (by decide) (fun c_13 => ?_) (fun c_13 => ?_)
      · refine lv_aload_n hx hb dX10_voice_29 rfl (lv_at hl 0 rfl) ?_
        refine va_get (D := D) (ci := 10) (v := .ref k9) (C := RX10) (T := TX10) (N := 13) hx hb hT giX10 hown hK hP 0 rfl rfl 9 (by decide) (hT (Cond.fieldLink RX10 63 "DesertWire" "voices" "LDesertWire$Voices;") mw_300) (fun _ h9 => h9) rfl dX10_voice_30 ?_
        refine lv_aload_n hx hb dX10_voice_33 rfl (lv_at hl 0 rfl) ?_
        refine va_get (D := D) (ci := 10) (v := .ref k0) (C := RX10) (T := TX10) (N := 13) hx hb hT giX10 hown hK hP 0 rfl rfl 0 (by decide) (hT (Cond.fieldLink RX10 12 "DesertWire" "now" "LDesertWire$World;") mw_291) (fun _ h9 => h9) rfl dX10_voice_34 ?_
        refine va_get (D := D) (ci := 9) (v := .ref k04) (C := RX9) (T := TX9) (N := 9) hx hb hT giX9 hown hK hP 1 rfl rfl 4 (by decide) (hT (Cond.fieldLink RX10 99 "DesertWire$World" "works" "LDesertWire$Works;") mw_99) (fun _ h9 => h9) rfl dX10_voice_37 ?_
        refine lv_iload_n hx hb dX10_voice_40 rfl (lv_at hl 1 rfl) ?_
        refine kJi (wr := [(k, .inr (10, [.ref k0, .ref k1, .ref k2, .ref k3, .ref k4, .ref k5, .ref k6, .ref k7, .ref k8, .ref k9, .ref ka, .ref kb, .int cc])), (k0, .inr (9, [.ref k00, .ref k01, .ref k02, .ref k03, .ref k04, .ref k05, .int c06, .int c07, .int c08])), (k9, .inr (7, [.ref k90, .int c91, .int c92, .int c93, .int c94])), (kb, .inl (cI, 6, .inl cb)), (k90, .inl (cI, 40, .inl c90)), (k042, .inl (cI, 60, .inl c042))]) (va_runV (As := [.int a0]) (rest := [.ref k9]) ⟨hx, hb, hml, hown, hT⟩ (c_X8_kindOfG l D cI aK aV k04 k040 k041 k042 k043 k044 k045 k046 k047 k048 H.size c049 c040 a0) (cwV 1 hT (gV_in mw_384 mw_381 mw_382 mw_383 mw_3) rfl rfl rfl (by decide +kernel) ⟨Nat.le_of_ble_eq_true rfl, Nat.le_of_ble_eq_true rfl⟩) (kRecvX (q0 := 7) (ci := 8) hK hP hD hN hXS hS hA rfl rfl [7, 5] rfl (by decide)) rfl rfl hl.1 rfl (lv_room (Nat.le_of_ble_eq_true rfl)) dX10_voice_41 ⟨Nat.le_of_ble_eq_true rfl, Nat.le_of_ble_eq_true rfl⟩) hP hD hS hA [7, 5] [0, 1, 2, 3, 4, 6] rfl rfl (by decide) (by decide) ?_
        clear hP hD hS
        intro r_14 u_16 H locs w_15 hP hD hS
        replace hP : va_P D vwCl [(k, .inr (10, [.ref k0, .ref k1, .ref k2, .ref k3, .ref k4, .ref k5, .ref k6, .ref k7, .ref k8, .ref k9, .ref ka, .ref kb, .int cc])), (k0, .inr (9, [.ref k00, .ref k01, .ref k02, .ref k03, .ref k04, .ref k05, .int c06, .int c07, .int c08])), (k9, .inr (7, [.ref k90, .int c91, .int c92, .int c93, .int c94])), (kb, .inl (cI, 6, .inl cb)), (k90, .inl (cI, 40, .inl c90)), (k042, .inl (cI, 60, .inl c042)), (k04, .inr (8, [.ref k040, .ref k041, .ref k042, .ref k043, .ref k044, .ref k045, .ref k046, .ref k047, .ref k048, .int c049])), (k040, .inl (cI, 60, .inl c040))] H := hP
        replace hD : va_D A [(k, .inr (10, [.ref k0, .ref k1, .ref k2, .ref k3, .ref k4, .ref k5, .ref k6, .ref k7, .ref k8, .ref k9, .ref ka, .ref kb, .int cc])), (k0, .inr (9, [.ref k00, .ref k01, .ref k02, .ref k03, .ref k04, .ref k05, .int c06, .int c07, .int c08])), (k9, .inr (7, [.ref k90, .int c91, .int c92, .int c93, .int c94])), (kb, .inl (cI, 6, .inl cb)), (k90, .inl (cI, 40, .inl c90)), (k042, .inl (cI, 60, .inl c042)), (k04, .inr (8, [.ref k040, .ref k041, .ref k042, .ref k043, .ref k044, .ref k045, .ref k046, .ref k047, .ref k048, .int c049])), (k040, .inl (cI, 60, .inl c040))] := hD
        have lo_r_14 := k_lo r_14
        have hi_r_14 := k_hi r_14
        refine lv_iload_n hx hb dX10_voice_44 rfl (lv_at hl 1 rfl) ?_
        refine lv_aload_n hx hb dX10_voice_45 rfl (lv_at hl 0 rfl) ?_
        refine va_get (D := D) (ci := 10) (v := .ref k0) (C := RX10) (T := TX10) (N := 13) hx hb hT giX10 hown hK hP 0 rfl rfl 0 (by decide) (hT (Cond.fieldLink RX10 12 "DesertWire" "now" "LDesertWire$World;") mw_291) (fun _ h9 => h9) rfl dX10_voice_46 ?_
        refine va_get (D := D) (ci := 9) (v := .ref k04) (C := RX9) (T := TX9) (N := 9) hx hb hT giX9 hown hK hP 1 rfl rfl 4 (by decide) (hT (Cond.fieldLink RX10 99 "DesertWire$World" "works" "LDesertWire$Works;") mw_99) (fun _ h9 => h9) rfl dX10_voice_49 ?_
        refine lv_iload_n hx hb dX10_voice_52 rfl (lv_at hl 1 rfl) ?_
        refine kJi (wr := [(k, .inr (10, [.ref k0, .ref k1, .ref k2, .ref k3, .ref k4, .ref k5, .ref k6, .ref k7, .ref k8, .ref k9, .ref ka, .ref kb, .int cc])), (k0, .inr (9, [.ref k00, .ref k01, .ref k02, .ref k03, .ref k04, .ref k05, .int c06, .int c07, .int c08])), (k9, .inr (7, [.ref k90, .int c91, .int c92, .int c93, .int c94])), (kb, .inl (cI, 6, .inl cb)), (k90, .inl (cI, 40, .inl c90)), (k040, .inl (cI, 60, .inl c040))]) (va_runV (As := [.int a0]) (rest := [.int a0, .int r_14, .ref k9]) ⟨hx, hb, hml, hown, hT⟩ (c_X8_sizeOfG l D cI aK aV k04 k040 k041 k042 k043 k044 k045 k046 k047 k048 H.size c049 c042 a0) (cwV 1 hT (gV_in mw_394 mw_391 mw_392 mw_393 mw_3) rfl rfl rfl (by decide +kernel) ⟨Nat.le_of_ble_eq_true rfl, Nat.le_of_ble_eq_true rfl⟩) (kRecvX (q0 := 6) (ci := 8) hK hP hD hN hXS hS hA rfl rfl [6, 5] rfl (by decide)) rfl rfl hl.1 rfl (lv_room (Nat.le_of_ble_eq_true rfl)) dX10_voice_53 ⟨Nat.le_of_ble_eq_true rfl, Nat.le_of_ble_eq_true rfl⟩) hP hD hS hA [6, 5] [0, 1, 2, 3, 4, 7] rfl rfl (by decide) (by decide) ?_
        clear hP hD hS
        intro r_17 u_19 H locs w_18 hP hD hS
        replace hP : va_P D vwCl [(k, .inr (10, [.ref k0, .ref k1, .ref k2, .ref k3, .ref k4, .ref k5, .ref k6, .ref k7, .ref k8, .ref k9, .ref ka, .ref kb, .int cc])), (k0, .inr (9, [.ref k00, .ref k01, .ref k02, .ref k03, .ref k04, .ref k05, .int c06, .int c07, .int c08])), (k9, .inr (7, [.ref k90, .int c91, .int c92, .int c93, .int c94])), (kb, .inl (cI, 6, .inl cb)), (k90, .inl (cI, 40, .inl c90)), (k040, .inl (cI, 60, .inl c040)), (k04, .inr (8, [.ref k040, .ref k041, .ref k042, .ref k043, .ref k044, .ref k045, .ref k046, .ref k047, .ref k048, .int c049])), (k042, .inl (cI, 60, .inl c042))] H := hP
        replace hD : va_D A [(k, .inr (10, [.ref k0, .ref k1, .ref k2, .ref k3, .ref k4, .ref k5, .ref k6, .ref k7, .ref k8, .ref k9, .ref ka, .ref kb, .int cc])), (k0, .inr (9, [.ref k00, .ref k01, .ref k02, .ref k03, .ref k04, .ref k05, .int c06, .int c07, .int c08])), (k9, .inr (7, [.ref k90, .int c91, .int c92, .int c93, .int c94])), (kb, .inl (cI, 6, .inl cb)), (k90, .inl (cI, 40, .inl c90)), (k040, .inl (cI, 60, .inl c040)), (k04, .inr (8, [.ref k040, .ref k041, .ref k042, .ref k043, .ref k044, .ref k045, .ref k046, .ref k047, .ref k048, .int c049])), (k042, .inl (cI, 60, .inl c042))] := hD
        have lo_r_17 := k_lo r_17
        have hi_r_17 := k_hi r_17
        refine lv_iload_n hx hb dX10_voice_56 rfl (lv_at hl 2 rfl) ?_
        refine lv_iload_n hx hb dX10_voice_57 rfl (lv_at hl 3 rfl) ?_
        refine kJi (wr := [(k, .inr (10, [.ref k0, .ref k1, .ref k2, .ref k3, .ref k4, .ref k5, .ref k6, .ref k7, .ref k8, .ref k9, .ref ka, .ref kb, .int cc])), (k0, .inr (9, [.ref k00, .ref k01, .ref k02, .ref k03, .ref k04, .ref k05, .int c06, .int c07, .int c08])), (kb, .inl (cI, 6, .inl cb)), (k040, .inl (cI, 60, .inl c040)), (k04, .inr (8, [.ref k040, .ref k041, .ref k042, .ref k043, .ref k044, .ref k045, .ref k046, .ref k047, .ref k048, .int c049])), (k042, .inl (cI, 60, .inl c042))]) (va_runV (As := [.int r_14, .int a0, .int r_17, .int a1, .int a2]) (rest := []) ⟨hx, hb, hml, hown, hT⟩ (c_X7_hearG l D cI aK aV k9 k90 H.size c91 c92 c93 c94 c90 r_14 a0 r_17 a1 a2) (cwV 5 hT (gV_in mw_1046 mw_1043 mw_1044 mw_1045 mw_10) rfl rfl rfl (by decide +kernel) ⟨Nat.le_of_ble_eq_true rfl, Nat.le_of_ble_eq_true rfl⟩) (kRecvX (q0 := 2) (ci := 7) hK hP hD hN hXS hS hA rfl rfl [2, 4] rfl (by decide)) rfl rfl hl.1 rfl (lv_room (Nat.le_of_ble_eq_true rfl)) dX10_voice_58 ⟨Nat.le_of_ble_eq_true rfl, Nat.le_of_ble_eq_true rfl⟩) hP hD hS hA [2, 4] [0, 1, 3, 5, 6, 7] rfl rfl (by decide) (by decide) ?_
        clear hP hD hS
        intro r_20 u_27 H locs w_21 hP hD hS
        obtain ⟨sc1_22, sc2_23, sc3_24, sc4_25, sc0_26⟩ := u_27
        replace hP : va_P D vwCl [(k, .inr (10, [.ref k0, .ref k1, .ref k2, .ref k3, .ref k4, .ref k5, .ref k6, .ref k7, .ref k8, .ref k9, .ref ka, .ref kb, .int cc])), (k0, .inr (9, [.ref k00, .ref k01, .ref k02, .ref k03, .ref k04, .ref k05, .int c06, .int c07, .int c08])), (kb, .inl (cI, 6, .inl cb)), (k040, .inl (cI, 60, .inl c040)), (k04, .inr (8, [.ref k040, .ref k041, .ref k042, .ref k043, .ref k044, .ref k045, .ref k046, .ref k047, .ref k048, .int c049])), (k042, .inl (cI, 60, .inl c042)), (k9, .inr (7, [.ref k90, .int sc1_22, .int sc2_23, .int sc3_24, .int sc4_25])), (k90, .inl (cI, 40, .inl sc0_26))] H := hP
        replace hD : va_D A [(k, .inr (10, [.ref k0, .ref k1, .ref k2, .ref k3, .ref k4, .ref k5, .ref k6, .ref k7, .ref k8, .ref k9, .ref ka, .ref kb, .int cc])), (k0, .inr (9, [.ref k00, .ref k01, .ref k02, .ref k03, .ref k04, .ref k05, .int c06, .int c07, .int c08])), (kb, .inl (cI, 6, .inl cb)), (k040, .inl (cI, 60, .inl c040)), (k04, .inr (8, [.ref k040, .ref k041, .ref k042, .ref k043, .ref k044, .ref k045, .ref k046, .ref k047, .ref k048, .int c049])), (k042, .inl (cI, 60, .inl c042)), (k9, .inr (7, [.ref k90, .int sc1_22, .int sc2_23, .int sc3_24, .int sc4_25])), (k90, .inl (cI, 40, .inl sc0_26))] := hD
        have lo_r_20 := k_lo r_20
        have hi_r_20 := k_hi r_20
        exact hRet (sc1_22, sc2_23, sc3_24, sc4_25, cb, sc0_26) [0, 1, 6, 2, 4, 7, 3, 5] trivial hP hD (by decide) rfl hS rfl dX10_voice_61
      · refine lv_aload_n hx hb dX10_voice_23 rfl (lv_at hl 0 rfl) ?_
        refine lv_iconst (v := 1) hx hb dX10_voice_24 (by decide) ?_
        refine kJi (wr := [(k0, .inr (9, [.ref k00, .ref k01, .ref k02, .ref k03, .ref k04, .ref k05, .int c06, .int c07, .int c08])), (k9, .inr (7, [.ref k90, .int c91, .int c92, .int c93, .int c94])), (k90, .inl (cI, 40, .inl c90)), (k040, .inl (cI, 60, .inl c040)), (k042, .inl (cI, 60, .inl c042)), (k04, .inr (8, [.ref k040, .ref k041, .ref k042, .ref k043, .ref k044, .ref k045, .ref k046, .ref k047, .ref k048, .int c049]))]) (va_runV (As := [.int 1]) (rest := []) ⟨hx, hb, hml, hown, hT⟩ (c_X10_findingG l D cI aK aV k k0 k1 k2 k3 k4 k5 k6 k7 k8 k9 ka kb H.size cc cb 1) (cwV 1 hT (gV_in mw_338 mw_335 mw_337 mw_p1_0 mw_1) rfl rfl rfl (by decide +kernel) ⟨Nat.le_of_ble_eq_true rfl, Nat.le_of_ble_eq_true rfl⟩) (kRecvX (q0 := 0) (ci := 10) hK hP hD hN hXS hS hA rfl rfl [0, 3] rfl (by decide)) rfl rfl hl.1 rfl (lv_room (Nat.le_of_ble_eq_true rfl)) dX10_voice_25 ⟨Nat.le_of_ble_eq_true rfl, Nat.le_of_ble_eq_true rfl⟩) hP hD hS hA [0, 3] [1, 2, 4, 5, 6, 7] rfl rfl (by decide) (by decide) ?_
        clear hP hD hS
        intro r_28 scb_30 H locs w_29 hP hD hS
        replace hP : va_P D vwCl [(k0, .inr (9, [.ref k00, .ref k01, .ref k02, .ref k03, .ref k04, .ref k05, .int c06, .int c07, .int c08])), (k9, .inr (7, [.ref k90, .int c91, .int c92, .int c93, .int c94])), (k90, .inl (cI, 40, .inl c90)), (k040, .inl (cI, 60, .inl c040)), (k042, .inl (cI, 60, .inl c042)), (k04, .inr (8, [.ref k040, .ref k041, .ref k042, .ref k043, .ref k044, .ref k045, .ref k046, .ref k047, .ref k048, .int c049])), (k, .inr (10, [.ref k0, .ref k1, .ref k2, .ref k3, .ref k4, .ref k5, .ref k6, .ref k7, .ref k8, .ref k9, .ref ka, .ref kb, .int cc])), (kb, .inl (cI, 6, .inl scb_30))] H := hP
        replace hD : va_D A [(k0, .inr (9, [.ref k00, .ref k01, .ref k02, .ref k03, .ref k04, .ref k05, .int c06, .int c07, .int c08])), (k9, .inr (7, [.ref k90, .int c91, .int c92, .int c93, .int c94])), (k90, .inl (cI, 40, .inl c90)), (k040, .inl (cI, 60, .inl c040)), (k042, .inl (cI, 60, .inl c042)), (k04, .inr (8, [.ref k040, .ref k041, .ref k042, .ref k043, .ref k044, .ref k045, .ref k046, .ref k047, .ref k048, .int c049])), (k, .inr (10, [.ref k0, .ref k1, .ref k2, .ref k3, .ref k4, .ref k5, .ref k6, .ref k7, .ref k8, .ref k9, .ref ka, .ref kb, .int cc])), (kb, .inl (cI, 6, .inl scb_30))] := hD
        have hr_28 := w_29
        obtain rfl : r_28 = (-1000001) := hr_28.trans (by decide)
        exact hRet (c91, c92, c93, c94, scb_30, c90) [6, 0, 1, 7, 5, 2, 3, 4] trivial hP hD (by decide) rfl hS rfl dX10_voice_28
  · have h_7 : a0.toInt < 0 ∨ c049.toInt ≤ a0.toInt ∨ 60 ≤ a0.toInt := h_7
    obtain rfl : r_1 = 0 := hr_1.trans (by decide)
    refine b_if_eq hx hb zl_0 (tgt := 23) dX10_voice_11 (by decide) (fun c_31 => ?_) (fun c_31 => by exfalso; omega)
    refine lv_aload_n hx hb dX10_voice_23 rfl (lv_at hl 0 rfl) ?_
    refine lv_iconst (v := 1) hx hb dX10_voice_24 (by decide) ?_
    refine kJi (wr := [(k0, .inr (9, [.ref k00, .ref k01, .ref k02, .ref k03, .ref k04, .ref k05, .int c06, .int c07, .int c08])), (k9, .inr (7, [.ref k90, .int c91, .int c92, .int c93, .int c94])), (k90, .inl (cI, 40, .inl c90)), (k040, .inl (cI, 60, .inl c040)), (k042, .inl (cI, 60, .inl c042)), (k04, .inr (8, [.ref k040, .ref k041, .ref k042, .ref k043, .ref k044, .ref k045, .ref k046, .ref k047, .ref k048, .int c049]))]) (va_runV (As := [.int 1]) (rest := []) ⟨hx, hb, hml, hown, hT⟩ (c_X10_findingG l D cI aK aV k k0 k1 k2 k3 k4 k5 k6 k7 k8 k9 ka kb H.size cc cb 1) (cwV 1 hT (gV_in mw_338 mw_335 mw_337 mw_p1_0 mw_1) rfl rfl rfl (by decide +kernel) ⟨Nat.le_of_ble_eq_true rfl, Nat.le_of_ble_eq_true rfl⟩) (kRecvX (q0 := 0) (ci := 10) hK hP hD hN hXS hS hA rfl rfl [0, 3] rfl (by decide)) rfl rfl hl.1 rfl (lv_room (Nat.le_of_ble_eq_true rfl)) dX10_voice_25 ⟨Nat.le_of_ble_eq_true rfl, Nat.le_of_ble_eq_true rfl⟩) hP hD hS hA [0, 3] [1, 2, 4, 5, 6, 7] rfl rfl (by decide) (by decide) ?_
    clear hP hD hS
    intro r_32 scb_34 H locs w_33 hP hD hS
    replace hP : va_P D vwCl [(k0, .inr (9, [.ref k00, .ref k01, .ref k02, .ref k03, .ref k04, .ref k05, .int c06, .int c07, .int c08])), (k9, .inr (7, [.ref k90, .int c91, .int c92, .int c93, .int c94])), (k90, .inl (cI, 40, .inl c90)), (k040, .inl (cI, 60, .inl c040)), (k042, .inl (cI, 60, .inl c042)), (k04, .inr (8, [.ref k040, .ref k041, .ref k042, .ref k043, .ref k044, .ref k045, .ref k046, .ref k047, .ref k048, .int c049])), (k, .inr (10, [.ref k0, .ref k1, .ref k2, .ref k3, .ref k4, .ref k5, .ref k6, .ref k7, .ref k8, .ref k9, .ref ka, .ref kb, .int cc])), (kb, .inl (cI, 6, .inl scb_34))] H := hP
    replace hD : va_D A [(k0, .inr (9, [.ref k00, .ref k01, .ref k02, .ref k03, .ref k04, .ref k05, .int c06, .int c07, .int c08])), (k9, .inr (7, [.ref k90, .int c91, .int c92, .int c93, .int c94])), (k90, .inl (cI, 40, .inl c90)), (k040, .inl (cI, 60, .inl c040)), (k042, .inl (cI, 60, .inl c042)), (k04, .inr (8, [.ref k040, .ref k041, .ref k042, .ref k043, .ref k044, .ref k045, .ref k046, .ref k047, .ref k048, .int c049])), (k, .inr (10, [.ref k0, .ref k1, .ref k2, .ref k3, .ref k4, .ref k5, .ref k6, .ref k7, .ref k8, .ref k9, .ref ka, .ref kb, .int cc])), (kb, .inl (cI, 6, .inl scb_34))] := hD
    have hr_32 := w_33
    obtain rfl : r_32 = (-1000001) := hr_32.trans (by decide)
    exact hRet (c91, c92, c93, c94, scb_34, c90) [6, 0, 1, 7, 5, 2, 3, 4] trivial hP hD (by decide) rfl hS rfl dX10_voice_28
theorem dX10_valueOf_0 : decode cX10_valueOf 0 = .ok (.aload_n 0, 1) := by decide +kernel
theorem dX10_valueOf_1 : decode cX10_valueOf 1 = .ok (.getfield 25, 3) := by decide +kernel
theorem dX10_valueOf_4 : decode cX10_valueOf 4 = .ok (.iload_n 1, 1) := by decide +kernel
theorem dX10_valueOf_5 : decode cX10_valueOf 5 = .ok (.aload_n 0, 1) := by decide +kernel
theorem dX10_valueOf_6 : decode cX10_valueOf 6 = .ok (.getfield 12, 3) := by decide +kernel
theorem dX10_valueOf_9 : decode cX10_valueOf 9 = .ok (.getfield 109, 3) := by decide +kernel
theorem dX10_valueOf_12 : decode cX10_valueOf 12 = .ok (.invokevirtual 285, 3) := by decide +kernel
theorem dX10_valueOf_15 : decode cX10_valueOf 15 = .ok (.istore 5, 2) := by decide +kernel
theorem dX10_valueOf_17 : decode cX10_valueOf 17 = .ok (.iload 5, 2) := by decide +kernel
theorem dX10_valueOf_19 : decode cX10_valueOf 19 = .ok (.ifCond .lt 31, 3) := by decide +kernel
theorem dX10_valueOf_22 : decode cX10_valueOf 22 = .ok (.aload_n 0, 1) := by decide +kernel
theorem dX10_valueOf_23 : decode cX10_valueOf 23 = .ok (.getfield 35, 3) := by decide +kernel
theorem dX10_valueOf_26 : decode cX10_valueOf 26 = .ok (.aload_n 0, 1) := by decide +kernel
theorem dX10_valueOf_27 : decode cX10_valueOf 27 = .ok (.getfield 25, 3) := by decide +kernel
theorem dX10_valueOf_30 : decode cX10_valueOf 30 = .ok (.getfield 294, 3) := by decide +kernel
theorem dX10_valueOf_33 : decode cX10_valueOf 33 = .ok (.iload 5, 2) := by decide +kernel
theorem dX10_valueOf_35 : decode cX10_valueOf 35 = .ok (.bipush 50, 2) := by decide +kernel
theorem dX10_valueOf_37 : decode cX10_valueOf 37 = .ok (.imul, 1) := by decide +kernel
theorem dX10_valueOf_38 : decode cX10_valueOf 38 = .ok (.aload_n 0, 1) := by decide +kernel
theorem dX10_valueOf_39 : decode cX10_valueOf 39 = .ok (.getfield 25, 3) := by decide +kernel
theorem dX10_valueOf_42 : decode cX10_valueOf 42 = .ok (.iload 5, 2) := by decide +kernel
theorem dX10_valueOf_44 : decode cX10_valueOf 44 = .ok (.invokevirtual 297, 3) := by decide +kernel
theorem dX10_valueOf_47 : decode cX10_valueOf 47 = .ok (.invokevirtual 272, 3) := by decide +kernel
theorem dX10_valueOf_50 : decode cX10_valueOf 50 = .ok (.iload_n 1, 1) := by decide +kernel
theorem dX10_valueOf_51 : decode cX10_valueOf 51 = .ok (.lookupswitch 75 #[(0, 25), (1, 50)], 25) := by decide +kernel
theorem dX10_valueOf_76 : decode cX10_valueOf 76 = .ok (.iload 5, 2) := by decide +kernel
theorem dX10_valueOf_78 : decode cX10_valueOf 78 = .ok (.ifCond .ge 10, 3) := by decide +kernel
theorem dX10_valueOf_81 : decode cX10_valueOf 81 = .ok (.iload_n 2, 1) := by decide +kernel
theorem dX10_valueOf_82 : decode cX10_valueOf 82 = .ok (.iload 4, 2) := by decide +kernel
theorem dX10_valueOf_84 : decode cX10_valueOf 84 = .ok (.imul, 1) := by decide +kernel
theorem dX10_valueOf_85 : decode cX10_valueOf 85 = .ok (.goto 15, 3) := by decide +kernel
theorem dX10_valueOf_88 : decode cX10_valueOf 88 = .ok (.aload_n 0, 1) := by decide +kernel
theorem dX10_valueOf_89 : decode cX10_valueOf 89 = .ok (.getfield 35, 3) := by decide +kernel
theorem dX10_valueOf_92 : decode cX10_valueOf 92 = .ok (.iload_n 1, 1) := by decide +kernel
theorem dX10_valueOf_93 : decode cX10_valueOf 93 = .ok (.iload_n 2, 1) := by decide +kernel
theorem dX10_valueOf_94 : decode cX10_valueOf 94 = .ok (.iload_n 3, 1) := by decide +kernel
theorem dX10_valueOf_95 : decode cX10_valueOf 95 = .ok (.iload 4, 2) := by decide +kernel
theorem dX10_valueOf_97 : decode cX10_valueOf 97 = .ok (.invokevirtual 276, 3) := by decide +kernel
theorem dX10_valueOf_100 : decode cX10_valueOf 100 = .ok (.ireturn, 1) := by decide +kernel
theorem dX10_valueOf_101 : decode cX10_valueOf 101 = .ok (.iload 5, 2) := by decide +kernel
theorem dX10_valueOf_103 : decode cX10_valueOf 103 = .ok (.ifCond .ge 10, 3) := by decide +kernel
theorem dX10_valueOf_106 : decode cX10_valueOf 106 = .ok (.bipush 70, 2) := by decide +kernel
theorem dX10_valueOf_108 : decode cX10_valueOf 108 = .ok (.iload_n 2, 1) := by decide +kernel
theorem dX10_valueOf_109 : decode cX10_valueOf 109 = .ok (.imul, 1) := by decide +kernel
theorem dX10_valueOf_110 : decode cX10_valueOf 110 = .ok (.goto 15, 3) := by decide +kernel
theorem dX10_valueOf_113 : decode cX10_valueOf 113 = .ok (.aload_n 0, 1) := by decide +kernel
theorem dX10_valueOf_114 : decode cX10_valueOf 114 = .ok (.getfield 35, 3) := by decide +kernel
theorem dX10_valueOf_117 : decode cX10_valueOf 117 = .ok (.iload_n 1, 1) := by decide +kernel
theorem dX10_valueOf_118 : decode cX10_valueOf 118 = .ok (.iload_n 2, 1) := by decide +kernel
theorem dX10_valueOf_119 : decode cX10_valueOf 119 = .ok (.iload_n 3, 1) := by decide +kernel
theorem dX10_valueOf_120 : decode cX10_valueOf 120 = .ok (.iload 4, 2) := by decide +kernel
theorem dX10_valueOf_122 : decode cX10_valueOf 122 = .ok (.invokevirtual 276, 3) := by decide +kernel
theorem dX10_valueOf_125 : decode cX10_valueOf 125 = .ok (.ireturn, 1) := by decide +kernel
theorem dX10_valueOf_126 : decode cX10_valueOf 126 = .ok (.iconst 0, 1) := by decide +kernel
theorem dX10_valueOf_127 : decode cX10_valueOf 127 = .ok (.iload 5, 2) := by decide +kernel
theorem dX10_valueOf_129 : decode cX10_valueOf 129 = .ok (.ifCond .ge 10, 3) := by decide +kernel
theorem dX10_valueOf_132 : decode cX10_valueOf 132 = .ok (.iload_n 3, 1) := by decide +kernel
theorem dX10_valueOf_133 : decode cX10_valueOf 133 = .ok (.iload 4, 2) := by decide +kernel
theorem dX10_valueOf_135 : decode cX10_valueOf 135 = .ok (.isub, 1) := by decide +kernel
theorem dX10_valueOf_136 : decode cX10_valueOf 136 = .ok (.goto 15, 3) := by decide +kernel
theorem dX10_valueOf_139 : decode cX10_valueOf 139 = .ok (.aload_n 0, 1) := by decide +kernel
theorem dX10_valueOf_140 : decode cX10_valueOf 140 = .ok (.getfield 35, 3) := by decide +kernel
theorem dX10_valueOf_143 : decode cX10_valueOf 143 = .ok (.iload_n 1, 1) := by decide +kernel
theorem dX10_valueOf_144 : decode cX10_valueOf 144 = .ok (.iload_n 2, 1) := by decide +kernel
theorem dX10_valueOf_145 : decode cX10_valueOf 145 = .ok (.iload_n 3, 1) := by decide +kernel
theorem dX10_valueOf_146 : decode cX10_valueOf 146 = .ok (.iload 4, 2) := by decide +kernel
theorem dX10_valueOf_148 : decode cX10_valueOf 148 = .ok (.invokevirtual 276, 3) := by decide +kernel
theorem dX10_valueOf_151 : decode cX10_valueOf 151 = .ok (.invokestatic 247, 3) := by decide +kernel
theorem dX10_valueOf_154 : decode cX10_valueOf 154 = .ok (.ireturn, 1) := by decide +kernel
set_option maxHeartbeats 4000000 in
set_option maxRecDepth 100000 in
theorem c_X10_valueOfG (l : Launch) (D : va_G) (cI : ClassId) (aK aV : Nat → Nat) (k k0 k1 k2 k3 k4 k5 k6 k7 k8 k9 ka kb k00 k01 k02 k03 k04 k05 k30 k31 k32 k33 k34 k50 : Nat) (sz : Nat) (cc : Int32) (c06 : Int32) (c07 : Int32) (c08 : Int32) (c35 : Int32) (c36 : Int32) (c51 : Int32) (c52 : Int32) (c53 : Int32) (c54 : Int32) (c55 : Int32) (c56 : Int32) (c57 : Int32) (c31 : Nat → Int32) (c32 : Nat → Int32) (c33 : Nat → Int32) (c34 : Nat → Int32) (c50 : Nat → Int32) (a0 : Int32) (a1 : Int32) (a2 : Int32) (a3 : Int32) (pre0 : BYT c50 0) (pre1 : BYN 600 c31) (pre2 : ∀ k : Nat, k < 12 → 0 ≤ (c32 k).toInt ∧ (c32 k).toInt ≤ 50) (pre3 : 0 ≤ c36.toInt) (pre4 : c36.toInt ≤ 12) (pre5 : 0 ≤ a0.toInt) (pre6 : a0.toInt ≤ 2) : Met l yX10_valueOf (gW yX10_valueOf cX10_valueOf 6 (some .int)) ({ frames := 94, cells := 0, slots := 0, locals := 5937 } : Room) (kPreX D cI aK aV [.ref k, .int a0, .int a1, .int a2, .int a3] [(k, .inr (10, [.ref k0, .ref k1, .ref k2, .ref k3, .ref k4, .ref k5, .ref k6, .ref k7, .ref k8, .ref k9, .ref ka, .ref kb, .int cc])), (k0, .inr (9, [.ref k00, .ref k01, .ref k02, .ref k03, .ref k04, .ref k05, .int c06, .int c07, .int c08])), (k3, .inr (4, [.ref k30, .ref k31, .ref k32, .ref k33, .ref k34, .int c35, .int c36])), (k5, .inr (5, [.ref k50, .int c51, .int c52, .int c53, .int c54, .int c55, .int c56, .int c57])), (k31, .inl (cI, 600, .inl c31)), (k32, .inl (cI, 12, .inl c32)), (k33, .inl (cI, 12, .inl c33)), (k34, .inl (cI, 12, .inl c34)), (k50, .inl (cI, 50, .inl c50))] sz) (va_Qi (fun (r : Int32) (u : Int32 × Int32 × Int32 × Int32 × Int32 × Int32 × Int32 × (Nat → Int32)) => PRV c33 c34 (fun j => tG c31 (50 * j) (c32 j)) c32 c36.toInt.toNat c08 a0 a1 a2 a3 r ∧ BYT u.2.2.2.2.2.2.2 0) (fun u t => kWd D cI (va_A [(k, .inr (10, [.ref k0, .ref k1, .ref k2, .ref k3, .ref k4, .ref k5, .ref k6, .ref k7, .ref k8, .ref k9, .ref ka, .ref kb, .int cc])), (k0, .inr (9, [.ref k00, .ref k01, .ref k02, .ref k03, .ref k04, .ref k05, .int c06, .int c07, .int c08])), (k3, .inr (4, [.ref k30, .ref k31, .ref k32, .ref k33, .ref k34, .int c35, .int c36])), (k5, .inr (5, [.ref k50, .int c51, .int c52, .int c53, .int c54, .int c55, .int c56, .int c57])), (k31, .inl (cI, 600, .inl c31)), (k32, .inl (cI, 12, .inl c32)), (k33, .inl (cI, 12, .inl c33)), (k34, .inl (cI, 12, .inl c34)), (k50, .inl (cI, 50, .inl c50))] sz) [(k, .inr (10, [.ref k0, .ref k1, .ref k2, .ref k3, .ref k4, .ref k5, .ref k6, .ref k7, .ref k8, .ref k9, .ref ka, .ref kb, .int cc])), (k0, .inr (9, [.ref k00, .ref k01, .ref k02, .ref k03, .ref k04, .ref k05, .int c06, .int c07, .int c08])), (k3, .inr (4, [.ref k30, .ref k31, .ref k32, .ref k33, .ref k34, .int c35, .int c36])), (k5, .inr (5, [.ref k50, .int u.1, .int u.2.1, .int u.2.2.1, .int u.2.2.2.1, .int u.2.2.2.2.1, .int u.2.2.2.2.2.1, .int u.2.2.2.2.2.2.1])), (k31, .inl (cI, 600, .inl c31)), (k32, .inl (cI, 12, .inl c32)), (k33, .inl (cI, 12, .inl c33)), (k34, .inl (cI, 12, .inl c34)), (k50, .inl (cI, 50, .inl u.2.2.2.2.2.2.2))] t) (va_A [(k, .inr (10, [.ref k0, .ref k1, .ref k2, .ref k3, .ref k4, .ref k5, .ref k6, .ref k7, .ref k8, .ref k9, .ref ka, .ref kb, .int cc])), (k0, .inr (9, [.ref k00, .ref k01, .ref k02, .ref k03, .ref k04, .ref k05, .int c06, .int c07, .int c08])), (k3, .inr (4, [.ref k30, .ref k31, .ref k32, .ref k33, .ref k34, .int c35, .int c36])), (k5, .inr (5, [.ref k50, .int c51, .int c52, .int c53, .int c54, .int c55, .int c56, .int c57])), (k31, .inl (cI, 600, .inl c31)), (k32, .inl (cI, 12, .inl c32)), (k33, .inl (cI, 12, .inl c33)), (k34, .inl (cI, 12, .inl c34)), (k50, .inl (cI, 50, .inl c50))] sz)) 0 0 (va_A [(k, .inr (10, [.ref k0, .ref k1, .ref k2, .ref k3, .ref k4, .ref k5, .ref k6, .ref k7, .ref k8, .ref k9, .ref ka, .ref kb, .int cc])), (k0, .inr (9, [.ref k00, .ref k01, .ref k02, .ref k03, .ref k04, .ref k05, .int c06, .int c07, .int c08])), (k3, .inr (4, [.ref k30, .ref k31, .ref k32, .ref k33, .ref k34, .int c35, .int c36])), (k5, .inr (5, [.ref k50, .int c51, .int c52, .int c53, .int c54, .int c55, .int c56, .int c57])), (k31, .inl (cI, 600, .inl c31)), (k32, .inl (cI, 12, .inl c32)), (k33, .inl (cI, 12, .inl c33)), (k34, .inl (cI, 12, .inl c34)), (k50, .inl (cI, 50, .inl c50))] sz) := by
  refine kMetIX (own := RX10) (by decide) rfl (Nat.le_of_ble_eq_true rfl) ?_
  intro p e s m args below meth c hx hb hT hown hname hml A Q hK hP hD hS hA hN hXS hRet ls hl
  have hl : lv_has ls 6 [(0, .ref k), (1, .int a0), (2, .int a1), (3, .int a2), (4, .int a3)] := hl
  have lo_a0 := k_lo a0
  have hi_a0 := k_hi a0
  have lo_a1 := k_lo a1
  have hi_a1 := k_hi a1
  have lo_a2 := k_lo a2
  have hi_a2 := k_hi a2
  have lo_a3 := k_lo a3
  have hi_a3 := k_hi a3
  have lo_c08 := k_lo c08
  have hi_c08 := k_hi c08
  have lo_c36 := k_lo c36
  have hi_c36 := k_hi c36
  have pre0 : BYT c50 0 := pre0
  have pre1 : BYN 600 c31 := pre1
  refine lv_aload_n hx hb dX10_valueOf_0 rfl (lv_at hl 0 rfl) ?_
  refine va_get (D := D) (ci := 10) (v := .ref k3) (C := RX10) (T := TX10) (N := 13) hx hb hT giX10 hown hK hP 0 rfl rfl 3 (by decide) (hT (Cond.fieldLink RX10 25 "DesertWire" "rates" "LDesertWire$Rates;") mw_294) (fun _ h9 => h9) rfl dX10_valueOf_1 ?_
  refine lv_iload_n hx hb dX10_valueOf_4 rfl (lv_at hl 1 rfl) ?_
  refine lv_aload_n hx hb dX10_valueOf_5 rfl (lv_at hl 0 rfl) ?_
  refine va_get (D := D) (ci := 10) (v := .ref k0) (C := RX10) (T := TX10) (N := 13) hx hb hT giX10 hown hK hP 0 rfl rfl 0 (by decide) (hT (Cond.fieldLink RX10 12 "DesertWire" "now" "LDesertWire$World;") mw_291) (fun _ h9 => h9) rfl dX10_valueOf_6 ?_
  refine va_get (D := D) (ci := 9) (v := .int c08) (C := RX9) (T := TX9) (N := 9) hx hb hT giX9 hown hK hP 1 rfl rfl 8 (by decide) (hT (Cond.fieldLink RX10 109 "DesertWire$World" "day" "I") mw_110) (fun _ h9 => h9) rfl dX10_valueOf_9 ?_
  refine kJi (wr := [(k, .inr (10, [.ref k0, .ref k1, .ref k2, .ref k3, .ref k4, .ref k5, .ref k6, .ref k7, .ref k8, .ref k9, .ref ka, .ref kb, .int cc])), (k0, .inr (9, [.ref k00, .ref k01, .ref k02, .ref k03, .ref k04, .ref k05, .int c06, .int c07, .int c08])), (k5, .inr (5, [.ref k50, .int c51, .int c52, .int c53, .int c54, .int c55, .int c56, .int c57])), (k31, .inl (cI, 600, .inl c31)), (k32, .inl (cI, 12, .inl c32)), (k50, .inl (cI, 50, .inl c50))]) (va_runV (As := [.int a0, .int c08]) (rest := []) ⟨hx, hb, hml, hown, hT⟩ (c_X4_inForceG l D cI aK aV k3 k30 k31 k32 k33 k34 s.heap.size c35 c36 c33 c34 a0 c08 (by first | omega | decide | assumption | rfl) (by first | omega | decide | assumption | rfl)) (cwV 2 hT (gV_in mw_444 mw_441 mw_442 mw_443 mw_5) rfl rfl rfl (by decide +kernel) ⟨Nat.le_of_ble_eq_true rfl, Nat.le_of_ble_eq_true rfl⟩) (kRecvX (q0 := 2) (ci := 4) hK hP hD hN hXS hS hA rfl rfl [2, 6, 7] rfl (by decide)) rfl rfl hl.1 rfl (lv_room (Nat.le_of_ble_eq_true rfl)) dX10_valueOf_12 ⟨Nat.le_of_ble_eq_true rfl, Nat.le_of_ble_eq_true rfl⟩) hP hD hS hA [2, 6, 7] [0, 1, 3, 4, 5, 8] rfl rfl (by decide) (by decide) ?_
  clear hP hD hS
  intro r_1 u_3 H locs w_2 hP hD hS
  replace hP : va_P D vwCl [(k, .inr (10, [.ref k0, .ref k1, .ref k2, .ref k3, .ref k4, .ref k5, .ref k6, .ref k7, .ref k8, .ref k9, .ref ka, .ref kb, .int cc])), (k0, .inr (9, [.ref k00, .ref k01, .ref k02, .ref k03, .ref k04, .ref k05, .int c06, .int c07, .int c08])), (k5, .inr (5, [.ref k50, .int c51, .int c52, .int c53, .int c54, .int c55, .int c56, .int c57])), (k31, .inl (cI, 600, .inl c31)), (k32, .inl (cI, 12, .inl c32)), (k50, .inl (cI, 50, .inl c50)), (k3, .inr (4, [.ref k30, .ref k31, .ref k32, .ref k33, .ref k34, .int c35, .int c36])), (k33, .inl (cI, 12, .inl c33)), (k34, .inl (cI, 12, .inl c34))] H := hP
  replace hD : va_D A [(k, .inr (10, [.ref k0, .ref k1, .ref k2, .ref k3, .ref k4, .ref k5, .ref k6, .ref k7, .ref k8, .ref k9, .ref ka, .ref kb, .int cc])), (k0, .inr (9, [.ref k00, .ref k01, .ref k02, .ref k03, .ref k04, .ref k05, .int c06, .int c07, .int c08])), (k5, .inr (5, [.ref k50, .int c51, .int c52, .int c53, .int c54, .int c55, .int c56, .int c57])), (k31, .inl (cI, 600, .inl c31)), (k32, .inl (cI, 12, .inl c32)), (k50, .inl (cI, 50, .inl c50)), (k3, .inr (4, [.ref k30, .ref k31, .ref k32, .ref k33, .ref k34, .int c35, .int c36])), (k33, .inl (cI, 12, .inl c33)), (k34, .inl (cI, 12, .inl c34))] := hD
  obtain ⟨h_4, h_5, h_6⟩ := w_2
  have h_4 : r_1.toInt = inF c33 c34 a0 c08 c36.toInt.toNat := h_4
  have h_4 : r_1.toInt = inF c33 c34 a0 c08 c36.toInt.toNat := h_4
  have h_5 : -1 ≤ r_1.toInt := h_5
  have h_6 : r_1.toInt + 1 ≤ c36.toInt := h_6
  have lo_r_1 := k_lo r_1
  have hi_r_1 := k_hi r_1
  refine lv_istore (lv' := [(5, .int r_1), (0, .ref k), (1, .int a0), (2, .int a1), (3, .int a2), (4, .int a3)]) hx hb dX10_valueOf_15 hl (by decide) rfl ?_
  clear hl
  intro ls hl
  refine lv_iload hx hb dX10_valueOf_17 (lv_at hl 0 rfl) ?_
  refine b_if_lt hx hb rfl (tgt := 50) dX10_valueOf_19 (by decide) (fun c_7 => ?_) (fun c_7 => ?_)
  · refine lv_iload_n hx hb dX10_valueOf_50 rfl (lv_at hl 2 rfl) ?_
    by_cases c_8 : a0.toInt = 0
    · refine lv_lookup (off := 25) (tgt := 76) hx hb dX10_valueOf_51 (by decide) (by rw [c_8]; decide) (by decide) ?_
      refine lv_iload hx hb dX10_valueOf_76 (lv_at hl 0 rfl) ?_
      refine b_if_ge hx hb rfl (tgt := 88) dX10_valueOf_78 (by decide) (fun c_9 => by exfalso; omega) (fun c_9 => ?_)
      refine lv_iload_n hx hb dX10_valueOf_81 rfl (lv_at hl 3 rfl) ?_
      refine lv_iload hx hb dX10_valueOf_82 (lv_at hl 5 rfl) ?_
      refine lv_imul hx hb dX10_valueOf_84 ?_
      refine lv_topi (fun v_10 ev_10 => ?_)
      have lo_v_10 := k_lo v_10
      have hi_v_10 := k_hi v_10
      refine lv_goto (tgt := 100) hx hb dX10_valueOf_85 (by decide) ?_
      exact hRet (c51, c52, c53, c54, c55, c56, c57, c50) [0, 1, 6, 2, 3, 4, 7, 8, 5] ⟨(by (try dsimp only); exact (Or.inl ⟨by omega, (by unfold tx_def; (repeat (first | rw [if_pos (by omega)] | rw [if_neg (by omega)])); exact ev_10)⟩)), pre0⟩ hP hD (by decide) rfl hS rfl dX10_valueOf_100
    by_cases c_11 : a0.toInt = 1
    · refine lv_lookup (off := 50) (tgt := 101) hx hb dX10_valueOf_51 (by decide) (by rw [c_11]; decide) (by decide) ?_
      refine lv_iload hx hb dX10_valueOf_101 (lv_at hl 0 rfl) ?_
      refine b_if_ge hx hb rfl (tgt := 113) dX10_valueOf_103 (by decide) (fun c_12 => by exfalso; omega) (fun c_12 => ?_)
      refine lv_bipush (v := 70) hx hb dX10_valueOf_106 (by decide) ?_
      refine lv_iload_n hx hb dX10_valueOf_108 rfl (lv_at hl 3 rfl) ?_
      refine lv_imul hx hb dX10_valueOf_109 ?_
      refine lv_topi (fun v_13 ev_13 => ?_)
      have lo_v_13 := k_lo v_13
      have hi_v_13 := k_hi v_13
      refine lv_goto (tgt := 125) hx hb dX10_valueOf_110 (by decide) ?_
      exact hRet (c51, c52, c53, c54, c55, c56, c57, c50) [0, 1, 6, 2, 3, 4, 7, 8, 5] ⟨(by (try dsimp only); exact (Or.inl ⟨by omega, (by unfold tx_def; (repeat (first | rw [if_pos (by omega)] | rw [if_neg (by omega)])); exact ev_13)⟩)), pre0⟩ hP hD (by decide) rfl hS rfl dX10_valueOf_125
    refine lv_lookup (off := 75) (tgt := 126) hx hb dX10_valueOf_51 (by decide) (k_osw2 (by omega) (by omega)) (by decide) ?_
    refine lv_iconst (v := 0) hx hb dX10_valueOf_126 (by decide) ?_
    refine lv_iload hx hb dX10_valueOf_127 (lv_at hl 0 rfl) ?_
    refine b_if_ge hx hb rfl (tgt := 139) dX10_valueOf_129 (by decide) (fun c_14 => by exfalso; omega) (fun c_14 => ?_)
    refine lv_iload_n hx hb dX10_valueOf_132 rfl (lv_at hl 4 rfl) ?_
    refine lv_iload hx hb dX10_valueOf_133 (lv_at hl 5 rfl) ?_
    refine lv_isub hx hb dX10_valueOf_135 ?_
    refine lv_topi (fun v_15 ev_15 => ?_)
    have lo_v_15 := k_lo v_15
    have hi_v_15 := k_hi v_15
    refine lv_goto (tgt := 151) hx hb dX10_valueOf_136 (by decide) ?_
    refine va_mmax hx hb (hml.trans hl.1.symm) hown (hT _ mw_594) (hT _ mw_426) (hT _ mw_13) (hT _ mw_427) (Nat.le_of_ble_eq_true rfl) (Nat.le_of_ble_eq_true rfl) (Nat.le_of_ble_eq_true rfl) (Nat.le_of_ble_eq_true rfl) dX10_valueOf_151 ?_
    refine lv_topi (fun v_16 ev_16 => ?_)
    have lo_v_16 := k_lo v_16
    have hi_v_16 := k_hi v_16
    have tv_16 : v_16.toInt = k_max 0 v_15.toInt := by rw [ev_16]; exact k_mmax zl_0 rfl
    have sv_16 := k_max_spec (0) (v_15.toInt)
    exact hRet (c51, c52, c53, c54, c55, c56, c57, c50) [0, 1, 6, 2, 3, 4, 7, 8, 5] ⟨(by (try dsimp only); exact (Or.inl ⟨by omega, (by unfold tx_def; rw [if_neg (by omega), if_neg (by omega), ← ev_15]; by_cases cc : v_15.toInt < 0; (rw [if_pos cc]; exact k_inj (by rw [zl_0]; omega)); (rw [if_neg cc]; exact k_inj (by omega)))⟩)), pre0⟩ hP hD (by decide) rfl hS rfl dX10_valueOf_154
  · refine lv_aload_n hx hb dX10_valueOf_22 rfl (lv_at hl 1 rfl) ?_
    refine va_get (D := D) (ci := 10) (v := .ref k5) (C := RX10) (T := TX10) (N := 13) hx hb hT giX10 hown hK hP 0 rfl rfl 5 (by decide) (hT (Cond.fieldLink RX10 35 "DesertWire" "reader" "LDesertWire$Reader;") mw_296) (fun _ h9 => h9) rfl dX10_valueOf_23 ?_
    refine lv_aload_n hx hb dX10_valueOf_26 rfl (lv_at hl 1 rfl) ?_
    refine va_get (D := D) (ci := 10) (v := .ref k3) (C := RX10) (T := TX10) (N := 13) hx hb hT giX10 hown hK hP 0 rfl rfl 3 (by decide) (hT (Cond.fieldLink RX10 25 "DesertWire" "rates" "LDesertWire$Rates;") mw_294) (fun _ h9 => h9) rfl dX10_valueOf_27 ?_
    refine va_get (D := D) (ci := 4) (v := .ref k31) (C := RX4) (T := TX4) (N := 7) hx hb hT giX4 hown hK hP 6 rfl rfl 1 (by decide) (hT (Cond.fieldLink RX10 294 "DesertWire$Rates" "texts" "[I") mw_139) (fun _ h9 => h9) rfl dX10_valueOf_30 ?_
    refine lv_iload hx hb dX10_valueOf_33 (lv_at hl 0 rfl) ?_
    refine lv_bipush (v := 50) hx hb dX10_valueOf_35 (by decide) ?_
    refine lv_imul hx hb dX10_valueOf_37 ?_
    refine lv_topi (fun v_17 ev_17 => ?_)
    have tv_17 : v_17.toInt = r_1.toInt * 50 := by rw [ev_17]; exact k_mulv rfl zl_50 (by omega) (by omega)
    refine lv_aload_n hx hb dX10_valueOf_38 rfl (lv_at hl 1 rfl) ?_
    refine va_get (D := D) (ci := 10) (v := .ref k3) (C := RX10) (T := TX10) (N := 13) hx hb hT giX10 hown hK hP 0 rfl rfl 3 (by decide) (hT (Cond.fieldLink RX10 25 "DesertWire" "rates" "LDesertWire$Rates;") mw_294) (fun _ h9 => h9) rfl dX10_valueOf_39 ?_
    refine lv_iload hx hb dX10_valueOf_42 (lv_at hl 0 rfl) ?_
    refine kJi (wr := [(k, .inr (10, [.ref k0, .ref k1, .ref k2, .ref k3, .ref k4, .ref k5, .ref k6, .ref k7, .ref k8, .ref k9, .ref ka, .ref kb, .int cc])), (k0, .inr (9, [.ref k00, .ref k01, .ref k02, .ref k03, .ref k04, .ref k05, .int c06, .int c07, .int c08])), (k5, .inr (5, [.ref k50, .int c51, .int c52, .int c53, .int c54, .int c55, .int c56, .int c57])), (k31, .inl (cI, 600, .inl c31)), (k50, .inl (cI, 50, .inl c50)), (k33, .inl (cI, 12, .inl c33)), (k34, .inl (cI, 12, .inl c34))]) (va_runV (As := [.int r_1]) (rest := [.int v_17, .ref k31, .ref k5]) ⟨hx, hb, hml, hown, hT⟩ (c_X4_lengthOfG l D cI aK aV k3 k30 k31 k32 k33 k34 H.size c35 c36 c32 r_1) (cwV 1 hT (gV_in mw_448 mw_445 mw_446 mw_447 mw_5) rfl rfl rfl (by decide +kernel) ⟨Nat.le_of_ble_eq_true rfl, Nat.le_of_ble_eq_true rfl⟩) (kRecvX (q0 := 6) (ci := 4) hK hP hD hN hXS hS hA rfl rfl [6, 4] rfl (by decide)) rfl rfl hl.1 rfl (lv_room (Nat.le_of_ble_eq_true rfl)) dX10_valueOf_44 ⟨Nat.le_of_ble_eq_true rfl, Nat.le_of_ble_eq_true rfl⟩) hP hD hS hA [6, 4] [0, 1, 2, 3, 5, 7, 8] rfl rfl (by decide) (by decide) ?_
    clear hP hD hS
    intro r_18 u_20 H locs w_19 hP hD hS
    replace hP : va_P D vwCl [(k, .inr (10, [.ref k0, .ref k1, .ref k2, .ref k3, .ref k4, .ref k5, .ref k6, .ref k7, .ref k8, .ref k9, .ref ka, .ref kb, .int cc])), (k0, .inr (9, [.ref k00, .ref k01, .ref k02, .ref k03, .ref k04, .ref k05, .int c06, .int c07, .int c08])), (k5, .inr (5, [.ref k50, .int c51, .int c52, .int c53, .int c54, .int c55, .int c56, .int c57])), (k31, .inl (cI, 600, .inl c31)), (k50, .inl (cI, 50, .inl c50)), (k33, .inl (cI, 12, .inl c33)), (k34, .inl (cI, 12, .inl c34)), (k3, .inr (4, [.ref k30, .ref k31, .ref k32, .ref k33, .ref k34, .int c35, .int c36])), (k32, .inl (cI, 12, .inl c32))] H := hP
    replace hD : va_D A [(k, .inr (10, [.ref k0, .ref k1, .ref k2, .ref k3, .ref k4, .ref k5, .ref k6, .ref k7, .ref k8, .ref k9, .ref ka, .ref kb, .int cc])), (k0, .inr (9, [.ref k00, .ref k01, .ref k02, .ref k03, .ref k04, .ref k05, .int c06, .int c07, .int c08])), (k5, .inr (5, [.ref k50, .int c51, .int c52, .int c53, .int c54, .int c55, .int c56, .int c57])), (k31, .inl (cI, 600, .inl c31)), (k50, .inl (cI, 50, .inl c50)), (k33, .inl (cI, 12, .inl c33)), (k34, .inl (cI, 12, .inl c34)), (k3, .inr (4, [.ref k30, .ref k31, .ref k32, .ref k33, .ref k34, .int c35, .int c36])), (k32, .inl (cI, 12, .inl c32))] := hD
    rcases w_19 with ⟨h_21, h_22, h_23⟩ | ⟨hr_18, h_24⟩
    · have h_21 : 0 ≤ r_1.toInt := h_21
      have h_22 : r_1.toInt ≤ 11 := h_22
      have h_23 : r_18.toInt = (c32 r_1.toNatClampNeg).toInt := h_23
      have lo_r_18 := k_lo r_18
      have hi_r_18 := k_hi r_18
      have b_25 := pre2 r_1.toNatClampNeg (by rw [k_clamp]; omega)
      refine kJv (wr := [(k, .inr (10, [.ref k0, .ref k1, .ref k2, .ref k3, .ref k4, .ref k5, .ref k6, .ref k7, .ref k8, .ref k9, .ref ka, .ref kb, .int cc])), (k0, .inr (9, [.ref k00, .ref k01, .ref k02, .ref k03, .ref k04, .ref k05, .int c06, .int c07, .int c08])), (k33, .inl (cI, 12, .inl c33)), (k34, .inl (cI, 12, .inl c34)), (k3, .inr (4, [.ref k30, .ref k31, .ref k32, .ref k33, .ref k34, .int c35, .int c36])), (k32, .inl (cI, 12, .inl c32))]) (va_runV (As := [.ref k31, .int v_17, .int r_18]) (rest := []) ⟨hx, hb, hml, hown, hT⟩ (c_X5_openG600 l D cI aK aV k5 k31 k50 H.size c51 c52 c53 c54 c55 c56 c57 c50 c31 v_17 r_18 (by first | omega | decide | assumption | rfl) (by first | omega | decide | assumption | rfl) (by first | omega | decide | assumption | rfl) (by first | omega | decide | assumption | rfl) pre0 pre1) (cwV 3 hT (gV_in mw_452 mw_449 mw_450 mw_451 mw_6) rfl rfl rfl (by decide +kernel) ⟨Nat.le_of_ble_eq_true rfl, Nat.le_of_ble_eq_true rfl⟩) (kRecvX (q0 := 2) (ci := 5) hK hP hD hN hXS hS hA rfl rfl [2, 4, 3] rfl (by decide)) rfl rfl hl.1 rfl (lv_room (Nat.le_of_ble_eq_true rfl)) dX10_valueOf_47 ⟨Nat.le_of_ble_eq_true rfl, Nat.le_of_ble_eq_true rfl⟩) hP hD hS hA [2, 4, 3] [0, 1, 5, 6, 7, 8] rfl rfl (by decide) (by decide) ?_
      clear hP hD hS
      intro u_30 H locs w_27 hP hD hS
      obtain ⟨sc1_28, sc0_29⟩ := u_30
      replace hP : va_P D vwCl [(k, .inr (10, [.ref k0, .ref k1, .ref k2, .ref k3, .ref k4, .ref k5, .ref k6, .ref k7, .ref k8, .ref k9, .ref ka, .ref kb, .int cc])), (k0, .inr (9, [.ref k00, .ref k01, .ref k02, .ref k03, .ref k04, .ref k05, .int c06, .int c07, .int c08])), (k33, .inl (cI, 12, .inl c33)), (k34, .inl (cI, 12, .inl c34)), (k3, .inr (4, [.ref k30, .ref k31, .ref k32, .ref k33, .ref k34, .int c35, .int c36])), (k32, .inl (cI, 12, .inl c32)), (k5, .inr (5, [.ref k50, .int sc1_28, .int c52, .int c53, .int c54, .int c55, .int c56, .int c57])), (k50, .inl (cI, 50, .inl sc0_29)), (k31, .inl (cI, 600, .inl c31))] H := hP
      replace hD : va_D A [(k, .inr (10, [.ref k0, .ref k1, .ref k2, .ref k3, .ref k4, .ref k5, .ref k6, .ref k7, .ref k8, .ref k9, .ref ka, .ref kb, .int cc])), (k0, .inr (9, [.ref k00, .ref k01, .ref k02, .ref k03, .ref k04, .ref k05, .int c06, .int c07, .int c08])), (k33, .inl (cI, 12, .inl c33)), (k34, .inl (cI, 12, .inl c34)), (k3, .inr (4, [.ref k30, .ref k31, .ref k32, .ref k33, .ref k34, .int c35, .int c36])), (k32, .inl (cI, 12, .inl c32)), (k5, .inr (5, [.ref k50, .int sc1_28, .int c52, .int c53, .int c54, .int c55, .int c56, .int c57])), (k50, .inl (cI, 50, .inl sc0_29)), (k31, .inl (cI, 600, .inl c31))] := hD
      have lo_sc1_28 := k_lo sc1_28
      have hi_sc1_28 := k_hi sc1_28
      obtain ⟨h_31, h_32, h_33⟩ := w_27
      have h_31 : sc1_28.toInt = r_18.toInt := h_31
      have h_32 : ∀ j : Nat, (j : Int) < r_18.toInt → sc0_29 j = c31 (v_17.toInt.toNat + j) := h_32
      have h_32 : ∀ j : Nat, (j : Int) < r_18.toInt → sc0_29 j = c31 (v_17.toInt.toNat + j) := h_32
      have h_33 : BYT sc0_29 0 := h_33
      refine lv_iload_n hx hb dX10_valueOf_50 rfl (lv_at hl 2 rfl) ?_
      by_cases c_34 : a0.toInt = 0
      · refine lv_lookup (off := 25) (tgt := 76) hx hb dX10_valueOf_51 (by decide) (by rw [c_34]; decide) (by decide) ?_
        refine lv_iload hx hb dX10_valueOf_76 (lv_at hl 0 rfl) ?_
        refine b_if_ge hx hb rfl (tgt := 88) dX10_valueOf_78 (by decide) (fun c_35 => ?_) (fun c_35 => by exfalso; omega)
        refine lv_aload_n hx hb dX10_valueOf_88 rfl (lv_at hl 1 rfl) ?_
        refine va_get (D := D) (ci := 10) (v := .ref k5) (C := RX10) (T := TX10) (N := 13) hx hb hT giX10 hown hK hP 0 rfl rfl 5 (by decide) (hT (Cond.fieldLink RX10 35 "DesertWire" "reader" "LDesertWire$Reader;") mw_296) (fun _ h9 => h9) rfl dX10_valueOf_89 ?_
        refine lv_iload_n hx hb dX10_valueOf_92 rfl (lv_at hl 2 rfl) ?_
        refine lv_iload_n hx hb dX10_valueOf_93 rfl (lv_at hl 3 rfl) ?_
        refine lv_iload_n hx hb dX10_valueOf_94 rfl (lv_at hl 4 rfl) ?_
        refine lv_iload hx hb dX10_valueOf_95 (lv_at hl 5 rfl) ?_
        refine kJi (wr := [(k, .inr (10, [.ref k0, .ref k1, .ref k2, .ref k3, .ref k4, .ref k5, .ref k6, .ref k7, .ref k8, .ref k9, .ref ka, .ref kb, .int cc])), (k0, .inr (9, [.ref k00, .ref k01, .ref k02, .ref k03, .ref k04, .ref k05, .int c06, .int c07, .int c08])), (k33, .inl (cI, 12, .inl c33)), (k34, .inl (cI, 12, .inl c34)), (k3, .inr (4, [.ref k30, .ref k31, .ref k32, .ref k33, .ref k34, .int c35, .int c36])), (k32, .inl (cI, 12, .inl c32)), (k31, .inl (cI, 600, .inl c31))]) (va_runV (As := [.int a0, .int a1, .int a2, .int a3]) (rest := []) ⟨hx, hb, hml, hown, hT⟩ (c_X5_valueForG l D cI aK aV k5 k50 H.size sc1_28 c52 c53 c54 c55 c56 c57 sc0_29 a0 a1 a2 a3 h_33 (by first | omega | decide | assumption | rfl) (by first | omega | decide | assumption | rfl)) (cwV 4 hT (gV_in mw_456 mw_453 mw_454 mw_455 mw_6) rfl rfl rfl (by decide +kernel) ⟨Nat.le_of_ble_eq_true rfl, Nat.le_of_ble_eq_true rfl⟩) (kRecvX (q0 := 6) (ci := 5) hK hP hD hN hXS hS hA rfl rfl [6, 7] rfl (by decide)) rfl rfl hl.1 rfl (lv_room (Nat.le_of_ble_eq_true rfl)) dX10_valueOf_97 ⟨Nat.le_of_ble_eq_true rfl, Nat.le_of_ble_eq_true rfl⟩) hP hD hS hA [6, 7] [0, 1, 2, 3, 4, 5, 8] rfl rfl (by decide) (by decide) ?_
        clear hP hD hS
        intro r_36 u_44 H locs w_37 hP hD hS
        obtain ⟨sc2_38, sc3_39, sc4_40, sc5_41, sc6_42, sc7_43⟩ := u_44
        replace hP : va_P D vwCl [(k, .inr (10, [.ref k0, .ref k1, .ref k2, .ref k3, .ref k4, .ref k5, .ref k6, .ref k7, .ref k8, .ref k9, .ref ka, .ref kb, .int cc])), (k0, .inr (9, [.ref k00, .ref k01, .ref k02, .ref k03, .ref k04, .ref k05, .int c06, .int c07, .int c08])), (k33, .inl (cI, 12, .inl c33)), (k34, .inl (cI, 12, .inl c34)), (k3, .inr (4, [.ref k30, .ref k31, .ref k32, .ref k33, .ref k34, .int c35, .int c36])), (k32, .inl (cI, 12, .inl c32)), (k31, .inl (cI, 600, .inl c31)), (k5, .inr (5, [.ref k50, .int sc1_28, .int sc2_38, .int sc3_39, .int sc4_40, .int sc5_41, .int sc6_42, .int sc7_43])), (k50, .inl (cI, 50, .inl sc0_29))] H := hP
        replace hD : va_D A [(k, .inr (10, [.ref k0, .ref k1, .ref k2, .ref k3, .ref k4, .ref k5, .ref k6, .ref k7, .ref k8, .ref k9, .ref ka, .ref kb, .int cc])), (k0, .inr (9, [.ref k00, .ref k01, .ref k02, .ref k03, .ref k04, .ref k05, .int c06, .int c07, .int c08])), (k33, .inl (cI, 12, .inl c33)), (k34, .inl (cI, 12, .inl c34)), (k3, .inr (4, [.ref k30, .ref k31, .ref k32, .ref k33, .ref k34, .int c35, .int c36])), (k32, .inl (cI, 12, .inl c32)), (k31, .inl (cI, 600, .inl c31)), (k5, .inr (5, [.ref k50, .int sc1_28, .int sc2_38, .int sc3_39, .int sc4_40, .int sc5_41, .int sc6_42, .int sc7_43])), (k50, .inl (cI, 50, .inl sc0_29))] := hD
        have lo_sc2_38 := k_lo sc2_38
        have hi_sc2_38 := k_hi sc2_38
        have lo_sc3_39 := k_lo sc3_39
        have hi_sc3_39 := k_hi sc3_39
        obtain ⟨h_45, h_46, h_47⟩ := w_37
        have h_45 : TXF (tG sc0_29 0 sc1_28) sc1_28.toInt a0 a1 a2 a3 r_36 sc2_38.toInt sc3_39 := h_45
        have h_45 : TXF (tG sc0_29 0 sc1_28) sc1_28.toInt a0 a1 a2 a3 r_36 sc2_38.toInt sc3_39 := h_45
        have h_46 : 0 ≤ sc2_38.toInt := h_46
        have h_47 : sc2_38.toInt ≤ sc1_28.toInt := h_47
        have lo_r_36 := k_lo r_36
        have hi_r_36 := k_hi r_36
        exact hRet (sc1_28, sc2_38, sc3_39, sc4_40, sc5_41, sc6_42, sc7_43, sc0_29) [0, 1, 4, 7, 6, 5, 2, 3, 8] ⟨(by (try dsimp only); exact (prv_in (rr := r_1) h_4 (by omega) h_45 (by omega) (fun j hj => by rw [h_32 j (by omega)]; congr 1; omega) (by unfold tx_post; rw [if_neg (by omega)]))), h_33⟩ hP hD (by decide) rfl hS rfl dX10_valueOf_100
      by_cases c_48 : a0.toInt = 1
      · refine lv_lookup (off := 50) (tgt := 101) hx hb dX10_valueOf_51 (by decide) (by rw [c_48]; decide) (by decide) ?_
        refine lv_iload hx hb dX10_valueOf_101 (lv_at hl 0 rfl) ?_
        refine b_if_ge hx hb rfl (tgt := 113) dX10_valueOf_103 (by decide) (fun c_49 => ?_) (fun c_49 => by exfalso; omega)
        refine lv_aload_n hx hb dX10_valueOf_113 rfl (lv_at hl 1 rfl) ?_
        refine va_get (D := D) (ci := 10) (v := .ref k5) (C := RX10) (T := TX10) (N := 13) hx hb hT giX10 hown hK hP 0 rfl rfl 5 (by decide) (hT (Cond.fieldLink RX10 35 "DesertWire" "reader" "LDesertWire$Reader;") mw_296) (fun _ h9 => h9) rfl dX10_valueOf_114 ?_
        refine lv_iload_n hx hb dX10_valueOf_117 rfl (lv_at hl 2 rfl) ?_
        refine lv_iload_n hx hb dX10_valueOf_118 rfl (lv_at hl 3 rfl) ?_
        refine lv_iload_n hx hb dX10_valueOf_119 rfl (lv_at hl 4 rfl) ?_
        refine lv_iload hx hb dX10_valueOf_120 (lv_at hl 5 rfl) ?_
        refine kJi (wr := [(k, .inr (10, [.ref k0, .ref k1, .ref k2, .ref k3, .ref k4, .ref k5, .ref k6, .ref k7, .ref k8, .ref k9, .ref ka, .ref kb, .int cc])), (k0, .inr (9, [.ref k00, .ref k01, .ref k02, .ref k03, .ref k04, .ref k05, .int c06, .int c07, .int c08])), (k33, .inl (cI, 12, .inl c33)), (k34, .inl (cI, 12, .inl c34)), (k3, .inr (4, [.ref k30, .ref k31, .ref k32, .ref k33, .ref k34, .int c35, .int c36])), (k32, .inl (cI, 12, .inl c32)), (k31, .inl (cI, 600, .inl c31))]) (va_runV (As := [.int a0, .int a1, .int a2, .int a3]) (rest := []) ⟨hx, hb, hml, hown, hT⟩ (c_X5_valueForG l D cI aK aV k5 k50 H.size sc1_28 c52 c53 c54 c55 c56 c57 sc0_29 a0 a1 a2 a3 h_33 (by first | omega | decide | assumption | rfl) (by first | omega | decide | assumption | rfl)) (cwV 4 hT (gV_in mw_456 mw_453 mw_454 mw_455 mw_6) rfl rfl rfl (by decide +kernel) ⟨Nat.le_of_ble_eq_true rfl, Nat.le_of_ble_eq_true rfl⟩) (kRecvX (q0 := 6) (ci := 5) hK hP hD hN hXS hS hA rfl rfl [6, 7] rfl (by decide)) rfl rfl hl.1 rfl (lv_room (Nat.le_of_ble_eq_true rfl)) dX10_valueOf_122 ⟨Nat.le_of_ble_eq_true rfl, Nat.le_of_ble_eq_true rfl⟩) hP hD hS hA [6, 7] [0, 1, 2, 3, 4, 5, 8] rfl rfl (by decide) (by decide) ?_
        clear hP hD hS
        intro r_50 u_58 H locs w_51 hP hD hS
        obtain ⟨sc2_52, sc3_53, sc4_54, sc5_55, sc6_56, sc7_57⟩ := u_58
        replace hP : va_P D vwCl [(k, .inr (10, [.ref k0, .ref k1, .ref k2, .ref k3, .ref k4, .ref k5, .ref k6, .ref k7, .ref k8, .ref k9, .ref ka, .ref kb, .int cc])), (k0, .inr (9, [.ref k00, .ref k01, .ref k02, .ref k03, .ref k04, .ref k05, .int c06, .int c07, .int c08])), (k33, .inl (cI, 12, .inl c33)), (k34, .inl (cI, 12, .inl c34)), (k3, .inr (4, [.ref k30, .ref k31, .ref k32, .ref k33, .ref k34, .int c35, .int c36])), (k32, .inl (cI, 12, .inl c32)), (k31, .inl (cI, 600, .inl c31)), (k5, .inr (5, [.ref k50, .int sc1_28, .int sc2_52, .int sc3_53, .int sc4_54, .int sc5_55, .int sc6_56, .int sc7_57])), (k50, .inl (cI, 50, .inl sc0_29))] H := hP
        replace hD : va_D A [(k, .inr (10, [.ref k0, .ref k1, .ref k2, .ref k3, .ref k4, .ref k5, .ref k6, .ref k7, .ref k8, .ref k9, .ref ka, .ref kb, .int cc])), (k0, .inr (9, [.ref k00, .ref k01, .ref k02, .ref k03, .ref k04, .ref k05, .int c06, .int c07, .int c08])), (k33, .inl (cI, 12, .inl c33)), (k34, .inl (cI, 12, .inl c34)), (k3, .inr (4, [.ref k30, .ref k31, .ref k32, .ref k33, .ref k34, .int c35, .int c36])), (k32, .inl (cI, 12, .inl c32)), (k31, .inl (cI, 600, .inl c31)), (k5, .inr (5, [.ref k50, .int sc1_28, .int sc2_52, .int sc3_53, .int sc4_54, .int sc5_55, .int sc6_56, .int sc7_57])), (k50, .inl (cI, 50, .inl sc0_29))] := hD
        have lo_sc2_52 := k_lo sc2_52
        have hi_sc2_52 := k_hi sc2_52
        have lo_sc3_53 := k_lo sc3_53
        have hi_sc3_53 := k_hi sc3_53
        obtain ⟨h_59, h_60, h_61⟩ := w_51
        have h_59 : TXF (tG sc0_29 0 sc1_28) sc1_28.toInt a0 a1 a2 a3 r_50 sc2_52.toInt sc3_53 := h_59
        have h_59 : TXF (tG sc0_29 0 sc1_28) sc1_28.toInt a0 a1 a2 a3 r_50 sc2_52.toInt sc3_53 := h_59
        have h_60 : 0 ≤ sc2_52.toInt := h_60
        have h_61 : sc2_52.toInt ≤ sc1_28.toInt := h_61
        have lo_r_50 := k_lo r_50
        have hi_r_50 := k_hi r_50
        exact hRet (sc1_28, sc2_52, sc3_53, sc4_54, sc5_55, sc6_56, sc7_57, sc0_29) [0, 1, 4, 7, 6, 5, 2, 3, 8] ⟨(by (try dsimp only); exact (prv_in (rr := r_1) h_4 (by omega) h_59 (by omega) (fun j hj => by rw [h_32 j (by omega)]; congr 1; omega) (by unfold tx_post; rw [if_neg (by omega)]))), h_33⟩ hP hD (by decide) rfl hS rfl dX10_valueOf_125
      refine lv_lookup (off := 75) (tgt := 126) hx hb dX10_valueOf_51 (by decide) (k_osw2 (by omega) (by omega)) (by decide) ?_
      refine lv_iconst (v := 0) hx hb dX10_valueOf_126 (by decide) ?_
      refine lv_iload hx hb dX10_valueOf_127 (lv_at hl 0 rfl) ?_
      refine b_if_ge hx hb rfl (tgt := 139) dX10_valueOf_129 (by decide) (fun c_62 => ?_) (fun c_62 => by exfalso; omega)
      refine lv_aload_n hx hb dX10_valueOf_139 rfl (lv_at hl 1 rfl) ?_
      refine va_get (D := D) (ci := 10) (v := .ref k5) (C := RX10) (T := TX10) (N := 13) hx hb hT giX10 hown hK hP 0 rfl rfl 5 (by decide) (hT (Cond.fieldLink RX10 35 "DesertWire" "reader" "LDesertWire$Reader;") mw_296) (fun _ h9 => h9) rfl dX10_valueOf_140 ?_
      refine lv_iload_n hx hb dX10_valueOf_143 rfl (lv_at hl 2 rfl) ?_
      refine lv_iload_n hx hb dX10_valueOf_144 rfl (lv_at hl 3 rfl) ?_
      refine lv_iload_n hx hb dX10_valueOf_145 rfl (lv_at hl 4 rfl) ?_
      refine lv_iload hx hb dX10_valueOf_146 (lv_at hl 5 rfl) ?_
      refine kJi (wr := [(k, .inr (10, [.ref k0, .ref k1, .ref k2, .ref k3, .ref k4, .ref k5, .ref k6, .ref k7, .ref k8, .ref k9, .ref ka, .ref kb, .int cc])), (k0, .inr (9, [.ref k00, .ref k01, .ref k02, .ref k03, .ref k04, .ref k05, .int c06, .int c07, .int c08])), (k33, .inl (cI, 12, .inl c33)), (k34, .inl (cI, 12, .inl c34)), (k3, .inr (4, [.ref k30, .ref k31, .ref k32, .ref k33, .ref k34, .int c35, .int c36])), (k32, .inl (cI, 12, .inl c32)), (k31, .inl (cI, 600, .inl c31))]) (va_runV (As := [.int a0, .int a1, .int a2, .int a3]) (rest := [.int 0]) ⟨hx, hb, hml, hown, hT⟩ (c_X5_valueForG l D cI aK aV k5 k50 H.size sc1_28 c52 c53 c54 c55 c56 c57 sc0_29 a0 a1 a2 a3 h_33 (by first | omega | decide | assumption | rfl) (by first | omega | decide | assumption | rfl)) (cwV 4 hT (gV_in mw_456 mw_453 mw_454 mw_455 mw_6) rfl rfl rfl (by decide +kernel) ⟨Nat.le_of_ble_eq_true rfl, Nat.le_of_ble_eq_true rfl⟩) (kRecvX (q0 := 6) (ci := 5) hK hP hD hN hXS hS hA rfl rfl [6, 7] rfl (by decide)) rfl rfl hl.1 rfl (lv_room (Nat.le_of_ble_eq_true rfl)) dX10_valueOf_148 ⟨Nat.le_of_ble_eq_true rfl, Nat.le_of_ble_eq_true rfl⟩) hP hD hS hA [6, 7] [0, 1, 2, 3, 4, 5, 8] rfl rfl (by decide) (by decide) ?_
      clear hP hD hS
      intro r_63 u_71 H locs w_64 hP hD hS
      obtain ⟨sc2_65, sc3_66, sc4_67, sc5_68, sc6_69, sc7_70⟩ := u_71
      replace hP : va_P D vwCl [(k, .inr (10, [.ref k0, .ref k1, .ref k2, .ref k3, .ref k4, .ref k5, .ref k6, .ref k7, .ref k8, .ref k9, .ref ka, .ref kb, .int cc])), (k0, .inr (9, [.ref k00, .ref k01, .ref k02, .ref k03, .ref k04, .ref k05, .int c06, .int c07, .int c08])), (k33, .inl (cI, 12, .inl c33)), (k34, .inl (cI, 12, .inl c34)), (k3, .inr (4, [.ref k30, .ref k31, .ref k32, .ref k33, .ref k34, .int c35, .int c36])), (k32, .inl (cI, 12, .inl c32)), (k31, .inl (cI, 600, .inl c31)), (k5, .inr (5, [.ref k50, .int sc1_28, .int sc2_65, .int sc3_66, .int sc4_67, .int sc5_68, .int sc6_69, .int sc7_70])), (k50, .inl (cI, 50, .inl sc0_29))] H := hP
      replace hD : va_D A [(k, .inr (10, [.ref k0, .ref k1, .ref k2, .ref k3, .ref k4, .ref k5, .ref k6, .ref k7, .ref k8, .ref k9, .ref ka, .ref kb, .int cc])), (k0, .inr (9, [.ref k00, .ref k01, .ref k02, .ref k03, .ref k04, .ref k05, .int c06, .int c07, .int c08])), (k33, .inl (cI, 12, .inl c33)), (k34, .inl (cI, 12, .inl c34)), (k3, .inr (4, [.ref k30, .ref k31, .ref k32, .ref k33, .ref k34, .int c35, .int c36])), (k32, .inl (cI, 12, .inl c32)), (k31, .inl (cI, 600, .inl c31)), (k5, .inr (5, [.ref k50, .int sc1_28, .int sc2_65, .int sc3_66, .int sc4_67, .int sc5_68, .int sc6_69, .int sc7_70])), (k50, .inl (cI, 50, .inl sc0_29))] := hD
      have lo_sc2_65 := k_lo sc2_65
      have hi_sc2_65 := k_hi sc2_65
      have lo_sc3_66 := k_lo sc3_66
      have hi_sc3_66 := k_hi sc3_66
      obtain ⟨h_72, h_73, h_74⟩ := w_64
      have h_72 : TXF (tG sc0_29 0 sc1_28) sc1_28.toInt a0 a1 a2 a3 r_63 sc2_65.toInt sc3_66 := h_72
      have h_72 : TXF (tG sc0_29 0 sc1_28) sc1_28.toInt a0 a1 a2 a3 r_63 sc2_65.toInt sc3_66 := h_72
      have h_73 : 0 ≤ sc2_65.toInt := h_73
      have h_74 : sc2_65.toInt ≤ sc1_28.toInt := h_74
      have lo_r_63 := k_lo r_63
      have hi_r_63 := k_hi r_63
      refine va_mmax hx hb (hml.trans hl.1.symm) hown (hT _ mw_594) (hT _ mw_426) (hT _ mw_13) (hT _ mw_427) (Nat.le_of_ble_eq_true rfl) (Nat.le_of_ble_eq_true rfl) (Nat.le_of_ble_eq_true rfl) (Nat.le_of_ble_eq_true rfl) dX10_valueOf_151 ?_
      refine lv_topi (fun v_75 ev_75 => ?_)
      have lo_v_75 := k_lo v_75
      have hi_v_75 := k_hi v_75
      have tv_75 : v_75.toInt = k_max 0 r_63.toInt := by rw [ev_75]; exact k_mmax zl_0 rfl
      have sv_75 := k_max_spec (0) (r_63.toInt)
      exact hRet (sc1_28, sc2_65, sc3_66, sc4_67, sc5_68, sc6_69, sc7_70, sc0_29) [0, 1, 4, 7, 6, 5, 2, 3, 8] ⟨(by (try dsimp only); exact (prv_in (rr := r_1) h_4 (by omega) h_72 (by omega) (fun j hj => by rw [h_32 j (by omega)]; congr 1; omega) (by unfold tx_post; by_cases cc : a0.toInt = 2 ∧ r_63.toInt < 0; (rw [if_pos cc]; exact k_inj (by rw [zl_0]; omega)); (rw [if_neg cc]; exact k_inj (by omega))))), h_33⟩ hP hD (by decide) rfl hS rfl dX10_valueOf_154
    · exfalso; omega
theorem dX10_price_0 : decode cX10_price 0 = .ok (.iload_n 1, 1) := by decide +kernel
theorem dX10_price_1 : decode cX10_price 1 = .ok (.invokestatic 262, 3) := by decide +kernel
theorem dX10_price_4 : decode cX10_price 4 = .ok (.ifCond .ne 9, 3) := by decide +kernel
theorem dX10_price_7 : decode cX10_price 7 = .ok (.aload_n 0, 1) := by decide +kernel
theorem dX10_price_8 : decode cX10_price 8 = .ok (.iconst 1, 1) := by decide +kernel
theorem dX10_price_9 : decode cX10_price 9 = .ok (.invokevirtual 82, 3) := by decide +kernel
theorem dX10_price_12 : decode cX10_price 12 = .ok (.ireturn, 1) := by decide +kernel
theorem dX10_price_13 : decode cX10_price 13 = .ok (.aload_n 0, 1) := by decide +kernel
theorem dX10_price_14 : decode cX10_price 14 = .ok (.iload_n 1, 1) := by decide +kernel
theorem dX10_price_15 : decode cX10_price 15 = .ok (.iload_n 2, 1) := by decide +kernel
theorem dX10_price_16 : decode cX10_price 16 = .ok (.iload_n 3, 1) := by decide +kernel
theorem dX10_price_17 : decode cX10_price 17 = .ok (.iload 4, 2) := by decide +kernel
theorem dX10_price_19 : decode cX10_price 19 = .ok (.invokevirtual 288, 3) := by decide +kernel
theorem dX10_price_22 : decode cX10_price 22 = .ok (.ireturn, 1) := by decide +kernel
set_option maxHeartbeats 4000000 in
set_option maxRecDepth 100000 in
theorem c_X10_priceG (l : Launch) (D : va_G) (cI : ClassId) (aK aV : Nat → Nat) (k k0 k1 k2 k3 k4 k5 k6 k7 k8 k9 ka kb k00 k01 k02 k03 k04 k05 k30 k31 k32 k33 k34 k50 : Nat) (sz : Nat) (cc : Int32) (c06 : Int32) (c07 : Int32) (c08 : Int32) (c35 : Int32) (c36 : Int32) (c51 : Int32) (c52 : Int32) (c53 : Int32) (c54 : Int32) (c55 : Int32) (c56 : Int32) (c57 : Int32) (cb : Nat → Int32) (c31 : Nat → Int32) (c32 : Nat → Int32) (c33 : Nat → Int32) (c34 : Nat → Int32) (c50 : Nat → Int32) (a0 : Int32) (a1 : Int32) (a2 : Int32) (a3 : Int32) (pre0 : BYT c50 0) (pre1 : BYN 600 c31) (pre2 : ∀ k : Nat, k < 12 → 0 ≤ (c32 k).toInt ∧ (c32 k).toInt ≤ 50) (pre3 : 0 ≤ c36.toInt) (pre4 : c36.toInt ≤ 12) : Met l yX10_price (gW yX10_price cX10_price 5 (some .int)) ({ frames := 95, cells := 0, slots := 0, locals := 5962 } : Room) (kPreX D cI aK aV [.ref k, .int a0, .int a1, .int a2, .int a3] [(k, .inr (10, [.ref k0, .ref k1, .ref k2, .ref k3, .ref k4, .ref k5, .ref k6, .ref k7, .ref k8, .ref k9, .ref ka, .ref kb, .int cc])), (k0, .inr (9, [.ref k00, .ref k01, .ref k02, .ref k03, .ref k04, .ref k05, .int c06, .int c07, .int c08])), (k3, .inr (4, [.ref k30, .ref k31, .ref k32, .ref k33, .ref k34, .int c35, .int c36])), (k5, .inr (5, [.ref k50, .int c51, .int c52, .int c53, .int c54, .int c55, .int c56, .int c57])), (kb, .inl (cI, 6, .inl cb)), (k31, .inl (cI, 600, .inl c31)), (k32, .inl (cI, 12, .inl c32)), (k33, .inl (cI, 12, .inl c33)), (k34, .inl (cI, 12, .inl c34)), (k50, .inl (cI, 50, .inl c50))] sz) (va_Qi (fun (r : Int32) (u : Int32 × Int32 × Int32 × Int32 × Int32 × Int32 × Int32 × (Nat → Int32) × (Nat → Int32)) => ((a0.toInt < 0 ∨ 2 < a0.toInt) ∧ r = (-1000001) ∨ (0 ≤ a0.toInt ∧ a0.toInt ≤ 2) ∧ PRV c33 c34 (fun j => tG c31 (50 * j) (c32 j)) c32 c36.toInt.toNat c08 a0 a1 a2 a3 r) ∧ BYT u.2.2.2.2.2.2.2.2 0) (fun u t => kWd D cI (va_A [(k, .inr (10, [.ref k0, .ref k1, .ref k2, .ref k3, .ref k4, .ref k5, .ref k6, .ref k7, .ref k8, .ref k9, .ref ka, .ref kb, .int cc])), (k0, .inr (9, [.ref k00, .ref k01, .ref k02, .ref k03, .ref k04, .ref k05, .int c06, .int c07, .int c08])), (k3, .inr (4, [.ref k30, .ref k31, .ref k32, .ref k33, .ref k34, .int c35, .int c36])), (k5, .inr (5, [.ref k50, .int c51, .int c52, .int c53, .int c54, .int c55, .int c56, .int c57])), (kb, .inl (cI, 6, .inl cb)), (k31, .inl (cI, 600, .inl c31)), (k32, .inl (cI, 12, .inl c32)), (k33, .inl (cI, 12, .inl c33)), (k34, .inl (cI, 12, .inl c34)), (k50, .inl (cI, 50, .inl c50))] sz) [(k, .inr (10, [.ref k0, .ref k1, .ref k2, .ref k3, .ref k4, .ref k5, .ref k6, .ref k7, .ref k8, .ref k9, .ref ka, .ref kb, .int cc])), (k0, .inr (9, [.ref k00, .ref k01, .ref k02, .ref k03, .ref k04, .ref k05, .int c06, .int c07, .int c08])), (k3, .inr (4, [.ref k30, .ref k31, .ref k32, .ref k33, .ref k34, .int c35, .int c36])), (k5, .inr (5, [.ref k50, .int u.1, .int u.2.1, .int u.2.2.1, .int u.2.2.2.1, .int u.2.2.2.2.1, .int u.2.2.2.2.2.1, .int u.2.2.2.2.2.2.1])), (kb, .inl (cI, 6, .inl u.2.2.2.2.2.2.2.1)), (k31, .inl (cI, 600, .inl c31)), (k32, .inl (cI, 12, .inl c32)), (k33, .inl (cI, 12, .inl c33)), (k34, .inl (cI, 12, .inl c34)), (k50, .inl (cI, 50, .inl u.2.2.2.2.2.2.2.2))] t) (va_A [(k, .inr (10, [.ref k0, .ref k1, .ref k2, .ref k3, .ref k4, .ref k5, .ref k6, .ref k7, .ref k8, .ref k9, .ref ka, .ref kb, .int cc])), (k0, .inr (9, [.ref k00, .ref k01, .ref k02, .ref k03, .ref k04, .ref k05, .int c06, .int c07, .int c08])), (k3, .inr (4, [.ref k30, .ref k31, .ref k32, .ref k33, .ref k34, .int c35, .int c36])), (k5, .inr (5, [.ref k50, .int c51, .int c52, .int c53, .int c54, .int c55, .int c56, .int c57])), (kb, .inl (cI, 6, .inl cb)), (k31, .inl (cI, 600, .inl c31)), (k32, .inl (cI, 12, .inl c32)), (k33, .inl (cI, 12, .inl c33)), (k34, .inl (cI, 12, .inl c34)), (k50, .inl (cI, 50, .inl c50))] sz)) 0 0 (va_A [(k, .inr (10, [.ref k0, .ref k1, .ref k2, .ref k3, .ref k4, .ref k5, .ref k6, .ref k7, .ref k8, .ref k9, .ref ka, .ref kb, .int cc])), (k0, .inr (9, [.ref k00, .ref k01, .ref k02, .ref k03, .ref k04, .ref k05, .int c06, .int c07, .int c08])), (k3, .inr (4, [.ref k30, .ref k31, .ref k32, .ref k33, .ref k34, .int c35, .int c36])), (k5, .inr (5, [.ref k50, .int c51, .int c52, .int c53, .int c54, .int c55, .int c56, .int c57])), (kb, .inl (cI, 6, .inl cb)), (k31, .inl (cI, 600, .inl c31)), (k32, .inl (cI, 12, .inl c32)), (k33, .inl (cI, 12, .inl c33)), (k34, .inl (cI, 12, .inl c34)), (k50, .inl (cI, 50, .inl c50))] sz) := by
  refine kMetIX (own := RX10) (by decide) rfl (Nat.le_of_ble_eq_true rfl) ?_
  intro p e s m args below meth c hx hb hT hown hname hml A Q hK hP hD hS hA hN hXS hRet ls hl
  have hl : lv_has ls 5 [(0, .ref k), (1, .int a0), (2, .int a1), (3, .int a2), (4, .int a3)] := hl
  have lo_a0 := k_lo a0
  have hi_a0 := k_hi a0
  have lo_a1 := k_lo a1
  have hi_a1 := k_hi a1
  have lo_a2 := k_lo a2
  have hi_a2 := k_hi a2
  have lo_a3 := k_lo a3
  have hi_a3 := k_hi a3
  have lo_c08 := k_lo c08
  have hi_c08 := k_hi c08
  have lo_c36 := k_lo c36
  have hi_c36 := k_hi c36
  have pre0 : BYT c50 0 := pre0
  have pre1 : BYN 600 c31 := pre1
  refine lv_iload_n hx hb dX10_price_0 rfl (lv_at hl 1 rfl) ?_
  refine kJi (wr := [(k, .inr (10, [.ref k0, .ref k1, .ref k2, .ref k3, .ref k4, .ref k5, .ref k6, .ref k7, .ref k8, .ref k9, .ref ka, .ref kb, .int cc])), (k0, .inr (9, [.ref k00, .ref k01, .ref k02, .ref k03, .ref k04, .ref k05, .int c06, .int c07, .int c08])), (k3, .inr (4, [.ref k30, .ref k31, .ref k32, .ref k33, .ref k34, .int c35, .int c36])), (k5, .inr (5, [.ref k50, .int c51, .int c52, .int c53, .int c54, .int c55, .int c56, .int c57])), (kb, .inl (cI, 6, .inl cb)), (k31, .inl (cI, 600, .inl c31)), (k32, .inl (cI, 12, .inl c32)), (k33, .inl (cI, 12, .inl c33)), (k34, .inl (cI, 12, .inl c34)), (k50, .inl (cI, 50, .inl c50))]) (va_runS (As := [.int a0]) (rest := []) ⟨hx, hb, hml, hown, hT⟩ (c_X10_isUseG l D cI aK aV s.heap.size a0) (cwS 1 hT (gS_in mw_846 mw_844 mw_845 mw_1) rfl rfl rfl (by decide +kernel) ⟨Nat.le_of_ble_eq_true rfl, Nat.le_of_ble_eq_true rfl⟩) (kStatX hK hP hD hN hXS hS hA [] rfl (by decide)) rfl rfl hl.1 rfl (lv_room (Nat.le_of_ble_eq_true rfl)) dX10_price_1 ⟨Nat.le_of_ble_eq_true rfl, Nat.le_of_ble_eq_true rfl⟩) hP hD hS hA [] [0, 1, 2, 3, 4, 5, 6, 7, 8, 9] rfl rfl (by decide) (by decide) ?_
  clear hP hD hS
  intro r_1 u_3 H locs w_2 hP hD hS
  replace hP : va_P D vwCl [(k, .inr (10, [.ref k0, .ref k1, .ref k2, .ref k3, .ref k4, .ref k5, .ref k6, .ref k7, .ref k8, .ref k9, .ref ka, .ref kb, .int cc])), (k0, .inr (9, [.ref k00, .ref k01, .ref k02, .ref k03, .ref k04, .ref k05, .int c06, .int c07, .int c08])), (k3, .inr (4, [.ref k30, .ref k31, .ref k32, .ref k33, .ref k34, .int c35, .int c36])), (k5, .inr (5, [.ref k50, .int c51, .int c52, .int c53, .int c54, .int c55, .int c56, .int c57])), (kb, .inl (cI, 6, .inl cb)), (k31, .inl (cI, 600, .inl c31)), (k32, .inl (cI, 12, .inl c32)), (k33, .inl (cI, 12, .inl c33)), (k34, .inl (cI, 12, .inl c34)), (k50, .inl (cI, 50, .inl c50))] H := hP
  replace hD : va_D A [(k, .inr (10, [.ref k0, .ref k1, .ref k2, .ref k3, .ref k4, .ref k5, .ref k6, .ref k7, .ref k8, .ref k9, .ref ka, .ref kb, .int cc])), (k0, .inr (9, [.ref k00, .ref k01, .ref k02, .ref k03, .ref k04, .ref k05, .int c06, .int c07, .int c08])), (k3, .inr (4, [.ref k30, .ref k31, .ref k32, .ref k33, .ref k34, .int c35, .int c36])), (k5, .inr (5, [.ref k50, .int c51, .int c52, .int c53, .int c54, .int c55, .int c56, .int c57])), (kb, .inl (cI, 6, .inl cb)), (k31, .inl (cI, 600, .inl c31)), (k32, .inl (cI, 12, .inl c32)), (k33, .inl (cI, 12, .inl c33)), (k34, .inl (cI, 12, .inl c34)), (k50, .inl (cI, 50, .inl c50))] := hD
  rcases w_2 with ⟨hr_1, h_4, h_5⟩ | ⟨hr_1, h_6⟩
  · have h_4 : 0 ≤ a0.toInt := h_4
    have h_5 : a0.toInt ≤ 2 := h_5
    obtain rfl : r_1 = 1 := hr_1.trans (by decide)
    refine b_if_ne hx hb zl_1 (tgt := 13) dX10_price_4 (by decide) (fun c_7 => ?_) (fun c_7 => by exfalso; omega)
    refine lv_aload_n hx hb dX10_price_13 rfl (lv_at hl 0 rfl) ?_
    refine lv_iload_n hx hb dX10_price_14 rfl (lv_at hl 1 rfl) ?_
    refine lv_iload_n hx hb dX10_price_15 rfl (lv_at hl 2 rfl) ?_
    refine lv_iload_n hx hb dX10_price_16 rfl (lv_at hl 3 rfl) ?_
    refine lv_iload hx hb dX10_price_17 (lv_at hl 4 rfl) ?_
    refine kJi (wr := [(kb, .inl (cI, 6, .inl cb))]) (va_runV (As := [.int a0, .int a1, .int a2, .int a3]) (rest := []) ⟨hx, hb, hml, hown, hT⟩ (c_X10_valueOfG l D cI aK aV k k0 k1 k2 k3 k4 k5 k6 k7 k8 k9 ka kb k00 k01 k02 k03 k04 k05 k30 k31 k32 k33 k34 k50 H.size cc c06 c07 c08 c35 c36 c51 c52 c53 c54 c55 c56 c57 c31 c32 c33 c34 c50 a0 a1 a2 a3 pre0 pre1 pre2 (by first | omega | decide | assumption | rfl) (by first | omega | decide | assumption | rfl) (by first | omega | decide | assumption | rfl) (by first | omega | decide | assumption | rfl)) (cwV 4 hT (gV_in mw_440 mw_437 mw_439 mw_p1_4 mw_1) rfl rfl rfl (by decide +kernel) ⟨Nat.le_of_ble_eq_true rfl, Nat.le_of_ble_eq_true rfl⟩) (kRecvX (q0 := 0) (ci := 10) hK hP hD hN hXS hS hA rfl rfl [0, 1, 2, 3, 5, 6, 7, 8, 9] rfl (by decide)) rfl rfl hl.1 rfl (lv_room (Nat.le_of_ble_eq_true rfl)) dX10_price_19 ⟨Nat.le_of_ble_eq_true rfl, Nat.le_of_ble_eq_true rfl⟩) hP hD hS hA [0, 1, 2, 3, 5, 6, 7, 8, 9] [4] rfl rfl (by decide) (by decide) ?_
    clear hP hD hS
    intro r_8 u_18 H locs w_9 hP hD hS
    obtain ⟨sc51_10, sc52_11, sc53_12, sc54_13, sc55_14, sc56_15, sc57_16, sc50_17⟩ := u_18
    replace hP : va_P D vwCl [(kb, .inl (cI, 6, .inl cb)), (k, .inr (10, [.ref k0, .ref k1, .ref k2, .ref k3, .ref k4, .ref k5, .ref k6, .ref k7, .ref k8, .ref k9, .ref ka, .ref kb, .int cc])), (k0, .inr (9, [.ref k00, .ref k01, .ref k02, .ref k03, .ref k04, .ref k05, .int c06, .int c07, .int c08])), (k3, .inr (4, [.ref k30, .ref k31, .ref k32, .ref k33, .ref k34, .int c35, .int c36])), (k5, .inr (5, [.ref k50, .int sc51_10, .int sc52_11, .int sc53_12, .int sc54_13, .int sc55_14, .int sc56_15, .int sc57_16])), (k31, .inl (cI, 600, .inl c31)), (k32, .inl (cI, 12, .inl c32)), (k33, .inl (cI, 12, .inl c33)), (k34, .inl (cI, 12, .inl c34)), (k50, .inl (cI, 50, .inl sc50_17))] H := hP
    replace hD : va_D A [(kb, .inl (cI, 6, .inl cb)), (k, .inr (10, [.ref k0, .ref k1, .ref k2, .ref k3, .ref k4, .ref k5, .ref k6, .ref k7, .ref k8, .ref k9, .ref ka, .ref kb, .int cc])), (k0, .inr (9, [.ref k00, .ref k01, .ref k02, .ref k03, .ref k04, .ref k05, .int c06, .int c07, .int c08])), (k3, .inr (4, [.ref k30, .ref k31, .ref k32, .ref k33, .ref k34, .int c35, .int c36])), (k5, .inr (5, [.ref k50, .int sc51_10, .int sc52_11, .int sc53_12, .int sc54_13, .int sc55_14, .int sc56_15, .int sc57_16])), (k31, .inl (cI, 600, .inl c31)), (k32, .inl (cI, 12, .inl c32)), (k33, .inl (cI, 12, .inl c33)), (k34, .inl (cI, 12, .inl c34)), (k50, .inl (cI, 50, .inl sc50_17))] := hD
    obtain ⟨h_19, h_20⟩ := w_9
    have h_19 : PRV c33 c34 (fun j => tG c31 (50 * j) (c32 j)) c32 c36.toInt.toNat c08 a0 a1 a2 a3 r_8 := h_19
    have h_19 : PRV c33 c34 (fun j => tG c31 (50 * j) (c32 j)) c32 c36.toInt.toNat c08 a0 a1 a2 a3 r_8 := h_19
    have h_20 : BYT sc50_17 0 := h_20
    have lo_r_8 := k_lo r_8
    have hi_r_8 := k_hi r_8
    exact hRet (sc51_10, sc52_11, sc53_12, sc54_13, sc55_14, sc56_15, sc57_16, cb, sc50_17) [1, 2, 3, 4, 0, 5, 6, 7, 8, 9] ⟨(Or.inr ⟨⟨by omega, by omega⟩, h_19⟩), h_20⟩ hP hD (by decide) rfl hS rfl dX10_price_22
  · have h_6 : a0.toInt < 0 ∨ 2 < a0.toInt := h_6
    obtain rfl : r_1 = 0 := hr_1.trans (by decide)
    refine b_if_ne hx hb zl_0 (tgt := 13) dX10_price_4 (by decide) (fun c_21 => by exfalso; omega) (fun c_21 => ?_)
    refine lv_aload_n hx hb dX10_price_7 rfl (lv_at hl 0 rfl) ?_
    refine lv_iconst (v := 1) hx hb dX10_price_8 (by decide) ?_
    refine kJi (wr := [(k0, .inr (9, [.ref k00, .ref k01, .ref k02, .ref k03, .ref k04, .ref k05, .int c06, .int c07, .int c08])), (k3, .inr (4, [.ref k30, .ref k31, .ref k32, .ref k33, .ref k34, .int c35, .int c36])), (k5, .inr (5, [.ref k50, .int c51, .int c52, .int c53, .int c54, .int c55, .int c56, .int c57])), (k31, .inl (cI, 600, .inl c31)), (k32, .inl (cI, 12, .inl c32)), (k33, .inl (cI, 12, .inl c33)), (k34, .inl (cI, 12, .inl c34)), (k50, .inl (cI, 50, .inl c50))]) (va_runV (As := [.int 1]) (rest := []) ⟨hx, hb, hml, hown, hT⟩ (c_X10_findingG l D cI aK aV k k0 k1 k2 k3 k4 k5 k6 k7 k8 k9 ka kb H.size cc cb 1) (cwV 1 hT (gV_in mw_338 mw_335 mw_337 mw_p1_0 mw_1) rfl rfl rfl (by decide +kernel) ⟨Nat.le_of_ble_eq_true rfl, Nat.le_of_ble_eq_true rfl⟩) (kRecvX (q0 := 0) (ci := 10) hK hP hD hN hXS hS hA rfl rfl [0, 4] rfl (by decide)) rfl rfl hl.1 rfl (lv_room (Nat.le_of_ble_eq_true rfl)) dX10_price_9 ⟨Nat.le_of_ble_eq_true rfl, Nat.le_of_ble_eq_true rfl⟩) hP hD hS hA [0, 4] [1, 2, 3, 5, 6, 7, 8, 9] rfl rfl (by decide) (by decide) ?_
    clear hP hD hS
    intro r_22 scb_24 H locs w_23 hP hD hS
    replace hP : va_P D vwCl [(k0, .inr (9, [.ref k00, .ref k01, .ref k02, .ref k03, .ref k04, .ref k05, .int c06, .int c07, .int c08])), (k3, .inr (4, [.ref k30, .ref k31, .ref k32, .ref k33, .ref k34, .int c35, .int c36])), (k5, .inr (5, [.ref k50, .int c51, .int c52, .int c53, .int c54, .int c55, .int c56, .int c57])), (k31, .inl (cI, 600, .inl c31)), (k32, .inl (cI, 12, .inl c32)), (k33, .inl (cI, 12, .inl c33)), (k34, .inl (cI, 12, .inl c34)), (k50, .inl (cI, 50, .inl c50)), (k, .inr (10, [.ref k0, .ref k1, .ref k2, .ref k3, .ref k4, .ref k5, .ref k6, .ref k7, .ref k8, .ref k9, .ref ka, .ref kb, .int cc])), (kb, .inl (cI, 6, .inl scb_24))] H := hP
    replace hD : va_D A [(k0, .inr (9, [.ref k00, .ref k01, .ref k02, .ref k03, .ref k04, .ref k05, .int c06, .int c07, .int c08])), (k3, .inr (4, [.ref k30, .ref k31, .ref k32, .ref k33, .ref k34, .int c35, .int c36])), (k5, .inr (5, [.ref k50, .int c51, .int c52, .int c53, .int c54, .int c55, .int c56, .int c57])), (k31, .inl (cI, 600, .inl c31)), (k32, .inl (cI, 12, .inl c32)), (k33, .inl (cI, 12, .inl c33)), (k34, .inl (cI, 12, .inl c34)), (k50, .inl (cI, 50, .inl c50)), (k, .inr (10, [.ref k0, .ref k1, .ref k2, .ref k3, .ref k4, .ref k5, .ref k6, .ref k7, .ref k8, .ref k9, .ref ka, .ref kb, .int cc])), (kb, .inl (cI, 6, .inl scb_24))] := hD
    have hr_22 := w_23
    obtain rfl : r_22 = (-1000001) := hr_22.trans (by decide)
    exact hRet (c51, c52, c53, c54, c55, c56, c57, scb_24, c50) [8, 0, 1, 2, 9, 3, 4, 5, 6, 7] ⟨(Or.inl ⟨by omega, rfl⟩), pre0⟩ hP hD (by decide) rfl hS rfl dX10_price_12
theorem dX10_owed_0 : decode cX10_owed 0 = .ok (.iload_n 1, 1) := by decide +kernel
theorem dX10_owed_1 : decode cX10_owed 1 = .ok (.invokestatic 265, 3) := by decide +kernel
theorem dX10_owed_4 : decode cX10_owed 4 = .ok (.ifCond .ne 9, 3) := by decide +kernel
theorem dX10_owed_7 : decode cX10_owed 7 = .ok (.aload_n 0, 1) := by decide +kernel
theorem dX10_owed_8 : decode cX10_owed 8 = .ok (.iconst 1, 1) := by decide +kernel
theorem dX10_owed_9 : decode cX10_owed 9 = .ok (.invokevirtual 82, 3) := by decide +kernel
theorem dX10_owed_12 : decode cX10_owed 12 = .ok (.ireturn, 1) := by decide +kernel
theorem dX10_owed_13 : decode cX10_owed 13 = .ok (.aload_n 0, 1) := by decide +kernel
theorem dX10_owed_14 : decode cX10_owed 14 = .ok (.getfield 12, 3) := by decide +kernel
theorem dX10_owed_17 : decode cX10_owed 17 = .ok (.getfield 109, 3) := by decide +kernel
theorem dX10_owed_20 : decode cX10_owed 20 = .ok (.iload_n 1, 1) := by decide +kernel
theorem dX10_owed_21 : decode cX10_owed 21 = .ok (.if_icmp .le 28, 3) := by decide +kernel
theorem dX10_owed_24 : decode cX10_owed 24 = .ok (.aload_n 0, 1) := by decide +kernel
theorem dX10_owed_25 : decode cX10_owed 25 = .ok (.iconst 1, 1) := by decide +kernel
theorem dX10_owed_26 : decode cX10_owed 26 = .ok (.aload_n 0, 1) := by decide +kernel
theorem dX10_owed_27 : decode cX10_owed 27 = .ok (.getfield 12, 3) := by decide +kernel
theorem dX10_owed_30 : decode cX10_owed 30 = .ok (.getfield 109, 3) := by decide +kernel
theorem dX10_owed_33 : decode cX10_owed 33 = .ok (.iload_n 1, 1) := by decide +kernel
theorem dX10_owed_34 : decode cX10_owed 34 = .ok (.isub, 1) := by decide +kernel
theorem dX10_owed_35 : decode cX10_owed 35 = .ok (.aload_n 0, 1) := by decide +kernel
theorem dX10_owed_36 : decode cX10_owed 36 = .ok (.getfield 12, 3) := by decide +kernel
theorem dX10_owed_39 : decode cX10_owed 39 = .ok (.getfield 109, 3) := by decide +kernel
theorem dX10_owed_42 : decode cX10_owed 42 = .ok (.iconst 0, 1) := by decide +kernel
theorem dX10_owed_43 : decode cX10_owed 43 = .ok (.invokevirtual 288, 3) := by decide +kernel
theorem dX10_owed_46 : decode cX10_owed 46 = .ok (.goto 4, 3) := by decide +kernel
theorem dX10_owed_49 : decode cX10_owed 49 = .ok (.iconst 0, 1) := by decide +kernel
theorem dX10_owed_50 : decode cX10_owed 50 = .ok (.ireturn, 1) := by decide +kernel
set_option maxHeartbeats 4000000 in
set_option maxRecDepth 100000 in
theorem c_X10_owedG (l : Launch) (D : va_G) (cI : ClassId) (aK aV : Nat → Nat) (k k0 k1 k2 k3 k4 k5 k6 k7 k8 k9 ka kb k00 k01 k02 k03 k04 k05 k30 k31 k32 k33 k34 k50 : Nat) (sz : Nat) (cc : Int32) (c06 : Int32) (c07 : Int32) (c08 : Int32) (c35 : Int32) (c36 : Int32) (c51 : Int32) (c52 : Int32) (c53 : Int32) (c54 : Int32) (c55 : Int32) (c56 : Int32) (c57 : Int32) (cb : Nat → Int32) (c31 : Nat → Int32) (c32 : Nat → Int32) (c33 : Nat → Int32) (c34 : Nat → Int32) (c50 : Nat → Int32) (a0 : Int32) (pre0 : BYT c50 0) (pre1 : BYN 600 c31) (pre2 : ∀ k : Nat, k < 12 → 0 ≤ (c32 k).toInt ∧ (c32 k).toInt ≤ 50) (pre3 : 0 ≤ c36.toInt) (pre4 : c36.toInt ≤ 12) : Met l yX10_owed (gW yX10_owed cX10_owed 2 (some .int)) ({ frames := 95, cells := 0, slots := 0, locals := 5962 } : Room) (kPreX D cI aK aV [.ref k, .int a0] [(k, .inr (10, [.ref k0, .ref k1, .ref k2, .ref k3, .ref k4, .ref k5, .ref k6, .ref k7, .ref k8, .ref k9, .ref ka, .ref kb, .int cc])), (k0, .inr (9, [.ref k00, .ref k01, .ref k02, .ref k03, .ref k04, .ref k05, .int c06, .int c07, .int c08])), (k3, .inr (4, [.ref k30, .ref k31, .ref k32, .ref k33, .ref k34, .int c35, .int c36])), (k5, .inr (5, [.ref k50, .int c51, .int c52, .int c53, .int c54, .int c55, .int c56, .int c57])), (kb, .inl (cI, 6, .inl cb)), (k31, .inl (cI, 600, .inl c31)), (k32, .inl (cI, 12, .inl c32)), (k33, .inl (cI, 12, .inl c33)), (k34, .inl (cI, 12, .inl c34)), (k50, .inl (cI, 50, .inl c50))] sz) (va_Qi (fun (r : Int32) (u : Int32 × Int32 × Int32 × Int32 × Int32 × Int32 × Int32 × (Nat → Int32) × (Nat → Int32)) => (((a0.toInt < 0 ∨ 2000 < a0.toInt) ∧ r = (-1000001)) ∨ ((0 ≤ a0.toInt ∧ a0.toInt ≤ 2000) ∧ c08.toInt ≤ a0.toInt ∧ r = 0) ∨ ((0 ≤ a0.toInt ∧ a0.toInt ≤ 2000) ∧ a0.toInt < c08.toInt ∧ PRV c33 c34 (fun j => tG c31 (50 * j) (c32 j)) c32 c36.toInt.toNat c08 1 (c08 - a0) c08 0 r)) ∧ BYT u.2.2.2.2.2.2.2.2 0) (fun u t => kWd D cI (va_A [(k, .inr (10, [.ref k0, .ref k1, .ref k2, .ref k3, .ref k4, .ref k5, .ref k6, .ref k7, .ref k8, .ref k9, .ref ka, .ref kb, .int cc])), (k0, .inr (9, [.ref k00, .ref k01, .ref k02, .ref k03, .ref k04, .ref k05, .int c06, .int c07, .int c08])), (k3, .inr (4, [.ref k30, .ref k31, .ref k32, .ref k33, .ref k34, .int c35, .int c36])), (k5, .inr (5, [.ref k50, .int c51, .int c52, .int c53, .int c54, .int c55, .int c56, .int c57])), (kb, .inl (cI, 6, .inl cb)), (k31, .inl (cI, 600, .inl c31)), (k32, .inl (cI, 12, .inl c32)), (k33, .inl (cI, 12, .inl c33)), (k34, .inl (cI, 12, .inl c34)), (k50, .inl (cI, 50, .inl c50))] sz) [(k, .inr (10, [.ref k0, .ref k1, .ref k2, .ref k3, .ref k4, .ref k5, .ref k6, .ref k7, .ref k8, .ref k9, .ref ka, .ref kb, .int cc])), (k0, .inr (9, [.ref k00, .ref k01, .ref k02, .ref k03, .ref k04, .ref k05, .int c06, .int c07, .int c08])), (k3, .inr (4, [.ref k30, .ref k31, .ref k32, .ref k33, .ref k34, .int c35, .int c36])), (k5, .inr (5, [.ref k50, .int u.1, .int u.2.1, .int u.2.2.1, .int u.2.2.2.1, .int u.2.2.2.2.1, .int u.2.2.2.2.2.1, .int u.2.2.2.2.2.2.1])), (kb, .inl (cI, 6, .inl u.2.2.2.2.2.2.2.1)), (k31, .inl (cI, 600, .inl c31)), (k32, .inl (cI, 12, .inl c32)), (k33, .inl (cI, 12, .inl c33)), (k34, .inl (cI, 12, .inl c34)), (k50, .inl (cI, 50, .inl u.2.2.2.2.2.2.2.2))] t) (va_A [(k, .inr (10, [.ref k0, .ref k1, .ref k2, .ref k3, .ref k4, .ref k5, .ref k6, .ref k7, .ref k8, .ref k9, .ref ka, .ref kb, .int cc])), (k0, .inr (9, [.ref k00, .ref k01, .ref k02, .ref k03, .ref k04, .ref k05, .int c06, .int c07, .int c08])), (k3, .inr (4, [.ref k30, .ref k31, .ref k32, .ref k33, .ref k34, .int c35, .int c36])), (k5, .inr (5, [.ref k50, .int c51, .int c52, .int c53, .int c54, .int c55, .int c56, .int c57])), (kb, .inl (cI, 6, .inl cb)), (k31, .inl (cI, 600, .inl c31)), (k32, .inl (cI, 12, .inl c32)), (k33, .inl (cI, 12, .inl c33)), (k34, .inl (cI, 12, .inl c34)), (k50, .inl (cI, 50, .inl c50))] sz)) 0 0 (va_A [(k, .inr (10, [.ref k0, .ref k1, .ref k2, .ref k3, .ref k4, .ref k5, .ref k6, .ref k7, .ref k8, .ref k9, .ref ka, .ref kb, .int cc])), (k0, .inr (9, [.ref k00, .ref k01, .ref k02, .ref k03, .ref k04, .ref k05, .int c06, .int c07, .int c08])), (k3, .inr (4, [.ref k30, .ref k31, .ref k32, .ref k33, .ref k34, .int c35, .int c36])), (k5, .inr (5, [.ref k50, .int c51, .int c52, .int c53, .int c54, .int c55, .int c56, .int c57])), (kb, .inl (cI, 6, .inl cb)), (k31, .inl (cI, 600, .inl c31)), (k32, .inl (cI, 12, .inl c32)), (k33, .inl (cI, 12, .inl c33)), (k34, .inl (cI, 12, .inl c34)), (k50, .inl (cI, 50, .inl c50))] sz) := by
  refine kMetIX (own := RX10) (by decide) rfl (Nat.le_of_ble_eq_true rfl) ?_
  intro p e s m args below meth c hx hb hT hown hname hml A Q hK hP hD hS hA hN hXS hRet ls hl
  have hl : lv_has ls 2 [(0, .ref k), (1, .int a0)] := hl
  have lo_a0 := k_lo a0
  have hi_a0 := k_hi a0
  have lo_c08 := k_lo c08
  have hi_c08 := k_hi c08
  have lo_c36 := k_lo c36
  have hi_c36 := k_hi c36
  have pre0 : BYT c50 0 := pre0
  have pre1 : BYN 600 c31 := pre1
  refine lv_iload_n hx hb dX10_owed_0 rfl (lv_at hl 1 rfl) ?_
  refine kJi (wr := [(k, .inr (10, [.ref k0, .ref k1, .ref k2, .ref k3, .ref k4, .ref k5, .ref k6, .ref k7, .ref k8, .ref k9, .ref ka, .ref kb, .int cc])), (k0, .inr (9, [.ref k00, .ref k01, .ref k02, .ref k03, .ref k04, .ref k05, .int c06, .int c07, .int c08])), (k3, .inr (4, [.ref k30, .ref k31, .ref k32, .ref k33, .ref k34, .int c35, .int c36])), (k5, .inr (5, [.ref k50, .int c51, .int c52, .int c53, .int c54, .int c55, .int c56, .int c57])), (kb, .inl (cI, 6, .inl cb)), (k31, .inl (cI, 600, .inl c31)), (k32, .inl (cI, 12, .inl c32)), (k33, .inl (cI, 12, .inl c33)), (k34, .inl (cI, 12, .inl c34)), (k50, .inl (cI, 50, .inl c50))]) (va_runS (As := [.int a0]) (rest := []) ⟨hx, hb, hml, hown, hT⟩ (c_X10_isDayG l D cI aK aV s.heap.size a0) (cwS 1 hT (gS_in mw_849 mw_847 mw_848 mw_1) rfl rfl rfl (by decide +kernel) ⟨Nat.le_of_ble_eq_true rfl, Nat.le_of_ble_eq_true rfl⟩) (kStatX hK hP hD hN hXS hS hA [] rfl (by decide)) rfl rfl hl.1 rfl (lv_room (Nat.le_of_ble_eq_true rfl)) dX10_owed_1 ⟨Nat.le_of_ble_eq_true rfl, Nat.le_of_ble_eq_true rfl⟩) hP hD hS hA [] [0, 1, 2, 3, 4, 5, 6, 7, 8, 9] rfl rfl (by decide) (by decide) ?_
  clear hP hD hS
  intro r_1 u_3 H locs w_2 hP hD hS
  replace hP : va_P D vwCl [(k, .inr (10, [.ref k0, .ref k1, .ref k2, .ref k3, .ref k4, .ref k5, .ref k6, .ref k7, .ref k8, .ref k9, .ref ka, .ref kb, .int cc])), (k0, .inr (9, [.ref k00, .ref k01, .ref k02, .ref k03, .ref k04, .ref k05, .int c06, .int c07, .int c08])), (k3, .inr (4, [.ref k30, .ref k31, .ref k32, .ref k33, .ref k34, .int c35, .int c36])), (k5, .inr (5, [.ref k50, .int c51, .int c52, .int c53, .int c54, .int c55, .int c56, .int c57])), (kb, .inl (cI, 6, .inl cb)), (k31, .inl (cI, 600, .inl c31)), (k32, .inl (cI, 12, .inl c32)), (k33, .inl (cI, 12, .inl c33)), (k34, .inl (cI, 12, .inl c34)), (k50, .inl (cI, 50, .inl c50))] H := hP
  replace hD : va_D A [(k, .inr (10, [.ref k0, .ref k1, .ref k2, .ref k3, .ref k4, .ref k5, .ref k6, .ref k7, .ref k8, .ref k9, .ref ka, .ref kb, .int cc])), (k0, .inr (9, [.ref k00, .ref k01, .ref k02, .ref k03, .ref k04, .ref k05, .int c06, .int c07, .int c08])), (k3, .inr (4, [.ref k30, .ref k31, .ref k32, .ref k33, .ref k34, .int c35, .int c36])), (k5, .inr (5, [.ref k50, .int c51, .int c52, .int c53, .int c54, .int c55, .int c56, .int c57])), (kb, .inl (cI, 6, .inl cb)), (k31, .inl (cI, 600, .inl c31)), (k32, .inl (cI, 12, .inl c32)), (k33, .inl (cI, 12, .inl c33)), (k34, .inl (cI, 12, .inl c34)), (k50, .inl (cI, 50, .inl c50))] := hD
  rcases w_2 with ⟨hr_1, h_4, h_5⟩ | ⟨hr_1, h_6⟩
  · have h_4 : 0 ≤ a0.toInt := h_4
    have h_5 : a0.toInt ≤ 2000 := h_5
    obtain rfl : r_1 = 1 := hr_1.trans (by decide)
    refine b_if_ne hx hb zl_1 (tgt := 13) dX10_owed_4 (by decide) (fun c_7 => ?_) (fun c_7 => by exfalso; omega)
    refine lv_aload_n hx hb dX10_owed_13 rfl (lv_at hl 0 rfl) ?_
    refine va_get (D := D) (ci := 10) (v := .ref k0) (C := RX10) (T := TX10) (N := 13) hx hb hT giX10 hown hK hP 0 rfl rfl 0 (by decide) (hT (Cond.fieldLink RX10 12 "DesertWire" "now" "LDesertWire$World;") mw_291) (fun _ h9 => h9) rfl dX10_owed_14 ?_
    refine va_get (D := D) (ci := 9) (v := .int c08) (C := RX9) (T := TX9) (N := 9) hx hb hT giX9 hown hK hP 1 rfl rfl 8 (by decide) (hT (Cond.fieldLink RX10 109 "DesertWire$World" "day" "I") mw_110) (fun _ h9 => h9) rfl dX10_owed_17 ?_
    refine lv_iload_n hx hb dX10_owed_20 rfl (lv_at hl 1 rfl) ?_
    refine b_icmp_le hx hb rfl rfl (tgt := 49) dX10_owed_21 (by decide) (fun c_8 => ?_) (fun c_8 => ?_)
    · refine lv_iconst (v := 0) hx hb dX10_owed_49 (by decide) ?_
      exact hRet (c51, c52, c53, c54, c55, c56, c57, cb, c50) [0, 1, 2, 3, 4, 5, 6, 7, 8, 9] ⟨(Or.inr (Or.inl ⟨⟨by omega, by omega⟩, by omega, rfl⟩)), pre0⟩ hP hD (by decide) rfl hS rfl dX10_owed_50
    · refine lv_aload_n hx hb dX10_owed_24 rfl (lv_at hl 0 rfl) ?_
      refine lv_iconst (v := 1) hx hb dX10_owed_25 (by decide) ?_
      refine lv_aload_n hx hb dX10_owed_26 rfl (lv_at hl 0 rfl) ?_
      refine va_get (D := D) (ci := 10) (v := .ref k0) (C := RX10) (T := TX10) (N := 13) hx hb hT giX10 hown hK hP 0 rfl rfl 0 (by decide) (hT (Cond.fieldLink RX10 12 "DesertWire" "now" "LDesertWire$World;") mw_291) (fun _ h9 => h9) rfl dX10_owed_27 ?_
      refine va_get (D := D) (ci := 9) (v := .int c08) (C := RX9) (T := TX9) (N := 9) hx hb hT giX9 hown hK hP 1 rfl rfl 8 (by decide) (hT (Cond.fieldLink RX10 109 "DesertWire$World" "day" "I") mw_110) (fun _ h9 => h9) rfl dX10_owed_30 ?_
      refine lv_iload_n hx hb dX10_owed_33 rfl (lv_at hl 1 rfl) ?_
      refine lv_isub hx hb dX10_owed_34 ?_
      refine lv_topi (fun v_9 ev_9 => ?_)
      have tv_9 : v_9.toInt = c08.toInt - a0.toInt := by rw [ev_9]; exact k_subv rfl rfl (by omega) (by omega)
      refine lv_aload_n hx hb dX10_owed_35 rfl (lv_at hl 0 rfl) ?_
      refine va_get (D := D) (ci := 10) (v := .ref k0) (C := RX10) (T := TX10) (N := 13) hx hb hT giX10 hown hK hP 0 rfl rfl 0 (by decide) (hT (Cond.fieldLink RX10 12 "DesertWire" "now" "LDesertWire$World;") mw_291) (fun _ h9 => h9) rfl dX10_owed_36 ?_
      refine va_get (D := D) (ci := 9) (v := .int c08) (C := RX9) (T := TX9) (N := 9) hx hb hT giX9 hown hK hP 1 rfl rfl 8 (by decide) (hT (Cond.fieldLink RX10 109 "DesertWire$World" "day" "I") mw_110) (fun _ h9 => h9) rfl dX10_owed_39 ?_
      refine lv_iconst (v := 0) hx hb dX10_owed_42 (by decide) ?_
      refine kJi (wr := [(kb, .inl (cI, 6, .inl cb))]) (va_runV (As := [.int 1, .int v_9, .int c08, .int 0]) (rest := []) ⟨hx, hb, hml, hown, hT⟩ (c_X10_valueOfG l D cI aK aV k k0 k1 k2 k3 k4 k5 k6 k7 k8 k9 ka kb k00 k01 k02 k03 k04 k05 k30 k31 k32 k33 k34 k50 H.size cc c06 c07 c08 c35 c36 c51 c52 c53 c54 c55 c56 c57 c31 c32 c33 c34 c50 1 v_9 c08 0 pre0 pre1 pre2 (by first | omega | (simp only [zl_0, zl_1]; first | done | omega) | decide | assumption | rfl) (by first | omega | (simp only [zl_0, zl_1]; first | done | omega) | decide | assumption | rfl) (by first | omega | (simp only [zl_0, zl_1]; first | done | omega) | decide | assumption | rfl) (by first | omega | (simp only [zl_0, zl_1]; first | done | omega) | decide | assumption | rfl)) (cwV 4 hT (gV_in mw_440 mw_437 mw_439 mw_p1_4 mw_1) rfl rfl rfl (by decide +kernel) ⟨Nat.le_of_ble_eq_true rfl, Nat.le_of_ble_eq_true rfl⟩) (kRecvX (q0 := 0) (ci := 10) hK hP hD hN hXS hS hA rfl rfl [0, 1, 2, 3, 5, 6, 7, 8, 9] rfl (by decide)) rfl rfl hl.1 rfl (lv_room (Nat.le_of_ble_eq_true rfl)) dX10_owed_43 ⟨Nat.le_of_ble_eq_true rfl, Nat.le_of_ble_eq_true rfl⟩) hP hD hS hA [0, 1, 2, 3, 5, 6, 7, 8, 9] [4] rfl rfl (by decide) (by decide) ?_
      clear hP hD hS
      intro r_10 u_20 H locs w_11 hP hD hS
      obtain ⟨sc51_12, sc52_13, sc53_14, sc54_15, sc55_16, sc56_17, sc57_18, sc50_19⟩ := u_20
      replace hP : va_P D vwCl [(kb, .inl (cI, 6, .inl cb)), (k, .inr (10, [.ref k0, .ref k1, .ref k2, .ref k3, .ref k4, .ref k5, .ref k6, .ref k7, .ref k8, .ref k9, .ref ka, .ref kb, .int cc])), (k0, .inr (9, [.ref k00, .ref k01, .ref k02, .ref k03, .ref k04, .ref k05, .int c06, .int c07, .int c08])), (k3, .inr (4, [.ref k30, .ref k31, .ref k32, .ref k33, .ref k34, .int c35, .int c36])), (k5, .inr (5, [.ref k50, .int sc51_12, .int sc52_13, .int sc53_14, .int sc54_15, .int sc55_16, .int sc56_17, .int sc57_18])), (k31, .inl (cI, 600, .inl c31)), (k32, .inl (cI, 12, .inl c32)), (k33, .inl (cI, 12, .inl c33)), (k34, .inl (cI, 12, .inl c34)), (k50, .inl (cI, 50, .inl sc50_19))] H := hP
      replace hD : va_D A [(kb, .inl (cI, 6, .inl cb)), (k, .inr (10, [.ref k0, .ref k1, .ref k2, .ref k3, .ref k4, .ref k5, .ref k6, .ref k7, .ref k8, .ref k9, .ref ka, .ref kb, .int cc])), (k0, .inr (9, [.ref k00, .ref k01, .ref k02, .ref k03, .ref k04, .ref k05, .int c06, .int c07, .int c08])), (k3, .inr (4, [.ref k30, .ref k31, .ref k32, .ref k33, .ref k34, .int c35, .int c36])), (k5, .inr (5, [.ref k50, .int sc51_12, .int sc52_13, .int sc53_14, .int sc54_15, .int sc55_16, .int sc56_17, .int sc57_18])), (k31, .inl (cI, 600, .inl c31)), (k32, .inl (cI, 12, .inl c32)), (k33, .inl (cI, 12, .inl c33)), (k34, .inl (cI, 12, .inl c34)), (k50, .inl (cI, 50, .inl sc50_19))] := hD
      obtain ⟨h_21, h_22⟩ := w_11
      try simp only [zl_0, zl_1] at h_21
      have h_21 : PRV c33 c34 (fun j => tG c31 (50 * j) (c32 j)) c32 c36.toInt.toNat c08 1 v_9 c08 0 r_10 := h_21
      have h_21 : PRV c33 c34 (fun j => tG c31 (50 * j) (c32 j)) c32 c36.toInt.toNat c08 1 v_9 c08 0 r_10 := h_21
      try simp only [zl_0, zl_1] at h_22
      have h_22 : BYT sc50_19 0 := h_22
      have lo_r_10 := k_lo r_10
      have hi_r_10 := k_hi r_10
      refine lv_goto (tgt := 50) hx hb dX10_owed_46 (by decide) ?_
      exact hRet (sc51_12, sc52_13, sc53_14, sc54_15, sc55_16, sc56_17, sc57_18, cb, sc50_19) [1, 2, 3, 4, 0, 5, 6, 7, 8, 9] ⟨(Or.inr (Or.inr ⟨⟨by omega, by omega⟩, by omega, by rw [← ev_9]; exact h_21⟩)), h_22⟩ hP hD (by decide) rfl hS rfl dX10_owed_50
  · have h_6 : a0.toInt < 0 ∨ 2000 < a0.toInt := h_6
    obtain rfl : r_1 = 0 := hr_1.trans (by decide)
    refine b_if_ne hx hb zl_0 (tgt := 13) dX10_owed_4 (by decide) (fun c_23 => by exfalso; omega) (fun c_23 => ?_)
    refine lv_aload_n hx hb dX10_owed_7 rfl (lv_at hl 0 rfl) ?_
    refine lv_iconst (v := 1) hx hb dX10_owed_8 (by decide) ?_
    refine kJi (wr := [(k0, .inr (9, [.ref k00, .ref k01, .ref k02, .ref k03, .ref k04, .ref k05, .int c06, .int c07, .int c08])), (k3, .inr (4, [.ref k30, .ref k31, .ref k32, .ref k33, .ref k34, .int c35, .int c36])), (k5, .inr (5, [.ref k50, .int c51, .int c52, .int c53, .int c54, .int c55, .int c56, .int c57])), (k31, .inl (cI, 600, .inl c31)), (k32, .inl (cI, 12, .inl c32)), (k33, .inl (cI, 12, .inl c33)), (k34, .inl (cI, 12, .inl c34)), (k50, .inl (cI, 50, .inl c50))]) (va_runV (As := [.int 1]) (rest := []) ⟨hx, hb, hml, hown, hT⟩ (c_X10_findingG l D cI aK aV k k0 k1 k2 k3 k4 k5 k6 k7 k8 k9 ka kb H.size cc cb 1) (cwV 1 hT (gV_in mw_338 mw_335 mw_337 mw_p1_0 mw_1) rfl rfl rfl (by decide +kernel) ⟨Nat.le_of_ble_eq_true rfl, Nat.le_of_ble_eq_true rfl⟩) (kRecvX (q0 := 0) (ci := 10) hK hP hD hN hXS hS hA rfl rfl [0, 4] rfl (by decide)) rfl rfl hl.1 rfl (lv_room (Nat.le_of_ble_eq_true rfl)) dX10_owed_9 ⟨Nat.le_of_ble_eq_true rfl, Nat.le_of_ble_eq_true rfl⟩) hP hD hS hA [0, 4] [1, 2, 3, 5, 6, 7, 8, 9] rfl rfl (by decide) (by decide) ?_
    clear hP hD hS
    intro r_24 scb_26 H locs w_25 hP hD hS
    replace hP : va_P D vwCl [(k0, .inr (9, [.ref k00, .ref k01, .ref k02, .ref k03, .ref k04, .ref k05, .int c06, .int c07, .int c08])), (k3, .inr (4, [.ref k30, .ref k31, .ref k32, .ref k33, .ref k34, .int c35, .int c36])), (k5, .inr (5, [.ref k50, .int c51, .int c52, .int c53, .int c54, .int c55, .int c56, .int c57])), (k31, .inl (cI, 600, .inl c31)), (k32, .inl (cI, 12, .inl c32)), (k33, .inl (cI, 12, .inl c33)), (k34, .inl (cI, 12, .inl c34)), (k50, .inl (cI, 50, .inl c50)), (k, .inr (10, [.ref k0, .ref k1, .ref k2, .ref k3, .ref k4, .ref k5, .ref k6, .ref k7, .ref k8, .ref k9, .ref ka, .ref kb, .int cc])), (kb, .inl (cI, 6, .inl scb_26))] H := hP
    replace hD : va_D A [(k0, .inr (9, [.ref k00, .ref k01, .ref k02, .ref k03, .ref k04, .ref k05, .int c06, .int c07, .int c08])), (k3, .inr (4, [.ref k30, .ref k31, .ref k32, .ref k33, .ref k34, .int c35, .int c36])), (k5, .inr (5, [.ref k50, .int c51, .int c52, .int c53, .int c54, .int c55, .int c56, .int c57])), (k31, .inl (cI, 600, .inl c31)), (k32, .inl (cI, 12, .inl c32)), (k33, .inl (cI, 12, .inl c33)), (k34, .inl (cI, 12, .inl c34)), (k50, .inl (cI, 50, .inl c50)), (k, .inr (10, [.ref k0, .ref k1, .ref k2, .ref k3, .ref k4, .ref k5, .ref k6, .ref k7, .ref k8, .ref k9, .ref ka, .ref kb, .int cc])), (kb, .inl (cI, 6, .inl scb_26))] := hD
    have hr_24 := w_25
    obtain rfl : r_24 = (-1000001) := hr_24.trans (by decide)
    exact hRet (c51, c52, c53, c54, c55, c56, c57, scb_26, c50) [8, 0, 1, 2, 9, 3, 4, 5, 6, 7] ⟨(Or.inl ⟨by omega, rfl⟩), pre0⟩ hP hD (by decide) rfl hS rfl dX10_owed_12
theorem dX10_wantOf_0 : decode cX10_wantOf 0 = .ok (.aload_n 0, 1) := by decide +kernel
theorem dX10_wantOf_1 : decode cX10_wantOf 1 = .ok (.getfield 12, 3) := by decide +kernel
theorem dX10_wantOf_4 : decode cX10_wantOf 4 = .ok (.getfield 99, 3) := by decide +kernel
theorem dX10_wantOf_7 : decode cX10_wantOf 7 = .ok (.astore_n 2, 1) := by decide +kernel
theorem dX10_wantOf_8 : decode cX10_wantOf 8 = .ok (.aload_n 2, 1) := by decide +kernel
theorem dX10_wantOf_9 : decode cX10_wantOf 9 = .ok (.iload_n 1, 1) := by decide +kernel
theorem dX10_wantOf_10 : decode cX10_wantOf 10 = .ok (.invokevirtual 135, 3) := by decide +kernel
theorem dX10_wantOf_13 : decode cX10_wantOf 13 = .ok (.ifCond .ne 14, 3) := by decide +kernel
theorem dX10_wantOf_16 : decode cX10_wantOf 16 = .ok (.aload_n 2, 1) := by decide +kernel
theorem dX10_wantOf_17 : decode cX10_wantOf 17 = .ok (.iload_n 1, 1) := by decide +kernel
theorem dX10_wantOf_18 : decode cX10_wantOf 18 = .ok (.invokevirtual 119, 3) := by decide +kernel
theorem dX10_wantOf_21 : decode cX10_wantOf 21 = .ok (.invokestatic 291, 3) := by decide +kernel
theorem dX10_wantOf_24 : decode cX10_wantOf 24 = .ok (.ifCond .ne 5, 3) := by decide +kernel
theorem dX10_wantOf_27 : decode cX10_wantOf 27 = .ok (.iconst 0, 1) := by decide +kernel
theorem dX10_wantOf_28 : decode cX10_wantOf 28 = .ok (.ireturn, 1) := by decide +kernel
theorem dX10_wantOf_29 : decode cX10_wantOf 29 = .ok (.aload_n 0, 1) := by decide +kernel
theorem dX10_wantOf_30 : decode cX10_wantOf 30 = .ok (.iconst 2, 1) := by decide +kernel
theorem dX10_wantOf_31 : decode cX10_wantOf 31 = .ok (.aload_n 2, 1) := by decide +kernel
theorem dX10_wantOf_32 : decode cX10_wantOf 32 = .ok (.iload_n 1, 1) := by decide +kernel
theorem dX10_wantOf_33 : decode cX10_wantOf 33 = .ok (.invokevirtual 119, 3) := by decide +kernel
theorem dX10_wantOf_36 : decode cX10_wantOf 36 = .ok (.aload_n 2, 1) := by decide +kernel
theorem dX10_wantOf_37 : decode cX10_wantOf 37 = .ok (.iload_n 1, 1) := by decide +kernel
theorem dX10_wantOf_38 : decode cX10_wantOf 38 = .ok (.invokevirtual 126, 3) := by decide +kernel
theorem dX10_wantOf_41 : decode cX10_wantOf 41 = .ok (.iconst 0, 1) := by decide +kernel
theorem dX10_wantOf_42 : decode cX10_wantOf 42 = .ok (.invokevirtual 288, 3) := by decide +kernel
theorem dX10_wantOf_45 : decode cX10_wantOf 45 = .ok (.ireturn, 1) := by decide +kernel
set_option maxHeartbeats 4000000 in
set_option maxRecDepth 100000 in
theorem c_X10_wantOfG (l : Launch) (D : va_G) (cI : ClassId) (aK aV : Nat → Nat) (k k0 k1 k2 k3 k4 k5 k6 k7 k8 k9 ka kb k00 k01 k02 k03 k04 k05 k30 k31 k32 k33 k34 k50 k040 k041 k042 k043 k044 k045 k046 k047 k048 : Nat) (sz : Nat) (cc : Int32) (c06 : Int32) (c07 : Int32) (c08 : Int32) (c35 : Int32) (c36 : Int32) (c51 : Int32) (c52 : Int32) (c53 : Int32) (c54 : Int32) (c55 : Int32) (c56 : Int32) (c57 : Int32) (c049 : Int32) (c31 : Nat → Int32) (c32 : Nat → Int32) (c33 : Nat → Int32) (c34 : Nat → Int32) (c50 : Nat → Int32) (c040 : Nat → Int32) (c042 : Nat → Int32) (c045 : Nat → Int32) (a0 : Int32) (pre0 : BYT c50 0) (pre1 : BYN 600 c31) (pre2 : ∀ k : Nat, k < 12 → 0 ≤ (c32 k).toInt ∧ (c32 k).toInt ≤ 50) (pre3 : 0 ≤ c36.toInt) (pre4 : c36.toInt ≤ 12) : Met l yX10_wantOf (gW yX10_wantOf cX10_wantOf 3 (some .int)) ({ frames := 95, cells := 0, slots := 0, locals := 5962 } : Room) (kPreX D cI aK aV [.ref k, .int a0] [(k, .inr (10, [.ref k0, .ref k1, .ref k2, .ref k3, .ref k4, .ref k5, .ref k6, .ref k7, .ref k8, .ref k9, .ref ka, .ref kb, .int cc])), (k0, .inr (9, [.ref k00, .ref k01, .ref k02, .ref k03, .ref k04, .ref k05, .int c06, .int c07, .int c08])), (k3, .inr (4, [.ref k30, .ref k31, .ref k32, .ref k33, .ref k34, .int c35, .int c36])), (k5, .inr (5, [.ref k50, .int c51, .int c52, .int c53, .int c54, .int c55, .int c56, .int c57])), (k04, .inr (8, [.ref k040, .ref k041, .ref k042, .ref k043, .ref k044, .ref k045, .ref k046, .ref k047, .ref k048, .int c049])), (k31, .inl (cI, 600, .inl c31)), (k32, .inl (cI, 12, .inl c32)), (k33, .inl (cI, 12, .inl c33)), (k34, .inl (cI, 12, .inl c34)), (k50, .inl (cI, 50, .inl c50)), (k040, .inl (cI, 60, .inl c040)), (k042, .inl (cI, 60, .inl c042)), (k045, .inl (cI, 60, .inl c045))] sz) (va_Qi (fun (r : Int32) (u : Int32 × Int32 × Int32 × Int32 × Int32 × Int32 × Int32 × (Nat → Int32)) => BYT u.2.2.2.2.2.2.2 0) (fun u t => kWd D cI (va_A [(k, .inr (10, [.ref k0, .ref k1, .ref k2, .ref k3, .ref k4, .ref k5, .ref k6, .ref k7, .ref k8, .ref k9, .ref ka, .ref kb, .int cc])), (k0, .inr (9, [.ref k00, .ref k01, .ref k02, .ref k03, .ref k04, .ref k05, .int c06, .int c07, .int c08])), (k3, .inr (4, [.ref k30, .ref k31, .ref k32, .ref k33, .ref k34, .int c35, .int c36])), (k5, .inr (5, [.ref k50, .int c51, .int c52, .int c53, .int c54, .int c55, .int c56, .int c57])), (k04, .inr (8, [.ref k040, .ref k041, .ref k042, .ref k043, .ref k044, .ref k045, .ref k046, .ref k047, .ref k048, .int c049])), (k31, .inl (cI, 600, .inl c31)), (k32, .inl (cI, 12, .inl c32)), (k33, .inl (cI, 12, .inl c33)), (k34, .inl (cI, 12, .inl c34)), (k50, .inl (cI, 50, .inl c50)), (k040, .inl (cI, 60, .inl c040)), (k042, .inl (cI, 60, .inl c042)), (k045, .inl (cI, 60, .inl c045))] sz) [(k, .inr (10, [.ref k0, .ref k1, .ref k2, .ref k3, .ref k4, .ref k5, .ref k6, .ref k7, .ref k8, .ref k9, .ref ka, .ref kb, .int cc])), (k0, .inr (9, [.ref k00, .ref k01, .ref k02, .ref k03, .ref k04, .ref k05, .int c06, .int c07, .int c08])), (k3, .inr (4, [.ref k30, .ref k31, .ref k32, .ref k33, .ref k34, .int c35, .int c36])), (k5, .inr (5, [.ref k50, .int u.1, .int u.2.1, .int u.2.2.1, .int u.2.2.2.1, .int u.2.2.2.2.1, .int u.2.2.2.2.2.1, .int u.2.2.2.2.2.2.1])), (k04, .inr (8, [.ref k040, .ref k041, .ref k042, .ref k043, .ref k044, .ref k045, .ref k046, .ref k047, .ref k048, .int c049])), (k31, .inl (cI, 600, .inl c31)), (k32, .inl (cI, 12, .inl c32)), (k33, .inl (cI, 12, .inl c33)), (k34, .inl (cI, 12, .inl c34)), (k50, .inl (cI, 50, .inl u.2.2.2.2.2.2.2)), (k040, .inl (cI, 60, .inl c040)), (k042, .inl (cI, 60, .inl c042)), (k045, .inl (cI, 60, .inl c045))] t) (va_A [(k, .inr (10, [.ref k0, .ref k1, .ref k2, .ref k3, .ref k4, .ref k5, .ref k6, .ref k7, .ref k8, .ref k9, .ref ka, .ref kb, .int cc])), (k0, .inr (9, [.ref k00, .ref k01, .ref k02, .ref k03, .ref k04, .ref k05, .int c06, .int c07, .int c08])), (k3, .inr (4, [.ref k30, .ref k31, .ref k32, .ref k33, .ref k34, .int c35, .int c36])), (k5, .inr (5, [.ref k50, .int c51, .int c52, .int c53, .int c54, .int c55, .int c56, .int c57])), (k04, .inr (8, [.ref k040, .ref k041, .ref k042, .ref k043, .ref k044, .ref k045, .ref k046, .ref k047, .ref k048, .int c049])), (k31, .inl (cI, 600, .inl c31)), (k32, .inl (cI, 12, .inl c32)), (k33, .inl (cI, 12, .inl c33)), (k34, .inl (cI, 12, .inl c34)), (k50, .inl (cI, 50, .inl c50)), (k040, .inl (cI, 60, .inl c040)), (k042, .inl (cI, 60, .inl c042)), (k045, .inl (cI, 60, .inl c045))] sz)) 0 0 (va_A [(k, .inr (10, [.ref k0, .ref k1, .ref k2, .ref k3, .ref k4, .ref k5, .ref k6, .ref k7, .ref k8, .ref k9, .ref ka, .ref kb, .int cc])), (k0, .inr (9, [.ref k00, .ref k01, .ref k02, .ref k03, .ref k04, .ref k05, .int c06, .int c07, .int c08])), (k3, .inr (4, [.ref k30, .ref k31, .ref k32, .ref k33, .ref k34, .int c35, .int c36])), (k5, .inr (5, [.ref k50, .int c51, .int c52, .int c53, .int c54, .int c55, .int c56, .int c57])), (k04, .inr (8, [.ref k040, .ref k041, .ref k042, .ref k043, .ref k044, .ref k045, .ref k046, .ref k047, .ref k048, .int c049])), (k31, .inl (cI, 600, .inl c31)), (k32, .inl (cI, 12, .inl c32)), (k33, .inl (cI, 12, .inl c33)), (k34, .inl (cI, 12, .inl c34)), (k50, .inl (cI, 50, .inl c50)), (k040, .inl (cI, 60, .inl c040)), (k042, .inl (cI, 60, .inl c042)), (k045, .inl (cI, 60, .inl c045))] sz) := by
  refine kMetIX (own := RX10) (by decide) rfl (Nat.le_of_ble_eq_true rfl) ?_
  intro p e s m args below meth c hx hb hT hown hname hml A Q hK hP hD hS hA hN hXS hRet ls hl
  have hl : lv_has ls 3 [(0, .ref k), (1, .int a0)] := hl
  have lo_a0 := k_lo a0
  have hi_a0 := k_hi a0
  have lo_c08 := k_lo c08
  have hi_c08 := k_hi c08
  have lo_c36 := k_lo c36
  have hi_c36 := k_hi c36
  have pre0 : BYT c50 0 := pre0
  have pre1 : BYN 600 c31 := pre1
  refine lv_aload_n hx hb dX10_wantOf_0 rfl (lv_at hl 0 rfl) ?_
  refine va_get (D := D) (ci := 10) (v := .ref k0) (C := RX10) (T := TX10) (N := 13) hx hb hT giX10 hown hK hP 0 rfl rfl 0 (by decide) (hT (Cond.fieldLink RX10 12 "DesertWire" "now" "LDesertWire$World;") mw_291) (fun _ h9 => h9) rfl dX10_wantOf_1 ?_
  refine va_get (D := D) (ci := 9) (v := .ref k04) (C := RX9) (T := TX9) (N := 9) hx hb hT giX9 hown hK hP 1 rfl rfl 4 (by decide) (hT (Cond.fieldLink RX10 99 "DesertWire$World" "works" "LDesertWire$Works;") mw_99) (fun _ h9 => h9) rfl dX10_wantOf_4 ?_
  refine lv_astore_n (lv' := [(2, .ref k04), (0, .ref k), (1, .int a0)]) hx hb dX10_wantOf_7 rfl hl (by decide) rfl ?_
  clear hl
  intro ls hl
  refine lv_aload_n hx hb dX10_wantOf_8 rfl (lv_at hl 0 rfl) ?_
  refine lv_iload_n hx hb dX10_wantOf_9 rfl (lv_at hl 2 rfl) ?_
  refine kJi (wr := [(k, .inr (10, [.ref k0, .ref k1, .ref k2, .ref k3, .ref k4, .ref k5, .ref k6, .ref k7, .ref k8, .ref k9, .ref ka, .ref kb, .int cc])), (k0, .inr (9, [.ref k00, .ref k01, .ref k02, .ref k03, .ref k04, .ref k05, .int c06, .int c07, .int c08])), (k3, .inr (4, [.ref k30, .ref k31, .ref k32, .ref k33, .ref k34, .int c35, .int c36])), (k5, .inr (5, [.ref k50, .int c51, .int c52, .int c53, .int c54, .int c55, .int c56, .int c57])), (k31, .inl (cI, 600, .inl c31)), (k32, .inl (cI, 12, .inl c32)), (k33, .inl (cI, 12, .inl c33)), (k34, .inl (cI, 12, .inl c34)), (k50, .inl (cI, 50, .inl c50)), (k040, .inl (cI, 60, .inl c040)), (k042, .inl (cI, 60, .inl c042))]) (va_runV (As := [.int a0]) (rest := []) ⟨hx, hb, hml, hown, hT⟩ (c_X8_isDownG l D cI aK aV k04 k040 k041 k042 k043 k044 k045 k046 k047 k048 s.heap.size c049 c045 a0) (cwV 1 hT (gV_in mw_407 mw_404 mw_405 mw_406 mw_3) rfl rfl rfl (by decide +kernel) ⟨Nat.le_of_ble_eq_true rfl, Nat.le_of_ble_eq_true rfl⟩) (kRecvX (q0 := 4) (ci := 8) hK hP hD hN hXS hS hA rfl rfl [4, 12] rfl (by decide)) rfl rfl hl.1 rfl (lv_room (Nat.le_of_ble_eq_true rfl)) dX10_wantOf_10 ⟨Nat.le_of_ble_eq_true rfl, Nat.le_of_ble_eq_true rfl⟩) hP hD hS hA [4, 12] [0, 1, 2, 3, 5, 6, 7, 8, 9, 10, 11] rfl rfl (by decide) (by decide) ?_
  clear hP hD hS
  intro r_1 u_3 H locs w_2 hP hD hS
  replace hP : va_P D vwCl [(k, .inr (10, [.ref k0, .ref k1, .ref k2, .ref k3, .ref k4, .ref k5, .ref k6, .ref k7, .ref k8, .ref k9, .ref ka, .ref kb, .int cc])), (k0, .inr (9, [.ref k00, .ref k01, .ref k02, .ref k03, .ref k04, .ref k05, .int c06, .int c07, .int c08])), (k3, .inr (4, [.ref k30, .ref k31, .ref k32, .ref k33, .ref k34, .int c35, .int c36])), (k5, .inr (5, [.ref k50, .int c51, .int c52, .int c53, .int c54, .int c55, .int c56, .int c57])), (k31, .inl (cI, 600, .inl c31)), (k32, .inl (cI, 12, .inl c32)), (k33, .inl (cI, 12, .inl c33)), (k34, .inl (cI, 12, .inl c34)), (k50, .inl (cI, 50, .inl c50)), (k040, .inl (cI, 60, .inl c040)), (k042, .inl (cI, 60, .inl c042)), (k04, .inr (8, [.ref k040, .ref k041, .ref k042, .ref k043, .ref k044, .ref k045, .ref k046, .ref k047, .ref k048, .int c049])), (k045, .inl (cI, 60, .inl c045))] H := hP
  replace hD : va_D A [(k, .inr (10, [.ref k0, .ref k1, .ref k2, .ref k3, .ref k4, .ref k5, .ref k6, .ref k7, .ref k8, .ref k9, .ref ka, .ref kb, .int cc])), (k0, .inr (9, [.ref k00, .ref k01, .ref k02, .ref k03, .ref k04, .ref k05, .int c06, .int c07, .int c08])), (k3, .inr (4, [.ref k30, .ref k31, .ref k32, .ref k33, .ref k34, .int c35, .int c36])), (k5, .inr (5, [.ref k50, .int c51, .int c52, .int c53, .int c54, .int c55, .int c56, .int c57])), (k31, .inl (cI, 600, .inl c31)), (k32, .inl (cI, 12, .inl c32)), (k33, .inl (cI, 12, .inl c33)), (k34, .inl (cI, 12, .inl c34)), (k50, .inl (cI, 50, .inl c50)), (k040, .inl (cI, 60, .inl c040)), (k042, .inl (cI, 60, .inl c042)), (k04, .inr (8, [.ref k040, .ref k041, .ref k042, .ref k043, .ref k044, .ref k045, .ref k046, .ref k047, .ref k048, .int c049])), (k045, .inl (cI, 60, .inl c045))] := hD
  have lo_r_1 := k_lo r_1
  have hi_r_1 := k_hi r_1
  refine b_if_ne hx hb rfl (tgt := 27) dX10_wantOf_13 (by decide) (fun c_4 => ?_) (fun c_4 => ?_)
  · refine lv_iconst (v := 0) hx hb dX10_wantOf_27 (by decide) ?_
    exact hRet (c51, c52, c53, c54, c55, c56, c57, c50) [0, 1, 2, 3, 11, 4, 5, 6, 7, 8, 9, 10, 12] pre0 hP hD (by decide) rfl hS rfl dX10_wantOf_28
  · refine lv_aload_n hx hb dX10_wantOf_16 rfl (lv_at hl 0 rfl) ?_
    refine lv_iload_n hx hb dX10_wantOf_17 rfl (lv_at hl 2 rfl) ?_
    refine kJi (wr := [(k, .inr (10, [.ref k0, .ref k1, .ref k2, .ref k3, .ref k4, .ref k5, .ref k6, .ref k7, .ref k8, .ref k9, .ref ka, .ref kb, .int cc])), (k0, .inr (9, [.ref k00, .ref k01, .ref k02, .ref k03, .ref k04, .ref k05, .int c06, .int c07, .int c08])), (k3, .inr (4, [.ref k30, .ref k31, .ref k32, .ref k33, .ref k34, .int c35, .int c36])), (k5, .inr (5, [.ref k50, .int c51, .int c52, .int c53, .int c54, .int c55, .int c56, .int c57])), (k31, .inl (cI, 600, .inl c31)), (k32, .inl (cI, 12, .inl c32)), (k33, .inl (cI, 12, .inl c33)), (k34, .inl (cI, 12, .inl c34)), (k50, .inl (cI, 50, .inl c50)), (k042, .inl (cI, 60, .inl c042)), (k045, .inl (cI, 60, .inl c045))]) (va_runV (As := [.int a0]) (rest := []) ⟨hx, hb, hml, hown, hT⟩ (c_X8_kindOfG l D cI aK aV k04 k040 k041 k042 k043 k044 k045 k046 k047 k048 H.size c049 c040 a0) (cwV 1 hT (gV_in mw_384 mw_381 mw_382 mw_383 mw_3) rfl rfl rfl (by decide +kernel) ⟨Nat.le_of_ble_eq_true rfl, Nat.le_of_ble_eq_true rfl⟩) (kRecvX (q0 := 11) (ci := 8) hK hP hD hN hXS hS hA rfl rfl [11, 9] rfl (by decide)) rfl rfl hl.1 rfl (lv_room (Nat.le_of_ble_eq_true rfl)) dX10_wantOf_18 ⟨Nat.le_of_ble_eq_true rfl, Nat.le_of_ble_eq_true rfl⟩) hP hD hS hA [11, 9] [0, 1, 2, 3, 4, 5, 6, 7, 8, 10, 12] rfl rfl (by decide) (by decide) ?_
    clear hP hD hS
    intro r_5 u_7 H locs w_6 hP hD hS
    replace hP : va_P D vwCl [(k, .inr (10, [.ref k0, .ref k1, .ref k2, .ref k3, .ref k4, .ref k5, .ref k6, .ref k7, .ref k8, .ref k9, .ref ka, .ref kb, .int cc])), (k0, .inr (9, [.ref k00, .ref k01, .ref k02, .ref k03, .ref k04, .ref k05, .int c06, .int c07, .int c08])), (k3, .inr (4, [.ref k30, .ref k31, .ref k32, .ref k33, .ref k34, .int c35, .int c36])), (k5, .inr (5, [.ref k50, .int c51, .int c52, .int c53, .int c54, .int c55, .int c56, .int c57])), (k31, .inl (cI, 600, .inl c31)), (k32, .inl (cI, 12, .inl c32)), (k33, .inl (cI, 12, .inl c33)), (k34, .inl (cI, 12, .inl c34)), (k50, .inl (cI, 50, .inl c50)), (k042, .inl (cI, 60, .inl c042)), (k045, .inl (cI, 60, .inl c045)), (k04, .inr (8, [.ref k040, .ref k041, .ref k042, .ref k043, .ref k044, .ref k045, .ref k046, .ref k047, .ref k048, .int c049])), (k040, .inl (cI, 60, .inl c040))] H := hP
    replace hD : va_D A [(k, .inr (10, [.ref k0, .ref k1, .ref k2, .ref k3, .ref k4, .ref k5, .ref k6, .ref k7, .ref k8, .ref k9, .ref ka, .ref kb, .int cc])), (k0, .inr (9, [.ref k00, .ref k01, .ref k02, .ref k03, .ref k04, .ref k05, .int c06, .int c07, .int c08])), (k3, .inr (4, [.ref k30, .ref k31, .ref k32, .ref k33, .ref k34, .int c35, .int c36])), (k5, .inr (5, [.ref k50, .int c51, .int c52, .int c53, .int c54, .int c55, .int c56, .int c57])), (k31, .inl (cI, 600, .inl c31)), (k32, .inl (cI, 12, .inl c32)), (k33, .inl (cI, 12, .inl c33)), (k34, .inl (cI, 12, .inl c34)), (k50, .inl (cI, 50, .inl c50)), (k042, .inl (cI, 60, .inl c042)), (k045, .inl (cI, 60, .inl c045)), (k04, .inr (8, [.ref k040, .ref k041, .ref k042, .ref k043, .ref k044, .ref k045, .ref k046, .ref k047, .ref k048, .int c049])), (k040, .inl (cI, 60, .inl c040))] := hD
    have lo_r_5 := k_lo r_5
    have hi_r_5 := k_hi r_5
    refine kJi (wr := [(k, .inr (10, [.ref k0, .ref k1, .ref k2, .ref k3, .ref k4, .ref k5, .ref k6, .ref k7, .ref k8, .ref k9, .ref ka, .ref kb, .int cc])), (k0, .inr (9, [.ref k00, .ref k01, .ref k02, .ref k03, .ref k04, .ref k05, .int c06, .int c07, .int c08])), (k3, .inr (4, [.ref k30, .ref k31, .ref k32, .ref k33, .ref k34, .int c35, .int c36])), (k5, .inr (5, [.ref k50, .int c51, .int c52, .int c53, .int c54, .int c55, .int c56, .int c57])), (k31, .inl (cI, 600, .inl c31)), (k32, .inl (cI, 12, .inl c32)), (k33, .inl (cI, 12, .inl c33)), (k34, .inl (cI, 12, .inl c34)), (k50, .inl (cI, 50, .inl c50)), (k042, .inl (cI, 60, .inl c042)), (k045, .inl (cI, 60, .inl c045)), (k04, .inr (8, [.ref k040, .ref k041, .ref k042, .ref k043, .ref k044, .ref k045, .ref k046, .ref k047, .ref k048, .int c049])), (k040, .inl (cI, 60, .inl c040))]) (va_runS (As := [.int r_5]) (rest := []) ⟨hx, hb, hml, hown, hT⟩ (c_X10_isPoleG l D cI aK aV H.size r_5) (cwS 1 hT (gS_in mw_375 mw_436 mw_374 mw_1) rfl rfl rfl (by decide +kernel) ⟨Nat.le_of_ble_eq_true rfl, Nat.le_of_ble_eq_true rfl⟩) (kStatX hK hP hD hN hXS hS hA [] rfl (by decide)) rfl rfl hl.1 rfl (lv_room (Nat.le_of_ble_eq_true rfl)) dX10_wantOf_21 ⟨Nat.le_of_ble_eq_true rfl, Nat.le_of_ble_eq_true rfl⟩) hP hD hS hA [] [0, 1, 2, 3, 4, 5, 6, 7, 8, 9, 10, 11, 12] rfl rfl (by decide) (by decide) ?_
    clear hP hD hS
    intro r_8 u_10 H locs w_9 hP hD hS
    replace hP : va_P D vwCl [(k, .inr (10, [.ref k0, .ref k1, .ref k2, .ref k3, .ref k4, .ref k5, .ref k6, .ref k7, .ref k8, .ref k9, .ref ka, .ref kb, .int cc])), (k0, .inr (9, [.ref k00, .ref k01, .ref k02, .ref k03, .ref k04, .ref k05, .int c06, .int c07, .int c08])), (k3, .inr (4, [.ref k30, .ref k31, .ref k32, .ref k33, .ref k34, .int c35, .int c36])), (k5, .inr (5, [.ref k50, .int c51, .int c52, .int c53, .int c54, .int c55, .int c56, .int c57])), (k31, .inl (cI, 600, .inl c31)), (k32, .inl (cI, 12, .inl c32)), (k33, .inl (cI, 12, .inl c33)), (k34, .inl (cI, 12, .inl c34)), (k50, .inl (cI, 50, .inl c50)), (k042, .inl (cI, 60, .inl c042)), (k045, .inl (cI, 60, .inl c045)), (k04, .inr (8, [.ref k040, .ref k041, .ref k042, .ref k043, .ref k044, .ref k045, .ref k046, .ref k047, .ref k048, .int c049])), (k040, .inl (cI, 60, .inl c040))] H := hP
    replace hD : va_D A [(k, .inr (10, [.ref k0, .ref k1, .ref k2, .ref k3, .ref k4, .ref k5, .ref k6, .ref k7, .ref k8, .ref k9, .ref ka, .ref kb, .int cc])), (k0, .inr (9, [.ref k00, .ref k01, .ref k02, .ref k03, .ref k04, .ref k05, .int c06, .int c07, .int c08])), (k3, .inr (4, [.ref k30, .ref k31, .ref k32, .ref k33, .ref k34, .int c35, .int c36])), (k5, .inr (5, [.ref k50, .int c51, .int c52, .int c53, .int c54, .int c55, .int c56, .int c57])), (k31, .inl (cI, 600, .inl c31)), (k32, .inl (cI, 12, .inl c32)), (k33, .inl (cI, 12, .inl c33)), (k34, .inl (cI, 12, .inl c34)), (k50, .inl (cI, 50, .inl c50)), (k042, .inl (cI, 60, .inl c042)), (k045, .inl (cI, 60, .inl c045)), (k04, .inr (8, [.ref k040, .ref k041, .ref k042, .ref k043, .ref k044, .ref k045, .ref k046, .ref k047, .ref k048, .int c049])), (k040, .inl (cI, 60, .inl c040))] := hD
    have lo_r_8 := k_lo r_8
    have hi_r_8 := k_hi r_8
    refine b_if_ne hx hb rfl (tgt := 29) dX10_wantOf_24 (by decide) (fun c_11 => ?_) (fun c_11 => ?_)
    · refine lv_aload_n hx hb dX10_wantOf_29 rfl (lv_at hl 1 rfl) ?_
      refine lv_iconst (v := 2) hx hb dX10_wantOf_30 (by decide) ?_
      refine lv_aload_n hx hb dX10_wantOf_31 rfl (lv_at hl 0 rfl) ?_
      refine lv_iload_n hx hb dX10_wantOf_32 rfl (lv_at hl 2 rfl) ?_
      refine kJi (wr := [(k, .inr (10, [.ref k0, .ref k1, .ref k2, .ref k3, .ref k4, .ref k5, .ref k6, .ref k7, .ref k8, .ref k9, .ref ka, .ref kb, .int cc])), (k0, .inr (9, [.ref k00, .ref k01, .ref k02, .ref k03, .ref k04, .ref k05, .int c06, .int c07, .int c08])), (k3, .inr (4, [.ref k30, .ref k31, .ref k32, .ref k33, .ref k34, .int c35, .int c36])), (k5, .inr (5, [.ref k50, .int c51, .int c52, .int c53, .int c54, .int c55, .int c56, .int c57])), (k31, .inl (cI, 600, .inl c31)), (k32, .inl (cI, 12, .inl c32)), (k33, .inl (cI, 12, .inl c33)), (k34, .inl (cI, 12, .inl c34)), (k50, .inl (cI, 50, .inl c50)), (k042, .inl (cI, 60, .inl c042)), (k045, .inl (cI, 60, .inl c045))]) (va_runV (As := [.int a0]) (rest := [.int 2, .ref k]) ⟨hx, hb, hml, hown, hT⟩ (c_X8_kindOfG l D cI aK aV k04 k040 k041 k042 k043 k044 k045 k046 k047 k048 H.size c049 c040 a0) (cwV 1 hT (gV_in mw_384 mw_381 mw_382 mw_383 mw_3) rfl rfl rfl (by decide +kernel) ⟨Nat.le_of_ble_eq_true rfl, Nat.le_of_ble_eq_true rfl⟩) (kRecvX (q0 := 11) (ci := 8) hK hP hD hN hXS hS hA rfl rfl [11, 12] rfl (by decide)) rfl rfl hl.1 rfl (lv_room (Nat.le_of_ble_eq_true rfl)) dX10_wantOf_33 ⟨Nat.le_of_ble_eq_true rfl, Nat.le_of_ble_eq_true rfl⟩) hP hD hS hA [11, 12] [0, 1, 2, 3, 4, 5, 6, 7, 8, 9, 10] rfl rfl (by decide) (by decide) ?_
      clear hP hD hS
      intro r_12 u_14 H locs w_13 hP hD hS
      replace hP : va_P D vwCl [(k, .inr (10, [.ref k0, .ref k1, .ref k2, .ref k3, .ref k4, .ref k5, .ref k6, .ref k7, .ref k8, .ref k9, .ref ka, .ref kb, .int cc])), (k0, .inr (9, [.ref k00, .ref k01, .ref k02, .ref k03, .ref k04, .ref k05, .int c06, .int c07, .int c08])), (k3, .inr (4, [.ref k30, .ref k31, .ref k32, .ref k33, .ref k34, .int c35, .int c36])), (k5, .inr (5, [.ref k50, .int c51, .int c52, .int c53, .int c54, .int c55, .int c56, .int c57])), (k31, .inl (cI, 600, .inl c31)), (k32, .inl (cI, 12, .inl c32)), (k33, .inl (cI, 12, .inl c33)), (k34, .inl (cI, 12, .inl c34)), (k50, .inl (cI, 50, .inl c50)), (k042, .inl (cI, 60, .inl c042)), (k045, .inl (cI, 60, .inl c045)), (k04, .inr (8, [.ref k040, .ref k041, .ref k042, .ref k043, .ref k044, .ref k045, .ref k046, .ref k047, .ref k048, .int c049])), (k040, .inl (cI, 60, .inl c040))] H := hP
      replace hD : va_D A [(k, .inr (10, [.ref k0, .ref k1, .ref k2, .ref k3, .ref k4, .ref k5, .ref k6, .ref k7, .ref k8, .ref k9, .ref ka, .ref kb, .int cc])), (k0, .inr (9, [.ref k00, .ref k01, .ref k02, .ref k03, .ref k04, .ref k05, .int c06, .int c07, .int c08])), (k3, .inr (4, [.ref k30, .ref k31, .ref k32, .ref k33, .ref k34, .int c35, .int c36])), (k5, .inr (5, [.ref k50, .int c51, .int c52, .int c53, .int c54, .int c55, .int c56, .int c57])), (k31, .inl (cI, 600, .inl c31)), (k32, .inl (cI, 12, .inl c32)), (k33, .inl (cI, 12, .inl c33)), (k34, .inl (cI, 12, .inl c34)), (k50, .inl (cI, 50, .inl c50)), (k042, .inl (cI, 60, .inl c042)), (k045, .inl (cI, 60, .inl c045)), (k04, .inr (8, [.ref k040, .ref k041, .ref k042, .ref k043, .ref k044, .ref k045, .ref k046, .ref k047, .ref k048, .int c049])), (k040, .inl (cI, 60, .inl c040))] := hD
      have lo_r_12 := k_lo r_12
      have hi_r_12 := k_hi r_12
      refine lv_aload_n hx hb dX10_wantOf_36 rfl (lv_at hl 0 rfl) ?_
      refine lv_iload_n hx hb dX10_wantOf_37 rfl (lv_at hl 2 rfl) ?_
      refine kJi (wr := [(k, .inr (10, [.ref k0, .ref k1, .ref k2, .ref k3, .ref k4, .ref k5, .ref k6, .ref k7, .ref k8, .ref k9, .ref ka, .ref kb, .int cc])), (k0, .inr (9, [.ref k00, .ref k01, .ref k02, .ref k03, .ref k04, .ref k05, .int c06, .int c07, .int c08])), (k3, .inr (4, [.ref k30, .ref k31, .ref k32, .ref k33, .ref k34, .int c35, .int c36])), (k5, .inr (5, [.ref k50, .int c51, .int c52, .int c53, .int c54, .int c55, .int c56, .int c57])), (k31, .inl (cI, 600, .inl c31)), (k32, .inl (cI, 12, .inl c32)), (k33, .inl (cI, 12, .inl c33)), (k34, .inl (cI, 12, .inl c34)), (k50, .inl (cI, 50, .inl c50)), (k045, .inl (cI, 60, .inl c045)), (k040, .inl (cI, 60, .inl c040))]) (va_runV (As := [.int a0]) (rest := [.int r_12, .int 2, .ref k]) ⟨hx, hb, hml, hown, hT⟩ (c_X8_sizeOfG l D cI aK aV k04 k040 k041 k042 k043 k044 k045 k046 k047 k048 H.size c049 c042 a0) (cwV 1 hT (gV_in mw_394 mw_391 mw_392 mw_393 mw_3) rfl rfl rfl (by decide +kernel) ⟨Nat.le_of_ble_eq_true rfl, Nat.le_of_ble_eq_true rfl⟩) (kRecvX (q0 := 11) (ci := 8) hK hP hD hN hXS hS hA rfl rfl [11, 9] rfl (by decide)) rfl rfl hl.1 rfl (lv_room (Nat.le_of_ble_eq_true rfl)) dX10_wantOf_38 ⟨Nat.le_of_ble_eq_true rfl, Nat.le_of_ble_eq_true rfl⟩) hP hD hS hA [11, 9] [0, 1, 2, 3, 4, 5, 6, 7, 8, 10, 12] rfl rfl (by decide) (by decide) ?_
      clear hP hD hS
      intro r_15 u_17 H locs w_16 hP hD hS
      replace hP : va_P D vwCl [(k, .inr (10, [.ref k0, .ref k1, .ref k2, .ref k3, .ref k4, .ref k5, .ref k6, .ref k7, .ref k8, .ref k9, .ref ka, .ref kb, .int cc])), (k0, .inr (9, [.ref k00, .ref k01, .ref k02, .ref k03, .ref k04, .ref k05, .int c06, .int c07, .int c08])), (k3, .inr (4, [.ref k30, .ref k31, .ref k32, .ref k33, .ref k34, .int c35, .int c36])), (k5, .inr (5, [.ref k50, .int c51, .int c52, .int c53, .int c54, .int c55, .int c56, .int c57])), (k31, .inl (cI, 600, .inl c31)), (k32, .inl (cI, 12, .inl c32)), (k33, .inl (cI, 12, .inl c33)), (k34, .inl (cI, 12, .inl c34)), (k50, .inl (cI, 50, .inl c50)), (k045, .inl (cI, 60, .inl c045)), (k040, .inl (cI, 60, .inl c040)), (k04, .inr (8, [.ref k040, .ref k041, .ref k042, .ref k043, .ref k044, .ref k045, .ref k046, .ref k047, .ref k048, .int c049])), (k042, .inl (cI, 60, .inl c042))] H := hP
      replace hD : va_D A [(k, .inr (10, [.ref k0, .ref k1, .ref k2, .ref k3, .ref k4, .ref k5, .ref k6, .ref k7, .ref k8, .ref k9, .ref ka, .ref kb, .int cc])), (k0, .inr (9, [.ref k00, .ref k01, .ref k02, .ref k03, .ref k04, .ref k05, .int c06, .int c07, .int c08])), (k3, .inr (4, [.ref k30, .ref k31, .ref k32, .ref k33, .ref k34, .int c35, .int c36])), (k5, .inr (5, [.ref k50, .int c51, .int c52, .int c53, .int c54, .int c55, .int c56, .int c57])), (k31, .inl (cI, 600, .inl c31)), (k32, .inl (cI, 12, .inl c32)), (k33, .inl (cI, 12, .inl c33)), (k34, .inl (cI, 12, .inl c34)), (k50, .inl (cI, 50, .inl c50)), (k045, .inl (cI, 60, .inl c045)), (k040, .inl (cI, 60, .inl c040)), (k04, .inr (8, [.ref k040, .ref k041, .ref k042, .ref k043, .ref k044, .ref k045, .ref k046, .ref k047, .ref k048, .int c049])), (k042, .inl (cI, 60, .inl c042))] := hD
      have lo_r_15 := k_lo r_15
      have hi_r_15 := k_hi r_15
      refine lv_iconst (v := 0) hx hb dX10_wantOf_41 (by decide) ?_
      refine kJi (wr := [(k045, .inl (cI, 60, .inl c045)), (k040, .inl (cI, 60, .inl c040)), (k04, .inr (8, [.ref k040, .ref k041, .ref k042, .ref k043, .ref k044, .ref k045, .ref k046, .ref k047, .ref k048, .int c049])), (k042, .inl (cI, 60, .inl c042))]) (va_runV (As := [.int 2, .int r_12, .int r_15, .int 0]) (rest := []) ⟨hx, hb, hml, hown, hT⟩ (c_X10_valueOfG l D cI aK aV k k0 k1 k2 k3 k4 k5 k6 k7 k8 k9 ka kb k00 k01 k02 k03 k04 k05 k30 k31 k32 k33 k34 k50 H.size cc c06 c07 c08 c35 c36 c51 c52 c53 c54 c55 c56 c57 c31 c32 c33 c34 c50 2 r_12 r_15 0 pre0 pre1 pre2 (by first | omega | (simp only [zl_0, zl_2]; first | done | omega) | decide | assumption | rfl) (by first | omega | (simp only [zl_0, zl_2]; first | done | omega) | decide | assumption | rfl) (by first | omega | (simp only [zl_0, zl_2]; first | done | omega) | decide | assumption | rfl) (by first | omega | (simp only [zl_0, zl_2]; first | done | omega) | decide | assumption | rfl)) (cwV 4 hT (gV_in mw_440 mw_437 mw_439 mw_p1_4 mw_1) rfl rfl rfl (by decide +kernel) ⟨Nat.le_of_ble_eq_true rfl, Nat.le_of_ble_eq_true rfl⟩) (kRecvX (q0 := 0) (ci := 10) hK hP hD hN hXS hS hA rfl rfl [0, 1, 2, 3, 4, 5, 6, 7, 8] rfl (by decide)) rfl rfl hl.1 rfl (lv_room (Nat.le_of_ble_eq_true rfl)) dX10_wantOf_42 ⟨Nat.le_of_ble_eq_true rfl, Nat.le_of_ble_eq_true rfl⟩) hP hD hS hA [0, 1, 2, 3, 4, 5, 6, 7, 8] [9, 10, 11, 12] rfl rfl (by decide) (by decide) ?_
      clear hP hD hS
      intro r_18 u_28 H locs w_19 hP hD hS
      obtain ⟨sc51_20, sc52_21, sc53_22, sc54_23, sc55_24, sc56_25, sc57_26, sc50_27⟩ := u_28
      replace hP : va_P D vwCl [(k045, .inl (cI, 60, .inl c045)), (k040, .inl (cI, 60, .inl c040)), (k04, .inr (8, [.ref k040, .ref k041, .ref k042, .ref k043, .ref k044, .ref k045, .ref k046, .ref k047, .ref k048, .int c049])), (k042, .inl (cI, 60, .inl c042)), (k, .inr (10, [.ref k0, .ref k1, .ref k2, .ref k3, .ref k4, .ref k5, .ref k6, .ref k7, .ref k8, .ref k9, .ref ka, .ref kb, .int cc])), (k0, .inr (9, [.ref k00, .ref k01, .ref k02, .ref k03, .ref k04, .ref k05, .int c06, .int c07, .int c08])), (k3, .inr (4, [.ref k30, .ref k31, .ref k32, .ref k33, .ref k34, .int c35, .int c36])), (k5, .inr (5, [.ref k50, .int sc51_20, .int sc52_21, .int sc53_22, .int sc54_23, .int sc55_24, .int sc56_25, .int sc57_26])), (k31, .inl (cI, 600, .inl c31)), (k32, .inl (cI, 12, .inl c32)), (k33, .inl (cI, 12, .inl c33)), (k34, .inl (cI, 12, .inl c34)), (k50, .inl (cI, 50, .inl sc50_27))] H := hP
      replace hD : va_D A [(k045, .inl (cI, 60, .inl c045)), (k040, .inl (cI, 60, .inl c040)), (k04, .inr (8, [.ref k040, .ref k041, .ref k042, .ref k043, .ref k044, .ref k045, .ref k046, .ref k047, .ref k048, .int c049])), (k042, .inl (cI, 60, .inl c042)), (k, .inr (10, [.ref k0, .ref k1, .ref k2, .ref k3, .ref k4, .ref k5, .ref k6, .ref k7, .ref k8, .ref k9, .ref ka, .ref kb, .int cc])), (k0, .inr (9, [.ref k00, .ref k01, .ref k02, .ref k03, .ref k04, .ref k05, .int c06, .int c07, .int c08])), (k3, .inr (4, [.ref k30, .ref k31, .ref k32, .ref k33, .ref k34, .int c35, .int c36])), (k5, .inr (5, [.ref k50, .int sc51_20, .int sc52_21, .int sc53_22, .int sc54_23, .int sc55_24, .int sc56_25, .int sc57_26])), (k31, .inl (cI, 600, .inl c31)), (k32, .inl (cI, 12, .inl c32)), (k33, .inl (cI, 12, .inl c33)), (k34, .inl (cI, 12, .inl c34)), (k50, .inl (cI, 50, .inl sc50_27))] := hD
      obtain ⟨h_29, h_30⟩ := w_19
      try simp only [zl_0, zl_2] at h_29
      have h_29 : PRV c33 c34 (fun j => tG c31 (50 * j) (c32 j)) c32 c36.toInt.toNat c08 2 r_12 r_15 0 r_18 := h_29
      have h_29 : PRV c33 c34 (fun j => tG c31 (50 * j) (c32 j)) c32 c36.toInt.toNat c08 2 r_12 r_15 0 r_18 := h_29
      try simp only [zl_0, zl_2] at h_30
      have h_30 : BYT sc50_27 0 := h_30
      have lo_r_18 := k_lo r_18
      have hi_r_18 := k_hi r_18
      exact hRet (sc51_20, sc52_21, sc53_22, sc54_23, sc55_24, sc56_25, sc57_26, sc50_27) [4, 5, 6, 7, 2, 8, 9, 10, 11, 12, 1, 3, 0] h_30 hP hD (by decide) rfl hS rfl dX10_wantOf_45
    · refine lv_iconst (v := 0) hx hb dX10_wantOf_27 (by decide) ?_
      exact hRet (c51, c52, c53, c54, c55, c56, c57, c50) [0, 1, 2, 3, 11, 4, 5, 6, 7, 8, 12, 9, 10] pre0 hP hD (by decide) rfl hS rfl dX10_wantOf_28
theorem dX10_workIs_0 : decode cX10_workIs 0 = .ok (.aload_n 0, 1) := by decide +kernel
theorem dX10_workIs_1 : decode cX10_workIs 1 = .ok (.getfield 12, 3) := by decide +kernel
theorem dX10_workIs_4 : decode cX10_workIs 4 = .ok (.getfield 99, 3) := by decide +kernel
theorem dX10_workIs_7 : decode cX10_workIs 7 = .ok (.iload_n 1, 1) := by decide +kernel
theorem dX10_workIs_8 : decode cX10_workIs 8 = .ok (.invokevirtual 116, 3) := by decide +kernel
theorem dX10_workIs_11 : decode cX10_workIs 11 = .ok (.ifCond .ne 9, 3) := by decide +kernel
theorem dX10_workIs_14 : decode cX10_workIs 14 = .ok (.aload_n 0, 1) := by decide +kernel
theorem dX10_workIs_15 : decode cX10_workIs 15 = .ok (.iconst 1, 1) := by decide +kernel
theorem dX10_workIs_16 : decode cX10_workIs 16 = .ok (.invokevirtual 82, 3) := by decide +kernel
theorem dX10_workIs_19 : decode cX10_workIs 19 = .ok (.ireturn, 1) := by decide +kernel
theorem dX10_workIs_20 : decode cX10_workIs 20 = .ok (.aload_n 0, 1) := by decide +kernel
theorem dX10_workIs_21 : decode cX10_workIs 21 = .ok (.getfield 12, 3) := by decide +kernel
theorem dX10_workIs_24 : decode cX10_workIs 24 = .ok (.getfield 99, 3) := by decide +kernel
theorem dX10_workIs_27 : decode cX10_workIs 27 = .ok (.astore_n 3, 1) := by decide +kernel
theorem dX10_workIs_28 : decode cX10_workIs 28 = .ok (.iload_n 2, 1) := by decide +kernel
theorem dX10_workIs_29 : decode cX10_workIs 29 = .ok (.tableswitch 119 0 7 #[47, 53, 59, 65, 71, 85, 94, 113], 47) := by decide +kernel
theorem dX10_workIs_76 : decode cX10_workIs 76 = .ok (.aload_n 3, 1) := by decide +kernel
theorem dX10_workIs_77 : decode cX10_workIs 77 = .ok (.iload_n 1, 1) := by decide +kernel
theorem dX10_workIs_78 : decode cX10_workIs 78 = .ok (.invokevirtual 119, 3) := by decide +kernel
theorem dX10_workIs_81 : decode cX10_workIs 81 = .ok (.ireturn, 1) := by decide +kernel
theorem dX10_workIs_82 : decode cX10_workIs 82 = .ok (.aload_n 3, 1) := by decide +kernel
theorem dX10_workIs_83 : decode cX10_workIs 83 = .ok (.iload_n 1, 1) := by decide +kernel
theorem dX10_workIs_84 : decode cX10_workIs 84 = .ok (.invokevirtual 129, 3) := by decide +kernel
theorem dX10_workIs_87 : decode cX10_workIs 87 = .ok (.ireturn, 1) := by decide +kernel
theorem dX10_workIs_88 : decode cX10_workIs 88 = .ok (.aload_n 3, 1) := by decide +kernel
theorem dX10_workIs_89 : decode cX10_workIs 89 = .ok (.iload_n 1, 1) := by decide +kernel
theorem dX10_workIs_90 : decode cX10_workIs 90 = .ok (.invokevirtual 126, 3) := by decide +kernel
theorem dX10_workIs_93 : decode cX10_workIs 93 = .ok (.ireturn, 1) := by decide +kernel
theorem dX10_workIs_94 : decode cX10_workIs 94 = .ok (.aload_n 3, 1) := by decide +kernel
theorem dX10_workIs_95 : decode cX10_workIs 95 = .ok (.iload_n 1, 1) := by decide +kernel
theorem dX10_workIs_96 : decode cX10_workIs 96 = .ok (.invokevirtual 132, 3) := by decide +kernel
theorem dX10_workIs_99 : decode cX10_workIs 99 = .ok (.ireturn, 1) := by decide +kernel
theorem dX10_workIs_100 : decode cX10_workIs 100 = .ok (.aload_n 3, 1) := by decide +kernel
theorem dX10_workIs_101 : decode cX10_workIs 101 = .ok (.iload_n 1, 1) := by decide +kernel
theorem dX10_workIs_102 : decode cX10_workIs 102 = .ok (.invokevirtual 135, 3) := by decide +kernel
theorem dX10_workIs_105 : decode cX10_workIs 105 = .ok (.ifCond .eq 7, 3) := by decide +kernel
theorem dX10_workIs_108 : decode cX10_workIs 108 = .ok (.iconst 1, 1) := by decide +kernel
theorem dX10_workIs_109 : decode cX10_workIs 109 = .ok (.goto 4, 3) := by decide +kernel
theorem dX10_workIs_112 : decode cX10_workIs 112 = .ok (.iconst 0, 1) := by decide +kernel
theorem dX10_workIs_113 : decode cX10_workIs 113 = .ok (.ireturn, 1) := by decide +kernel
theorem dX10_workIs_114 : decode cX10_workIs 114 = .ok (.aload_n 0, 1) := by decide +kernel
theorem dX10_workIs_115 : decode cX10_workIs 115 = .ok (.getfield 12, 3) := by decide +kernel
theorem dX10_workIs_118 : decode cX10_workIs 118 = .ok (.iload_n 1, 1) := by decide +kernel
theorem dX10_workIs_119 : decode cX10_workIs 119 = .ok (.invokevirtual 138, 3) := by decide +kernel
theorem dX10_workIs_122 : decode cX10_workIs 122 = .ok (.ireturn, 1) := by decide +kernel
theorem dX10_workIs_123 : decode cX10_workIs 123 = .ok (.aload_n 3, 1) := by decide +kernel
theorem dX10_workIs_124 : decode cX10_workIs 124 = .ok (.iload_n 1, 1) := by decide +kernel
theorem dX10_workIs_125 : decode cX10_workIs 125 = .ok (.invokevirtual 119, 3) := by decide +kernel
theorem dX10_workIs_128 : decode cX10_workIs 128 = .ok (.iconst 5, 1) := by decide +kernel
theorem dX10_workIs_129 : decode cX10_workIs 129 = .ok (.if_icmp .ne 11, 3) := by decide +kernel
theorem dX10_workIs_132 : decode cX10_workIs 132 = .ok (.aload_n 3, 1) := by decide +kernel
theorem dX10_workIs_133 : decode cX10_workIs 133 = .ok (.iload_n 1, 1) := by decide +kernel
theorem dX10_workIs_134 : decode cX10_workIs 134 = .ok (.invokevirtual 141, 3) := by decide +kernel
theorem dX10_workIs_137 : decode cX10_workIs 137 = .ok (.goto 4, 3) := by decide +kernel
theorem dX10_workIs_140 : decode cX10_workIs 140 = .ok (.iconst (-1), 1) := by decide +kernel
theorem dX10_workIs_141 : decode cX10_workIs 141 = .ok (.ireturn, 1) := by decide +kernel
theorem dX10_workIs_142 : decode cX10_workIs 142 = .ok (.aload_n 0, 1) := by decide +kernel
theorem dX10_workIs_143 : decode cX10_workIs 143 = .ok (.iload_n 1, 1) := by decide +kernel
theorem dX10_workIs_144 : decode cX10_workIs 144 = .ok (.invokevirtual 144, 3) := by decide +kernel
theorem dX10_workIs_147 : decode cX10_workIs 147 = .ok (.ireturn, 1) := by decide +kernel
theorem dX10_workIs_148 : decode cX10_workIs 148 = .ok (.aload_n 0, 1) := by decide +kernel
theorem dX10_workIs_149 : decode cX10_workIs 149 = .ok (.iconst 1, 1) := by decide +kernel
theorem dX10_workIs_150 : decode cX10_workIs 150 = .ok (.invokevirtual 82, 3) := by decide +kernel
theorem dX10_workIs_153 : decode cX10_workIs 153 = .ok (.ireturn, 1) := by decide +kernel
set_option maxHeartbeats 4000000 in
set_option maxRecDepth 100000 in
theorem c_X10_workIsG (l : Launch) (D : va_G) (cI : ClassId) (aK aV : Nat → Nat) (k k0 k1 k2 k3 k4 k5 k6 k7 k8 k9 ka kb k00 k01 k02 k03 k04 k05 k30 k31 k32 k33 k34 k50 k040 k041 k042 k043 k044 k045 k046 k047 k048 : Nat) (sz : Nat) (cc : Int32) (c06 : Int32) (c07 : Int32) (c08 : Int32) (c35 : Int32) (c36 : Int32) (c51 : Int32) (c52 : Int32) (c53 : Int32) (c54 : Int32) (c55 : Int32) (c56 : Int32) (c57 : Int32) (cb : Nat → Int32) (c01 : Nat → Int32) (c049 : Int32) (c31 : Nat → Int32) (c32 : Nat → Int32) (c33 : Nat → Int32) (c34 : Nat → Int32) (c50 : Nat → Int32) (c040 : Nat → Int32) (c041 : Nat → Int32) (c042 : Nat → Int32) (c043 : Nat → Int32) (c044 : Nat → Int32) (c045 : Nat → Int32) (a0 : Int32) (a1 : Int32) (pre0 : BYT c50 0) (pre1 : BYN 600 c31) (pre2 : ∀ k : Nat, k < 12 → 0 ≤ (c32 k).toInt ∧ (c32 k).toInt ≤ 50) (pre3 : 0 ≤ c36.toInt) (pre4 : c36.toInt ≤ 12) : Met l yX10_workIs (gW yX10_workIs cX10_workIs 4 (some .int)) ({ frames := 96, cells := 0, slots := 0, locals := 5984 } : Room) (kPreX D cI aK aV [.ref k, .int a0, .int a1] [(k, .inr (10, [.ref k0, .ref k1, .ref k2, .ref k3, .ref k4, .ref k5, .ref k6, .ref k7, .ref k8, .ref k9, .ref ka, .ref kb, .int cc])), (k0, .inr (9, [.ref k00, .ref k01, .ref k02, .ref k03, .ref k04, .ref k05, .int c06, .int c07, .int c08])), (k3, .inr (4, [.ref k30, .ref k31, .ref k32, .ref k33, .ref k34, .int c35, .int c36])), (k5, .inr (5, [.ref k50, .int c51, .int c52, .int c53, .int c54, .int c55, .int c56, .int c57])), (kb, .inl (cI, 6, .inl cb)), (k01, .inl (cI, 40, .inl c01)), (k04, .inr (8, [.ref k040, .ref k041, .ref k042, .ref k043, .ref k044, .ref k045, .ref k046, .ref k047, .ref k048, .int c049])), (k31, .inl (cI, 600, .inl c31)), (k32, .inl (cI, 12, .inl c32)), (k33, .inl (cI, 12, .inl c33)), (k34, .inl (cI, 12, .inl c34)), (k50, .inl (cI, 50, .inl c50)), (k040, .inl (cI, 60, .inl c040)), (k041, .inl (cI, 60, .inl c041)), (k042, .inl (cI, 60, .inl c042)), (k043, .inl (cI, 60, .inl c043)), (k044, .inl (cI, 60, .inl c044)), (k045, .inl (cI, 60, .inl c045))] sz) (va_Qi (fun (r : Int32) (u : Int32 × Int32 × Int32 × Int32 × Int32 × Int32 × Int32 × (Nat → Int32) × (Nat → Int32)) => BYT u.2.2.2.2.2.2.2.2 0) (fun u t => kWd D cI (va_A [(k, .inr (10, [.ref k0, .ref k1, .ref k2, .ref k3, .ref k4, .ref k5, .ref k6, .ref k7, .ref k8, .ref k9, .ref ka, .ref kb, .int cc])), (k0, .inr (9, [.ref k00, .ref k01, .ref k02, .ref k03, .ref k04, .ref k05, .int c06, .int c07, .int c08])), (k3, .inr (4, [.ref k30, .ref k31, .ref k32, .ref k33, .ref k34, .int c35, .int c36])), (k5, .inr (5, [.ref k50, .int c51, .int c52, .int c53, .int c54, .int c55, .int c56, .int c57])), (kb, .inl (cI, 6, .inl cb)), (k01, .inl (cI, 40, .inl c01)), (k04, .inr (8, [.ref k040, .ref k041, .ref k042, .ref k043, .ref k044, .ref k045, .ref k046, .ref k047, .ref k048, .int c049])), (k31, .inl (cI, 600, .inl c31)), (k32, .inl (cI, 12, .inl c32)), (k33, .inl (cI, 12, .inl c33)), (k34, .inl (cI, 12, .inl c34)), (k50, .inl (cI, 50, .inl c50)), (k040, .inl (cI, 60, .inl c040)), (k041, .inl (cI, 60, .inl c041)), (k042, .inl (cI, 60, .inl c042)), (k043, .inl (cI, 60, .inl c043)), (k044, .inl (cI, 60, .inl c044)), (k045, .inl (cI, 60, .inl c045))] sz) [(k, .inr (10, [.ref k0, .ref k1, .ref k2, .ref k3, .ref k4, .ref k5, .ref k6, .ref k7, .ref k8, .ref k9, .ref ka, .ref kb, .int cc])), (k0, .inr (9, [.ref k00, .ref k01, .ref k02, .ref k03, .ref k04, .ref k05, .int c06, .int c07, .int c08])), (k3, .inr (4, [.ref k30, .ref k31, .ref k32, .ref k33, .ref k34, .int c35, .int c36])), (k5, .inr (5, [.ref k50, .int u.1, .int u.2.1, .int u.2.2.1, .int u.2.2.2.1, .int u.2.2.2.2.1, .int u.2.2.2.2.2.1, .int u.2.2.2.2.2.2.1])), (kb, .inl (cI, 6, .inl u.2.2.2.2.2.2.2.1)), (k01, .inl (cI, 40, .inl c01)), (k04, .inr (8, [.ref k040, .ref k041, .ref k042, .ref k043, .ref k044, .ref k045, .ref k046, .ref k047, .ref k048, .int c049])), (k31, .inl (cI, 600, .inl c31)), (k32, .inl (cI, 12, .inl c32)), (k33, .inl (cI, 12, .inl c33)), (k34, .inl (cI, 12, .inl c34)), (k50, .inl (cI, 50, .inl u.2.2.2.2.2.2.2.2)), (k040, .inl (cI, 60, .inl c040)), (k041, .inl (cI, 60, .inl c041)), (k042, .inl (cI, 60, .inl c042)), (k043, .inl (cI, 60, .inl c043)), (k044, .inl (cI, 60, .inl c044)), (k045, .inl (cI, 60, .inl c045))] t) (va_A [(k, .inr (10, [.ref k0, .ref k1, .ref k2, .ref k3, .ref k4, .ref k5, .ref k6, .ref k7, .ref k8, .ref k9, .ref ka, .ref kb, .int cc])), (k0, .inr (9, [.ref k00, .ref k01, .ref k02, .ref k03, .ref k04, .ref k05, .int c06, .int c07, .int c08])), (k3, .inr (4, [.ref k30, .ref k31, .ref k32, .ref k33, .ref k34, .int c35, .int c36])), (k5, .inr (5, [.ref k50, .int c51, .int c52, .int c53, .int c54, .int c55, .int c56, .int c57])), (kb, .inl (cI, 6, .inl cb)), (k01, .inl (cI, 40, .inl c01)), (k04, .inr (8, [.ref k040, .ref k041, .ref k042, .ref k043, .ref k044, .ref k045, .ref k046, .ref k047, .ref k048, .int c049])), (k31, .inl (cI, 600, .inl c31)), (k32, .inl (cI, 12, .inl c32)), (k33, .inl (cI, 12, .inl c33)), (k34, .inl (cI, 12, .inl c34)), (k50, .inl (cI, 50, .inl c50)), (k040, .inl (cI, 60, .inl c040)), (k041, .inl (cI, 60, .inl c041)), (k042, .inl (cI, 60, .inl c042)), (k043, .inl (cI, 60, .inl c043)), (k044, .inl (cI, 60, .inl c044)), (k045, .inl (cI, 60, .inl c045))] sz)) 0 0 (va_A [(k, .inr (10, [.ref k0, .ref k1, .ref k2, .ref k3, .ref k4, .ref k5, .ref k6, .ref k7, .ref k8, .ref k9, .ref ka, .ref kb, .int cc])), (k0, .inr (9, [.ref k00, .ref k01, .ref k02, .ref k03, .ref k04, .ref k05, .int c06, .int c07, .int c08])), (k3, .inr (4, [.ref k30, .ref k31, .ref k32, .ref k33, .ref k34, .int c35, .int c36])), (k5, .inr (5, [.ref k50, .int c51, .int c52, .int c53, .int c54, .int c55, .int c56, .int c57])), (kb, .inl (cI, 6, .inl cb)), (k01, .inl (cI, 40, .inl c01)), (k04, .inr (8, [.ref k040, .ref k041, .ref k042, .ref k043, .ref k044, .ref k045, .ref k046, .ref k047, .ref k048, .int c049])), (k31, .inl (cI, 600, .inl c31)), (k32, .inl (cI, 12, .inl c32)), (k33, .inl (cI, 12, .inl c33)), (k34, .inl (cI, 12, .inl c34)), (k50, .inl (cI, 50, .inl c50)), (k040, .inl (cI, 60, .inl c040)), (k041, .inl (cI, 60, .inl c041)), (k042, .inl (cI, 60, .inl c042)), (k043, .inl (cI, 60, .inl c043)), (k044, .inl (cI, 60, .inl c044)), (k045, .inl (cI, 60, .inl c045))] sz) := by
  refine kMetIX (own := RX10) (by decide) rfl (Nat.le_of_ble_eq_true rfl) ?_
  intro p e s m args below meth c hx hb hT hown hname hml A Q hK hP hD hS hA hN hXS hRet ls hl
  have hl : lv_has ls 4 [(0, .ref k), (1, .int a0), (2, .int a1)] := hl
  have lo_a0 := k_lo a0
  have hi_a0 := k_hi a0
  have lo_a1 := k_lo a1
  have hi_a1 := k_hi a1
  have lo_c049 := k_lo c049
  have hi_c049 := k_hi c049
  have pre0 : BYT c50 0 := pre0
  have pre1 : BYN 600 c31 := pre1
  refine lv_aload_n hx hb dX10_workIs_0 rfl (lv_at hl 0 rfl) ?_
  refine va_get (D := D) (ci := 10) (v := .ref k0) (C := RX10) (T := TX10) (N := 13) hx hb hT giX10 hown hK hP 0 rfl rfl 0 (by decide) (hT (Cond.fieldLink RX10 12 "DesertWire" "now" "LDesertWire$World;") mw_291) (fun _ h9 => h9) rfl dX10_workIs_1 ?_
  refine va_get (D := D) (ci := 9) (v := .ref k04) (C := RX9) (T := TX9) (N := 9) hx hb hT giX9 hown hK hP 1 rfl rfl 4 (by decide) (hT (Cond.fieldLink RX10 99 "DesertWire$World" "works" "LDesertWire$Works;") mw_99) (fun _ h9 => h9) rfl dX10_workIs_4 ?_
  refine lv_iload_n hx hb dX10_workIs_7 rfl (lv_at hl 1 rfl) ?_
  refine kJi (wr := [(k, .inr (10, [.ref k0, .ref k1, .ref k2, .ref k3, .ref k4, .ref k5, .ref k6, .ref k7, .ref k8, .ref k9, .ref ka, .ref kb, .int cc])), (k0, .inr (9, [.ref k00, .ref k01, .ref k02, .ref k03, .ref k04, .ref k05, .int c06, .int c07, .int c08])), (k3, .inr (4, [.ref k30, .ref k31, .ref k32, .ref k33, .ref k34, .int c35, .int c36])), (k5, .inr (5, [.ref k50, .int c51, .int c52, .int c53, .int c54, .int c55, .int c56, .int c57])), (kb, .inl (cI, 6, .inl cb)), (k01, .inl (cI, 40, .inl c01)), (k31, .inl (cI, 600, .inl c31)), (k32, .inl (cI, 12, .inl c32)), (k33, .inl (cI, 12, .inl c33)), (k34, .inl (cI, 12, .inl c34)), (k50, .inl (cI, 50, .inl c50)), (k040, .inl (cI, 60, .inl c040)), (k041, .inl (cI, 60, .inl c041)), (k042, .inl (cI, 60, .inl c042)), (k043, .inl (cI, 60, .inl c043)), (k044, .inl (cI, 60, .inl c044)), (k045, .inl (cI, 60, .inl c045))]) (va_runV (As := [.int a0]) (rest := []) ⟨hx, hb, hml, hown, hT⟩ (c_X8_hasG l D cI aK aV k04 k040 k041 k042 k043 k044 k045 k046 k047 k048 s.heap.size c049 a0) (cwV 1 hT (gV_in mw_371 mw_380 mw_369 mw_370 mw_3) rfl rfl rfl (by decide +kernel) ⟨Nat.le_of_ble_eq_true rfl, Nat.le_of_ble_eq_true rfl⟩) (kRecvX (q0 := 6) (ci := 8) hK hP hD hN hXS hS hA rfl rfl [6] rfl (by decide)) rfl rfl hl.1 rfl (lv_room (Nat.le_of_ble_eq_true rfl)) dX10_workIs_8 ⟨Nat.le_of_ble_eq_true rfl, Nat.le_of_ble_eq_true rfl⟩) hP hD hS hA [6] [0, 1, 2, 3, 4, 5, 7, 8, 9, 10, 11, 12, 13, 14, 15, 16, 17] rfl rfl (by decide) (by decide) ?_
  clear hP hD hS
  intro r_1 u_3 H locs w_2 hP hD hS
  replace hP : va_P D vwCl [(k, .inr (10, [.ref k0, .ref k1, .ref k2, .ref k3, .ref k4, .ref k5, .ref k6, .ref k7, .ref k8, .ref k9, .ref ka, .ref kb, .int cc])), (k0, .inr (9, [.ref k00, .ref k01, .ref k02, .ref k03, .ref k04, .ref k05, .int c06, .int c07, .int c08])), (k3, .inr (4, [.ref k30, .ref k31, .ref k32, .ref k33, .ref k34, .int c35, .int c36])), (k5, .inr (5, [.ref k50, .int c51, .int c52, .int c53, .int c54, .int c55, .int c56, .int c57])), (kb, .inl (cI, 6, .inl cb)), (k01, .inl (cI, 40, .inl c01)), (k31, .inl (cI, 600, .inl c31)), (k32, .inl (cI, 12, .inl c32)), (k33, .inl (cI, 12, .inl c33)), (k34, .inl (cI, 12, .inl c34)), (k50, .inl (cI, 50, .inl c50)), (k040, .inl (cI, 60, .inl c040)), (k041, .inl (cI, 60, .inl c041)), (k042, .inl (cI, 60, .inl c042)), (k043, .inl (cI, 60, .inl c043)), (k044, .inl (cI, 60, .inl c044)), (k045, .inl (cI, 60, .inl c045)), (k04, .inr (8, [.ref k040, .ref k041, .ref k042, .ref k043, .ref k044, .ref k045, .ref k046, .ref k047, .ref k048, .int c049]))] H := hP
  replace hD : va_D A [(k, .inr (10, [.ref k0, .ref k1, .ref k2, .ref k3, .ref k4, .ref k5, .ref k6, .ref k7, .ref k8, .ref k9, .ref ka, .ref kb, .int cc])), (k0, .inr (9, [.ref k00, .ref k01, .ref k02, .ref k03, .ref k04, .ref k05, .int c06, .int c07, .int c08])), (k3, .inr (4, [.ref k30, .ref k31, .ref k32, .ref k33, .ref k34, .int c35, .int c36])), (k5, .inr (5, [.ref k50, .int c51, .int c52, .int c53, .int c54, .int c55, .int c56, .int c57])), (kb, .inl (cI, 6, .inl cb)), (k01, .inl (cI, 40, .inl c01)), (k31, .inl (cI, 600, .inl c31)), (k32, .inl (cI, 12, .inl c32)), (k33, .inl (cI, 12, .inl c33)), (k34, .inl (cI, 12, .inl c34)), (k50, .inl (cI, 50, .inl c50)), (k040, .inl (cI, 60, .inl c040)), (k041, .inl (cI, 60, .inl c041)), (k042, .inl (cI, 60, .inl c042)), (k043, .inl (cI, 60, .inl c043)), (k044, .inl (cI, 60, .inl c044)), (k045, .inl (cI, 60, .inl c045)), (k04, .inr (8, [.ref k040, .ref k041, .ref k042, .ref k043, .ref k044, .ref k045, .ref k046, .ref k047, .ref k048, .int c049]))] := hD
  rcases w_2 with ⟨hr_1, h_4, h_5, h_6⟩ | ⟨hr_1, h_7⟩
  · have h_4 : 0 ≤ a0.toInt := h_4
    have h_5 : a0.toInt < c049.toInt := h_5
    have h_6 : a0.toInt < 60 := h_6
    obtain rfl : r_1 = 1 := hr_1.trans (by decide)
    refine b_if_ne hx hb zl_1 (tgt := 20) dX10_workIs_11 (by decide) (fun c_8 => ?_) (fun c_8 => by exfalso; omega)
    refine lv_aload_n hx hb dX10_workIs_20 rfl (lv_at hl 0 rfl) ?_
    refine va_get (D := D) (ci := 10) (v := .ref k0) (C := RX10) (T := TX10) (N := 13) hx hb hT giX10 hown hK hP 0 rfl rfl 0 (by decide) (hT (Cond.fieldLink RX10 12 "DesertWire" "now" "LDesertWire$World;") mw_291) (fun _ h9 => h9) rfl dX10_workIs_21 ?_
    refine va_get (D := D) (ci := 9) (v := .ref k04) (C := RX9) (T := TX9) (N := 9) hx hb hT giX9 hown hK hP 1 rfl rfl 4 (by decide) (hT (Cond.fieldLink RX10 99 "DesertWire$World" "works" "LDesertWire$Works;") mw_99) (fun _ h9 => h9) rfl dX10_workIs_24 ?_
    refine lv_astore_n (lv' := [(3, .ref k04), (0, .ref k), (1, .int a0), (2, .int a1)]) hx hb dX10_workIs_27 rfl hl (by decide) rfl ?_
    clear hl
    intro ls hl
    refine lv_iload_n hx hb dX10_workIs_28 rfl (lv_at hl 3 rfl) ?_
    by_cases c_9 : a1.toInt = 0
    · refine lv_tableIn (off := 47) (tgt := 76) hx hb dX10_workIs_29 (by omega) (by omega) (by rw [c_9]; decide) (by decide) ?_
      refine lv_aload_n hx hb dX10_workIs_76 rfl (lv_at hl 0 rfl) ?_
      refine lv_iload_n hx hb dX10_workIs_77 rfl (lv_at hl 2 rfl) ?_
      refine kJi (wr := [(k, .inr (10, [.ref k0, .ref k1, .ref k2, .ref k3, .ref k4, .ref k5, .ref k6, .ref k7, .ref k8, .ref k9, .ref ka, .ref kb, .int cc])), (k0, .inr (9, [.ref k00, .ref k01, .ref k02, .ref k03, .ref k04, .ref k05, .int c06, .int c07, .int c08])), (k3, .inr (4, [.ref k30, .ref k31, .ref k32, .ref k33, .ref k34, .int c35, .int c36])), (k5, .inr (5, [.ref k50, .int c51, .int c52, .int c53, .int c54, .int c55, .int c56, .int c57])), (kb, .inl (cI, 6, .inl cb)), (k01, .inl (cI, 40, .inl c01)), (k31, .inl (cI, 600, .inl c31)), (k32, .inl (cI, 12, .inl c32)), (k33, .inl (cI, 12, .inl c33)), (k34, .inl (cI, 12, .inl c34)), (k50, .inl (cI, 50, .inl c50)), (k041, .inl (cI, 60, .inl c041)), (k042, .inl (cI, 60, .inl c042)), (k043, .inl (cI, 60, .inl c043)), (k044, .inl (cI, 60, .inl c044)), (k045, .inl (cI, 60, .inl c045))]) (va_runV (As := [.int a0]) (rest := []) ⟨hx, hb, hml, hown, hT⟩ (c_X8_kindOfG l D cI aK aV k04 k040 k041 k042 k043 k044 k045 k046 k047 k048 H.size c049 c040 a0) (cwV 1 hT (gV_in mw_384 mw_381 mw_382 mw_383 mw_3) rfl rfl rfl (by decide +kernel) ⟨Nat.le_of_ble_eq_true rfl, Nat.le_of_ble_eq_true rfl⟩) (kRecvX (q0 := 17) (ci := 8) hK hP hD hN hXS hS hA rfl rfl [17, 11] rfl (by decide)) rfl rfl hl.1 rfl (lv_room (Nat.le_of_ble_eq_true rfl)) dX10_workIs_78 ⟨Nat.le_of_ble_eq_true rfl, Nat.le_of_ble_eq_true rfl⟩) hP hD hS hA [17, 11] [0, 1, 2, 3, 4, 5, 6, 7, 8, 9, 10, 12, 13, 14, 15, 16] rfl rfl (by decide) (by decide) ?_
      clear hP hD hS
      intro r_10 u_12 H locs w_11 hP hD hS
      replace hP : va_P D vwCl [(k, .inr (10, [.ref k0, .ref k1, .ref k2, .ref k3, .ref k4, .ref k5, .ref k6, .ref k7, .ref k8, .ref k9, .ref ka, .ref kb, .int cc])), (k0, .inr (9, [.ref k00, .ref k01, .ref k02, .ref k03, .ref k04, .ref k05, .int c06, .int c07, .int c08])), (k3, .inr (4, [.ref k30, .ref k31, .ref k32, .ref k33, .ref k34, .int c35, .int c36])), (k5, .inr (5, [.ref k50, .int c51, .int c52, .int c53, .int c54, .int c55, .int c56, .int c57])), (kb, .inl (cI, 6, .inl cb)), (k01, .inl (cI, 40, .inl c01)), (k31, .inl (cI, 600, .inl c31)), (k32, .inl (cI, 12, .inl c32)), (k33, .inl (cI, 12, .inl c33)), (k34, .inl (cI, 12, .inl c34)), (k50, .inl (cI, 50, .inl c50)), (k041, .inl (cI, 60, .inl c041)), (k042, .inl (cI, 60, .inl c042)), (k043, .inl (cI, 60, .inl c043)), (k044, .inl (cI, 60, .inl c044)), (k045, .inl (cI, 60, .inl c045)), (k04, .inr (8, [.ref k040, .ref k041, .ref k042, .ref k043, .ref k044, .ref k045, .ref k046, .ref k047, .ref k048, .int c049])), (k040, .inl (cI, 60, .inl c040))] H := hP
      replace hD : va_D A [(k, .inr (10, [.ref k0, .ref k1, .ref k2, .ref k3, .ref k4, .ref k5, .ref k6, .ref k7, .ref k8, .ref k9, .ref ka, .ref kb, .int cc])), (k0, .inr (9, [.ref k00, .ref k01, .ref k02, .ref k03, .ref k04, .ref k05, .int c06, .int c07, .int c08])), (k3, .inr (4, [.ref k30, .ref k31, .ref k32, .ref k33, .ref k34, .int c35, .int c36])), (k5, .inr (5, [.ref k50, .int c51, .int c52, .int c53, .int c54, .int c55, .int c56, .int c57])), (kb, .inl (cI, 6, .inl cb)), (k01, .inl (cI, 40, .inl c01)), (k31, .inl (cI, 600, .inl c31)), (k32, .inl (cI, 12, .inl c32)), (k33, .inl (cI, 12, .inl c33)), (k34, .inl (cI, 12, .inl c34)), (k50, .inl (cI, 50, .inl c50)), (k041, .inl (cI, 60, .inl c041)), (k042, .inl (cI, 60, .inl c042)), (k043, .inl (cI, 60, .inl c043)), (k044, .inl (cI, 60, .inl c044)), (k045, .inl (cI, 60, .inl c045)), (k04, .inr (8, [.ref k040, .ref k041, .ref k042, .ref k043, .ref k044, .ref k045, .ref k046, .ref k047, .ref k048, .int c049])), (k040, .inl (cI, 60, .inl c040))] := hD
      have lo_r_10 := k_lo r_10
      have hi_r_10 := k_hi r_10
      exact hRet (c51, c52, c53, c54, c55, c56, c57, cb, c50) [0, 1, 2, 3, 4, 5, 16, 6, 7, 8, 9, 10, 17, 11, 12, 13, 14, 15] pre0 hP hD (by decide) rfl hS rfl dX10_workIs_81
    by_cases c_13 : a1.toInt = 1
    · refine lv_tableIn (off := 53) (tgt := 82) hx hb dX10_workIs_29 (by omega) (by omega) (by rw [c_13]; decide) (by decide) ?_
      refine lv_aload_n hx hb dX10_workIs_82 rfl (lv_at hl 0 rfl) ?_
      refine lv_iload_n hx hb dX10_workIs_83 rfl (lv_at hl 2 rfl) ?_
      refine kJi (wr := [(k, .inr (10, [.ref k0, .ref k1, .ref k2, .ref k3, .ref k4, .ref k5, .ref k6, .ref k7, .ref k8, .ref k9, .ref ka, .ref kb, .int cc])), (k0, .inr (9, [.ref k00, .ref k01, .ref k02, .ref k03, .ref k04, .ref k05, .int c06, .int c07, .int c08])), (k3, .inr (4, [.ref k30, .ref k31, .ref k32, .ref k33, .ref k34, .int c35, .int c36])), (k5, .inr (5, [.ref k50, .int c51, .int c52, .int c53, .int c54, .int c55, .int c56, .int c57])), (kb, .inl (cI, 6, .inl cb)), (k01, .inl (cI, 40, .inl c01)), (k31, .inl (cI, 600, .inl c31)), (k32, .inl (cI, 12, .inl c32)), (k33, .inl (cI, 12, .inl c33)), (k34, .inl (cI, 12, .inl c34)), (k50, .inl (cI, 50, .inl c50)), (k040, .inl (cI, 60, .inl c040)), (k042, .inl (cI, 60, .inl c042)), (k043, .inl (cI, 60, .inl c043)), (k044, .inl (cI, 60, .inl c044)), (k045, .inl (cI, 60, .inl c045))]) (va_runV (As := [.int a0]) (rest := []) ⟨hx, hb, hml, hown, hT⟩ (c_X8_mileOfG l D cI aK aV k04 k040 k041 k042 k043 k044 k045 k046 k047 k048 H.size c049 c041 a0) (cwV 1 hT (gV_in mw_367 mw_399 mw_365 mw_366 mw_3) rfl rfl rfl (by decide +kernel) ⟨Nat.le_of_ble_eq_true rfl, Nat.le_of_ble_eq_true rfl⟩) (kRecvX (q0 := 17) (ci := 8) hK hP hD hN hXS hS hA rfl rfl [17, 12] rfl (by decide)) rfl rfl hl.1 rfl (lv_room (Nat.le_of_ble_eq_true rfl)) dX10_workIs_84 ⟨Nat.le_of_ble_eq_true rfl, Nat.le_of_ble_eq_true rfl⟩) hP hD hS hA [17, 12] [0, 1, 2, 3, 4, 5, 6, 7, 8, 9, 10, 11, 13, 14, 15, 16] rfl rfl (by decide) (by decide) ?_
      clear hP hD hS
      intro r_14 u_16 H locs w_15 hP hD hS
      replace hP : va_P D vwCl [(k, .inr (10, [.ref k0, .ref k1, .ref k2, .ref k3, .ref k4, .ref k5, .ref k6, .ref k7, .ref k8, .ref k9, .ref ka, .ref kb, .int cc])), (k0, .inr (9, [.ref k00, .ref k01, .ref k02, .ref k03, .ref k04, .ref k05, .int c06, .int c07, .int c08])), (k3, .inr (4, [.ref k30, .ref k31, .ref k32, .ref k33, .ref k34, .int c35, .int c36])), (k5, .inr (5, [.ref k50, .int c51, .int c52, .int c53, .int c54, .int c55, .int c56, .int c57])), (kb, .inl (cI, 6, .inl cb)), (k01, .inl (cI, 40, .inl c01)), (k31, .inl (cI, 600, .inl c31)), (k32, .inl (cI, 12, .inl c32)), (k33, .inl (cI, 12, .inl c33)), (k34, .inl (cI, 12, .inl c34)), (k50, .inl (cI, 50, .inl c50)), (k040, .inl (cI, 60, .inl c040)), (k042, .inl (cI, 60, .inl c042)), (k043, .inl (cI, 60, .inl c043)), (k044, .inl (cI, 60, .inl c044)), (k045, .inl (cI, 60, .inl c045)), (k04, .inr (8, [.ref k040, .ref k041, .ref k042, .ref k043, .ref k044, .ref k045, .ref k046, .ref k047, .ref k048, .int c049])), (k041, .inl (cI, 60, .inl c041))] H := hP
      replace hD : va_D A [(k, .inr (10, [.ref k0, .ref k1, .ref k2, .ref k3, .ref k4, .ref k5, .ref k6, .ref k7, .ref k8, .ref k9, .ref ka, .ref kb, .int cc])), (k0, .inr (9, [.ref k00, .ref k01, .ref k02, .ref k03, .ref k04, .ref k05, .int c06, .int c07, .int c08])), (k3, .inr (4, [.ref k30, .ref k31, .ref k32, .ref k33, .ref k34, .int c35, .int c36])), (k5, .inr (5, [.ref k50, .int c51, .int c52, .int c53, .int c54, .int c55, .int c56, .int c57])), (kb, .inl (cI, 6, .inl cb)), (k01, .inl (cI, 40, .inl c01)), (k31, .inl (cI, 600, .inl c31)), (k32, .inl (cI, 12, .inl c32)), (k33, .inl (cI, 12, .inl c33)), (k34, .inl (cI, 12, .inl c34)), (k50, .inl (cI, 50, .inl c50)), (k040, .inl (cI, 60, .inl c040)), (k042, .inl (cI, 60, .inl c042)), (k043, .inl (cI, 60, .inl c043)), (k044, .inl (cI, 60, .inl c044)), (k045, .inl (cI, 60, .inl c045)), (k04, .inr (8, [.ref k040, .ref k041, .ref k042, .ref k043, .ref k044, .ref k045, .ref k046, .ref k047, .ref k048, .int c049])), (k041, .inl (cI, 60, .inl c041))] := hD
      have lo_r_14 := k_lo r_14
      have hi_r_14 := k_hi r_14
      exact hRet (c51, c52, c53, c54, c55, c56, c57, cb, c50) [0, 1, 2, 3, 4, 5, 16, 6, 7, 8, 9, 10, 11, 17, 12, 13, 14, 15] pre0 hP hD (by decide) rfl hS rfl dX10_workIs_87
    by_cases c_17 : a1.toInt = 2
    · refine lv_tableIn (off := 59) (tgt := 88) hx hb dX10_workIs_29 (by omega) (by omega) (by rw [c_17]; decide) (by decide) ?_
      refine lv_aload_n hx hb dX10_workIs_88 rfl (lv_at hl 0 rfl) ?_
      refine lv_iload_n hx hb dX10_workIs_89 rfl (lv_at hl 2 rfl) ?_
      refine kJi (wr := [(k, .inr (10, [.ref k0, .ref k1, .ref k2, .ref k3, .ref k4, .ref k5, .ref k6, .ref k7, .ref k8, .ref k9, .ref ka, .ref kb, .int cc])), (k0, .inr (9, [.ref k00, .ref k01, .ref k02, .ref k03, .ref k04, .ref k05, .int c06, .int c07, .int c08])), (k3, .inr (4, [.ref k30, .ref k31, .ref k32, .ref k33, .ref k34, .int c35, .int c36])), (k5, .inr (5, [.ref k50, .int c51, .int c52, .int c53, .int c54, .int c55, .int c56, .int c57])), (kb, .inl (cI, 6, .inl cb)), (k01, .inl (cI, 40, .inl c01)), (k31, .inl (cI, 600, .inl c31)), (k32, .inl (cI, 12, .inl c32)), (k33, .inl (cI, 12, .inl c33)), (k34, .inl (cI, 12, .inl c34)), (k50, .inl (cI, 50, .inl c50)), (k040, .inl (cI, 60, .inl c040)), (k041, .inl (cI, 60, .inl c041)), (k043, .inl (cI, 60, .inl c043)), (k044, .inl (cI, 60, .inl c044)), (k045, .inl (cI, 60, .inl c045))]) (va_runV (As := [.int a0]) (rest := []) ⟨hx, hb, hml, hown, hT⟩ (c_X8_sizeOfG l D cI aK aV k04 k040 k041 k042 k043 k044 k045 k046 k047 k048 H.size c049 c042 a0) (cwV 1 hT (gV_in mw_394 mw_391 mw_392 mw_393 mw_3) rfl rfl rfl (by decide +kernel) ⟨Nat.le_of_ble_eq_true rfl, Nat.le_of_ble_eq_true rfl⟩) (kRecvX (q0 := 17) (ci := 8) hK hP hD hN hXS hS hA rfl rfl [17, 13] rfl (by decide)) rfl rfl hl.1 rfl (lv_room (Nat.le_of_ble_eq_true rfl)) dX10_workIs_90 ⟨Nat.le_of_ble_eq_true rfl, Nat.le_of_ble_eq_true rfl⟩) hP hD hS hA [17, 13] [0, 1, 2, 3, 4, 5, 6, 7, 8, 9, 10, 11, 12, 14, 15, 16] rfl rfl (by decide) (by decide) ?_
      clear hP hD hS
      intro r_18 u_20 H locs w_19 hP hD hS
      replace hP : va_P D vwCl [(k, .inr (10, [.ref k0, .ref k1, .ref k2, .ref k3, .ref k4, .ref k5, .ref k6, .ref k7, .ref k8, .ref k9, .ref ka, .ref kb, .int cc])), (k0, .inr (9, [.ref k00, .ref k01, .ref k02, .ref k03, .ref k04, .ref k05, .int c06, .int c07, .int c08])), (k3, .inr (4, [.ref k30, .ref k31, .ref k32, .ref k33, .ref k34, .int c35, .int c36])), (k5, .inr (5, [.ref k50, .int c51, .int c52, .int c53, .int c54, .int c55, .int c56, .int c57])), (kb, .inl (cI, 6, .inl cb)), (k01, .inl (cI, 40, .inl c01)), (k31, .inl (cI, 600, .inl c31)), (k32, .inl (cI, 12, .inl c32)), (k33, .inl (cI, 12, .inl c33)), (k34, .inl (cI, 12, .inl c34)), (k50, .inl (cI, 50, .inl c50)), (k040, .inl (cI, 60, .inl c040)), (k041, .inl (cI, 60, .inl c041)), (k043, .inl (cI, 60, .inl c043)), (k044, .inl (cI, 60, .inl c044)), (k045, .inl (cI, 60, .inl c045)), (k04, .inr (8, [.ref k040, .ref k041, .ref k042, .ref k043, .ref k044, .ref k045, .ref k046, .ref k047, .ref k048, .int c049])), (k042, .inl (cI, 60, .inl c042))] H := hP
      replace hD : va_D A [(k, .inr (10, [.ref k0, .ref k1, .ref k2, .ref k3, .ref k4, .ref k5, .ref k6, .ref k7, .ref k8, .ref k9, .ref ka, .ref kb, .int cc])), (k0, .inr (9, [.ref k00, .ref k01, .ref k02, .ref k03, .ref k04, .ref k05, .int c06, .int c07, .int c08])), (k3, .inr (4, [.ref k30, .ref k31, .ref k32, .ref k33, .ref k34, .int c35, .int c36])), (k5, .inr (5, [.ref k50, .int c51, .int c52, .int c53, .int c54, .int c55, .int c56, .int c57])), (kb, .inl (cI, 6, .inl cb)), (k01, .inl (cI, 40, .inl c01)), (k31, .inl (cI, 600, .inl c31)), (k32, .inl (cI, 12, .inl c32)), (k33, .inl (cI, 12, .inl c33)), (k34, .inl (cI, 12, .inl c34)), (k50, .inl (cI, 50, .inl c50)), (k040, .inl (cI, 60, .inl c040)), (k041, .inl (cI, 60, .inl c041)), (k043, .inl (cI, 60, .inl c043)), (k044, .inl (cI, 60, .inl c044)), (k045, .inl (cI, 60, .inl c045)), (k04, .inr (8, [.ref k040, .ref k041, .ref k042, .ref k043, .ref k044, .ref k045, .ref k046, .ref k047, .ref k048, .int c049])), (k042, .inl (cI, 60, .inl c042))] := hD
      have lo_r_18 := k_lo r_18
      have hi_r_18 := k_hi r_18
      exact hRet (c51, c52, c53, c54, c55, c56, c57, cb, c50) [0, 1, 2, 3, 4, 5, 16, 6, 7, 8, 9, 10, 11, 12, 17, 13, 14, 15] pre0 hP hD (by decide) rfl hS rfl dX10_workIs_93
    by_cases c_21 : a1.toInt = 3
    · refine lv_tableIn (off := 65) (tgt := 94) hx hb dX10_workIs_29 (by omega) (by omega) (by rw [c_21]; decide) (by decide) ?_
      refine lv_aload_n hx hb dX10_workIs_94 rfl (lv_at hl 0 rfl) ?_
      refine lv_iload_n hx hb dX10_workIs_95 rfl (lv_at hl 2 rfl) ?_
      refine kJi (wr := [(k, .inr (10, [.ref k0, .ref k1, .ref k2, .ref k3, .ref k4, .ref k5, .ref k6, .ref k7, .ref k8, .ref k9, .ref ka, .ref kb, .int cc])), (k0, .inr (9, [.ref k00, .ref k01, .ref k02, .ref k03, .ref k04, .ref k05, .int c06, .int c07, .int c08])), (k3, .inr (4, [.ref k30, .ref k31, .ref k32, .ref k33, .ref k34, .int c35, .int c36])), (k5, .inr (5, [.ref k50, .int c51, .int c52, .int c53, .int c54, .int c55, .int c56, .int c57])), (kb, .inl (cI, 6, .inl cb)), (k01, .inl (cI, 40, .inl c01)), (k31, .inl (cI, 600, .inl c31)), (k32, .inl (cI, 12, .inl c32)), (k33, .inl (cI, 12, .inl c33)), (k34, .inl (cI, 12, .inl c34)), (k50, .inl (cI, 50, .inl c50)), (k040, .inl (cI, 60, .inl c040)), (k041, .inl (cI, 60, .inl c041)), (k042, .inl (cI, 60, .inl c042)), (k044, .inl (cI, 60, .inl c044)), (k045, .inl (cI, 60, .inl c045))]) (va_runV (As := [.int a0]) (rest := []) ⟨hx, hb, hml, hown, hT⟩ (c_X8_sinceOfG l D cI aK aV k04 k040 k041 k042 k043 k044 k045 k046 k047 k048 H.size c049 c043 a0) (cwV 1 hT (gV_in mw_403 mw_400 mw_401 mw_402 mw_3) rfl rfl rfl (by decide +kernel) ⟨Nat.le_of_ble_eq_true rfl, Nat.le_of_ble_eq_true rfl⟩) (kRecvX (q0 := 17) (ci := 8) hK hP hD hN hXS hS hA rfl rfl [17, 14] rfl (by decide)) rfl rfl hl.1 rfl (lv_room (Nat.le_of_ble_eq_true rfl)) dX10_workIs_96 ⟨Nat.le_of_ble_eq_true rfl, Nat.le_of_ble_eq_true rfl⟩) hP hD hS hA [17, 14] [0, 1, 2, 3, 4, 5, 6, 7, 8, 9, 10, 11, 12, 13, 15, 16] rfl rfl (by decide) (by decide) ?_
      clear hP hD hS
      intro r_22 u_24 H locs w_23 hP hD hS
      replace hP : va_P D vwCl [(k, .inr (10, [.ref k0, .ref k1, .ref k2, .ref k3, .ref k4, .ref k5, .ref k6, .ref k7, .ref k8, .ref k9, .ref ka, .ref kb, .int cc])), (k0, .inr (9, [.ref k00, .ref k01, .ref k02, .ref k03, .ref k04, .ref k05, .int c06, .int c07, .int c08])), (k3, .inr (4, [.ref k30, .ref k31, .ref k32, .ref k33, .ref k34, .int c35, .int c36])), (k5, .inr (5, [.ref k50, .int c51, .int c52, .int c53, .int c54, .int c55, .int c56, .int c57])), (kb, .inl (cI, 6, .inl cb)), (k01, .inl (cI, 40, .inl c01)), (k31, .inl (cI, 600, .inl c31)), (k32, .inl (cI, 12, .inl c32)), (k33, .inl (cI, 12, .inl c33)), (k34, .inl (cI, 12, .inl c34)), (k50, .inl (cI, 50, .inl c50)), (k040, .inl (cI, 60, .inl c040)), (k041, .inl (cI, 60, .inl c041)), (k042, .inl (cI, 60, .inl c042)), (k044, .inl (cI, 60, .inl c044)), (k045, .inl (cI, 60, .inl c045)), (k04, .inr (8, [.ref k040, .ref k041, .ref k042, .ref k043, .ref k044, .ref k045, .ref k046, .ref k047, .ref k048, .int c049])), (k043, .inl (cI, 60, .inl c043))] H := hP
      replace hD : va_D A [(k, .inr (10, [.ref k0, .ref k1, .ref k2, .ref k3, .ref k4, .ref k5, .ref k6, .ref k7, .ref k8, .ref k9, .ref ka, .ref kb, .int cc])), (k0, .inr (9, [.ref k00, .ref k01, .ref k02, .ref k03, .ref k04, .ref k05, .int c06, .int c07, .int c08])), (k3, .inr (4, [.ref k30, .ref k31, .ref k32, .ref k33, .ref k34, .int c35, .int c36])), (k5, .inr (5, [.ref k50, .int c51, .int c52, .int c53, .int c54, .int c55, .int c56, .int c57])), (kb, .inl (cI, 6, .inl cb)), (k01, .inl (cI, 40, .inl c01)), (k31, .inl (cI, 600, .inl c31)), (k32, .inl (cI, 12, .inl c32)), (k33, .inl (cI, 12, .inl c33)), (k34, .inl (cI, 12, .inl c34)), (k50, .inl (cI, 50, .inl c50)), (k040, .inl (cI, 60, .inl c040)), (k041, .inl (cI, 60, .inl c041)), (k042, .inl (cI, 60, .inl c042)), (k044, .inl (cI, 60, .inl c044)), (k045, .inl (cI, 60, .inl c045)), (k04, .inr (8, [.ref k040, .ref k041, .ref k042, .ref k043, .ref k044, .ref k045, .ref k046, .ref k047, .ref k048, .int c049])), (k043, .inl (cI, 60, .inl c043))] := hD
      have lo_r_22 := k_lo r_22
      have hi_r_22 := k_hi r_22
      exact hRet (c51, c52, c53, c54, c55, c56, c57, cb, c50) [0, 1, 2, 3, 4, 5, 16, 6, 7, 8, 9, 10, 11, 12, 13, 17, 14, 15] pre0 hP hD (by decide) rfl hS rfl dX10_workIs_99
    by_cases c_25 : a1.toInt = 4
    · refine lv_tableIn (off := 71) (tgt := 100) hx hb dX10_workIs_29 (by omega) (by omega) (by rw [c_25]; decide) (by decide) ?_
      refine lv_aload_n hx hb dX10_workIs_100 rfl (lv_at hl 0 rfl) ?_
      refine lv_iload_n hx hb dX10_workIs_101 rfl (lv_at hl 2 rfl) ?_
      refine kJi (wr := [(k, .inr (10, [.ref k0, .ref k1, .ref k2, .ref k3, .ref k4, .ref k5, .ref k6, .ref k7, .ref k8, .ref k9, .ref ka, .ref kb, .int cc])), (k0, .inr (9, [.ref k00, .ref k01, .ref k02, .ref k03, .ref k04, .ref k05, .int c06, .int c07, .int c08])), (k3, .inr (4, [.ref k30, .ref k31, .ref k32, .ref k33, .ref k34, .int c35, .int c36])), (k5, .inr (5, [.ref k50, .int c51, .int c52, .int c53, .int c54, .int c55, .int c56, .int c57])), (kb, .inl (cI, 6, .inl cb)), (k01, .inl (cI, 40, .inl c01)), (k31, .inl (cI, 600, .inl c31)), (k32, .inl (cI, 12, .inl c32)), (k33, .inl (cI, 12, .inl c33)), (k34, .inl (cI, 12, .inl c34)), (k50, .inl (cI, 50, .inl c50)), (k040, .inl (cI, 60, .inl c040)), (k041, .inl (cI, 60, .inl c041)), (k042, .inl (cI, 60, .inl c042)), (k043, .inl (cI, 60, .inl c043)), (k044, .inl (cI, 60, .inl c044))]) (va_runV (As := [.int a0]) (rest := []) ⟨hx, hb, hml, hown, hT⟩ (c_X8_isDownG l D cI aK aV k04 k040 k041 k042 k043 k044 k045 k046 k047 k048 H.size c049 c045 a0) (cwV 1 hT (gV_in mw_407 mw_404 mw_405 mw_406 mw_3) rfl rfl rfl (by decide +kernel) ⟨Nat.le_of_ble_eq_true rfl, Nat.le_of_ble_eq_true rfl⟩) (kRecvX (q0 := 17) (ci := 8) hK hP hD hN hXS hS hA rfl rfl [17, 16] rfl (by decide)) rfl rfl hl.1 rfl (lv_room (Nat.le_of_ble_eq_true rfl)) dX10_workIs_102 ⟨Nat.le_of_ble_eq_true rfl, Nat.le_of_ble_eq_true rfl⟩) hP hD hS hA [17, 16] [0, 1, 2, 3, 4, 5, 6, 7, 8, 9, 10, 11, 12, 13, 14, 15] rfl rfl (by decide) (by decide) ?_
      clear hP hD hS
      intro r_26 u_28 H locs w_27 hP hD hS
      replace hP : va_P D vwCl [(k, .inr (10, [.ref k0, .ref k1, .ref k2, .ref k3, .ref k4, .ref k5, .ref k6, .ref k7, .ref k8, .ref k9, .ref ka, .ref kb, .int cc])), (k0, .inr (9, [.ref k00, .ref k01, .ref k02, .ref k03, .ref k04, .ref k05, .int c06, .int c07, .int c08])), (k3, .inr (4, [.ref k30, .ref k31, .ref k32, .ref k33, .ref k34, .int c35, .int c36])), (k5, .inr (5, [.ref k50, .int c51, .int c52, .int c53, .int c54, .int c55, .int c56, .int c57])), (kb, .inl (cI, 6, .inl cb)), (k01, .inl (cI, 40, .inl c01)), (k31, .inl (cI, 600, .inl c31)), (k32, .inl (cI, 12, .inl c32)), (k33, .inl (cI, 12, .inl c33)), (k34, .inl (cI, 12, .inl c34)), (k50, .inl (cI, 50, .inl c50)), (k040, .inl (cI, 60, .inl c040)), (k041, .inl (cI, 60, .inl c041)), (k042, .inl (cI, 60, .inl c042)), (k043, .inl (cI, 60, .inl c043)), (k044, .inl (cI, 60, .inl c044)), (k04, .inr (8, [.ref k040, .ref k041, .ref k042, .ref k043, .ref k044, .ref k045, .ref k046, .ref k047, .ref k048, .int c049])), (k045, .inl (cI, 60, .inl c045))] H := hP
      replace hD : va_D A [(k, .inr (10, [.ref k0, .ref k1, .ref k2, .ref k3, .ref k4, .ref k5, .ref k6, .ref k7, .ref k8, .ref k9, .ref ka, .ref kb, .int cc])), (k0, .inr (9, [.ref k00, .ref k01, .ref k02, .ref k03, .ref k04, .ref k05, .int c06, .int c07, .int c08])), (k3, .inr (4, [.ref k30, .ref k31, .ref k32, .ref k33, .ref k34, .int c35, .int c36])), (k5, .inr (5, [.ref k50, .int c51, .int c52, .int c53, .int c54, .int c55, .int c56, .int c57])), (kb, .inl (cI, 6, .inl cb)), (k01, .inl (cI, 40, .inl c01)), (k31, .inl (cI, 600, .inl c31)), (k32, .inl (cI, 12, .inl c32)), (k33, .inl (cI, 12, .inl c33)), (k34, .inl (cI, 12, .inl c34)), (k50, .inl (cI, 50, .inl c50)), (k040, .inl (cI, 60, .inl c040)), (k041, .inl (cI, 60, .inl c041)), (k042, .inl (cI, 60, .inl c042)), (k043, .inl (cI, 60, .inl c043)), (k044, .inl (cI, 60, .inl c044)), (k04, .inr (8, [.ref k040, .ref k041, .ref k042, .ref k043, .ref k044, .ref k045, .ref k046, .ref k047, .ref k048, .int c049])), (k045, .inl (cI, 60, .inl c045))] := hD
      have lo_r_26 := k_lo r_26
      have hi_r_26 := k_hi r_26
      refine b_if_eq hx hb rfl (tgt := 112) dX10_workIs_105 (by decide) (fun c_29 => ?_) (fun c_29 => ?_)
      · refine lv_iconst (v := 0) hx hb dX10_workIs_112 (by decide) ?_
        exact hRet (c51, c52, c53, c54, c55, c56, c57, cb, c50) [0, 1, 2, 3, 4, 5, 16, 6, 7, 8, 9, 10, 11, 12, 13, 14, 15, 17] pre0 hP hD (by decide) rfl hS rfl dX10_workIs_113
      · refine lv_iconst (v := 1) hx hb dX10_workIs_108 (by decide) ?_
        refine lv_goto (tgt := 113) hx hb dX10_workIs_109 (by decide) ?_
        exact hRet (c51, c52, c53, c54, c55, c56, c57, cb, c50) [0, 1, 2, 3, 4, 5, 16, 6, 7, 8, 9, 10, 11, 12, 13, 14, 15, 17] pre0 hP hD (by decide) rfl hS rfl dX10_workIs_113
    by_cases c_30 : a1.toInt = 5
    · refine lv_tableIn (off := 85) (tgt := 114) hx hb dX10_workIs_29 (by omega) (by omega) (by rw [c_30]; decide) (by decide) ?_
      refine lv_aload_n hx hb dX10_workIs_114 rfl (lv_at hl 1 rfl) ?_
      refine va_get (D := D) (ci := 10) (v := .ref k0) (C := RX10) (T := TX10) (N := 13) hx hb hT giX10 hown hK hP 0 rfl rfl 0 (by decide) (hT (Cond.fieldLink RX10 12 "DesertWire" "now" "LDesertWire$World;") mw_291) (fun _ h9 => h9) rfl dX10_workIs_115 ?_
      refine lv_iload_n hx hb dX10_workIs_118 rfl (lv_at hl 2 rfl) ?_
      refine kJi (wr := [(k, .inr (10, [.ref k0, .ref k1, .ref k2, .ref k3, .ref k4, .ref k5, .ref k6, .ref k7, .ref k8, .ref k9, .ref ka, .ref kb, .int cc])), (k3, .inr (4, [.ref k30, .ref k31, .ref k32, .ref k33, .ref k34, .int c35, .int c36])), (k5, .inr (5, [.ref k50, .int c51, .int c52, .int c53, .int c54, .int c55, .int c56, .int c57])), (kb, .inl (cI, 6, .inl cb)), (k31, .inl (cI, 600, .inl c31)), (k32, .inl (cI, 12, .inl c32)), (k33, .inl (cI, 12, .inl c33)), (k34, .inl (cI, 12, .inl c34)), (k50, .inl (cI, 50, .inl c50)), (k042, .inl (cI, 60, .inl c042)), (k044, .inl (cI, 60, .inl c044))]) (va_runV (As := [.int a0]) (rest := []) ⟨hx, hb, hml, hown, hT⟩ (c_X9_eatenOnG l D cI aK aV k0 k00 k01 k02 k03 k04 k05 k040 k041 k042 k043 k044 k045 k046 k047 k048 H.size c06 c07 c08 c01 c049 c040 c041 c043 c045 a0) (cwV 1 hT (gV_in mw_411 mw_408 mw_409 mw_410 mw_2) rfl rfl rfl (by decide +kernel) ⟨Nat.le_of_ble_eq_true rfl, Nat.le_of_ble_eq_true rfl⟩) (kRecvX (q0 := 1) (ci := 9) hK hP hD hN hXS hS hA rfl rfl [1, 5, 17, 11, 12, 14, 16] rfl (by decide)) rfl rfl hl.1 rfl (lv_room (Nat.le_of_ble_eq_true rfl)) dX10_workIs_119 ⟨Nat.le_of_ble_eq_true rfl, Nat.le_of_ble_eq_true rfl⟩) hP hD hS hA [1, 5, 17, 11, 12, 14, 16] [0, 2, 3, 4, 6, 7, 8, 9, 10, 13, 15] rfl rfl (by decide) (by decide) ?_
      clear hP hD hS
      intro r_31 u_33 H locs w_32 hP hD hS
      replace hP : va_P D vwCl [(k, .inr (10, [.ref k0, .ref k1, .ref k2, .ref k3, .ref k4, .ref k5, .ref k6, .ref k7, .ref k8, .ref k9, .ref ka, .ref kb, .int cc])), (k3, .inr (4, [.ref k30, .ref k31, .ref k32, .ref k33, .ref k34, .int c35, .int c36])), (k5, .inr (5, [.ref k50, .int c51, .int c52, .int c53, .int c54, .int c55, .int c56, .int c57])), (kb, .inl (cI, 6, .inl cb)), (k31, .inl (cI, 600, .inl c31)), (k32, .inl (cI, 12, .inl c32)), (k33, .inl (cI, 12, .inl c33)), (k34, .inl (cI, 12, .inl c34)), (k50, .inl (cI, 50, .inl c50)), (k042, .inl (cI, 60, .inl c042)), (k044, .inl (cI, 60, .inl c044)), (k0, .inr (9, [.ref k00, .ref k01, .ref k02, .ref k03, .ref k04, .ref k05, .int c06, .int c07, .int c08])), (k01, .inl (cI, 40, .inl c01)), (k04, .inr (8, [.ref k040, .ref k041, .ref k042, .ref k043, .ref k044, .ref k045, .ref k046, .ref k047, .ref k048, .int c049])), (k040, .inl (cI, 60, .inl c040)), (k041, .inl (cI, 60, .inl c041)), (k043, .inl (cI, 60, .inl c043)), (k045, .inl (cI, 60, .inl c045))] H := hP
      replace hD : va_D A [(k, .inr (10, [.ref k0, .ref k1, .ref k2, .ref k3, .ref k4, .ref k5, .ref k6, .ref k7, .ref k8, .ref k9, .ref ka, .ref kb, .int cc])), (k3, .inr (4, [.ref k30, .ref k31, .ref k32, .ref k33, .ref k34, .int c35, .int c36])), (k5, .inr (5, [.ref k50, .int c51, .int c52, .int c53, .int c54, .int c55, .int c56, .int c57])), (kb, .inl (cI, 6, .inl cb)), (k31, .inl (cI, 600, .inl c31)), (k32, .inl (cI, 12, .inl c32)), (k33, .inl (cI, 12, .inl c33)), (k34, .inl (cI, 12, .inl c34)), (k50, .inl (cI, 50, .inl c50)), (k042, .inl (cI, 60, .inl c042)), (k044, .inl (cI, 60, .inl c044)), (k0, .inr (9, [.ref k00, .ref k01, .ref k02, .ref k03, .ref k04, .ref k05, .int c06, .int c07, .int c08])), (k01, .inl (cI, 40, .inl c01)), (k04, .inr (8, [.ref k040, .ref k041, .ref k042, .ref k043, .ref k044, .ref k045, .ref k046, .ref k047, .ref k048, .int c049])), (k040, .inl (cI, 60, .inl c040)), (k041, .inl (cI, 60, .inl c041)), (k043, .inl (cI, 60, .inl c043)), (k045, .inl (cI, 60, .inl c045))] := hD
      have lo_r_31 := k_lo r_31
      have hi_r_31 := k_hi r_31
      exact hRet (c51, c52, c53, c54, c55, c56, c57, cb, c50) [0, 11, 1, 2, 3, 12, 13, 4, 5, 6, 7, 8, 14, 15, 9, 16, 10, 17] pre0 hP hD (by decide) rfl hS rfl dX10_workIs_122
    by_cases c_34 : a1.toInt = 6
    · refine lv_tableIn (off := 94) (tgt := 123) hx hb dX10_workIs_29 (by omega) (by omega) (by rw [c_34]; decide) (by decide) ?_
      refine lv_aload_n hx hb dX10_workIs_123 rfl (lv_at hl 0 rfl) ?_
      refine lv_iload_n hx hb dX10_workIs_124 rfl (lv_at hl 2 rfl) ?_
      refine kJi (wr := [(k, .inr (10, [.ref k0, .ref k1, .ref k2, .ref k3, .ref k4, .ref k5, .ref k6, .ref k7, .ref k8, .ref k9, .ref ka, .ref kb, .int cc])), (k0, .inr (9, [.ref k00, .ref k01, .ref k02, .ref k03, .ref k04, .ref k05, .int c06, .int c07, .int c08])), (k3, .inr (4, [.ref k30, .ref k31, .ref k32, .ref k33, .ref k34, .int c35, .int c36])), (k5, .inr (5, [.ref k50, .int c51, .int c52, .int c53, .int c54, .int c55, .int c56, .int c57])), (kb, .inl (cI, 6, .inl cb)), (k01, .inl (cI, 40, .inl c01)), (k31, .inl (cI, 600, .inl c31)), (k32, .inl (cI, 12, .inl c32)), (k33, .inl (cI, 12, .inl c33)), (k34, .inl (cI, 12, .inl c34)), (k50, .inl (cI, 50, .inl c50)), (k041, .inl (cI, 60, .inl c041)), (k042, .inl (cI, 60, .inl c042)), (k043, .inl (cI, 60, .inl c043)), (k044, .inl (cI, 60, .inl c044)), (k045, .inl (cI, 60, .inl c045))]) (va_runV (As := [.int a0]) (rest := []) ⟨hx, hb, hml, hown, hT⟩ (c_X8_kindOfG l D cI aK aV k04 k040 k041 k042 k043 k044 k045 k046 k047 k048 H.size c049 c040 a0) (cwV 1 hT (gV_in mw_384 mw_381 mw_382 mw_383 mw_3) rfl rfl rfl (by decide +kernel) ⟨Nat.le_of_ble_eq_true rfl, Nat.le_of_ble_eq_true rfl⟩) (kRecvX (q0 := 17) (ci := 8) hK hP hD hN hXS hS hA rfl rfl [17, 11] rfl (by decide)) rfl rfl hl.1 rfl (lv_room (Nat.le_of_ble_eq_true rfl)) dX10_workIs_125 ⟨Nat.le_of_ble_eq_true rfl, Nat.le_of_ble_eq_true rfl⟩) hP hD hS hA [17, 11] [0, 1, 2, 3, 4, 5, 6, 7, 8, 9, 10, 12, 13, 14, 15, 16] rfl rfl (by decide) (by decide) ?_
      clear hP hD hS
      intro r_35 u_37 H locs w_36 hP hD hS
      replace hP : va_P D vwCl [(k, .inr (10, [.ref k0, .ref k1, .ref k2, .ref k3, .ref k4, .ref k5, .ref k6, .ref k7, .ref k8, .ref k9, .ref ka, .ref kb, .int cc])), (k0, .inr (9, [.ref k00, .ref k01, .ref k02, .ref k03, .ref k04, .ref k05, .int c06, .int c07, .int c08])), (k3, .inr (4, [.ref k30, .ref k31, .ref k32, .ref k33, .ref k34, .int c35, .int c36])), (k5, .inr (5, [.ref k50, .int c51, .int c52, .int c53, .int c54, .int c55, .int c56, .int c57])), (kb, .inl (cI, 6, .inl cb)), (k01, .inl (cI, 40, .inl c01)), (k31, .inl (cI, 600, .inl c31)), (k32, .inl (cI, 12, .inl c32)), (k33, .inl (cI, 12, .inl c33)), (k34, .inl (cI, 12, .inl c34)), (k50, .inl (cI, 50, .inl c50)), (k041, .inl (cI, 60, .inl c041)), (k042, .inl (cI, 60, .inl c042)), (k043, .inl (cI, 60, .inl c043)), (k044, .inl (cI, 60, .inl c044)), (k045, .inl (cI, 60, .inl c045)), (k04, .inr (8, [.ref k040, .ref k041, .ref k042, .ref k043, .ref k044, .ref k045, .ref k046, .ref k047, .ref k048, .int c049])), (k040, .inl (cI, 60, .inl c040))] H := hP
      replace hD : va_D A [(k, .inr (10, [.ref k0, .ref k1, .ref k2, .ref k3, .ref k4, .ref k5, .ref k6, .ref k7, .ref k8, .ref k9, .ref ka, .ref kb, .int cc])), (k0, .inr (9, [.ref k00, .ref k01, .ref k02, .ref k03, .ref k04, .ref k05, .int c06, .int c07, .int c08])), (k3, .inr (4, [.ref k30, .ref k31, .ref k32, .ref k33, .ref k34, .int c35, .int c36])), (k5, .inr (5, [.ref k50, .int c51, .int c52, .int c53, .int c54, .int c55, .int c56, .int c57])), (kb, .inl (cI, 6, .inl cb)), (k01, .inl (cI, 40, .inl c01)), (k31, .inl (cI, 600, .inl c31)), (k32, .inl (cI, 12, .inl c32)), (k33, .inl (cI, 12, .inl c33)), (k34, .inl (cI, 12, .inl c34)), (k50, .inl (cI, 50, .inl c50)), (k041, .inl (cI, 60, .inl c041)), (k042, .inl (cI, 60, .inl c042)), (k043, .inl (cI, 60, .inl c043)), (k044, .inl (cI, 60, .inl c044)), (k045, .inl (cI, 60, .inl c045)), (k04, .inr (8, [.ref k040, .ref k041, .ref k042, .ref k043, .ref k044, .ref k045, .ref k046, .ref k047, .ref k048, .int c049])), (k040, .inl (cI, 60, .inl c040))] := hD
      have lo_r_35 := k_lo r_35
      have hi_r_35 := k_hi r_35
      refine lv_iconst (v := 5) hx hb dX10_workIs_128 (by decide) ?_
      refine b_icmp_ne hx hb rfl zl_5 (tgt := 140) dX10_workIs_129 (by decide) (fun c_38 => ?_) (fun c_38 => ?_)
      · refine lv_iconst (v := (-1)) hx hb dX10_workIs_140 (by decide) ?_
        exact hRet (c51, c52, c53, c54, c55, c56, c57, cb, c50) [0, 1, 2, 3, 4, 5, 16, 6, 7, 8, 9, 10, 17, 11, 12, 13, 14, 15] pre0 hP hD (by decide) rfl hS rfl dX10_workIs_141
      · refine lv_aload_n hx hb dX10_workIs_132 rfl (lv_at hl 0 rfl) ?_
        refine lv_iload_n hx hb dX10_workIs_133 rfl (lv_at hl 2 rfl) ?_
        refine kJi (wr := [(k, .inr (10, [.ref k0, .ref k1, .ref k2, .ref k3, .ref k4, .ref k5, .ref k6, .ref k7, .ref k8, .ref k9, .ref ka, .ref kb, .int cc])), (k0, .inr (9, [.ref k00, .ref k01, .ref k02, .ref k03, .ref k04, .ref k05, .int c06, .int c07, .int c08])), (k3, .inr (4, [.ref k30, .ref k31, .ref k32, .ref k33, .ref k34, .int c35, .int c36])), (k5, .inr (5, [.ref k50, .int c51, .int c52, .int c53, .int c54, .int c55, .int c56, .int c57])), (kb, .inl (cI, 6, .inl cb)), (k01, .inl (cI, 40, .inl c01)), (k31, .inl (cI, 600, .inl c31)), (k32, .inl (cI, 12, .inl c32)), (k33, .inl (cI, 12, .inl c33)), (k34, .inl (cI, 12, .inl c34)), (k50, .inl (cI, 50, .inl c50)), (k041, .inl (cI, 60, .inl c041)), (k042, .inl (cI, 60, .inl c042)), (k043, .inl (cI, 60, .inl c043)), (k045, .inl (cI, 60, .inl c045)), (k040, .inl (cI, 60, .inl c040))]) (va_runV (As := [.int a0]) (rest := []) ⟨hx, hb, hml, hown, hT⟩ (c_X8_foodOfG l D cI aK aV k04 k040 k041 k042 k043 k044 k045 k046 k047 k048 H.size c049 c044 a0) (cwV 1 hT (gV_in mw_431 mw_428 mw_429 mw_430 mw_3) rfl rfl rfl (by decide +kernel) ⟨Nat.le_of_ble_eq_true rfl, Nat.le_of_ble_eq_true rfl⟩) (kRecvX (q0 := 16) (ci := 8) hK hP hD hN hXS hS hA rfl rfl [16, 14] rfl (by decide)) rfl rfl hl.1 rfl (lv_room (Nat.le_of_ble_eq_true rfl)) dX10_workIs_134 ⟨Nat.le_of_ble_eq_true rfl, Nat.le_of_ble_eq_true rfl⟩) hP hD hS hA [16, 14] [0, 1, 2, 3, 4, 5, 6, 7, 8, 9, 10, 11, 12, 13, 15, 17] rfl rfl (by decide) (by decide) ?_
        clear hP hD hS
        intro r_39 u_41 H locs w_40 hP hD hS
        replace hP : va_P D vwCl [(k, .inr (10, [.ref k0, .ref k1, .ref k2, .ref k3, .ref k4, .ref k5, .ref k6, .ref k7, .ref k8, .ref k9, .ref ka, .ref kb, .int cc])), (k0, .inr (9, [.ref k00, .ref k01, .ref k02, .ref k03, .ref k04, .ref k05, .int c06, .int c07, .int c08])), (k3, .inr (4, [.ref k30, .ref k31, .ref k32, .ref k33, .ref k34, .int c35, .int c36])), (k5, .inr (5, [.ref k50, .int c51, .int c52, .int c53, .int c54, .int c55, .int c56, .int c57])), (kb, .inl (cI, 6, .inl cb)), (k01, .inl (cI, 40, .inl c01)), (k31, .inl (cI, 600, .inl c31)), (k32, .inl (cI, 12, .inl c32)), (k33, .inl (cI, 12, .inl c33)), (k34, .inl (cI, 12, .inl c34)), (k50, .inl (cI, 50, .inl c50)), (k041, .inl (cI, 60, .inl c041)), (k042, .inl (cI, 60, .inl c042)), (k043, .inl (cI, 60, .inl c043)), (k045, .inl (cI, 60, .inl c045)), (k040, .inl (cI, 60, .inl c040)), (k04, .inr (8, [.ref k040, .ref k041, .ref k042, .ref k043, .ref k044, .ref k045, .ref k046, .ref k047, .ref k048, .int c049])), (k044, .inl (cI, 60, .inl c044))] H := hP
        replace hD : va_D A [(k, .inr (10, [.ref k0, .ref k1, .ref k2, .ref k3, .ref k4, .ref k5, .ref k6, .ref k7, .ref k8, .ref k9, .ref ka, .ref kb, .int cc])), (k0, .inr (9, [.ref k00, .ref k01, .ref k02, .ref k03, .ref k04, .ref k05, .int c06, .int c07, .int c08])), (k3, .inr (4, [.ref k30, .ref k31, .ref k32, .ref k33, .ref k34, .int c35, .int c36])), (k5, .inr (5, [.ref k50, .int c51, .int c52, .int c53, .int c54, .int c55, .int c56, .int c57])), (kb, .inl (cI, 6, .inl cb)), (k01, .inl (cI, 40, .inl c01)), (k31, .inl (cI, 600, .inl c31)), (k32, .inl (cI, 12, .inl c32)), (k33, .inl (cI, 12, .inl c33)), (k34, .inl (cI, 12, .inl c34)), (k50, .inl (cI, 50, .inl c50)), (k041, .inl (cI, 60, .inl c041)), (k042, .inl (cI, 60, .inl c042)), (k043, .inl (cI, 60, .inl c043)), (k045, .inl (cI, 60, .inl c045)), (k040, .inl (cI, 60, .inl c040)), (k04, .inr (8, [.ref k040, .ref k041, .ref k042, .ref k043, .ref k044, .ref k045, .ref k046, .ref k047, .ref k048, .int c049])), (k044, .inl (cI, 60, .inl c044))] := hD
        have lo_r_39 := k_lo r_39
        have hi_r_39 := k_hi r_39
        refine lv_goto (tgt := 141) hx hb dX10_workIs_137 (by decide) ?_
        exact hRet (c51, c52, c53, c54, c55, c56, c57, cb, c50) [0, 1, 2, 3, 4, 5, 16, 6, 7, 8, 9, 10, 15, 11, 12, 13, 17, 14] pre0 hP hD (by decide) rfl hS rfl dX10_workIs_141
    by_cases c_42 : a1.toInt = 7
    · refine lv_tableIn (off := 113) (tgt := 142) hx hb dX10_workIs_29 (by omega) (by omega) (by rw [c_42]; decide) (by decide) ?_
      refine lv_aload_n hx hb dX10_workIs_142 rfl (lv_at hl 1 rfl) ?_
      refine lv_iload_n hx hb dX10_workIs_143 rfl (lv_at hl 2 rfl) ?_
      refine kJi (wr := [(kb, .inl (cI, 6, .inl cb)), (k01, .inl (cI, 40, .inl c01)), (k041, .inl (cI, 60, .inl c041)), (k043, .inl (cI, 60, .inl c043)), (k044, .inl (cI, 60, .inl c044))]) (va_runV (As := [.int a0]) (rest := []) ⟨hx, hb, hml, hown, hT⟩ (c_X10_wantOfG l D cI aK aV k k0 k1 k2 k3 k4 k5 k6 k7 k8 k9 ka kb k00 k01 k02 k03 k04 k05 k30 k31 k32 k33 k34 k50 k040 k041 k042 k043 k044 k045 k046 k047 k048 H.size cc c06 c07 c08 c35 c36 c51 c52 c53 c54 c55 c56 c57 c049 c31 c32 c33 c34 c50 c040 c042 c045 a0 pre0 pre1 pre2 (by first | omega | decide | assumption | rfl) (by first | omega | decide | assumption | rfl)) (cwV 1 hT (gV_in mw_435 mw_432 mw_434 mw_p1_3 mw_1) rfl rfl rfl (by decide +kernel) ⟨Nat.le_of_ble_eq_true rfl, Nat.le_of_ble_eq_true rfl⟩) (kRecvX (q0 := 0) (ci := 10) hK hP hD hN hXS hS hA rfl rfl [0, 1, 2, 3, 17, 6, 7, 8, 9, 10, 11, 13, 16] rfl (by decide)) rfl rfl hl.1 rfl (lv_room (Nat.le_of_ble_eq_true rfl)) dX10_workIs_144 ⟨Nat.le_of_ble_eq_true rfl, Nat.le_of_ble_eq_true rfl⟩) hP hD hS hA [0, 1, 2, 3, 17, 6, 7, 8, 9, 10, 11, 13, 16] [4, 5, 12, 14, 15] rfl rfl (by decide) (by decide) ?_
      clear hP hD hS
      intro r_43 u_53 H locs w_44 hP hD hS
      obtain ⟨sc51_45, sc52_46, sc53_47, sc54_48, sc55_49, sc56_50, sc57_51, sc50_52⟩ := u_53
      replace hP : va_P D vwCl [(kb, .inl (cI, 6, .inl cb)), (k01, .inl (cI, 40, .inl c01)), (k041, .inl (cI, 60, .inl c041)), (k043, .inl (cI, 60, .inl c043)), (k044, .inl (cI, 60, .inl c044)), (k, .inr (10, [.ref k0, .ref k1, .ref k2, .ref k3, .ref k4, .ref k5, .ref k6, .ref k7, .ref k8, .ref k9, .ref ka, .ref kb, .int cc])), (k0, .inr (9, [.ref k00, .ref k01, .ref k02, .ref k03, .ref k04, .ref k05, .int c06, .int c07, .int c08])), (k3, .inr (4, [.ref k30, .ref k31, .ref k32, .ref k33, .ref k34, .int c35, .int c36])), (k5, .inr (5, [.ref k50, .int sc51_45, .int sc52_46, .int sc53_47, .int sc54_48, .int sc55_49, .int sc56_50, .int sc57_51])), (k04, .inr (8, [.ref k040, .ref k041, .ref k042, .ref k043, .ref k044, .ref k045, .ref k046, .ref k047, .ref k048, .int c049])), (k31, .inl (cI, 600, .inl c31)), (k32, .inl (cI, 12, .inl c32)), (k33, .inl (cI, 12, .inl c33)), (k34, .inl (cI, 12, .inl c34)), (k50, .inl (cI, 50, .inl sc50_52)), (k040, .inl (cI, 60, .inl c040)), (k042, .inl (cI, 60, .inl c042)), (k045, .inl (cI, 60, .inl c045))] H := hP
      replace hD : va_D A [(kb, .inl (cI, 6, .inl cb)), (k01, .inl (cI, 40, .inl c01)), (k041, .inl (cI, 60, .inl c041)), (k043, .inl (cI, 60, .inl c043)), (k044, .inl (cI, 60, .inl c044)), (k, .inr (10, [.ref k0, .ref k1, .ref k2, .ref k3, .ref k4, .ref k5, .ref k6, .ref k7, .ref k8, .ref k9, .ref ka, .ref kb, .int cc])), (k0, .inr (9, [.ref k00, .ref k01, .ref k02, .ref k03, .ref k04, .ref k05, .int c06, .int c07, .int c08])), (k3, .inr (4, [.ref k30, .ref k31, .ref k32, .ref k33, .ref k34, .int c35, .int c36])), (k5, .inr (5, [.ref k50, .int sc51_45, .int sc52_46, .int sc53_47, .int sc54_48, .int sc55_49, .int sc56_50, .int sc57_51])), (k04, .inr (8, [.ref k040, .ref k041, .ref k042, .ref k043, .ref k044, .ref k045, .ref k046, .ref k047, .ref k048, .int c049])), (k31, .inl (cI, 600, .inl c31)), (k32, .inl (cI, 12, .inl c32)), (k33, .inl (cI, 12, .inl c33)), (k34, .inl (cI, 12, .inl c34)), (k50, .inl (cI, 50, .inl sc50_52)), (k040, .inl (cI, 60, .inl c040)), (k042, .inl (cI, 60, .inl c042)), (k045, .inl (cI, 60, .inl c045))] := hD
      have h_54 := w_44
      have h_54 : BYT sc50_52 0 := h_54
      have lo_r_43 := k_lo r_43
      have hi_r_43 := k_hi r_43
      exact hRet (sc51_45, sc52_46, sc53_47, sc54_48, sc55_49, sc56_50, sc57_51, cb, sc50_52) [5, 6, 7, 8, 0, 1, 9, 10, 11, 12, 13, 14, 15, 2, 16, 3, 4, 17] h_54 hP hD (by decide) rfl hS rfl dX10_workIs_147
    refine lv_tableOut (tgt := 148) hx hb dX10_workIs_29 (by omega) (by decide) ?_
    refine lv_aload_n hx hb dX10_workIs_148 rfl (lv_at hl 1 rfl) ?_
    refine lv_iconst (v := 1) hx hb dX10_workIs_149 (by decide) ?_
    refine kJi (wr := [(k0, .inr (9, [.ref k00, .ref k01, .ref k02, .ref k03, .ref k04, .ref k05, .int c06, .int c07, .int c08])), (k3, .inr (4, [.ref k30, .ref k31, .ref k32, .ref k33, .ref k34, .int c35, .int c36])), (k5, .inr (5, [.ref k50, .int c51, .int c52, .int c53, .int c54, .int c55, .int c56, .int c57])), (k01, .inl (cI, 40, .inl c01)), (k31, .inl (cI, 600, .inl c31)), (k32, .inl (cI, 12, .inl c32)), (k33, .inl (cI, 12, .inl c33)), (k34, .inl (cI, 12, .inl c34)), (k50, .inl (cI, 50, .inl c50)), (k040, .inl (cI, 60, .inl c040)), (k041, .inl (cI, 60, .inl c041)), (k042, .inl (cI, 60, .inl c042)), (k043, .inl (cI, 60, .inl c043)), (k044, .inl (cI, 60, .inl c044)), (k045, .inl (cI, 60, .inl c045)), (k04, .inr (8, [.ref k040, .ref k041, .ref k042, .ref k043, .ref k044, .ref k045, .ref k046, .ref k047, .ref k048, .int c049]))]) (va_runV (As := [.int 1]) (rest := []) ⟨hx, hb, hml, hown, hT⟩ (c_X10_findingG l D cI aK aV k k0 k1 k2 k3 k4 k5 k6 k7 k8 k9 ka kb H.size cc cb 1) (cwV 1 hT (gV_in mw_338 mw_335 mw_337 mw_p1_0 mw_1) rfl rfl rfl (by decide +kernel) ⟨Nat.le_of_ble_eq_true rfl, Nat.le_of_ble_eq_true rfl⟩) (kRecvX (q0 := 0) (ci := 10) hK hP hD hN hXS hS hA rfl rfl [0, 4] rfl (by decide)) rfl rfl hl.1 rfl (lv_room (Nat.le_of_ble_eq_true rfl)) dX10_workIs_150 ⟨Nat.le_of_ble_eq_true rfl, Nat.le_of_ble_eq_true rfl⟩) hP hD hS hA [0, 4] [1, 2, 3, 5, 6, 7, 8, 9, 10, 11, 12, 13, 14, 15, 16, 17] rfl rfl (by decide) (by decide) ?_
    clear hP hD hS
    intro r_55 scb_57 H locs w_56 hP hD hS
    replace hP : va_P D vwCl [(k0, .inr (9, [.ref k00, .ref k01, .ref k02, .ref k03, .ref k04, .ref k05, .int c06, .int c07, .int c08])), (k3, .inr (4, [.ref k30, .ref k31, .ref k32, .ref k33, .ref k34, .int c35, .int c36])), (k5, .inr (5, [.ref k50, .int c51, .int c52, .int c53, .int c54, .int c55, .int c56, .int c57])), (k01, .inl (cI, 40, .inl c01)), (k31, .inl (cI, 600, .inl c31)), (k32, .inl (cI, 12, .inl c32)), (k33, .inl (cI, 12, .inl c33)), (k34, .inl (cI, 12, .inl c34)), (k50, .inl (cI, 50, .inl c50)), (k040, .inl (cI, 60, .inl c040)), (k041, .inl (cI, 60, .inl c041)), (k042, .inl (cI, 60, .inl c042)), (k043, .inl (cI, 60, .inl c043)), (k044, .inl (cI, 60, .inl c044)), (k045, .inl (cI, 60, .inl c045)), (k04, .inr (8, [.ref k040, .ref k041, .ref k042, .ref k043, .ref k044, .ref k045, .ref k046, .ref k047, .ref k048, .int c049])), (k, .inr (10, [.ref k0, .ref k1, .ref k2, .ref k3, .ref k4, .ref k5, .ref k6, .ref k7, .ref k8, .ref k9, .ref ka, .ref kb, .int cc])), (kb, .inl (cI, 6, .inl scb_57))] H := hP
    replace hD : va_D A [(k0, .inr (9, [.ref k00, .ref k01, .ref k02, .ref k03, .ref k04, .ref k05, .int c06, .int c07, .int c08])), (k3, .inr (4, [.ref k30, .ref k31, .ref k32, .ref k33, .ref k34, .int c35, .int c36])), (k5, .inr (5, [.ref k50, .int c51, .int c52, .int c53, .int c54, .int c55, .int c56, .int c57])), (k01, .inl (cI, 40, .inl c01)), (k31, .inl (cI, 600, .inl c31)), (k32, .inl (cI, 12, .inl c32)), (k33, .inl (cI, 12, .inl c33)), (k34, .inl (cI, 12, .inl c34)), (k50, .inl (cI, 50, .inl c50)), (k040, .inl (cI, 60, .inl c040)), (k041, .inl (cI, 60, .inl c041)), (k042, .inl (cI, 60, .inl c042)), (k043, .inl (cI, 60, .inl c043)), (k044, .inl (cI, 60, .inl c044)), (k045, .inl (cI, 60, .inl c045)), (k04, .inr (8, [.ref k040, .ref k041, .ref k042, .ref k043, .ref k044, .ref k045, .ref k046, .ref k047, .ref k048, .int c049])), (k, .inr (10, [.ref k0, .ref k1, .ref k2, .ref k3, .ref k4, .ref k5, .ref k6, .ref k7, .ref k8, .ref k9, .ref ka, .ref kb, .int cc])), (kb, .inl (cI, 6, .inl scb_57))] := hD
    have hr_55 := w_56
    obtain rfl : r_55 = (-1000001) := hr_55.trans (by decide)
    exact hRet (c51, c52, c53, c54, c55, c56, c57, scb_57, c50) [16, 0, 1, 2, 17, 3, 15, 4, 5, 6, 7, 8, 9, 10, 11, 12, 13, 14] pre0 hP hD (by decide) rfl hS rfl dX10_workIs_153
  · have h_7 : a0.toInt < 0 ∨ c049.toInt ≤ a0.toInt ∨ 60 ≤ a0.toInt := h_7
    obtain rfl : r_1 = 0 := hr_1.trans (by decide)
    refine b_if_ne hx hb zl_0 (tgt := 20) dX10_workIs_11 (by decide) (fun c_58 => by exfalso; omega) (fun c_58 => ?_)
    refine lv_aload_n hx hb dX10_workIs_14 rfl (lv_at hl 0 rfl) ?_
    refine lv_iconst (v := 1) hx hb dX10_workIs_15 (by decide) ?_
    refine kJi (wr := [(k0, .inr (9, [.ref k00, .ref k01, .ref k02, .ref k03, .ref k04, .ref k05, .int c06, .int c07, .int c08])), (k3, .inr (4, [.ref k30, .ref k31, .ref k32, .ref k33, .ref k34, .int c35, .int c36])), (k5, .inr (5, [.ref k50, .int c51, .int c52, .int c53, .int c54, .int c55, .int c56, .int c57])), (k01, .inl (cI, 40, .inl c01)), (k31, .inl (cI, 600, .inl c31)), (k32, .inl (cI, 12, .inl c32)), (k33, .inl (cI, 12, .inl c33)), (k34, .inl (cI, 12, .inl c34)), (k50, .inl (cI, 50, .inl c50)), (k040, .inl (cI, 60, .inl c040)), (k041, .inl (cI, 60, .inl c041)), (k042, .inl (cI, 60, .inl c042)), (k043, .inl (cI, 60, .inl c043)), (k044, .inl (cI, 60, .inl c044)), (k045, .inl (cI, 60, .inl c045)), (k04, .inr (8, [.ref k040, .ref k041, .ref k042, .ref k043, .ref k044, .ref k045, .ref k046, .ref k047, .ref k048, .int c049]))]) (va_runV (As := [.int 1]) (rest := []) ⟨hx, hb, hml, hown, hT⟩ (c_X10_findingG l D cI aK aV k k0 k1 k2 k3 k4 k5 k6 k7 k8 k9 ka kb H.size cc cb 1) (cwV 1 hT (gV_in mw_338 mw_335 mw_337 mw_p1_0 mw_1) rfl rfl rfl (by decide +kernel) ⟨Nat.le_of_ble_eq_true rfl, Nat.le_of_ble_eq_true rfl⟩) (kRecvX (q0 := 0) (ci := 10) hK hP hD hN hXS hS hA rfl rfl [0, 4] rfl (by decide)) rfl rfl hl.1 rfl (lv_room (Nat.le_of_ble_eq_true rfl)) dX10_workIs_16 ⟨Nat.le_of_ble_eq_true rfl, Nat.le_of_ble_eq_true rfl⟩) hP hD hS hA [0, 4] [1, 2, 3, 5, 6, 7, 8, 9, 10, 11, 12, 13, 14, 15, 16, 17] rfl rfl (by decide) (by decide) ?_
    clear hP hD hS
    intro r_59 scb_61 H locs w_60 hP hD hS
    replace hP : va_P D vwCl [(k0, .inr (9, [.ref k00, .ref k01, .ref k02, .ref k03, .ref k04, .ref k05, .int c06, .int c07, .int c08])), (k3, .inr (4, [.ref k30, .ref k31, .ref k32, .ref k33, .ref k34, .int c35, .int c36])), (k5, .inr (5, [.ref k50, .int c51, .int c52, .int c53, .int c54, .int c55, .int c56, .int c57])), (k01, .inl (cI, 40, .inl c01)), (k31, .inl (cI, 600, .inl c31)), (k32, .inl (cI, 12, .inl c32)), (k33, .inl (cI, 12, .inl c33)), (k34, .inl (cI, 12, .inl c34)), (k50, .inl (cI, 50, .inl c50)), (k040, .inl (cI, 60, .inl c040)), (k041, .inl (cI, 60, .inl c041)), (k042, .inl (cI, 60, .inl c042)), (k043, .inl (cI, 60, .inl c043)), (k044, .inl (cI, 60, .inl c044)), (k045, .inl (cI, 60, .inl c045)), (k04, .inr (8, [.ref k040, .ref k041, .ref k042, .ref k043, .ref k044, .ref k045, .ref k046, .ref k047, .ref k048, .int c049])), (k, .inr (10, [.ref k0, .ref k1, .ref k2, .ref k3, .ref k4, .ref k5, .ref k6, .ref k7, .ref k8, .ref k9, .ref ka, .ref kb, .int cc])), (kb, .inl (cI, 6, .inl scb_61))] H := hP
    replace hD : va_D A [(k0, .inr (9, [.ref k00, .ref k01, .ref k02, .ref k03, .ref k04, .ref k05, .int c06, .int c07, .int c08])), (k3, .inr (4, [.ref k30, .ref k31, .ref k32, .ref k33, .ref k34, .int c35, .int c36])), (k5, .inr (5, [.ref k50, .int c51, .int c52, .int c53, .int c54, .int c55, .int c56, .int c57])), (k01, .inl (cI, 40, .inl c01)), (k31, .inl (cI, 600, .inl c31)), (k32, .inl (cI, 12, .inl c32)), (k33, .inl (cI, 12, .inl c33)), (k34, .inl (cI, 12, .inl c34)), (k50, .inl (cI, 50, .inl c50)), (k040, .inl (cI, 60, .inl c040)), (k041, .inl (cI, 60, .inl c041)), (k042, .inl (cI, 60, .inl c042)), (k043, .inl (cI, 60, .inl c043)), (k044, .inl (cI, 60, .inl c044)), (k045, .inl (cI, 60, .inl c045)), (k04, .inr (8, [.ref k040, .ref k041, .ref k042, .ref k043, .ref k044, .ref k045, .ref k046, .ref k047, .ref k048, .int c049])), (k, .inr (10, [.ref k0, .ref k1, .ref k2, .ref k3, .ref k4, .ref k5, .ref k6, .ref k7, .ref k8, .ref k9, .ref ka, .ref kb, .int cc])), (kb, .inl (cI, 6, .inl scb_61))] := hD
    have hr_59 := w_60
    obtain rfl : r_59 = (-1000001) := hr_59.trans (by decide)
    exact hRet (c51, c52, c53, c54, c55, c56, c57, scb_61, c50) [16, 0, 1, 2, 17, 3, 15, 4, 5, 6, 7, 8, 9, 10, 11, 12, 13, 14] pre0 hP hD (by decide) rfl hS rfl dX10_workIs_19
theorem dX10_rate_0 : decode cX10_rate 0 = .ok (.iload_n 1, 1) := by decide +kernel
theorem dX10_rate_1 : decode cX10_rate 1 = .ok (.invokestatic 262, 3) := by decide +kernel
theorem dX10_rate_4 : decode cX10_rate 4 = .ok (.ifCond .eq 10, 3) := by decide +kernel
theorem dX10_rate_7 : decode cX10_rate 7 = .ok (.iload_n 2, 1) := by decide +kernel
theorem dX10_rate_8 : decode cX10_rate 8 = .ok (.invokestatic 265, 3) := by decide +kernel
theorem dX10_rate_11 : decode cX10_rate 11 = .ok (.ifCond .ne 9, 3) := by decide +kernel
theorem dX10_rate_14 : decode cX10_rate 14 = .ok (.aload_n 0, 1) := by decide +kernel
theorem dX10_rate_15 : decode cX10_rate 15 = .ok (.iconst 1, 1) := by decide +kernel
theorem dX10_rate_16 : decode cX10_rate 16 = .ok (.invokevirtual 82, 3) := by decide +kernel
theorem dX10_rate_19 : decode cX10_rate 19 = .ok (.ireturn, 1) := by decide +kernel
theorem dX10_rate_20 : decode cX10_rate 20 = .ok (.aload_n 0, 1) := by decide +kernel
theorem dX10_rate_21 : decode cX10_rate 21 = .ok (.getfield 25, 3) := by decide +kernel
theorem dX10_rate_24 : decode cX10_rate 24 = .ok (.invokevirtual 268, 3) := by decide +kernel
theorem dX10_rate_27 : decode cX10_rate 27 = .ok (.ifCond .ne 9, 3) := by decide +kernel
theorem dX10_rate_30 : decode cX10_rate 30 = .ok (.aload_n 0, 1) := by decide +kernel
theorem dX10_rate_31 : decode cX10_rate 31 = .ok (.iconst 4, 1) := by decide +kernel
theorem dX10_rate_32 : decode cX10_rate 32 = .ok (.invokevirtual 82, 3) := by decide +kernel
theorem dX10_rate_35 : decode cX10_rate 35 = .ok (.ireturn, 1) := by decide +kernel
theorem dX10_rate_36 : decode cX10_rate 36 = .ok (.aload_n 0, 1) := by decide +kernel
theorem dX10_rate_37 : decode cX10_rate 37 = .ok (.getfield 35, 3) := by decide +kernel
theorem dX10_rate_40 : decode cX10_rate 40 = .ok (.aload_n 0, 1) := by decide +kernel
theorem dX10_rate_41 : decode cX10_rate 41 = .ok (.getfield 25, 3) := by decide +kernel
theorem dX10_rate_44 : decode cX10_rate 44 = .ok (.getfield 269, 3) := by decide +kernel
theorem dX10_rate_47 : decode cX10_rate 47 = .ok (.iconst 0, 1) := by decide +kernel
theorem dX10_rate_48 : decode cX10_rate 48 = .ok (.aload_n 0, 1) := by decide +kernel
theorem dX10_rate_49 : decode cX10_rate 49 = .ok (.getfield 25, 3) := by decide +kernel
theorem dX10_rate_52 : decode cX10_rate 52 = .ok (.getfield 255, 3) := by decide +kernel
theorem dX10_rate_55 : decode cX10_rate 55 = .ok (.invokevirtual 272, 3) := by decide +kernel
theorem dX10_rate_58 : decode cX10_rate 58 = .ok (.aload_n 0, 1) := by decide +kernel
theorem dX10_rate_59 : decode cX10_rate 59 = .ok (.getfield 35, 3) := by decide +kernel
theorem dX10_rate_62 : decode cX10_rate 62 = .ok (.iload_n 1, 1) := by decide +kernel
theorem dX10_rate_63 : decode cX10_rate 63 = .ok (.iconst 0, 1) := by decide +kernel
theorem dX10_rate_64 : decode cX10_rate 64 = .ok (.iconst 0, 1) := by decide +kernel
theorem dX10_rate_65 : decode cX10_rate 65 = .ok (.iconst 0, 1) := by decide +kernel
theorem dX10_rate_66 : decode cX10_rate 66 = .ok (.invokevirtual 276, 3) := by decide +kernel
theorem dX10_rate_69 : decode cX10_rate 69 = .ok (.pop, 1) := by decide +kernel
theorem dX10_rate_70 : decode cX10_rate 70 = .ok (.aload_n 0, 1) := by decide +kernel
theorem dX10_rate_71 : decode cX10_rate 71 = .ok (.getfield 35, 3) := by decide +kernel
theorem dX10_rate_74 : decode cX10_rate 74 = .ok (.invokevirtual 279, 3) := by decide +kernel
theorem dX10_rate_77 : decode cX10_rate 77 = .ok (.istore_n 3, 1) := by decide +kernel
theorem dX10_rate_78 : decode cX10_rate 78 = .ok (.iload_n 3, 1) := by decide +kernel
theorem dX10_rate_79 : decode cX10_rate 79 = .ok (.ifCond .lt 16, 3) := by decide +kernel
theorem dX10_rate_82 : decode cX10_rate 82 = .ok (.aload_n 0, 1) := by decide +kernel
theorem dX10_rate_83 : decode cX10_rate 83 = .ok (.getfield 25, 3) := by decide +kernel
theorem dX10_rate_86 : decode cX10_rate 86 = .ok (.iconst 0, 1) := by decide +kernel
theorem dX10_rate_87 : decode cX10_rate 87 = .ok (.putfield 255, 3) := by decide +kernel
theorem dX10_rate_90 : decode cX10_rate 90 = .ok (.bipush (-10), 2) := by decide +kernel
theorem dX10_rate_92 : decode cX10_rate 92 = .ok (.iload_n 3, 1) := by decide +kernel
theorem dX10_rate_93 : decode cX10_rate 93 = .ok (.isub, 1) := by decide +kernel
theorem dX10_rate_94 : decode cX10_rate 94 = .ok (.ireturn, 1) := by decide +kernel
theorem dX10_rate_95 : decode cX10_rate 95 = .ok (.aload_n 0, 1) := by decide +kernel
theorem dX10_rate_96 : decode cX10_rate 96 = .ok (.getfield 25, 3) := by decide +kernel
theorem dX10_rate_99 : decode cX10_rate 99 = .ok (.iload_n 1, 1) := by decide +kernel
theorem dX10_rate_100 : decode cX10_rate 100 = .ok (.iload_n 2, 1) := by decide +kernel
theorem dX10_rate_101 : decode cX10_rate 101 = .ok (.invokevirtual 282, 3) := by decide +kernel
theorem dX10_rate_104 : decode cX10_rate 104 = .ok (.ireturn, 1) := by decide +kernel
set_option maxHeartbeats 4000000 in
set_option maxRecDepth 100000 in
theorem c_X10_rateG (l : Launch) (D : va_G) (cI : ClassId) (aK aV : Nat → Nat) (k k0 k1 k2 k3 k4 k5 k6 k7 k8 k9 ka kb k30 k31 k32 k33 k34 k50 : Nat) (sz : Nat) (cc : Int32) (c35 : Int32) (c36 : Int32) (c51 : Int32) (c52 : Int32) (c53 : Int32) (c54 : Int32) (c55 : Int32) (c56 : Int32) (c57 : Int32) (cb : Nat → Int32) (c30 : Nat → Int32) (c31 : Nat → Int32) (c32 : Nat → Int32) (c33 : Nat → Int32) (c34 : Nat → Int32) (c50 : Nat → Int32) (a0 : Int32) (a1 : Int32) (pre0 : BYT c50 0) (pre1 : BYN 50 c30) (pre2 : 0 ≤ c35.toInt) (pre3 : c35.toInt ≤ 50) (pre4 : 0 ≤ c36.toInt) (pre5 : c36.toInt ≤ 12) : Met l yX10_rate (gW yX10_rate cX10_rate 4 (some .int)) ({ frames := 94, cells := 0, slots := 0, locals := 5937 } : Room) (kPreX D cI aK aV [.ref k, .int a0, .int a1] [(k, .inr (10, [.ref k0, .ref k1, .ref k2, .ref k3, .ref k4, .ref k5, .ref k6, .ref k7, .ref k8, .ref k9, .ref ka, .ref kb, .int cc])), (k3, .inr (4, [.ref k30, .ref k31, .ref k32, .ref k33, .ref k34, .int c35, .int c36])), (k5, .inr (5, [.ref k50, .int c51, .int c52, .int c53, .int c54, .int c55, .int c56, .int c57])), (kb, .inl (cI, 6, .inl cb)), (k30, .inl (cI, 50, .inl c30)), (k31, .inl (cI, 600, .inl c31)), (k32, .inl (cI, 12, .inl c32)), (k33, .inl (cI, 12, .inl c33)), (k34, .inl (cI, 12, .inl c34)), (k50, .inl (cI, 50, .inl c50))] sz) (va_Qi (fun (r : Int32) (u : Int32 × Int32 × Int32 × Int32 × Int32 × Int32 × Int32 × Int32 × Int32 × (Nat → Int32) × (Nat → Int32) × (Nat → Int32) × (Nat → Int32) × (Nat → Int32) × (Nat → Int32)) => RTR (tG c30 0 c35) c35 c36 a0 a1 r u.1 u.2.1 ∧ BYT u.2.2.2.2.2.2.2.2.2.2.2.2.2.2 0 ∧ u.2.2.2.2.2.2.2.2.2.2.2.2.1 = rtU c33 c36 u.2.1 a0 ∧ u.2.2.2.2.2.2.2.2.2.2.2.2.2.1 = rtU c34 c36 u.2.1 a1 ∧ u.2.2.2.2.2.2.2.2.2.2.2.1 = rtU c32 c36 u.2.1 c35 ∧ u.2.2.2.2.2.2.2.2.2.2.1 = rtT c31 c30 c36 u.2.1) (fun u t => kWd D cI (va_A [(k, .inr (10, [.ref k0, .ref k1, .ref k2, .ref k3, .ref k4, .ref k5, .ref k6, .ref k7, .ref k8, .ref k9, .ref ka, .ref kb, .int cc])), (k3, .inr (4, [.ref k30, .ref k31, .ref k32, .ref k33, .ref k34, .int c35, .int c36])), (k5, .inr (5, [.ref k50, .int c51, .int c52, .int c53, .int c54, .int c55, .int c56, .int c57])), (kb, .inl (cI, 6, .inl cb)), (k30, .inl (cI, 50, .inl c30)), (k31, .inl (cI, 600, .inl c31)), (k32, .inl (cI, 12, .inl c32)), (k33, .inl (cI, 12, .inl c33)), (k34, .inl (cI, 12, .inl c34)), (k50, .inl (cI, 50, .inl c50))] sz) [(k, .inr (10, [.ref k0, .ref k1, .ref k2, .ref k3, .ref k4, .ref k5, .ref k6, .ref k7, .ref k8, .ref k9, .ref ka, .ref kb, .int cc])), (k3, .inr (4, [.ref k30, .ref k31, .ref k32, .ref k33, .ref k34, .int u.1, .int u.2.1])), (k5, .inr (5, [.ref k50, .int u.2.2.1, .int u.2.2.2.1, .int u.2.2.2.2.1, .int u.2.2.2.2.2.1, .int u.2.2.2.2.2.2.1, .int u.2.2.2.2.2.2.2.1, .int u.2.2.2.2.2.2.2.2.1])), (kb, .inl (cI, 6, .inl u.2.2.2.2.2.2.2.2.2.1)), (k30, .inl (cI, 50, .inl c30)), (k31, .inl (cI, 600, .inl u.2.2.2.2.2.2.2.2.2.2.1)), (k32, .inl (cI, 12, .inl u.2.2.2.2.2.2.2.2.2.2.2.1)), (k33, .inl (cI, 12, .inl u.2.2.2.2.2.2.2.2.2.2.2.2.1)), (k34, .inl (cI, 12, .inl u.2.2.2.2.2.2.2.2.2.2.2.2.2.1)), (k50, .inl (cI, 50, .inl u.2.2.2.2.2.2.2.2.2.2.2.2.2.2))] t) (va_A [(k, .inr (10, [.ref k0, .ref k1, .ref k2, .ref k3, .ref k4, .ref k5, .ref k6, .ref k7, .ref k8, .ref k9, .ref ka, .ref kb, .int cc])), (k3, .inr (4, [.ref k30, .ref k31, .ref k32, .ref k33, .ref k34, .int c35, .int c36])), (k5, .inr (5, [.ref k50, .int c51, .int c52, .int c53, .int c54, .int c55, .int c56, .int c57])), (kb, .inl (cI, 6, .inl cb)), (k30, .inl (cI, 50, .inl c30)), (k31, .inl (cI, 600, .inl c31)), (k32, .inl (cI, 12, .inl c32)), (k33, .inl (cI, 12, .inl c33)), (k34, .inl (cI, 12, .inl c34)), (k50, .inl (cI, 50, .inl c50))] sz)) 0 0 (va_A [(k, .inr (10, [.ref k0, .ref k1, .ref k2, .ref k3, .ref k4, .ref k5, .ref k6, .ref k7, .ref k8, .ref k9, .ref ka, .ref kb, .int cc])), (k3, .inr (4, [.ref k30, .ref k31, .ref k32, .ref k33, .ref k34, .int c35, .int c36])), (k5, .inr (5, [.ref k50, .int c51, .int c52, .int c53, .int c54, .int c55, .int c56, .int c57])), (kb, .inl (cI, 6, .inl cb)), (k30, .inl (cI, 50, .inl c30)), (k31, .inl (cI, 600, .inl c31)), (k32, .inl (cI, 12, .inl c32)), (k33, .inl (cI, 12, .inl c33)), (k34, .inl (cI, 12, .inl c34)), (k50, .inl (cI, 50, .inl c50))] sz) := by
  refine kMetIX (own := RX10) (by decide) rfl (Nat.le_of_ble_eq_true rfl) ?_
  intro p e s m args below meth c hx hb hT hown hname hml A Q hK hP hD hS hA hN hXS hRet ls hl
  have hl : lv_has ls 4 [(0, .ref k), (1, .int a0), (2, .int a1)] := hl
  have lo_a0 := k_lo a0
  have hi_a0 := k_hi a0
  have lo_a1 := k_lo a1
  have hi_a1 := k_hi a1
  have lo_c35 := k_lo c35
  have hi_c35 := k_hi c35
  have lo_c36 := k_lo c36
  have hi_c36 := k_hi c36
  have pre0 : BYT c50 0 := pre0
  have pre1 : BYN 50 c30 := pre1
  refine lv_iload_n hx hb dX10_rate_0 rfl (lv_at hl 1 rfl) ?_
  refine kJi (wr := [(k, .inr (10, [.ref k0, .ref k1, .ref k2, .ref k3, .ref k4, .ref k5, .ref k6, .ref k7, .ref k8, .ref k9, .ref ka, .ref kb, .int cc])), (k3, .inr (4, [.ref k30, .ref k31, .ref k32, .ref k33, .ref k34, .int c35, .int c36])), (k5, .inr (5, [.ref k50, .int c51, .int c52, .int c53, .int c54, .int c55, .int c56, .int c57])), (kb, .inl (cI, 6, .inl cb)), (k30, .inl (cI, 50, .inl c30)), (k31, .inl (cI, 600, .inl c31)), (k32, .inl (cI, 12, .inl c32)), (k33, .inl (cI, 12, .inl c33)), (k34, .inl (cI, 12, .inl c34)), (k50, .inl (cI, 50, .inl c50))]) (va_runS (As := [.int a0]) (rest := []) ⟨hx, hb, hml, hown, hT⟩ (c_X10_isUseG l D cI aK aV s.heap.size a0) (cwS 1 hT (gS_in mw_846 mw_844 mw_845 mw_1) rfl rfl rfl (by decide +kernel) ⟨Nat.le_of_ble_eq_true rfl, Nat.le_of_ble_eq_true rfl⟩) (kStatX hK hP hD hN hXS hS hA [] rfl (by decide)) rfl rfl hl.1 rfl (lv_room (Nat.le_of_ble_eq_true rfl)) dX10_rate_1 ⟨Nat.le_of_ble_eq_true rfl, Nat.le_of_ble_eq_true rfl⟩) hP hD hS hA [] [0, 1, 2, 3, 4, 5, 6, 7, 8, 9] rfl rfl (by decide) (by decide) ?_
  clear hP hD hS
  intro r_1 u_3 H locs w_2 hP hD hS
  replace hP : va_P D vwCl [(k, .inr (10, [.ref k0, .ref k1, .ref k2, .ref k3, .ref k4, .ref k5, .ref k6, .ref k7, .ref k8, .ref k9, .ref ka, .ref kb, .int cc])), (k3, .inr (4, [.ref k30, .ref k31, .ref k32, .ref k33, .ref k34, .int c35, .int c36])), (k5, .inr (5, [.ref k50, .int c51, .int c52, .int c53, .int c54, .int c55, .int c56, .int c57])), (kb, .inl (cI, 6, .inl cb)), (k30, .inl (cI, 50, .inl c30)), (k31, .inl (cI, 600, .inl c31)), (k32, .inl (cI, 12, .inl c32)), (k33, .inl (cI, 12, .inl c33)), (k34, .inl (cI, 12, .inl c34)), (k50, .inl (cI, 50, .inl c50))] H := hP
  replace hD : va_D A [(k, .inr (10, [.ref k0, .ref k1, .ref k2, .ref k3, .ref k4, .ref k5, .ref k6, .ref k7, .ref k8, .ref k9, .ref ka, .ref kb, .int cc])), (k3, .inr (4, [.ref k30, .ref k31, .ref k32, .ref k33, .ref k34, .int c35, .int c36])), (k5, .inr (5, [.ref k50, .int c51, .int c52, .int c53, .int c54, .int c55, .int c56, .int c57])), (kb, .inl (cI, 6, .inl cb)), (k30, .inl (cI, 50, .inl c30)), (k31, .inl (cI, 600, .inl c31)), (k32, .inl (cI, 12, .inl c32)), (k33, .inl (cI, 12, .inl c33)), (k34, .inl (cI, 12, .inl c34)), (k50, .inl (cI, 50, .inl c50))] := hD
  rcases w_2 with ⟨hr_1, h_4, h_5⟩ | ⟨hr_1, h_6⟩
  · have h_4 : 0 ≤ a0.toInt := h_4
    have h_5 : a0.toInt ≤ 2 := h_5
    obtain rfl : r_1 = 1 := hr_1.trans (by decide)
    refine b_if_eq hx hb zl_1 (tgt := 14) dX10_rate_4 (by decide) (fun c_7 => by exfalso; omega) (fun c_7 => ?_)
    refine lv_iload_n hx hb dX10_rate_7 rfl (lv_at hl 2 rfl) ?_
    refine kJi (wr := [(k, .inr (10, [.ref k0, .ref k1, .ref k2, .ref k3, .ref k4, .ref k5, .ref k6, .ref k7, .ref k8, .ref k9, .ref ka, .ref kb, .int cc])), (k3, .inr (4, [.ref k30, .ref k31, .ref k32, .ref k33, .ref k34, .int c35, .int c36])), (k5, .inr (5, [.ref k50, .int c51, .int c52, .int c53, .int c54, .int c55, .int c56, .int c57])), (kb, .inl (cI, 6, .inl cb)), (k30, .inl (cI, 50, .inl c30)), (k31, .inl (cI, 600, .inl c31)), (k32, .inl (cI, 12, .inl c32)), (k33, .inl (cI, 12, .inl c33)), (k34, .inl (cI, 12, .inl c34)), (k50, .inl (cI, 50, .inl c50))]) (va_runS (As := [.int a1]) (rest := []) ⟨hx, hb, hml, hown, hT⟩ (c_X10_isDayG l D cI aK aV H.size a1) (cwS 1 hT (gS_in mw_849 mw_847 mw_848 mw_1) rfl rfl rfl (by decide +kernel) ⟨Nat.le_of_ble_eq_true rfl, Nat.le_of_ble_eq_true rfl⟩) (kStatX hK hP hD hN hXS hS hA [] rfl (by decide)) rfl rfl hl.1 rfl (lv_room (Nat.le_of_ble_eq_true rfl)) dX10_rate_8 ⟨Nat.le_of_ble_eq_true rfl, Nat.le_of_ble_eq_true rfl⟩) hP hD hS hA [] [0, 1, 2, 3, 4, 5, 6, 7, 8, 9] rfl rfl (by decide) (by decide) ?_
    clear hP hD hS
    intro r_8 u_10 H locs w_9 hP hD hS
    replace hP : va_P D vwCl [(k, .inr (10, [.ref k0, .ref k1, .ref k2, .ref k3, .ref k4, .ref k5, .ref k6, .ref k7, .ref k8, .ref k9, .ref ka, .ref kb, .int cc])), (k3, .inr (4, [.ref k30, .ref k31, .ref k32, .ref k33, .ref k34, .int c35, .int c36])), (k5, .inr (5, [.ref k50, .int c51, .int c52, .int c53, .int c54, .int c55, .int c56, .int c57])), (kb, .inl (cI, 6, .inl cb)), (k30, .inl (cI, 50, .inl c30)), (k31, .inl (cI, 600, .inl c31)), (k32, .inl (cI, 12, .inl c32)), (k33, .inl (cI, 12, .inl c33)), (k34, .inl (cI, 12, .inl c34)), (k50, .inl (cI, 50, .inl c50))] H := hP
    replace hD : va_D A [(k, .inr (10, [.ref k0, .ref k1, .ref k2, .ref k3, .ref k4, .ref k5, .ref k6, .ref k7, .ref k8, .ref k9, .ref ka, .ref kb, .int cc])), (k3, .inr (4, [.ref k30, .ref k31, .ref k32, .ref k33, .ref k34, .int c35, .int c36])), (k5, .inr (5, [.ref k50, .int c51, .int c52, .int c53, .int c54, .int c55, .int c56, .int c57])), (kb, .inl (cI, 6, .inl cb)), (k30, .inl (cI, 50, .inl c30)), (k31, .inl (cI, 600, .inl c31)), (k32, .inl (cI, 12, .inl c32)), (k33, .inl (cI, 12, .inl c33)), (k34, .inl (cI, 12, .inl c34)), (k50, .inl (cI, 50, .inl c50))] := hD
    rcases w_9 with ⟨hr_8, h_11, h_12⟩ | ⟨hr_8, h_13⟩
    · have h_11 : 0 ≤ a1.toInt := h_11
      have h_12 : a1.toInt ≤ 2000 := h_12
      obtain rfl : r_8 = 1 := hr_8.trans (by decide)
      refine b_if_ne hx hb zl_1 (tgt := 20) dX10_rate_11 (by decide) (fun c_14 => ?_) (fun c_14 => by exfalso; omega)
      refine lv_aload_n hx hb dX10_rate_20 rfl (lv_at hl 0 rfl) ?_
      refine va_get (D := D) (ci := 10) (v := .ref k3) (C := RX10) (T := TX10) (N := 13) hx hb hT giX10 hown hK hP 0 rfl rfl 3 (by decide) (hT (Cond.fieldLink RX10 25 "DesertWire" "rates" "LDesertWire$Rates;") mw_294) (fun _ h9 => h9) rfl dX10_rate_21 ?_
      refine kJi (wr := [(k, .inr (10, [.ref k0, .ref k1, .ref k2, .ref k3, .ref k4, .ref k5, .ref k6, .ref k7, .ref k8, .ref k9, .ref ka, .ref kb, .int cc])), (k5, .inr (5, [.ref k50, .int c51, .int c52, .int c53, .int c54, .int c55, .int c56, .int c57])), (kb, .inl (cI, 6, .inl cb)), (k30, .inl (cI, 50, .inl c30)), (k31, .inl (cI, 600, .inl c31)), (k32, .inl (cI, 12, .inl c32)), (k33, .inl (cI, 12, .inl c33)), (k34, .inl (cI, 12, .inl c34)), (k50, .inl (cI, 50, .inl c50))]) (va_runV (As := []) (rest := []) ⟨hx, hb, hml, hown, hT⟩ (c_X4_hasRoomG l D cI aK aV k3 k30 k31 k32 k33 k34 H.size c35 c36) (cwV 0 hT (gV_in mw_853 mw_850 mw_851 mw_852 mw_5) rfl rfl rfl (by decide +kernel) ⟨Nat.le_of_ble_eq_true rfl, Nat.le_of_ble_eq_true rfl⟩) (kRecvX (q0 := 1) (ci := 4) hK hP hD hN hXS hS hA rfl rfl [1] rfl (by decide)) rfl rfl hl.1 rfl (lv_room (Nat.le_of_ble_eq_true rfl)) dX10_rate_24 ⟨Nat.le_of_ble_eq_true rfl, Nat.le_of_ble_eq_true rfl⟩) hP hD hS hA [1] [0, 2, 3, 4, 5, 6, 7, 8, 9] rfl rfl (by decide) (by decide) ?_
      clear hP hD hS
      intro r_15 u_17 H locs w_16 hP hD hS
      replace hP : va_P D vwCl [(k, .inr (10, [.ref k0, .ref k1, .ref k2, .ref k3, .ref k4, .ref k5, .ref k6, .ref k7, .ref k8, .ref k9, .ref ka, .ref kb, .int cc])), (k5, .inr (5, [.ref k50, .int c51, .int c52, .int c53, .int c54, .int c55, .int c56, .int c57])), (kb, .inl (cI, 6, .inl cb)), (k30, .inl (cI, 50, .inl c30)), (k31, .inl (cI, 600, .inl c31)), (k32, .inl (cI, 12, .inl c32)), (k33, .inl (cI, 12, .inl c33)), (k34, .inl (cI, 12, .inl c34)), (k50, .inl (cI, 50, .inl c50)), (k3, .inr (4, [.ref k30, .ref k31, .ref k32, .ref k33, .ref k34, .int c35, .int c36]))] H := hP
      replace hD : va_D A [(k, .inr (10, [.ref k0, .ref k1, .ref k2, .ref k3, .ref k4, .ref k5, .ref k6, .ref k7, .ref k8, .ref k9, .ref ka, .ref kb, .int cc])), (k5, .inr (5, [.ref k50, .int c51, .int c52, .int c53, .int c54, .int c55, .int c56, .int c57])), (kb, .inl (cI, 6, .inl cb)), (k30, .inl (cI, 50, .inl c30)), (k31, .inl (cI, 600, .inl c31)), (k32, .inl (cI, 12, .inl c32)), (k33, .inl (cI, 12, .inl c33)), (k34, .inl (cI, 12, .inl c34)), (k50, .inl (cI, 50, .inl c50)), (k3, .inr (4, [.ref k30, .ref k31, .ref k32, .ref k33, .ref k34, .int c35, .int c36]))] := hD
      rcases w_16 with ⟨hr_15, h_18, h_19⟩ | ⟨hr_15, h_20⟩
      · have h_18 : 0 ≤ c36.toInt := h_18
        have h_19 : c36.toInt < 12 := h_19
        obtain rfl : r_15 = 1 := hr_15.trans (by decide)
        refine b_if_ne hx hb zl_1 (tgt := 36) dX10_rate_27 (by decide) (fun c_21 => ?_) (fun c_21 => by exfalso; omega)
        refine lv_aload_n hx hb dX10_rate_36 rfl (lv_at hl 0 rfl) ?_
        refine va_get (D := D) (ci := 10) (v := .ref k5) (C := RX10) (T := TX10) (N := 13) hx hb hT giX10 hown hK hP 0 rfl rfl 5 (by decide) (hT (Cond.fieldLink RX10 35 "DesertWire" "reader" "LDesertWire$Reader;") mw_296) (fun _ h9 => h9) rfl dX10_rate_37 ?_
        refine lv_aload_n hx hb dX10_rate_40 rfl (lv_at hl 0 rfl) ?_
        refine va_get (D := D) (ci := 10) (v := .ref k3) (C := RX10) (T := TX10) (N := 13) hx hb hT giX10 hown hK hP 0 rfl rfl 3 (by decide) (hT (Cond.fieldLink RX10 25 "DesertWire" "rates" "LDesertWire$Rates;") mw_294) (fun _ h9 => h9) rfl dX10_rate_41 ?_
        refine va_get (D := D) (ci := 4) (v := .ref k30) (C := RX4) (T := TX4) (N := 7) hx hb hT giX4 hown hK hP 9 rfl rfl 0 (by decide) (hT (Cond.fieldLink RX10 269 "DesertWire$Rates" "tape" "[I") mw_137) (fun _ h9 => h9) rfl dX10_rate_44 ?_
        refine lv_iconst (v := 0) hx hb dX10_rate_47 (by decide) ?_
        refine lv_aload_n hx hb dX10_rate_48 rfl (lv_at hl 0 rfl) ?_
        refine va_get (D := D) (ci := 10) (v := .ref k3) (C := RX10) (T := TX10) (N := 13) hx hb hT giX10 hown hK hP 0 rfl rfl 3 (by decide) (hT (Cond.fieldLink RX10 25 "DesertWire" "rates" "LDesertWire$Rates;") mw_294) (fun _ h9 => h9) rfl dX10_rate_49 ?_
        refine va_get (D := D) (ci := 4) (v := .int c35) (C := RX4) (T := TX4) (N := 7) hx hb hT giX4 hown hK hP 9 rfl rfl 5 (by decide) (hT (Cond.fieldLink RX10 255 "DesertWire$Rates" "taped" "I") mw_144) (fun _ h9 => h9) rfl dX10_rate_52 ?_
        refine kJv (wr := [(k, .inr (10, [.ref k0, .ref k1, .ref k2, .ref k3, .ref k4, .ref k5, .ref k6, .ref k7, .ref k8, .ref k9, .ref ka, .ref kb, .int cc])), (kb, .inl (cI, 6, .inl cb)), (k31, .inl (cI, 600, .inl c31)), (k32, .inl (cI, 12, .inl c32)), (k33, .inl (cI, 12, .inl c33)), (k34, .inl (cI, 12, .inl c34)), (k3, .inr (4, [.ref k30, .ref k31, .ref k32, .ref k33, .ref k34, .int c35, .int c36]))]) (va_runV (As := [.ref k30, .int 0, .int c35]) (rest := []) ⟨hx, hb, hml, hown, hT⟩ (c_X5_openG50 l D cI aK aV k5 k30 k50 H.size c51 c52 c53 c54 c55 c56 c57 c50 c30 0 c35 (by first | omega | (simp only [zl_0]; first | done | omega) | decide | assumption | rfl) (by first | omega | (simp only [zl_0]; first | done | omega) | decide | assumption | rfl) (by first | omega | (simp only [zl_0]; first | done | omega) | decide | assumption | rfl) (by first | omega | (simp only [zl_0]; first | done | omega) | decide | assumption | rfl) pre0 pre1) (cwV 3 hT (gV_in mw_452 mw_449 mw_450 mw_451 mw_6) rfl rfl rfl (by decide +kernel) ⟨Nat.le_of_ble_eq_true rfl, Nat.le_of_ble_eq_true rfl⟩) (kRecvX (q0 := 1) (ci := 5) hK hP hD hN hXS hS hA rfl rfl [1, 8, 3] rfl (by decide)) rfl rfl hl.1 rfl (lv_room (Nat.le_of_ble_eq_true rfl)) dX10_rate_55 ⟨Nat.le_of_ble_eq_true rfl, Nat.le_of_ble_eq_true rfl⟩) hP hD hS hA [1, 8, 3] [0, 2, 4, 5, 6, 7, 9] rfl rfl (by decide) (by decide) ?_
        clear hP hD hS
        intro u_26 H locs w_23 hP hD hS
        obtain ⟨sc1_24, sc0_25⟩ := u_26
        replace hP : va_P D vwCl [(k, .inr (10, [.ref k0, .ref k1, .ref k2, .ref k3, .ref k4, .ref k5, .ref k6, .ref k7, .ref k8, .ref k9, .ref ka, .ref kb, .int cc])), (kb, .inl (cI, 6, .inl cb)), (k31, .inl (cI, 600, .inl c31)), (k32, .inl (cI, 12, .inl c32)), (k33, .inl (cI, 12, .inl c33)), (k34, .inl (cI, 12, .inl c34)), (k3, .inr (4, [.ref k30, .ref k31, .ref k32, .ref k33, .ref k34, .int c35, .int c36])), (k5, .inr (5, [.ref k50, .int sc1_24, .int c52, .int c53, .int c54, .int c55, .int c56, .int c57])), (k50, .inl (cI, 50, .inl sc0_25)), (k30, .inl (cI, 50, .inl c30))] H := hP
        replace hD : va_D A [(k, .inr (10, [.ref k0, .ref k1, .ref k2, .ref k3, .ref k4, .ref k5, .ref k6, .ref k7, .ref k8, .ref k9, .ref ka, .ref kb, .int cc])), (kb, .inl (cI, 6, .inl cb)), (k31, .inl (cI, 600, .inl c31)), (k32, .inl (cI, 12, .inl c32)), (k33, .inl (cI, 12, .inl c33)), (k34, .inl (cI, 12, .inl c34)), (k3, .inr (4, [.ref k30, .ref k31, .ref k32, .ref k33, .ref k34, .int c35, .int c36])), (k5, .inr (5, [.ref k50, .int sc1_24, .int c52, .int c53, .int c54, .int c55, .int c56, .int c57])), (k50, .inl (cI, 50, .inl sc0_25)), (k30, .inl (cI, 50, .inl c30))] := hD
        have lo_sc1_24 := k_lo sc1_24
        have hi_sc1_24 := k_hi sc1_24
        obtain ⟨h_27, h_28, h_29⟩ := w_23
        try simp only [zl_0] at h_27
        have h_27 : sc1_24.toInt = c35.toInt := h_27
        try simp only [zl_0] at h_28
        have h_28 : ∀ j : Nat, (j : Int) < c35.toInt → sc0_25 j = c30 (((0 : Int)).toNat + j) := h_28
        have h_28 : ∀ j : Nat, (j : Int) < c35.toInt → sc0_25 j = c30 (((0 : Int)).toNat + j) := h_28
        try simp only [zl_0] at h_29
        have h_29 : BYT sc0_25 0 := h_29
        refine lv_aload_n hx hb dX10_rate_58 rfl (lv_at hl 0 rfl) ?_
        refine va_get (D := D) (ci := 10) (v := .ref k5) (C := RX10) (T := TX10) (N := 13) hx hb hT giX10 hown hK hP 0 rfl rfl 5 (by decide) (hT (Cond.fieldLink RX10 35 "DesertWire" "reader" "LDesertWire$Reader;") mw_296) (fun _ h9 => h9) rfl dX10_rate_59 ?_
        refine lv_iload_n hx hb dX10_rate_62 rfl (lv_at hl 1 rfl) ?_
        refine lv_iconst (v := 0) hx hb dX10_rate_63 (by decide) ?_
        refine lv_iconst (v := 0) hx hb dX10_rate_64 (by decide) ?_
        refine lv_iconst (v := 0) hx hb dX10_rate_65 (by decide) ?_
        refine kJi (wr := [(k, .inr (10, [.ref k0, .ref k1, .ref k2, .ref k3, .ref k4, .ref k5, .ref k6, .ref k7, .ref k8, .ref k9, .ref ka, .ref kb, .int cc])), (kb, .inl (cI, 6, .inl cb)), (k31, .inl (cI, 600, .inl c31)), (k32, .inl (cI, 12, .inl c32)), (k33, .inl (cI, 12, .inl c33)), (k34, .inl (cI, 12, .inl c34)), (k3, .inr (4, [.ref k30, .ref k31, .ref k32, .ref k33, .ref k34, .int c35, .int c36])), (k30, .inl (cI, 50, .inl c30))]) (va_runV (As := [.int a0, .int 0, .int 0, .int 0]) (rest := []) ⟨hx, hb, hml, hown, hT⟩ (c_X5_valueForG l D cI aK aV k5 k50 H.size sc1_24 c52 c53 c54 c55 c56 c57 sc0_25 a0 0 0 0 h_29 (by first | omega | (simp only [zl_0]; first | done | omega) | decide | assumption | rfl) (by first | omega | (simp only [zl_0]; first | done | omega) | decide | assumption | rfl)) (cwV 4 hT (gV_in mw_456 mw_453 mw_454 mw_455 mw_6) rfl rfl rfl (by decide +kernel) ⟨Nat.le_of_ble_eq_true rfl, Nat.le_of_ble_eq_true rfl⟩) (kRecvX (q0 := 7) (ci := 5) hK hP hD hN hXS hS hA rfl rfl [7, 8] rfl (by decide)) rfl rfl hl.1 rfl (lv_room (Nat.le_of_ble_eq_true rfl)) dX10_rate_66 ⟨Nat.le_of_ble_eq_true rfl, Nat.le_of_ble_eq_true rfl⟩) hP hD hS hA [7, 8] [0, 1, 2, 3, 4, 5, 6, 9] rfl rfl (by decide) (by decide) ?_
        clear hP hD hS
        intro r_30 u_38 H locs w_31 hP hD hS
        obtain ⟨sc2_32, sc3_33, sc4_34, sc5_35, sc6_36, sc7_37⟩ := u_38
        replace hP : va_P D vwCl [(k, .inr (10, [.ref k0, .ref k1, .ref k2, .ref k3, .ref k4, .ref k5, .ref k6, .ref k7, .ref k8, .ref k9, .ref ka, .ref kb, .int cc])), (kb, .inl (cI, 6, .inl cb)), (k31, .inl (cI, 600, .inl c31)), (k32, .inl (cI, 12, .inl c32)), (k33, .inl (cI, 12, .inl c33)), (k34, .inl (cI, 12, .inl c34)), (k3, .inr (4, [.ref k30, .ref k31, .ref k32, .ref k33, .ref k34, .int c35, .int c36])), (k30, .inl (cI, 50, .inl c30)), (k5, .inr (5, [.ref k50, .int sc1_24, .int sc2_32, .int sc3_33, .int sc4_34, .int sc5_35, .int sc6_36, .int sc7_37])), (k50, .inl (cI, 50, .inl sc0_25))] H := hP
        replace hD : va_D A [(k, .inr (10, [.ref k0, .ref k1, .ref k2, .ref k3, .ref k4, .ref k5, .ref k6, .ref k7, .ref k8, .ref k9, .ref ka, .ref kb, .int cc])), (kb, .inl (cI, 6, .inl cb)), (k31, .inl (cI, 600, .inl c31)), (k32, .inl (cI, 12, .inl c32)), (k33, .inl (cI, 12, .inl c33)), (k34, .inl (cI, 12, .inl c34)), (k3, .inr (4, [.ref k30, .ref k31, .ref k32, .ref k33, .ref k34, .int c35, .int c36])), (k30, .inl (cI, 50, .inl c30)), (k5, .inr (5, [.ref k50, .int sc1_24, .int sc2_32, .int sc3_33, .int sc4_34, .int sc5_35, .int sc6_36, .int sc7_37])), (k50, .inl (cI, 50, .inl sc0_25))] := hD
        have lo_sc2_32 := k_lo sc2_32
        have hi_sc2_32 := k_hi sc2_32
        have lo_sc3_33 := k_lo sc3_33
        have hi_sc3_33 := k_hi sc3_33
        obtain ⟨h_39, h_40, h_41⟩ := w_31
        try simp only [zl_0] at h_39
        have h_39 : TXF (tG sc0_25 0 sc1_24) sc1_24.toInt a0 0 0 0 r_30 sc2_32.toInt sc3_33 := h_39
        have h_39 : TXF (tG sc0_25 0 sc1_24) sc1_24.toInt a0 0 0 0 r_30 sc2_32.toInt sc3_33 := h_39
        try simp only [zl_0] at h_40
        have h_40 : 0 ≤ sc2_32.toInt := h_40
        try simp only [zl_0] at h_41
        have h_41 : sc2_32.toInt ≤ sc1_24.toInt := h_41
        have lo_r_30 := k_lo r_30
        have hi_r_30 := k_hi r_30
        refine lv_pop hx hb dX10_rate_69 rfl ?_
        refine lv_aload_n hx hb dX10_rate_70 rfl (lv_at hl 0 rfl) ?_
        refine va_get (D := D) (ci := 10) (v := .ref k5) (C := RX10) (T := TX10) (N := 13) hx hb hT giX10 hown hK hP 0 rfl rfl 5 (by decide) (hT (Cond.fieldLink RX10 35 "DesertWire" "reader" "LDesertWire$Reader;") mw_296) (fun _ h9 => h9) rfl dX10_rate_71 ?_
        refine kJi (wr := [(k, .inr (10, [.ref k0, .ref k1, .ref k2, .ref k3, .ref k4, .ref k5, .ref k6, .ref k7, .ref k8, .ref k9, .ref ka, .ref kb, .int cc])), (kb, .inl (cI, 6, .inl cb)), (k31, .inl (cI, 600, .inl c31)), (k32, .inl (cI, 12, .inl c32)), (k33, .inl (cI, 12, .inl c33)), (k34, .inl (cI, 12, .inl c34)), (k3, .inr (4, [.ref k30, .ref k31, .ref k32, .ref k33, .ref k34, .int c35, .int c36])), (k30, .inl (cI, 50, .inl c30)), (k50, .inl (cI, 50, .inl sc0_25))]) (va_runV (As := []) (rest := []) ⟨hx, hb, hml, hown, hT⟩ (c_X5_faultG l D cI aK aV k5 k50 H.size sc1_24 sc2_32 sc3_33 sc4_34 sc5_35 sc6_36 sc7_37) (cwV 0 hT (gV_in mw_857 mw_854 mw_855 mw_856 mw_6) rfl rfl rfl (by decide +kernel) ⟨Nat.le_of_ble_eq_true rfl, Nat.le_of_ble_eq_true rfl⟩) (kRecvX (q0 := 8) (ci := 5) hK hP hD hN hXS hS hA rfl rfl [8] rfl (by decide)) rfl rfl hl.1 rfl (lv_room (Nat.le_of_ble_eq_true rfl)) dX10_rate_74 ⟨Nat.le_of_ble_eq_true rfl, Nat.le_of_ble_eq_true rfl⟩) hP hD hS hA [8] [0, 1, 2, 3, 4, 5, 6, 7, 9] rfl rfl (by decide) (by decide) ?_
        clear hP hD hS
        intro r_42 u_44 H locs w_43 hP hD hS
        replace hP : va_P D vwCl [(k, .inr (10, [.ref k0, .ref k1, .ref k2, .ref k3, .ref k4, .ref k5, .ref k6, .ref k7, .ref k8, .ref k9, .ref ka, .ref kb, .int cc])), (kb, .inl (cI, 6, .inl cb)), (k31, .inl (cI, 600, .inl c31)), (k32, .inl (cI, 12, .inl c32)), (k33, .inl (cI, 12, .inl c33)), (k34, .inl (cI, 12, .inl c34)), (k3, .inr (4, [.ref k30, .ref k31, .ref k32, .ref k33, .ref k34, .int c35, .int c36])), (k30, .inl (cI, 50, .inl c30)), (k50, .inl (cI, 50, .inl sc0_25)), (k5, .inr (5, [.ref k50, .int sc1_24, .int sc2_32, .int sc3_33, .int sc4_34, .int sc5_35, .int sc6_36, .int sc7_37]))] H := hP
        replace hD : va_D A [(k, .inr (10, [.ref k0, .ref k1, .ref k2, .ref k3, .ref k4, .ref k5, .ref k6, .ref k7, .ref k8, .ref k9, .ref ka, .ref kb, .int cc])), (kb, .inl (cI, 6, .inl cb)), (k31, .inl (cI, 600, .inl c31)), (k32, .inl (cI, 12, .inl c32)), (k33, .inl (cI, 12, .inl c33)), (k34, .inl (cI, 12, .inl c34)), (k3, .inr (4, [.ref k30, .ref k31, .ref k32, .ref k33, .ref k34, .int c35, .int c36])), (k30, .inl (cI, 50, .inl c30)), (k50, .inl (cI, 50, .inl sc0_25)), (k5, .inr (5, [.ref k50, .int sc1_24, .int sc2_32, .int sc3_33, .int sc4_34, .int sc5_35, .int sc6_36, .int sc7_37]))] := hD
        rcases w_43 with ⟨hr_42, h_45⟩ | ⟨hr_42, h_46⟩
        · have h_45 : sc3_33.toInt ≠ 0 := h_45
          have hr_42 : r_42 = sc2_32 := hr_42
          subst r_42
          refine lv_istore_n (lv' := [(3, .int sc2_32), (0, .ref k), (1, .int a0), (2, .int a1)]) hx hb dX10_rate_77 rfl hl (by decide) rfl ?_
          clear hl
          intro ls hl
          refine lv_iload_n hx hb dX10_rate_78 rfl (lv_at hl 0 rfl) ?_
          refine b_if_lt hx hb rfl (tgt := 95) dX10_rate_79 (by decide) (fun c_47 => by exfalso; omega) (fun c_47 => ?_)
          refine lv_aload_n hx hb dX10_rate_82 rfl (lv_at hl 1 rfl) ?_
          refine va_get (D := D) (ci := 10) (v := .ref k3) (C := RX10) (T := TX10) (N := 13) hx hb hT giX10 hown hK hP 0 rfl rfl 3 (by decide) (hT (Cond.fieldLink RX10 25 "DesertWire" "rates" "LDesertWire$Rates;") mw_294) (fun _ h9 => h9) rfl dX10_rate_83 ?_
          refine lv_iconst (v := 0) hx hb dX10_rate_86 (by decide) ?_
          refine va_put (D := D) (ci := 4) (v := .int 0) (ty := .int) (C := RX4) (T := TX4) (N := 7) hx hb hT giX4 tyX4 tyX4_ok nmX4 hown hK hP hD hS 6 rfl rfl 5 (by decide) (hT (Cond.fieldLink RX10 255 "DesertWire$Rates" "taped" "I") mw_144) (fun _ h9 => h9) rfl (by decide +kernel) rfl rfl (Nat.le_of_ble_eq_true rfl) dX10_rate_87 ?_
          clear hP hD hS
          intro H locs hP hD hS
          replace hP : va_P D vwCl [(k, .inr (10, [.ref k0, .ref k1, .ref k2, .ref k3, .ref k4, .ref k5, .ref k6, .ref k7, .ref k8, .ref k9, .ref ka, .ref kb, .int cc])), (kb, .inl (cI, 6, .inl cb)), (k31, .inl (cI, 600, .inl c31)), (k32, .inl (cI, 12, .inl c32)), (k33, .inl (cI, 12, .inl c33)), (k34, .inl (cI, 12, .inl c34)), (k3, .inr (4, [.ref k30, .ref k31, .ref k32, .ref k33, .ref k34, .int 0, .int c36])), (k30, .inl (cI, 50, .inl c30)), (k50, .inl (cI, 50, .inl sc0_25)), (k5, .inr (5, [.ref k50, .int sc1_24, .int sc2_32, .int sc3_33, .int sc4_34, .int sc5_35, .int sc6_36, .int sc7_37]))] H := hP
          replace hD : va_D A [(k, .inr (10, [.ref k0, .ref k1, .ref k2, .ref k3, .ref k4, .ref k5, .ref k6, .ref k7, .ref k8, .ref k9, .ref ka, .ref kb, .int cc])), (kb, .inl (cI, 6, .inl cb)), (k31, .inl (cI, 600, .inl c31)), (k32, .inl (cI, 12, .inl c32)), (k33, .inl (cI, 12, .inl c33)), (k34, .inl (cI, 12, .inl c34)), (k3, .inr (4, [.ref k30, .ref k31, .ref k32, .ref k33, .ref k34, .int 0, .int c36])), (k30, .inl (cI, 50, .inl c30)), (k50, .inl (cI, 50, .inl sc0_25)), (k5, .inr (5, [.ref k50, .int sc1_24, .int sc2_32, .int sc3_33, .int sc4_34, .int sc5_35, .int sc6_36, .int sc7_37]))] := hD
          refine lv_bipush (v := (-10)) hx hb dX10_rate_90 (by decide) ?_
          refine lv_iload_n hx hb dX10_rate_92 rfl (lv_at hl 0 rfl) ?_
          refine lv_isub hx hb dX10_rate_93 ?_
          refine lv_topi (fun v_48 ev_48 => ?_)
          have tv_48 : v_48.toInt = (-10) - sc2_32.toInt := by rw [ev_48]; exact k_subv zl_m10 rfl (by omega) (by omega)
          exact hRet (0, c36, sc1_24, sc2_32, sc3_33, sc4_34, sc5_35, sc6_36, sc7_37, cb, c31, c32, c33, c34, sc0_25) [0, 6, 9, 1, 7, 2, 3, 4, 5, 8] ⟨(by (try dsimp only); exact (Or.inr (Or.inr ⟨⟨by omega, by omega, by omega, by omega⟩, by omega, r_30, sc2_32.toInt, sc3_33, (by have z : TXF (tG c30 0 c35) sc1_24.toInt a0 0 0 0 r_30 sc2_32.toInt sc3_33 := (h_39.byes (tG_eq (k_inj (by omega)) (fun j hj => by rw [Nat.zero_add, h_28 j (by omega)]; congr 1; omega))); rw [show sc1_24.toInt = c35.toInt from by omega] at z; exact z), by (try dsimp only); first | omega | exact zl_0, Or.inl ⟨by omega, by omega, by omega⟩⟩))), h_29, (by (try dsimp only); unfold rtU; rw [if_pos (by omega)]), (by (try dsimp only); unfold rtU; rw [if_pos (by omega)]), (by (try dsimp only); unfold rtU; rw [if_pos (by omega)]), (by (try dsimp only); unfold rtT; rw [if_pos (by omega)])⟩ hP hD (by decide) rfl hS rfl dX10_rate_94
        · have h_46 : sc3_33.toInt = 0 := h_46
          obtain rfl : r_42 = (-1) := hr_42.trans (by decide)
          refine lv_istore_n (lv' := [(3, .int (-1)), (0, .ref k), (1, .int a0), (2, .int a1)]) hx hb dX10_rate_77 rfl hl (by decide) rfl ?_
          clear hl
          intro ls hl
          refine lv_iload_n hx hb dX10_rate_78 rfl (lv_at hl 0 rfl) ?_
          refine b_if_lt hx hb zl_m1 (tgt := 95) dX10_rate_79 (by decide) (fun c_49 => ?_) (fun c_49 => by exfalso; omega)
          refine lv_aload_n hx hb dX10_rate_95 rfl (lv_at hl 1 rfl) ?_
          refine va_get (D := D) (ci := 10) (v := .ref k3) (C := RX10) (T := TX10) (N := 13) hx hb hT giX10 hown hK hP 0 rfl rfl 3 (by decide) (hT (Cond.fieldLink RX10 25 "DesertWire" "rates" "LDesertWire$Rates;") mw_294) (fun _ h9 => h9) rfl dX10_rate_96 ?_
          refine lv_iload_n hx hb dX10_rate_99 rfl (lv_at hl 2 rfl) ?_
          refine lv_iload_n hx hb dX10_rate_100 rfl (lv_at hl 3 rfl) ?_
          refine kJi (wr := [(k, .inr (10, [.ref k0, .ref k1, .ref k2, .ref k3, .ref k4, .ref k5, .ref k6, .ref k7, .ref k8, .ref k9, .ref ka, .ref kb, .int cc])), (kb, .inl (cI, 6, .inl cb)), (k50, .inl (cI, 50, .inl sc0_25)), (k5, .inr (5, [.ref k50, .int sc1_24, .int sc2_32, .int sc3_33, .int sc4_34, .int sc5_35, .int sc6_36, .int sc7_37]))]) (va_runV (As := [.int a0, .int a1]) (rest := []) ⟨hx, hb, hml, hown, hT⟩ (c_X4_keepTapeG l D cI aK aV k3 k30 k31 k32 k33 k34 H.size c35 c36 c30 c31 c32 c33 c34 a0 a1 (by first | omega | decide | assumption | rfl) (by first | omega | decide | assumption | rfl)) (cwV 2 hT (gV_in mw_861 mw_858 mw_859 mw_860 mw_5) rfl rfl rfl (by decide +kernel) ⟨Nat.le_of_ble_eq_true rfl, Nat.le_of_ble_eq_true rfl⟩) (kRecvX (q0 := 6) (ci := 4) hK hP hD hN hXS hS hA rfl rfl [6, 7, 2, 3, 4, 5] rfl (by decide)) rfl rfl hl.1 rfl (lv_room (Nat.le_of_ble_eq_true rfl)) dX10_rate_101 ⟨Nat.le_of_ble_eq_true rfl, Nat.le_of_ble_eq_true rfl⟩) hP hD hS hA [6, 7, 2, 3, 4, 5] [0, 1, 8, 9] rfl rfl (by decide) (by decide) ?_
          clear hP hD hS
          intro r_50 u_58 H locs w_51 hP hD hS
          obtain ⟨sc5_52, sc6_53, sc1_54, sc2_55, sc3_56, sc4_57⟩ := u_58
          replace hP : va_P D vwCl [(k, .inr (10, [.ref k0, .ref k1, .ref k2, .ref k3, .ref k4, .ref k5, .ref k6, .ref k7, .ref k8, .ref k9, .ref ka, .ref kb, .int cc])), (kb, .inl (cI, 6, .inl cb)), (k50, .inl (cI, 50, .inl sc0_25)), (k5, .inr (5, [.ref k50, .int sc1_24, .int sc2_32, .int sc3_33, .int sc4_34, .int sc5_35, .int sc6_36, .int sc7_37])), (k3, .inr (4, [.ref k30, .ref k31, .ref k32, .ref k33, .ref k34, .int sc5_52, .int sc6_53])), (k30, .inl (cI, 50, .inl c30)), (k31, .inl (cI, 600, .inl sc1_54)), (k32, .inl (cI, 12, .inl sc2_55)), (k33, .inl (cI, 12, .inl sc3_56)), (k34, .inl (cI, 12, .inl sc4_57))] H := hP
          replace hD : va_D A [(k, .inr (10, [.ref k0, .ref k1, .ref k2, .ref k3, .ref k4, .ref k5, .ref k6, .ref k7, .ref k8, .ref k9, .ref ka, .ref kb, .int cc])), (kb, .inl (cI, 6, .inl cb)), (k50, .inl (cI, 50, .inl sc0_25)), (k5, .inr (5, [.ref k50, .int sc1_24, .int sc2_32, .int sc3_33, .int sc4_34, .int sc5_35, .int sc6_36, .int sc7_37])), (k3, .inr (4, [.ref k30, .ref k31, .ref k32, .ref k33, .ref k34, .int sc5_52, .int sc6_53])), (k30, .inl (cI, 50, .inl c30)), (k31, .inl (cI, 600, .inl sc1_54)), (k32, .inl (cI, 12, .inl sc2_55)), (k33, .inl (cI, 12, .inl sc3_56)), (k34, .inl (cI, 12, .inl sc4_57))] := hD
          have lo_sc5_52 := k_lo sc5_52
          have hi_sc5_52 := k_hi sc5_52
          have lo_sc6_53 := k_lo sc6_53
          have hi_sc6_53 := k_hi sc6_53
          obtain ⟨h_59, h_60, h_61, h_62, h_63, h_64, h_65⟩ := w_51
          have h_59 : sc1_54 = va_cpy c30 c31 0 (50 * c36.toInt.toNat) 50 := h_59
          have h_59 : sc1_54 = va_cpy c30 c31 0 (50 * c36.toInt.toNat) 50 := h_59
          have h_60 : sc2_55 = upd c32 c36.toInt.toNat c35 := h_60
          have h_60 : sc2_55 = upd c32 c36.toInt.toNat c35 := h_60
          have h_61 : sc3_56 = upd c33 c36.toInt.toNat a0 := h_61
          have h_61 : sc3_56 = upd c33 c36.toInt.toNat a0 := h_61
          have h_62 : sc4_57 = upd c34 c36.toInt.toNat a1 := h_62
          have h_62 : sc4_57 = upd c34 c36.toInt.toNat a1 := h_62
          have h_63 : sc5_52.toInt = 0 := h_63
          have h_64 : sc6_53.toInt = c36.toInt + 1 := h_64
          have h_65 : r_50.toInt = c36.toInt := h_65
          have lo_r_50 := k_lo r_50
          have hi_r_50 := k_hi r_50
          exact hRet (sc5_52, sc6_53, sc1_24, sc2_32, sc3_33, sc4_34, sc5_35, sc6_36, sc7_37, cb, sc1_54, sc2_55, sc3_56, sc4_57, sc0_25) [0, 4, 3, 1, 5, 6, 7, 8, 9, 2] ⟨(by (try dsimp only); exact (Or.inr (Or.inr ⟨⟨by omega, by omega, by omega, by omega⟩, by omega, r_30, sc2_32.toInt, sc3_33, (by have z : TXF (tG c30 0 c35) sc1_24.toInt a0 0 0 0 r_30 sc2_32.toInt sc3_33 := (h_39.byes (tG_eq (k_inj (by omega)) (fun j hj => by rw [Nat.zero_add, h_28 j (by omega)]; congr 1; omega))); rw [show sc1_24.toInt = c35.toInt from by omega] at z; exact z), by (try dsimp only); first | omega | exact zl_0, Or.inr ⟨by omega, by omega, by omega⟩⟩))), h_29, (by (try dsimp only); unfold rtU; rw [if_neg (by omega)]; exact h_61), (by (try dsimp only); unfold rtU; rw [if_neg (by omega)]; exact h_62), (by (try dsimp only); unfold rtU; rw [if_neg (by omega)]; exact h_60), (by (try dsimp only); unfold rtT; rw [if_neg (by omega)]; exact h_59)⟩ hP hD (by decide) rfl hS rfl dX10_rate_104
      · have h_20 : c36.toInt < 0 ∨ 12 ≤ c36.toInt := h_20
        obtain rfl : r_15 = 0 := hr_15.trans (by decide)
        refine b_if_ne hx hb zl_0 (tgt := 36) dX10_rate_27 (by decide) (fun c_66 => by exfalso; omega) (fun c_66 => ?_)
        refine lv_aload_n hx hb dX10_rate_30 rfl (lv_at hl 0 rfl) ?_
        refine lv_iconst (v := 4) hx hb dX10_rate_31 (by decide) ?_
        refine kJi (wr := [(k5, .inr (5, [.ref k50, .int c51, .int c52, .int c53, .int c54, .int c55, .int c56, .int c57])), (k30, .inl (cI, 50, .inl c30)), (k31, .inl (cI, 600, .inl c31)), (k32, .inl (cI, 12, .inl c32)), (k33, .inl (cI, 12, .inl c33)), (k34, .inl (cI, 12, .inl c34)), (k50, .inl (cI, 50, .inl c50)), (k3, .inr (4, [.ref k30, .ref k31, .ref k32, .ref k33, .ref k34, .int c35, .int c36]))]) (va_runV (As := [.int 4]) (rest := []) ⟨hx, hb, hml, hown, hT⟩ (c_X10_findingG l D cI aK aV k k0 k1 k2 k3 k4 k5 k6 k7 k8 k9 ka kb H.size cc cb 4) (cwV 1 hT (gV_in mw_338 mw_335 mw_337 mw_p1_0 mw_1) rfl rfl rfl (by decide +kernel) ⟨Nat.le_of_ble_eq_true rfl, Nat.le_of_ble_eq_true rfl⟩) (kRecvX (q0 := 0) (ci := 10) hK hP hD hN hXS hS hA rfl rfl [0, 2] rfl (by decide)) rfl rfl hl.1 rfl (lv_room (Nat.le_of_ble_eq_true rfl)) dX10_rate_32 ⟨Nat.le_of_ble_eq_true rfl, Nat.le_of_ble_eq_true rfl⟩) hP hD hS hA [0, 2] [1, 3, 4, 5, 6, 7, 8, 9] rfl rfl (by decide) (by decide) ?_
        clear hP hD hS
        intro r_67 scb_69 H locs w_68 hP hD hS
        replace hP : va_P D vwCl [(k5, .inr (5, [.ref k50, .int c51, .int c52, .int c53, .int c54, .int c55, .int c56, .int c57])), (k30, .inl (cI, 50, .inl c30)), (k31, .inl (cI, 600, .inl c31)), (k32, .inl (cI, 12, .inl c32)), (k33, .inl (cI, 12, .inl c33)), (k34, .inl (cI, 12, .inl c34)), (k50, .inl (cI, 50, .inl c50)), (k3, .inr (4, [.ref k30, .ref k31, .ref k32, .ref k33, .ref k34, .int c35, .int c36])), (k, .inr (10, [.ref k0, .ref k1, .ref k2, .ref k3, .ref k4, .ref k5, .ref k6, .ref k7, .ref k8, .ref k9, .ref ka, .ref kb, .int cc])), (kb, .inl (cI, 6, .inl scb_69))] H := hP
        replace hD : va_D A [(k5, .inr (5, [.ref k50, .int c51, .int c52, .int c53, .int c54, .int c55, .int c56, .int c57])), (k30, .inl (cI, 50, .inl c30)), (k31, .inl (cI, 600, .inl c31)), (k32, .inl (cI, 12, .inl c32)), (k33, .inl (cI, 12, .inl c33)), (k34, .inl (cI, 12, .inl c34)), (k50, .inl (cI, 50, .inl c50)), (k3, .inr (4, [.ref k30, .ref k31, .ref k32, .ref k33, .ref k34, .int c35, .int c36])), (k, .inr (10, [.ref k0, .ref k1, .ref k2, .ref k3, .ref k4, .ref k5, .ref k6, .ref k7, .ref k8, .ref k9, .ref ka, .ref kb, .int cc])), (kb, .inl (cI, 6, .inl scb_69))] := hD
        have hr_67 := w_68
        obtain rfl : r_67 = (-1000004) := hr_67.trans (by decide)
        exact hRet (c35, c36, c51, c52, c53, c54, c55, c56, c57, scb_69, c31, c32, c33, c34, c50) [8, 7, 0, 9, 1, 2, 3, 4, 5, 6] ⟨(by (try dsimp only); exact (Or.inr (Or.inl ⟨⟨by omega, by omega, by omega, by omega⟩, by omega, zl_m1000004, rfl, rfl⟩))), pre0, (by (try dsimp only); unfold rtU; rw [if_pos (by omega)]), (by (try dsimp only); unfold rtU; rw [if_pos (by omega)]), (by (try dsimp only); unfold rtU; rw [if_pos (by omega)]), (by (try dsimp only); unfold rtT; rw [if_pos (by omega)])⟩ hP hD (by decide) rfl hS rfl dX10_rate_35
    · have h_13 : a1.toInt < 0 ∨ 2000 < a1.toInt := h_13
      obtain rfl : r_8 = 0 := hr_8.trans (by decide)
      refine b_if_ne hx hb zl_0 (tgt := 20) dX10_rate_11 (by decide) (fun c_70 => by exfalso; omega) (fun c_70 => ?_)
      refine lv_aload_n hx hb dX10_rate_14 rfl (lv_at hl 0 rfl) ?_
      refine lv_iconst (v := 1) hx hb dX10_rate_15 (by decide) ?_
      refine kJi (wr := [(k3, .inr (4, [.ref k30, .ref k31, .ref k32, .ref k33, .ref k34, .int c35, .int c36])), (k5, .inr (5, [.ref k50, .int c51, .int c52, .int c53, .int c54, .int c55, .int c56, .int c57])), (k30, .inl (cI, 50, .inl c30)), (k31, .inl (cI, 600, .inl c31)), (k32, .inl (cI, 12, .inl c32)), (k33, .inl (cI, 12, .inl c33)), (k34, .inl (cI, 12, .inl c34)), (k50, .inl (cI, 50, .inl c50))]) (va_runV (As := [.int 1]) (rest := []) ⟨hx, hb, hml, hown, hT⟩ (c_X10_findingG l D cI aK aV k k0 k1 k2 k3 k4 k5 k6 k7 k8 k9 ka kb H.size cc cb 1) (cwV 1 hT (gV_in mw_338 mw_335 mw_337 mw_p1_0 mw_1) rfl rfl rfl (by decide +kernel) ⟨Nat.le_of_ble_eq_true rfl, Nat.le_of_ble_eq_true rfl⟩) (kRecvX (q0 := 0) (ci := 10) hK hP hD hN hXS hS hA rfl rfl [0, 3] rfl (by decide)) rfl rfl hl.1 rfl (lv_room (Nat.le_of_ble_eq_true rfl)) dX10_rate_16 ⟨Nat.le_of_ble_eq_true rfl, Nat.le_of_ble_eq_true rfl⟩) hP hD hS hA [0, 3] [1, 2, 4, 5, 6, 7, 8, 9] rfl rfl (by decide) (by decide) ?_
      clear hP hD hS
      intro r_71 scb_73 H locs w_72 hP hD hS
      replace hP : va_P D vwCl [(k3, .inr (4, [.ref k30, .ref k31, .ref k32, .ref k33, .ref k34, .int c35, .int c36])), (k5, .inr (5, [.ref k50, .int c51, .int c52, .int c53, .int c54, .int c55, .int c56, .int c57])), (k30, .inl (cI, 50, .inl c30)), (k31, .inl (cI, 600, .inl c31)), (k32, .inl (cI, 12, .inl c32)), (k33, .inl (cI, 12, .inl c33)), (k34, .inl (cI, 12, .inl c34)), (k50, .inl (cI, 50, .inl c50)), (k, .inr (10, [.ref k0, .ref k1, .ref k2, .ref k3, .ref k4, .ref k5, .ref k6, .ref k7, .ref k8, .ref k9, .ref ka, .ref kb, .int cc])), (kb, .inl (cI, 6, .inl scb_73))] H := hP
      replace hD : va_D A [(k3, .inr (4, [.ref k30, .ref k31, .ref k32, .ref k33, .ref k34, .int c35, .int c36])), (k5, .inr (5, [.ref k50, .int c51, .int c52, .int c53, .int c54, .int c55, .int c56, .int c57])), (k30, .inl (cI, 50, .inl c30)), (k31, .inl (cI, 600, .inl c31)), (k32, .inl (cI, 12, .inl c32)), (k33, .inl (cI, 12, .inl c33)), (k34, .inl (cI, 12, .inl c34)), (k50, .inl (cI, 50, .inl c50)), (k, .inr (10, [.ref k0, .ref k1, .ref k2, .ref k3, .ref k4, .ref k5, .ref k6, .ref k7, .ref k8, .ref k9, .ref ka, .ref kb, .int cc])), (kb, .inl (cI, 6, .inl scb_73))] := hD
      have hr_71 := w_72
      obtain rfl : r_71 = (-1000001) := hr_71.trans (by decide)
      exact hRet (c35, c36, c51, c52, c53, c54, c55, c56, c57, scb_73, c31, c32, c33, c34, c50) [8, 0, 1, 9, 2, 3, 4, 5, 6, 7] ⟨(by (try dsimp only); exact (Or.inl ⟨by omega, zl_m1000001, rfl, rfl⟩)), pre0, (by (try dsimp only); unfold rtU; rw [if_pos (by omega)]), (by (try dsimp only); unfold rtU; rw [if_pos (by omega)]), (by (try dsimp only); unfold rtU; rw [if_pos (by omega)]), (by (try dsimp only); unfold rtT; rw [if_pos (by omega)])⟩ hP hD (by decide) rfl hS rfl dX10_rate_19
  · have h_6 : a0.toInt < 0 ∨ 2 < a0.toInt := h_6
    obtain rfl : r_1 = 0 := hr_1.trans (by decide)
    refine b_if_eq hx hb zl_0 (tgt := 14) dX10_rate_4 (by decide) (fun c_74 => ?_) (fun c_74 => by exfalso; omega)
    refine lv_aload_n hx hb dX10_rate_14 rfl (lv_at hl 0 rfl) ?_
    refine lv_iconst (v := 1) hx hb dX10_rate_15 (by decide) ?_
    refine kJi (wr := [(k3, .inr (4, [.ref k30, .ref k31, .ref k32, .ref k33, .ref k34, .int c35, .int c36])), (k5, .inr (5, [.ref k50, .int c51, .int c52, .int c53, .int c54, .int c55, .int c56, .int c57])), (k30, .inl (cI, 50, .inl c30)), (k31, .inl (cI, 600, .inl c31)), (k32, .inl (cI, 12, .inl c32)), (k33, .inl (cI, 12, .inl c33)), (k34, .inl (cI, 12, .inl c34)), (k50, .inl (cI, 50, .inl c50))]) (va_runV (As := [.int 1]) (rest := []) ⟨hx, hb, hml, hown, hT⟩ (c_X10_findingG l D cI aK aV k k0 k1 k2 k3 k4 k5 k6 k7 k8 k9 ka kb H.size cc cb 1) (cwV 1 hT (gV_in mw_338 mw_335 mw_337 mw_p1_0 mw_1) rfl rfl rfl (by decide +kernel) ⟨Nat.le_of_ble_eq_true rfl, Nat.le_of_ble_eq_true rfl⟩) (kRecvX (q0 := 0) (ci := 10) hK hP hD hN hXS hS hA rfl rfl [0, 3] rfl (by decide)) rfl rfl hl.1 rfl (lv_room (Nat.le_of_ble_eq_true rfl)) dX10_rate_16 ⟨Nat.le_of_ble_eq_true rfl, Nat.le_of_ble_eq_true rfl⟩) hP hD hS hA [0, 3] [1, 2, 4, 5, 6, 7, 8, 9] rfl rfl (by decide) (by decide) ?_
    clear hP hD hS
    intro r_75 scb_77 H locs w_76 hP hD hS
    replace hP : va_P D vwCl [(k3, .inr (4, [.ref k30, .ref k31, .ref k32, .ref k33, .ref k34, .int c35, .int c36])), (k5, .inr (5, [.ref k50, .int c51, .int c52, .int c53, .int c54, .int c55, .int c56, .int c57])), (k30, .inl (cI, 50, .inl c30)), (k31, .inl (cI, 600, .inl c31)), (k32, .inl (cI, 12, .inl c32)), (k33, .inl (cI, 12, .inl c33)), (k34, .inl (cI, 12, .inl c34)), (k50, .inl (cI, 50, .inl c50)), (k, .inr (10, [.ref k0, .ref k1, .ref k2, .ref k3, .ref k4, .ref k5, .ref k6, .ref k7, .ref k8, .ref k9, .ref ka, .ref kb, .int cc])), (kb, .inl (cI, 6, .inl scb_77))] H := hP
    replace hD : va_D A [(k3, .inr (4, [.ref k30, .ref k31, .ref k32, .ref k33, .ref k34, .int c35, .int c36])), (k5, .inr (5, [.ref k50, .int c51, .int c52, .int c53, .int c54, .int c55, .int c56, .int c57])), (k30, .inl (cI, 50, .inl c30)), (k31, .inl (cI, 600, .inl c31)), (k32, .inl (cI, 12, .inl c32)), (k33, .inl (cI, 12, .inl c33)), (k34, .inl (cI, 12, .inl c34)), (k50, .inl (cI, 50, .inl c50)), (k, .inr (10, [.ref k0, .ref k1, .ref k2, .ref k3, .ref k4, .ref k5, .ref k6, .ref k7, .ref k8, .ref k9, .ref ka, .ref kb, .int cc])), (kb, .inl (cI, 6, .inl scb_77))] := hD
    have hr_75 := w_76
    obtain rfl : r_75 = (-1000001) := hr_75.trans (by decide)
    exact hRet (c35, c36, c51, c52, c53, c54, c55, c56, c57, scb_77, c31, c32, c33, c34, c50) [8, 0, 1, 9, 2, 3, 4, 5, 6, 7] ⟨(by (try dsimp only); exact (Or.inl ⟨by omega, zl_m1000001, rfl, rfl⟩)), pre0, (by (try dsimp only); unfold rtU; rw [if_pos (by omega)]), (by (try dsimp only); unfold rtU; rw [if_pos (by omega)]), (by (try dsimp only); unfold rtU; rw [if_pos (by omega)]), (by (try dsimp only); unfold rtT; rw [if_pos (by omega)])⟩ hP hD (by decide) rfl hS rfl dX10_rate_19
