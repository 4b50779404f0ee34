theorem bn_cX10_feed_0 : BN cX10_feed 0 0x15b0000ad434015a8ac06025b878401a00ad456ad298056e081582802a519844c21e800056a1a00ad456ad298056e051582802a5048443c0a00a880a1e := by
  unfold BN; decide +kernel
theorem dX10_feed_0 : decode cX10_feed 0 = .ok (.iload_n 3, 1) := dR0 (k := 0) (i := 0) bn_cX10_feed_0 dop_29 (by decide +kernel)
theorem dX10_feed_1 : decode cX10_feed 1 = .ok (.iconst 1, 1) := dR0 (k := 0) (i := 1) bn_cX10_feed_0 dop_4 (by decide +kernel)
theorem dX10_feed_2 : decode cX10_feed 2 = .ok (.if_icmp .lt 9, 3) := dR2s (f := Instr.if_icmp .lt) (k := 0) (i := 2) bn_cX10_feed_0 dop_161 9 9 (by decide +kernel)
theorem dX10_feed_5 : decode cX10_feed 5 = .ok (.iload_n 3, 1) := dR0 (k := 0) (i := 5) bn_cX10_feed_0 dop_29 (by decide +kernel)
theorem dX10_feed_6 : decode cX10_feed 6 = .ok (.bipush 8, 2) := dR1s (f := Instr.bipush) (k := 0) (i := 6) bn_cX10_feed_0 dop_16 8 8 (by decide +kernel)
theorem dX10_feed_8 : decode cX10_feed 8 = .ok (.if_icmp .le 9, 3) := dR2s (f := Instr.if_icmp .le) (k := 0) (i := 8) bn_cX10_feed_0 dop_164 9 9 (by decide +kernel)
theorem dX10_feed_11 : decode cX10_feed 11 = .ok (.aload_n 0, 1) := dR0 (k := 0) (i := 11) bn_cX10_feed_0 dop_42 (by decide +kernel)
theorem dX10_feed_12 : decode cX10_feed 12 = .ok (.iconst 1, 1) := dR0 (k := 0) (i := 12) bn_cX10_feed_0 dop_4 (by decide +kernel)
theorem dX10_feed_13 : decode cX10_feed 13 = .ok (.invokevirtual 82, 3) := dR2 (f := Instr.invokevirtual) (k := 0) (i := 13) bn_cX10_feed_0 dop_182 82 (by decide +kernel)
theorem dX10_feed_16 : decode cX10_feed 16 = .ok (.ireturn, 1) := dR0 (k := 0) (i := 16) bn_cX10_feed_0 dop_172 (by decide +kernel)
theorem dX10_feed_17 : decode cX10_feed 17 = .ok (.aload_n 0, 1) := dR0 (k := 0) (i := 17) bn_cX10_feed_0 dop_42 (by decide +kernel)
theorem dX10_feed_18 : decode cX10_feed 18 = .ok (.getfield 25, 3) := dR2 (f := Instr.getfield) (k := 0) (i := 18) bn_cX10_feed_0 dop_180 25 (by decide +kernel)
theorem dX10_feed_21 : decode cX10_feed 21 = .ok (.getfield 255, 3) := dR2 (f := Instr.getfield) (k := 0) (i := 21) bn_cX10_feed_0 dop_180 255 (by decide +kernel)
theorem dX10_feed_24 : decode cX10_feed 24 = .ok (.iload_n 3, 1) := dR0 (k := 0) (i := 24) bn_cX10_feed_0 dop_29 (by decide +kernel)
theorem dX10_feed_25 : decode cX10_feed 25 = .ok (.iadd, 1) := dR0 (k := 0) (i := 25) bn_cX10_feed_0 dop_96 (by decide +kernel)
theorem dX10_feed_26 : decode cX10_feed 26 = .ok (.bipush 50, 2) := dR1s (f := Instr.bipush) (k := 0) (i := 26) bn_cX10_feed_0 dop_16 50 50 (by decide +kernel)
theorem dX10_feed_28 : decode cX10_feed 28 = .ok (.if_icmp .le 9, 3) := dR2s (f := Instr.if_icmp .le) (k := 0) (i := 28) bn_cX10_feed_0 dop_164 9 9 (by decide +kernel)
theorem dX10_feed_31 : decode cX10_feed 31 = .ok (.aload_n 0, 1) := dR0 (k := 0) (i := 31) bn_cX10_feed_0 dop_42 (by decide +kernel)
theorem dX10_feed_32 : decode cX10_feed 32 = .ok (.iconst 4, 1) := dR0 (k := 0) (i := 32) bn_cX10_feed_0 dop_7 (by decide +kernel)
theorem dX10_feed_33 : decode cX10_feed 33 = .ok (.invokevirtual 82, 3) := dR2 (f := Instr.invokevirtual) (k := 0) (i := 33) bn_cX10_feed_0 dop_182 82 (by decide +kernel)
theorem dX10_feed_36 : decode cX10_feed 36 = .ok (.ireturn, 1) := dR0 (k := 0) (i := 36) bn_cX10_feed_0 dop_172 (by decide +kernel)
theorem dX10_feed_37 : decode cX10_feed 37 = .ok (.aload_n 0, 1) := dR0 (k := 0) (i := 37) bn_cX10_feed_0 dop_42 (by decide +kernel)
theorem dX10_feed_38 : decode cX10_feed 38 = .ok (.getfield 25, 3) := dR2 (f := Instr.getfield) (k := 0) (i := 38) bn_cX10_feed_0 dop_180 25 (by decide +kernel)
theorem dX10_feed_41 : decode cX10_feed 41 = .ok (.lload_n 1, 1) := dR0 (k := 0) (i := 41) bn_cX10_feed_0 dop_31 (by decide +kernel)
theorem dX10_feed_42 : decode cX10_feed 42 = .ok (.iload_n 3, 1) := dR0 (k := 0) (i := 42) bn_cX10_feed_0 dop_29 (by decide +kernel)
theorem dX10_feed_43 : decode cX10_feed 43 = .ok (.invokevirtual 258, 3) := dR2 (f := Instr.invokevirtual) (k := 0) (i := 43) bn_cX10_feed_0 dop_182 258 (by decide +kernel)
theorem dX10_feed_46 : decode cX10_feed 46 = .ok (.aload_n 0, 1) := dR0 (k := 0) (i := 46) bn_cX10_feed_0 dop_42 (by decide +kernel)
theorem dX10_feed_47 : decode cX10_feed 47 = .ok (.getfield 25, 3) := dR2 (f := Instr.getfield) (k := 0) (i := 47) bn_cX10_feed_0 dop_180 25 (by decide +kernel)
theorem dX10_feed_50 : decode cX10_feed 50 = .ok (.getfield 255, 3) := dR2 (f := Instr.getfield) (k := 0) (i := 50) bn_cX10_feed_0 dop_180 255 (by decide +kernel)
theorem dX10_feed_53 : decode cX10_feed 53 = .ok (.ireturn, 1) := dR0 (k := 0) (i := 53) bn_cX10_feed_0 dop_172 (by decide +kernel)
set_option maxHeartbeats 4000000 in
set_option maxRecDepth 100000 in
theorem c_X10_feedG (l : Launch) (D : va_G) (cI : ClassId) (aK aV : Nat → Nat) (k k0 k1 k2 k3 k4 k5 k6 k7 k8 k9 ka kb k30 k31 k32 k33 k34 : Nat) (sz : Nat) (cc : Int32) (c35 : Int32) (c36 : Int32) (cb : Nat → Int32) (c30 : Nat → Int32) (a0 : Int64) (a1 : Int32) (pre0 : 0 ≤ c35.toInt) (pre1 : c35.toInt ≤ 50) : Met l yX10_feed (gW yX10_feed cX10_feed 4 (some .int)) ({ frames := 1, cells := 0, slots := 0, locals := 24 } : Room) (kPreX D cI aK aV [.ref k, .long a0, .int a1] [(k, .inr (10, [.ref k0, .ref k1, .ref k2, .ref k3, .ref k4, .ref k5, .ref k6, .ref k7, .ref k8, .ref k9, .ref ka, .ref kb, .int cc])), (k3, .inr (4, [.ref k30, .ref k31, .ref k32, .ref k33, .ref k34, .int c35, .int c36])), (kb, .inl (cI, 6, .inl cb)), (k30, .inl (cI, 50, .inl c30))] sz) (va_Qi (fun (r : Int32) (u : Int32 × (Nat → Int32) × (Nat → Int32)) => r.toInt = fdR c35 a1 ∧ u.2.2 = fdS c30 c35 a0 a1 ∧ u.1.toInt = fdN c35 a1) (fun u t => kWd D cI (va_A [(k, .inr (10, [.ref k0, .ref k1, .ref k2, .ref k3, .ref k4, .ref k5, .ref k6, .ref k7, .ref k8, .ref k9, .ref ka, .ref kb, .int cc])), (k3, .inr (4, [.ref k30, .ref k31, .ref k32, .ref k33, .ref k34, .int c35, .int c36])), (kb, .inl (cI, 6, .inl cb)), (k30, .inl (cI, 50, .inl c30))] sz) [(k, .inr (10, [.ref k0, .ref k1, .ref k2, .ref k3, .ref k4, .ref k5, .ref k6, .ref k7, .ref k8, .ref k9, .ref ka, .ref kb, .int cc])), (k3, .inr (4, [.ref k30, .ref k31, .ref k32, .ref k33, .ref k34, .int u.1, .int c36])), (kb, .inl (cI, 6, .inl u.2.1)), (k30, .inl (cI, 50, .inl u.2.2))] t) (va_A [(k, .inr (10, [.ref k0, .ref k1, .ref k2, .ref k3, .ref k4, .ref k5, .ref k6, .ref k7, .ref k8, .ref k9, .ref ka, .ref kb, .int cc])), (k3, .inr (4, [.ref k30, .ref k31, .ref k32, .ref k33, .ref k34, .int c35, .int c36])), (kb, .inl (cI, 6, .inl cb)), (k30, .inl (cI, 50, .inl c30))] sz)) 0 0 (va_A [(k, .inr (10, [.ref k0, .ref k1, .ref k2, .ref k3, .ref k4, .ref k5, .ref k6, .ref k7, .ref k8, .ref k9, .ref ka, .ref kb, .int cc])), (k3, .inr (4, [.ref k30, .ref k31, .ref k32, .ref k33, .ref k34, .int c35, .int c36])), (kb, .inl (cI, 6, .inl cb)), (k30, .inl (cI, 50, .inl c30))] sz) := by
  refine kMetIX (own := RX10) (by decide +kernel) rfl (Nat.le_of_ble_eq_true rfl) ?_
  intro p e s m args below meth c hx hb hT hown hname hml A Q hK hP hD hS hA hN hXS hRet ls hl
  have hl : lv_has ls 4 [(0, .ref k), (1, .long a0), (3, .int a1)] := hl
  have lo_a1 := k_lo a1
  have hi_a1 := k_hi a1
  have lo_c35 := k_lo c35
  have hi_c35 := k_hi c35
  refine lv_iload_n hx hb dX10_feed_0 rfl (lv_at hl 2 rfl) ?_
  refine lv_iconst (v := 1) hx hb dX10_feed_1 (by decide +kernel) ?_
  refine b_icmp_lt hx hb rfl zl_1 (tgt := 11) dX10_feed_2 (by decide +kernel) (fun c_1 => ?_) (fun c_1 => ?_)
  · refine lv_aload_n hx hb dX10_feed_11 rfl (lv_at hl 0 rfl) ?_
    refine lv_iconst (v := 1) hx hb dX10_feed_12 (by decide +kernel) ?_
    refine kJi (wr := [(k3, .inr (4, [.ref k30, .ref k31, .ref k32, .ref k33, .ref k34, .int c35, .int c36])), (k30, .inl (cI, 50, .inl c30))]) (va_runV (As := [.int 1]) (rest := []) ⟨hx, hb, hml, hown, hT⟩ (c_X10_findingG l D cI aK aV k k0 k1 k2 k3 k4 k5 k6 k7 k8 k9 ka kb s.heap.size cc cb 1) (cwV 1 hT (gV_in mw_338 mw_335 mw_337 mw_p1_0 mw_1) rfl rfl rfl (by decide +kernel) ⟨Nat.le_of_ble_eq_true rfl, Nat.le_of_ble_eq_true rfl⟩) (kRecvX (q0 := 0) (ci := 10) hK hP hD hN hXS hS hA rfl rfl [0, 2] rfl (by decide +kernel)) rfl rfl hl.1 rfl (lv_room (Nat.le_of_ble_eq_true rfl)) dX10_feed_13 ⟨Nat.le_of_ble_eq_true rfl, Nat.le_of_ble_eq_true rfl⟩) hP hD hS hA [0, 2] [1, 3] rfl rfl (by decide +kernel) (by decide +kernel) ?_
    clear hP hD hS
    intro r_2 scb_4 H locs w_3 hP hD hS
    replace hP : va_P D vwCl [(k3, .inr (4, [.ref k30, .ref k31, .ref k32, .ref k33, .ref k34, .int c35, .int c36])), (k30, .inl (cI, 50, .inl c30)), (k, .inr (10, [.ref k0, .ref k1, .ref k2, .ref k3, .ref k4, .ref k5, .ref k6, .ref k7, .ref k8, .ref k9, .ref ka, .ref kb, .int cc])), (kb, .inl (cI, 6, .inl scb_4))] H := hP
    replace hD : va_D A [(k3, .inr (4, [.ref k30, .ref k31, .ref k32, .ref k33, .ref k34, .int c35, .int c36])), (k30, .inl (cI, 50, .inl c30)), (k, .inr (10, [.ref k0, .ref k1, .ref k2, .ref k3, .ref k4, .ref k5, .ref k6, .ref k7, .ref k8, .ref k9, .ref ka, .ref kb, .int cc])), (kb, .inl (cI, 6, .inl scb_4))] := hD
    have hr_2 := w_3
    obtain rfl : r_2 = (-1000001) := hr_2.trans (by decide +kernel)
    exact hRet (c35, scb_4, c30) [2, 0, 3, 1] ⟨(by (try dsimp only); rw [zl_m1000001]; unfold fdR; (repeat (first | rw [if_pos (by omega)] | rw [if_neg (by omega)])); first | done | exact (by omega)), (by (try dsimp only); unfold fdS; (repeat (first | rw [if_pos (by omega)] | rw [if_neg (by omega)]))), (by (try dsimp only); unfold fdN; (repeat (first | rw [if_pos (by omega)] | rw [if_neg (by omega)])); first | done | exact (by omega))⟩ hP hD (by decide +kernel) rfl hS rfl dX10_feed_16
  · refine lv_iload_n hx hb dX10_feed_5 rfl (lv_at hl 2 rfl) ?_
    refine lv_bipush (v := 8) hx hb dX10_feed_6 (by decide +kernel) ?_
    refine b_icmp_le hx hb rfl zl_8 (tgt := 17) dX10_feed_8 (by decide +kernel) (fun c_5 => ?_) (fun c_5 => ?_)
    · refine lv_aload_n hx hb dX10_feed_17 rfl (lv_at hl 0 rfl) ?_
      refine va_get (D := D) (ci := 10) (v := .ref k3) (C := RX10) (T := TX10) (N := 13) hx hb hT giX10 hown hK hP 0 rfl rfl 3 (by decide +kernel) (hT (Cond.fieldLink RX10 25 "DesertWire" "rates" "LDesertWire$Rates;") mw_294) (fun _ h9 => h9) rfl dX10_feed_18 ?_
      refine va_get (D := D) (ci := 4) (v := .int c35) (C := RX4) (T := TX4) (N := 7) hx hb hT giX4 hown hK hP 1 rfl rfl 5 (by decide +kernel) (hT (Cond.fieldLink RX10 255 "DesertWire$Rates" "taped" "I") mw_144) (fun _ h9 => h9) rfl dX10_feed_21 ?_
      refine lv_iload_n hx hb dX10_feed_24 rfl (lv_at hl 2 rfl) ?_
      refine lv_iadd hx hb dX10_feed_25 ?_
      refine lv_topi (fun v_6 ev_6 => ?_)
      have tv_6 : v_6.toInt = c35.toInt + a1.toInt := by rw [ev_6]; exact k_addv rfl rfl (by omega) (by omega)
      refine lv_bipush (v := 50) hx hb dX10_feed_26 (by decide +kernel) ?_
      refine b_icmp_le hx hb rfl zl_50 (tgt := 37) dX10_feed_28 (by decide +kernel) (fun c_7 => ?_) (fun c_7 => ?_)
      · refine lv_aload_n hx hb dX10_feed_37 rfl (lv_at hl 0 rfl) ?_
        refine va_get (D := D) (ci := 10) (v := .ref k3) (C := RX10) (T := TX10) (N := 13) hx hb hT giX10 hown hK hP 0 rfl rfl 3 (by decide +kernel) (hT (Cond.fieldLink RX10 25 "DesertWire" "rates" "LDesertWire$Rates;") mw_294) (fun _ h9 => h9) rfl dX10_feed_38 ?_
        refine lv_lload_n hx hb dX10_feed_41 rfl (lv_at hl 1 rfl) ?_
        refine lv_iload_n hx hb dX10_feed_42 rfl (lv_at hl 2 rfl) ?_
        refine kJv (wr := [(k, .inr (10, [.ref k0, .ref k1, .ref k2, .ref k3, .ref k4, .ref k5, .ref k6, .ref k7, .ref k8, .ref k9, .ref ka, .ref kb, .int cc])), (kb, .inl (cI, 6, .inl cb))]) (va_runV (As := [.long a0, .int a1]) (rest := []) ⟨hx, hb, hml, hown, hT⟩ (c_X4_appendG l D cI aK aV k3 k30 k31 k32 k33 k34 s.heap.size c35 c36 c30 a0 a1 (by first | omega | decide | assumption | rfl) (by first | omega | decide | assumption | rfl) (by first | omega | decide | assumption | rfl) (by first | omega | decide | assumption | rfl)) (cwV 2 hT (gV_in mw_838 mw_835 mw_836 mw_837 mw_5) rfl rfl rfl (by decide +kernel) ⟨Nat.le_of_ble_eq_true rfl, Nat.le_of_ble_eq_true rfl⟩) (kRecvX (q0 := 1) (ci := 4) hK hP hD hN hXS hS hA rfl rfl [1, 3] rfl (by decide +kernel)) rfl rfl hl.1 rfl (lv_room (Nat.le_of_ble_eq_true rfl)) dX10_feed_43 ⟨Nat.le_of_ble_eq_true rfl, Nat.le_of_ble_eq_true rfl⟩) hP hD hS hA [1, 3] [0, 2] rfl rfl (by decide +kernel) (by decide +kernel) ?_
        clear hP hD hS
        intro u_12 H locs w_9 hP hD hS
        obtain ⟨sc5_10, sc0_11⟩ := u_12
        replace hP : va_P D vwCl [(k, .inr (10, [.ref k0, .ref k1, .ref k2, .ref k3, .ref k4, .ref k5, .ref k6, .ref k7, .ref k8, .ref k9, .ref ka, .ref kb, .int cc])), (kb, .inl (cI, 6, .inl cb)), (k3, .inr (4, [.ref k30, .ref k31, .ref k32, .ref k33, .ref k34, .int sc5_10, .int c36])), (k30, .inl (cI, 50, .inl sc0_11))] H := hP
        replace hD : va_D A [(k, .inr (10, [.ref k0, .ref k1, .ref k2, .ref k3, .ref k4, .ref k5, .ref k6, .ref k7, .ref k8, .ref k9, .ref ka, .ref kb, .int cc])), (kb, .inl (cI, 6, .inl cb)), (k3, .inr (4, [.ref k30, .ref k31, .ref k32, .ref k33, .ref k34, .int sc5_10, .int c36])), (k30, .inl (cI, 50, .inl sc0_11))] := hD
        have lo_sc5_10 := k_lo sc5_10
        have hi_sc5_10 := k_hi sc5_10
        obtain ⟨h_13, h_14⟩ := w_9
        have h_13 : sc0_11 = apT c30 c35.toInt.toNat a0 a1.toInt.toNat := h_13
        have h_13 : sc0_11 = apT c30 c35.toInt.toNat a0 a1.toInt.toNat := h_13
        have h_14 : sc5_10.toInt = c35.toInt + a1.toInt := h_14
        refine lv_aload_n hx hb dX10_feed_46 rfl (lv_at hl 0 rfl) ?_
        refine va_get (D := D) (ci := 10) (v := .ref k3) (C := RX10) (T := TX10) (N := 13) hx hb hT giX10 hown hK hP 0 rfl rfl 3 (by decide +kernel) (hT (Cond.fieldLink RX10 25 "DesertWire" "rates" "LDesertWire$Rates;") mw_294) (fun _ h9 => h9) rfl dX10_feed_47 ?_
        refine va_get (D := D) (ci := 4) (v := .int sc5_10) (C := RX4) (T := TX4) (N := 7) hx hb hT giX4 hown hK hP 2 rfl rfl 5 (by decide +kernel) (hT (Cond.fieldLink RX10 255 "DesertWire$Rates" "taped" "I") mw_144) (fun _ h9 => h9) rfl dX10_feed_50 ?_
        exact hRet (sc5_10, cb, sc0_11) [0, 2, 1, 3] ⟨(by (try dsimp only); unfold fdR; (repeat (first | rw [if_pos (by omega)] | rw [if_neg (by omega)])); first | done | exact (by omega)), (by (try dsimp only); unfold fdS; (repeat (first | rw [if_pos (by omega)] | rw [if_neg (by omega)])); first | done | exact h_13), (by (try dsimp only); unfold fdN; (repeat (first | rw [if_pos (by omega)] | rw [if_neg (by omega)])); first | done | exact (by omega))⟩ hP hD (by decide +kernel) rfl hS rfl dX10_feed_53
      · refine lv_aload_n hx hb dX10_feed_31 rfl (lv_at hl 0 rfl) ?_
        refine lv_iconst (v := 4) hx hb dX10_feed_32 (by decide +kernel) ?_
        refine kJi (wr := [(k3, .inr (4, [.ref k30, .ref k31, .ref k32, .ref k33, .ref k34, .int c35, .int c36])), (k30, .inl (cI, 50, .inl c30))]) (va_runV (As := [.int 4]) (rest := []) ⟨hx, hb, hml, hown, hT⟩ (c_X10_findingG l D cI aK aV k k0 k1 k2 k3 k4 k5 k6 k7 k8 k9 ka kb s.heap.size cc cb 4) (cwV 1 hT (gV_in mw_338 mw_335 mw_337 mw_p1_0 mw_1) rfl rfl rfl (by decide +kernel) ⟨Nat.le_of_ble_eq_true rfl, Nat.le_of_ble_eq_true rfl⟩) (kRecvX (q0 := 0) (ci := 10) hK hP hD hN hXS hS hA rfl rfl [0, 2] rfl (by decide +kernel)) rfl rfl hl.1 rfl (lv_room (Nat.le_of_ble_eq_true rfl)) dX10_feed_33 ⟨Nat.le_of_ble_eq_true rfl, Nat.le_of_ble_eq_true rfl⟩) hP hD hS hA [0, 2] [1, 3] rfl rfl (by decide +kernel) (by decide +kernel) ?_
        clear hP hD hS
        intro r_15 scb_17 H locs w_16 hP hD hS
        replace hP : va_P D vwCl [(k3, .inr (4, [.ref k30, .ref k31, .ref k32, .ref k33, .ref k34, .int c35, .int c36])), (k30, .inl (cI, 50, .inl c30)), (k, .inr (10, [.ref k0, .ref k1, .ref k2, .ref k3, .ref k4, .ref k5, .ref k6, .ref k7, .ref k8, .ref k9, .ref ka, .ref kb, .int cc])), (kb, .inl (cI, 6, .inl scb_17))] H := hP
        replace hD : va_D A [(k3, .inr (4, [.ref k30, .ref k31, .ref k32, .ref k33, .ref k34, .int c35, .int c36])), (k30, .inl (cI, 50, .inl c30)), (k, .inr (10, [.ref k0, .ref k1, .ref k2, .ref k3, .ref k4, .ref k5, .ref k6, .ref k7, .ref k8, .ref k9, .ref ka, .ref kb, .int cc])), (kb, .inl (cI, 6, .inl scb_17))] := hD
        have hr_15 := w_16
        obtain rfl : r_15 = (-1000004) := hr_15.trans (by decide +kernel)
        exact hRet (c35, scb_17, c30) [2, 0, 3, 1] ⟨(by (try dsimp only); rw [zl_m1000004]; unfold fdR; (repeat (first | rw [if_pos (by omega)] | rw [if_neg (by omega)])); first | done | exact (by omega)), (by (try dsimp only); unfold fdS; (repeat (first | rw [if_pos (by omega)] | rw [if_neg (by omega)]))), (by (try dsimp only); unfold fdN; (repeat (first | rw [if_pos (by omega)] | rw [if_neg (by omega)])); first | done | exact (by omega))⟩ hP hD (by decide +kernel) rfl hS rfl dX10_feed_36
    · refine lv_aload_n hx hb dX10_feed_11 rfl (lv_at hl 0 rfl) ?_
      refine lv_iconst (v := 1) hx hb dX10_feed_12 (by decide +kernel) ?_
      refine kJi (wr := [(k3, .inr (4, [.ref k30, .ref k31, .ref k32, .ref k33, .ref k34, .int c35, .int c36])), (k30, .inl (cI, 50, .inl c30))]) (va_runV (As := [.int 1]) (rest := []) ⟨hx, hb, hml, hown, hT⟩ (c_X10_findingG l D cI aK aV k k0 k1 k2 k3 k4 k5 k6 k7 k8 k9 ka kb s.heap.size cc cb 1) (cwV 1 hT (gV_in mw_338 mw_335 mw_337 mw_p1_0 mw_1) rfl rfl rfl (by decide +kernel) ⟨Nat.le_of_ble_eq_true rfl, Nat.le_of_ble_eq_true rfl⟩) (kRecvX (q0 := 0) (ci := 10) hK hP hD hN hXS hS hA rfl rfl [0, 2] rfl (by decide +kernel)) rfl rfl hl.1 rfl (lv_room (Nat.le_of_ble_eq_true rfl)) dX10_feed_13 ⟨Nat.le_of_ble_eq_true rfl, Nat.le_of_ble_eq_true rfl⟩) hP hD hS hA [0, 2] [1, 3] rfl rfl (by decide +kernel) (by decide +kernel) ?_
      clear hP hD hS
      intro r_18 scb_20 H locs w_19 hP hD hS
      replace hP : va_P D vwCl [(k3, .inr (4, [.ref k30, .ref k31, .ref k32, .ref k33, .ref k34, .int c35, .int c36])), (k30, .inl (cI, 50, .inl c30)), (k, .inr (10, [.ref k0, .ref k1, .ref k2, .ref k3, .ref k4, .ref k5, .ref k6, .ref k7, .ref k8, .ref k9, .ref ka, .ref kb, .int cc])), (kb, .inl (cI, 6, .inl scb_20))] H := hP
      replace hD : va_D A [(k3, .inr (4, [.ref k30, .ref k31, .ref k32, .ref k33, .ref k34, .int c35, .int c36])), (k30, .inl (cI, 50, .inl c30)), (k, .inr (10, [.ref k0, .ref k1, .ref k2, .ref k3, .ref k4, .ref k5, .ref k6, .ref k7, .ref k8, .ref k9, .ref ka, .ref kb, .int cc])), (kb, .inl (cI, 6, .inl scb_20))] := hD
      have hr_18 := w_19
      obtain rfl : r_18 = (-1000001) := hr_18.trans (by decide +kernel)
      exact hRet (c35, scb_20, c30) [2, 0, 3, 1] ⟨(by (try dsimp only); rw [zl_m1000001]; unfold fdR; (repeat (first | rw [if_pos (by omega)] | rw [if_neg (by omega)])); first | done | exact (by omega)), (by (try dsimp only); unfold fdS; (repeat (first | rw [if_pos (by omega)] | rw [if_neg (by omega)]))), (by (try dsimp only); unfold fdN; (repeat (first | rw [if_pos (by omega)] | rw [if_neg (by omega)])); first | done | exact (by omega))⟩ hP hD (by decide +kernel) rfl hS rfl dX10_feed_16
