theorem bn_cX10_areTwoWorks_0 : BN cX10_areTwoWorks 0 0x2b4080500aa00a0800a803a1c06805347500adc3a6400ad41a015a8ac36014d1d402b70e19002b5068056a2b := by
  unfold BN; decide +kernel
theorem dX10_areTwoWorks_0 : decode cX10_areTwoWorks 0 = .ok (.aload_n 0, 1) := dR0 (k := 0) (i := 0) bn_cX10_areTwoWorks_0 dop_42 (by decide +kernel)
theorem dX10_areTwoWorks_1 : decode cX10_areTwoWorks 1 = .ok (.getfield 12, 3) := dR2 (f := Instr.getfield) (k := 0) (i := 1) bn_cX10_areTwoWorks_0 dop_180 12 (by decide +kernel)
theorem dX10_areTwoWorks_4 : decode cX10_areTwoWorks 4 = .ok (.getfield 99, 3) := dR2 (f := Instr.getfield) (k := 0) (i := 4) bn_cX10_areTwoWorks_0 dop_180 99 (by decide +kernel)
theorem dX10_areTwoWorks_7 : decode cX10_areTwoWorks 7 = .ok (.iload_n 1, 1) := dR0 (k := 0) (i := 7) bn_cX10_areTwoWorks_0 dop_27 (by decide +kernel)
theorem dX10_areTwoWorks_8 : decode cX10_areTwoWorks 8 = .ok (.invokevirtual 116, 3) := dR2 (f := Instr.invokevirtual) (k := 0) (i := 8) bn_cX10_areTwoWorks_0 dop_182 116 (by decide +kernel)
theorem dX10_areTwoWorks_11 : decode cX10_areTwoWorks 11 = .ok (.ifCond .eq 26, 3) := dR2s (f := Instr.ifCond .eq) (k := 0) (i := 11) bn_cX10_areTwoWorks_0 dop_153 26 26 (by decide +kernel)
theorem dX10_areTwoWorks_14 : decode cX10_areTwoWorks 14 = .ok (.aload_n 0, 1) := dR0 (k := 0) (i := 14) bn_cX10_areTwoWorks_0 dop_42 (by decide +kernel)
theorem dX10_areTwoWorks_15 : decode cX10_areTwoWorks 15 = .ok (.getfield 12, 3) := dR2 (f := Instr.getfield) (k := 0) (i := 15) bn_cX10_areTwoWorks_0 dop_180 12 (by decide +kernel)
theorem dX10_areTwoWorks_18 : decode cX10_areTwoWorks 18 = .ok (.getfield 99, 3) := dR2 (f := Instr.getfield) (k := 0) (i := 18) bn_cX10_areTwoWorks_0 dop_180 99 (by decide +kernel)
theorem dX10_areTwoWorks_21 : decode cX10_areTwoWorks 21 = .ok (.iload_n 2, 1) := dR0 (k := 0) (i := 21) bn_cX10_areTwoWorks_0 dop_28 (by decide +kernel)
theorem dX10_areTwoWorks_22 : decode cX10_areTwoWorks 22 = .ok (.invokevirtual 116, 3) := dR2 (f := Instr.invokevirtual) (k := 0) (i := 22) bn_cX10_areTwoWorks_0 dop_182 116 (by decide +kernel)
theorem dX10_areTwoWorks_25 : decode cX10_areTwoWorks 25 = .ok (.ifCond .eq 12, 3) := dR2s (f := Instr.ifCond .eq) (k := 0) (i := 25) bn_cX10_areTwoWorks_0 dop_153 12 12 (by decide +kernel)
theorem dX10_areTwoWorks_28 : decode cX10_areTwoWorks 28 = .ok (.iload_n 1, 1) := dR0 (k := 0) (i := 28) bn_cX10_areTwoWorks_0 dop_27 (by decide +kernel)
theorem dX10_areTwoWorks_29 : decode cX10_areTwoWorks 29 = .ok (.iload_n 2, 1) := dR0 (k := 0) (i := 29) bn_cX10_areTwoWorks_0 dop_28 (by decide +kernel)
theorem dX10_areTwoWorks_30 : decode cX10_areTwoWorks 30 = .ok (.if_icmp .eq 7, 3) := dR2s (f := Instr.if_icmp .eq) (k := 0) (i := 30) bn_cX10_areTwoWorks_0 dop_159 7 7 (by decide +kernel)
theorem dX10_areTwoWorks_33 : decode cX10_areTwoWorks 33 = .ok (.iconst 1, 1) := dR0 (k := 0) (i := 33) bn_cX10_areTwoWorks_0 dop_4 (by decide +kernel)
theorem dX10_areTwoWorks_34 : decode cX10_areTwoWorks 34 = .ok (.goto 4, 3) := dR2s (f := Instr.goto) (k := 0) (i := 34) bn_cX10_areTwoWorks_0 dop_167 4 4 (by decide +kernel)
theorem dX10_areTwoWorks_37 : decode cX10_areTwoWorks 37 = .ok (.iconst 0, 1) := dR0 (k := 0) (i := 37) bn_cX10_areTwoWorks_0 dop_3 (by decide +kernel)
theorem dX10_areTwoWorks_38 : decode cX10_areTwoWorks 38 = .ok (.ireturn, 1) := dR0 (k := 0) (i := 38) bn_cX10_areTwoWorks_0 dop_172 (by decide +kernel)
set_option maxHeartbeats 4000000 in
set_option maxRecDepth 100000 in
theorem c_X10_areTwoWorksG (l : Launch) (D : va_G) (cI : ClassId) (aK aV : Nat → Nat) (k k0 k1 k2 k3 k4 k5 k6 k7 k8 k9 ka kb k00 k01 k02 k03 k04 k05 k040 k041 k042 k043 k044 k045 k046 k047 k048 : Nat) (sz : Nat) (cc : Int32) (c06 : Int32) (c07 : Int32) (c08 : Int32) (c049 : Int32) (a0 : Int32) (a1 : Int32) : Met l yX10_areTwoWorks (gW yX10_areTwoWorks cX10_areTwoWorks 3 (some .boolean)) ({ frames := 1, cells := 0, slots := 0, locals := 21 } : Room) (kPreX D cI aK aV [.ref k, .int a0, .int a1] [(k, .inr (10, [.ref k0, .ref k1, .ref k2, .ref k3, .ref k4, .ref k5, .ref k6, .ref k7, .ref k8, .ref k9, .ref ka, .ref kb, .int cc])), (k0, .inr (9, [.ref k00, .ref k01, .ref k02, .ref k03, .ref k04, .ref k05, .int c06, .int c07, .int c08])), (k04, .inr (8, [.ref k040, .ref k041, .ref k042, .ref k043, .ref k044, .ref k045, .ref k046, .ref k047, .ref k048, .int c049]))] sz) (va_Qi (fun (r : Int32) (u : Unit) => True) (fun u t => kWd D cI (va_A [(k, .inr (10, [.ref k0, .ref k1, .ref k2, .ref k3, .ref k4, .ref k5, .ref k6, .ref k7, .ref k8, .ref k9, .ref ka, .ref kb, .int cc])), (k0, .inr (9, [.ref k00, .ref k01, .ref k02, .ref k03, .ref k04, .ref k05, .int c06, .int c07, .int c08])), (k04, .inr (8, [.ref k040, .ref k041, .ref k042, .ref k043, .ref k044, .ref k045, .ref k046, .ref k047, .ref k048, .int c049]))] sz) [(k, .inr (10, [.ref k0, .ref k1, .ref k2, .ref k3, .ref k4, .ref k5, .ref k6, .ref k7, .ref k8, .ref k9, .ref ka, .ref kb, .int cc])), (k0, .inr (9, [.ref k00, .ref k01, .ref k02, .ref k03, .ref k04, .ref k05, .int c06, .int c07, .int c08])), (k04, .inr (8, [.ref k040, .ref k041, .ref k042, .ref k043, .ref k044, .ref k045, .ref k046, .ref k047, .ref k048, .int c049]))] t) (va_A [(k, .inr (10, [.ref k0, .ref k1, .ref k2, .ref k3, .ref k4, .ref k5, .ref k6, .ref k7, .ref k8, .ref k9, .ref ka, .ref kb, .int cc])), (k0, .inr (9, [.ref k00, .ref k01, .ref k02, .ref k03, .ref k04, .ref k05, .int c06, .int c07, .int c08])), (k04, .inr (8, [.ref k040, .ref k041, .ref k042, .ref k043, .ref k044, .ref k045, .ref k046, .ref k047, .ref k048, .int c049]))] sz)) 0 0 (va_A [(k, .inr (10, [.ref k0, .ref k1, .ref k2, .ref k3, .ref k4, .ref k5, .ref k6, .ref k7, .ref k8, .ref k9, .ref ka, .ref kb, .int cc])), (k0, .inr (9, [.ref k00, .ref k01, .ref k02, .ref k03, .ref k04, .ref k05, .int c06, .int c07, .int c08])), (k04, .inr (8, [.ref k040, .ref k041, .ref k042, .ref k043, .ref k044, .ref k045, .ref k046, .ref k047, .ref k048, .int c049]))] sz) := by
  refine kMetIX (own := RX10) (by decide +kernel) rfl (Nat.le_of_ble_eq_true rfl) ?_
  intro p e s m args below meth c hx hb hT hown hname hml A Q hK hP hD hS hA hN hXS hRet ls hl
  have hl : lv_has ls 3 [(0, .ref k), (1, .int a0), (2, .int a1)] := hl
  have lo_a0 := k_lo a0
  have hi_a0 := k_hi a0
  have lo_a1 := k_lo a1
  have hi_a1 := k_hi a1
  have lo_c049 := k_lo c049
  have hi_c049 := k_hi c049
  refine lv_aload_n hx hb dX10_areTwoWorks_0 rfl (lv_at hl 0 rfl) ?_
  refine va_get (D := D) (ci := 10) (v := .ref k0) (C := RX10) (T := TX10) (N := 13) hx hb hT giX10 hown hK hP 0 rfl rfl 0 (by decide +kernel) (hT (Cond.fieldLink RX10 12 "DesertWire" "now" "LDesertWire$World;") mw_291) (fun _ h9 => h9) rfl dX10_areTwoWorks_1 ?_
  refine va_get (D := D) (ci := 9) (v := .ref k04) (C := RX9) (T := TX9) (N := 9) hx hb hT giX9 hown hK hP 1 rfl rfl 4 (by decide +kernel) (hT (Cond.fieldLink RX10 99 "DesertWire$World" "works" "LDesertWire$Works;") mw_99) (fun _ h9 => h9) rfl dX10_areTwoWorks_4 ?_
  refine lv_iload_n hx hb dX10_areTwoWorks_7 rfl (lv_at hl 1 rfl) ?_
  refine kJi (wr := [(k, .inr (10, [.ref k0, .ref k1, .ref k2, .ref k3, .ref k4, .ref k5, .ref k6, .ref k7, .ref k8, .ref k9, .ref ka, .ref kb, .int cc])), (k0, .inr (9, [.ref k00, .ref k01, .ref k02, .ref k03, .ref k04, .ref k05, .int c06, .int c07, .int c08]))]) (va_runV (As := [.int a0]) (rest := []) ⟨hx, hb, hml, hown, hT⟩ (c_X8_hasG l D cI aK aV k04 k040 k041 k042 k043 k044 k045 k046 k047 k048 s.heap.size c049 a0) (cwV 1 hT (gV_in mw_371 mw_380 mw_369 mw_370 mw_3) rfl rfl rfl (by decide +kernel) ⟨Nat.le_of_ble_eq_true rfl, Nat.le_of_ble_eq_true rfl⟩) (kRecvX (q0 := 2) (ci := 8) hK hP hD hN hXS hS hA rfl rfl [2] rfl (by decide +kernel)) rfl rfl hl.1 rfl (lv_room (Nat.le_of_ble_eq_true rfl)) dX10_areTwoWorks_8 ⟨Nat.le_of_ble_eq_true rfl, Nat.le_of_ble_eq_true rfl⟩) hP hD hS hA [2] [0, 1] rfl rfl (by decide +kernel) (by decide +kernel) ?_
  clear hP hD hS
  intro r_1 u_3 H locs w_2 hP hD hS
  replace hP : va_P D vwCl [(k, .inr (10, [.ref k0, .ref k1, .ref k2, .ref k3, .ref k4, .ref k5, .ref k6, .ref k7, .ref k8, .ref k9, .ref ka, .ref kb, .int cc])), (k0, .inr (9, [.ref k00, .ref k01, .ref k02, .ref k03, .ref k04, .ref k05, .int c06, .int c07, .int c08])), (k04, .inr (8, [.ref k040, .ref k041, .ref k042, .ref k043, .ref k044, .ref k045, .ref k046, .ref k047, .ref k048, .int c049]))] H := hP
  replace hD : va_D A [(k, .inr (10, [.ref k0, .ref k1, .ref k2, .ref k3, .ref k4, .ref k5, .ref k6, .ref k7, .ref k8, .ref k9, .ref ka, .ref kb, .int cc])), (k0, .inr (9, [.ref k00, .ref k01, .ref k02, .ref k03, .ref k04, .ref k05, .int c06, .int c07, .int c08])), (k04, .inr (8, [.ref k040, .ref k041, .ref k042, .ref k043, .ref k044, .ref k045, .ref k046, .ref k047, .ref k048, .int c049]))] := hD
  rcases w_2 with ⟨hr_1, h_4, h_5, h_6⟩ | ⟨hr_1, h_7⟩
  · have h_4 : 0 ≤ a0.toInt := h_4
    have h_5 : a0.toInt < c049.toInt := h_5
    have h_6 : a0.toInt < 60 := h_6
    obtain rfl : r_1 = 1 := hr_1.trans (by decide +kernel)
    refine b_if_eq hx hb zl_1 (tgt := 37) dX10_areTwoWorks_11 (by decide +kernel) (fun c_8 => by exfalso; omega) (fun c_8 => ?_)
    refine lv_aload_n hx hb dX10_areTwoWorks_14 rfl (lv_at hl 0 rfl) ?_
    refine va_get (D := D) (ci := 10) (v := .ref k0) (C := RX10) (T := TX10) (N := 13) hx hb hT giX10 hown hK hP 0 rfl rfl 0 (by decide +kernel) (hT (Cond.fieldLink RX10 12 "DesertWire" "now" "LDesertWire$World;") mw_291) (fun _ h9 => h9) rfl dX10_areTwoWorks_15 ?_
    refine va_get (D := D) (ci := 9) (v := .ref k04) (C := RX9) (T := TX9) (N := 9) hx hb hT giX9 hown hK hP 1 rfl rfl 4 (by decide +kernel) (hT (Cond.fieldLink RX10 99 "DesertWire$World" "works" "LDesertWire$Works;") mw_99) (fun _ h9 => h9) rfl dX10_areTwoWorks_18 ?_
    refine lv_iload_n hx hb dX10_areTwoWorks_21 rfl (lv_at hl 2 rfl) ?_
    refine kJi (wr := [(k, .inr (10, [.ref k0, .ref k1, .ref k2, .ref k3, .ref k4, .ref k5, .ref k6, .ref k7, .ref k8, .ref k9, .ref ka, .ref kb, .int cc])), (k0, .inr (9, [.ref k00, .ref k01, .ref k02, .ref k03, .ref k04, .ref k05, .int c06, .int c07, .int c08]))]) (va_runV (As := [.int a1]) (rest := []) ⟨hx, hb, hml, hown, hT⟩ (c_X8_hasG l D cI aK aV k04 k040 k041 k042 k043 k044 k045 k046 k047 k048 H.size c049 a1) (cwV 1 hT (gV_in mw_371 mw_380 mw_369 mw_370 mw_3) rfl rfl rfl (by decide +kernel) ⟨Nat.le_of_ble_eq_true rfl, Nat.le_of_ble_eq_true rfl⟩) (kRecvX (q0 := 2) (ci := 8) hK hP hD hN hXS hS hA rfl rfl [2] rfl (by decide +kernel)) rfl rfl hl.1 rfl (lv_room (Nat.le_of_ble_eq_true rfl)) dX10_areTwoWorks_22 ⟨Nat.le_of_ble_eq_true rfl, Nat.le_of_ble_eq_true rfl⟩) hP hD hS hA [2] [0, 1] rfl rfl (by decide +kernel) (by decide +kernel) ?_
    clear hP hD hS
    intro r_9 u_11 H locs w_10 hP hD hS
    replace hP : va_P D vwCl [(k, .inr (10, [.ref k0, .ref k1, .ref k2, .ref k3, .ref k4, .ref k5, .ref k6, .ref k7, .ref k8, .ref k9, .ref ka, .ref kb, .int cc])), (k0, .inr (9, [.ref k00, .ref k01, .ref k02, .ref k03, .ref k04, .ref k05, .int c06, .int c07, .int c08])), (k04, .inr (8, [.ref k040, .ref k041, .ref k042, .ref k043, .ref k044, .ref k045, .ref k046, .ref k047, .ref k048, .int c049]))] H := hP
    replace hD : va_D A [(k, .inr (10, [.ref k0, .ref k1, .ref k2, .ref k3, .ref k4, .ref k5, .ref k6, .ref k7, .ref k8, .ref k9, .ref ka, .ref kb, .int cc])), (k0, .inr (9, [.ref k00, .ref k01, .ref k02, .ref k03, .ref k04, .ref k05, .int c06, .int c07, .int c08])), (k04, .inr (8, [.ref k040, .ref k041, .ref k042, .ref k043, .ref k044, .ref k045, .ref k046, .ref k047, .ref k048, .int c049]))] := hD
    rcases w_10 with ⟨hr_9, h_12, h_13, h_14⟩ | ⟨hr_9, h_15⟩
    · have h_12 : 0 ≤ a1.toInt := h_12
      have h_13 : a1.toInt < c049.toInt := h_13
      have h_14 : a1.toInt < 60 := h_14
      obtain rfl : r_9 = 1 := hr_9.trans (by decide +kernel)
      refine b_if_eq hx hb zl_1 (tgt := 37) dX10_areTwoWorks_25 (by decide +kernel) (fun c_16 => by exfalso; omega) (fun c_16 => ?_)
      refine lv_iload_n hx hb dX10_areTwoWorks_28 rfl (lv_at hl 1 rfl) ?_
      refine lv_iload_n hx hb dX10_areTwoWorks_29 rfl (lv_at hl 2 rfl) ?_
      refine b_icmp_eq hx hb rfl rfl (tgt := 37) dX10_areTwoWorks_30 (by decide +kernel) (fun c_17 => ?_) (fun c_17 => ?_)
      · refine lv_iconst (v := 0) hx hb dX10_areTwoWorks_37 (by decide +kernel) ?_
        exact hRet () [0, 1, 2] trivial hP hD (by decide +kernel) rfl hS rfl dX10_areTwoWorks_38
      · refine lv_iconst (v := 1) hx hb dX10_areTwoWorks_33 (by decide +kernel) ?_
        refine lv_goto (tgt := 38) hx hb dX10_areTwoWorks_34 (by decide +kernel) ?_
        exact hRet () [0, 1, 2] trivial hP hD (by decide +kernel) rfl hS rfl dX10_areTwoWorks_38
    · have h_15 : a1.toInt < 0 ∨ c049.toInt ≤ a1.toInt ∨ 60 ≤ a1.toInt := h_15
      obtain rfl : r_9 = 0 := hr_9.trans (by decide +kernel)
      refine b_if_eq hx hb zl_0 (tgt := 37) dX10_areTwoWorks_25 (by decide +kernel) (fun c_18 => ?_) (fun c_18 => by exfalso; omega)
      refine lv_iconst (v := 0) hx hb dX10_areTwoWorks_37 (by decide +kernel) ?_
      exact hRet () [0, 1, 2] trivial hP hD (by decide +kernel) rfl hS rfl dX10_areTwoWorks_38
  · have h_7 : a0.toInt < 0 ∨ c049.toInt ≤ a0.toInt ∨ 60 ≤ a0.toInt := h_7
    obtain rfl : r_1 = 0 := hr_1.trans (by decide +kernel)
    refine b_if_eq hx hb zl_0 (tgt := 37) dX10_areTwoWorks_11 (by decide +kernel) (fun c_19 => ?_) (fun c_19 => by exfalso; omega)
    refine lv_iconst (v := 0) hx hb dX10_areTwoWorks_37 (by decide +kernel) ?_
    exact hRet () [0, 1, 2] trivial hP hD (by decide +kernel) rfl hS rfl dX10_areTwoWorks_38
theorem bn_cX10_areStations_0 : BN cX10_areStations 0 0x568100a015401410015081cf0015b874c8015a83402b51585c02a1039e002b70e19002b5068056a2b := by
  unfold BN; decide +kernel
theorem dX10_areStations_0 : decode cX10_areStations 0 = .ok (.aload_n 0, 1) := dR0 (k := 0) (i := 0) bn_cX10_areStations_0 dop_42 (by decide +kernel)
theorem dX10_areStations_1 : decode cX10_areStations 1 = .ok (.getfield 12, 3) := dR2 (f := Instr.getfield) (k := 0) (i := 1) bn_cX10_areStations_0 dop_180 12 (by decide +kernel)
theorem dX10_areStations_4 : decode cX10_areStations 4 = .ok (.getfield 99, 3) := dR2 (f := Instr.getfield) (k := 0) (i := 4) bn_cX10_areStations_0 dop_180 99 (by decide +kernel)
theorem dX10_areStations_7 : decode cX10_areStations 7 = .ok (.iload_n 1, 1) := dR0 (k := 0) (i := 7) bn_cX10_areStations_0 dop_27 (by decide +kernel)
theorem dX10_areStations_8 : decode cX10_areStations 8 = .ok (.invokevirtual 119, 3) := dR2 (f := Instr.invokevirtual) (k := 0) (i := 8) bn_cX10_areStations_0 dop_182 119 (by decide +kernel)
theorem dX10_areStations_11 : decode cX10_areStations 11 = .ok (.iconst 3, 1) := dR0 (k := 0) (i := 11) bn_cX10_areStations_0 dop_6 (by decide +kernel)
theorem dX10_areStations_12 : decode cX10_areStations 12 = .ok (.if_icmp .ne 22, 3) := dR2s (f := Instr.if_icmp .ne) (k := 0) (i := 12) bn_cX10_areStations_0 dop_160 22 22 (by decide +kernel)
theorem dX10_areStations_15 : decode cX10_areStations 15 = .ok (.aload_n 0, 1) := dR0 (k := 0) (i := 15) bn_cX10_areStations_0 dop_42 (by decide +kernel)
theorem dX10_areStations_16 : decode cX10_areStations 16 = .ok (.getfield 12, 3) := dR2 (f := Instr.getfield) (k := 0) (i := 16) bn_cX10_areStations_0 dop_180 12 (by decide +kernel)
theorem dX10_areStations_19 : decode cX10_areStations 19 = .ok (.getfield 99, 3) := dR2 (f := Instr.getfield) (k := 0) (i := 19) bn_cX10_areStations_0 dop_180 99 (by decide +kernel)
theorem dX10_areStations_22 : decode cX10_areStations 22 = .ok (.iload_n 2, 1) := dR0 (k := 0) (i := 22) bn_cX10_areStations_0 dop_28 (by decide +kernel)
theorem dX10_areStations_23 : decode cX10_areStations 23 = .ok (.invokevirtual 119, 3) := dR2 (f := Instr.invokevirtual) (k := 0) (i := 23) bn_cX10_areStations_0 dop_182 119 (by decide +kernel)
theorem dX10_areStations_26 : decode cX10_areStations 26 = .ok (.iconst 3, 1) := dR0 (k := 0) (i := 26) bn_cX10_areStations_0 dop_6 (by decide +kernel)
theorem dX10_areStations_27 : decode cX10_areStations 27 = .ok (.if_icmp .ne 7, 3) := dR2s (f := Instr.if_icmp .ne) (k := 0) (i := 27) bn_cX10_areStations_0 dop_160 7 7 (by decide +kernel)
theorem dX10_areStations_30 : decode cX10_areStations 30 = .ok (.iconst 1, 1) := dR0 (k := 0) (i := 30) bn_cX10_areStations_0 dop_4 (by decide +kernel)
theorem dX10_areStations_31 : decode cX10_areStations 31 = .ok (.goto 4, 3) := dR2s (f := Instr.goto) (k := 0) (i := 31) bn_cX10_areStations_0 dop_167 4 4 (by decide +kernel)
theorem dX10_areStations_34 : decode cX10_areStations 34 = .ok (.iconst 0, 1) := dR0 (k := 0) (i := 34) bn_cX10_areStations_0 dop_3 (by decide +kernel)
theorem dX10_areStations_35 : decode cX10_areStations 35 = .ok (.ireturn, 1) := dR0 (k := 0) (i := 35) bn_cX10_areStations_0 dop_172 (by decide +kernel)
set_option maxHeartbeats 4000000 in
set_option maxRecDepth 100000 in
theorem c_X10_areStationsG (l : Launch) (D : va_G) (cI : ClassId) (aK aV : Nat → Nat) (k k0 k1 k2 k3 k4 k5 k6 k7 k8 k9 ka kb k00 k01 k02 k03 k04 k05 k040 k041 k042 k043 k044 k045 k046 k047 k048 : Nat) (sz : Nat) (cc : Int32) (c06 : Int32) (c07 : Int32) (c08 : Int32) (c049 : Int32) (c040 : Nat → Int32) (a0 : Int32) (a1 : Int32) : Met l yX10_areStations (gW yX10_areStations cX10_areStations 3 (some .boolean)) ({ frames := 2, cells := 0, slots := 0, locals := 42 } : Room) (kPreX D cI aK aV [.ref k, .int a0, .int a1] [(k, .inr (10, [.ref k0, .ref k1, .ref k2, .ref k3, .ref k4, .ref k5, .ref k6, .ref k7, .ref k8, .ref k9, .ref ka, .ref kb, .int cc])), (k0, .inr (9, [.ref k00, .ref k01, .ref k02, .ref k03, .ref k04, .ref k05, .int c06, .int c07, .int c08])), (k04, .inr (8, [.ref k040, .ref k041, .ref k042, .ref k043, .ref k044, .ref k045, .ref k046, .ref k047, .ref k048, .int c049])), (k040, .inl (cI, 60, .inl c040))] sz) (va_Qi (fun (r : Int32) (u : Unit) => True) (fun u t => kWd D cI (va_A [(k, .inr (10, [.ref k0, .ref k1, .ref k2, .ref k3, .ref k4, .ref k5, .ref k6, .ref k7, .ref k8, .ref k9, .ref ka, .ref kb, .int cc])), (k0, .inr (9, [.ref k00, .ref k01, .ref k02, .ref k03, .ref k04, .ref k05, .int c06, .int c07, .int c08])), (k04, .inr (8, [.ref k040, .ref k041, .ref k042, .ref k043, .ref k044, .ref k045, .ref k046, .ref k047, .ref k048, .int c049])), (k040, .inl (cI, 60, .inl c040))] sz) [(k, .inr (10, [.ref k0, .ref k1, .ref k2, .ref k3, .ref k4, .ref k5, .ref k6, .ref k7, .ref k8, .ref k9, .ref ka, .ref kb, .int cc])), (k0, .inr (9, [.ref k00, .ref k01, .ref k02, .ref k03, .ref k04, .ref k05, .int c06, .int c07, .int c08])), (k04, .inr (8, [.ref k040, .ref k041, .ref k042, .ref k043, .ref k044, .ref k045, .ref k046, .ref k047, .ref k048, .int c049])), (k040, .inl (cI, 60, .inl c040))] t) (va_A [(k, .inr (10, [.ref k0, .ref k1, .ref k2, .ref k3, .ref k4, .ref k5, .ref k6, .ref k7, .ref k8, .ref k9, .ref ka, .ref kb, .int cc])), (k0, .inr (9, [.ref k00, .ref k01, .ref k02, .ref k03, .ref k04, .ref k05, .int c06, .int c07, .int c08])), (k04, .inr (8, [.ref k040, .ref k041, .ref k042, .ref k043, .ref k044, .ref k045, .ref k046, .ref k047, .ref k048, .int c049])), (k040, .inl (cI, 60, .inl c040))] sz)) 0 0 (va_A [(k, .inr (10, [.ref k0, .ref k1, .ref k2, .ref k3, .ref k4, .ref k5, .ref k6, .ref k7, .ref k8, .ref k9, .ref ka, .ref kb, .int cc])), (k0, .inr (9, [.ref k00, .ref k01, .ref k02, .ref k03, .ref k04, .ref k05, .int c06, .int c07, .int c08])), (k04, .inr (8, [.ref k040, .ref k041, .ref k042, .ref k043, .ref k044, .ref k045, .ref k046, .ref k047, .ref k048, .int c049])), (k040, .inl (cI, 60, .inl c040))] sz) := by
  refine kMetIX (own := RX10) (by decide +kernel) rfl (Nat.le_of_ble_eq_true rfl) ?_
  intro p e s m args below meth c hx hb hT hown hname hml A Q hK hP hD hS hA hN hXS hRet ls hl
  have hl : lv_has ls 3 [(0, .ref k), (1, .int a0), (2, .int a1)] := hl
  have lo_a0 := k_lo a0
  have hi_a0 := k_hi a0
  have lo_a1 := k_lo a1
  have hi_a1 := k_hi a1
  refine lv_aload_n hx hb dX10_areStations_0 rfl (lv_at hl 0 rfl) ?_
  refine va_get (D := D) (ci := 10) (v := .ref k0) (C := RX10) (T := TX10) (N := 13) hx hb hT giX10 hown hK hP 0 rfl rfl 0 (by decide +kernel) (hT (Cond.fieldLink RX10 12 "DesertWire" "now" "LDesertWire$World;") mw_291) (fun _ h9 => h9) rfl dX10_areStations_1 ?_
  refine va_get (D := D) (ci := 9) (v := .ref k04) (C := RX9) (T := TX9) (N := 9) hx hb hT giX9 hown hK hP 1 rfl rfl 4 (by decide +kernel) (hT (Cond.fieldLink RX10 99 "DesertWire$World" "works" "LDesertWire$Works;") mw_99) (fun _ h9 => h9) rfl dX10_areStations_4 ?_
  refine lv_iload_n hx hb dX10_areStations_7 rfl (lv_at hl 1 rfl) ?_
  refine kJi (wr := [(k, .inr (10, [.ref k0, .ref k1, .ref k2, .ref k3, .ref k4, .ref k5, .ref k6, .ref k7, .ref k8, .ref k9, .ref ka, .ref kb, .int cc])), (k0, .inr (9, [.ref k00, .ref k01, .ref k02, .ref k03, .ref k04, .ref k05, .int c06, .int c07, .int c08]))]) (va_runV (As := [.int a0]) (rest := []) ⟨hx, hb, hml, hown, hT⟩ (c_X8_kindOfG l D cI aK aV k04 k040 k041 k042 k043 k044 k045 k046 k047 k048 s.heap.size c049 c040 a0) (cwV 1 hT (gV_in mw_384 mw_381 mw_382 mw_383 mw_3) rfl rfl rfl (by decide +kernel) ⟨Nat.le_of_ble_eq_true rfl, Nat.le_of_ble_eq_true rfl⟩) (kRecvX (q0 := 2) (ci := 8) hK hP hD hN hXS hS hA rfl rfl [2, 3] rfl (by decide +kernel)) rfl rfl hl.1 rfl (lv_room (Nat.le_of_ble_eq_true rfl)) dX10_areStations_8 ⟨Nat.le_of_ble_eq_true rfl, Nat.le_of_ble_eq_true rfl⟩) hP hD hS hA [2, 3] [0, 1] rfl rfl (by decide +kernel) (by decide +kernel) ?_
  clear hP hD hS
  intro r_1 u_3 H locs w_2 hP hD hS
  replace hP : va_P D vwCl [(k, .inr (10, [.ref k0, .ref k1, .ref k2, .ref k3, .ref k4, .ref k5, .ref k6, .ref k7, .ref k8, .ref k9, .ref ka, .ref kb, .int cc])), (k0, .inr (9, [.ref k00, .ref k01, .ref k02, .ref k03, .ref k04, .ref k05, .int c06, .int c07, .int c08])), (k04, .inr (8, [.ref k040, .ref k041, .ref k042, .ref k043, .ref k044, .ref k045, .ref k046, .ref k047, .ref k048, .int c049])), (k040, .inl (cI, 60, .inl c040))] H := hP
  replace hD : va_D A [(k, .inr (10, [.ref k0, .ref k1, .ref k2, .ref k3, .ref k4, .ref k5, .ref k6, .ref k7, .ref k8, .ref k9, .ref ka, .ref kb, .int cc])), (k0, .inr (9, [.ref k00, .ref k01, .ref k02, .ref k03, .ref k04, .ref k05, .int c06, .int c07, .int c08])), (k04, .inr (8, [.ref k040, .ref k041, .ref k042, .ref k043, .ref k044, .ref k045, .ref k046, .ref k047, .ref k048, .int c049])), (k040, .inl (cI, 60, .inl c040))] := hD
  have lo_r_1 := k_lo r_1
  have hi_r_1 := k_hi r_1
  refine lv_iconst (v := 3) hx hb dX10_areStations_11 (by decide +kernel) ?_
  refine b_icmp_ne hx hb rfl zl_3 (tgt := 34) dX10_areStations_12 (by decide +kernel) (fun c_4 => ?_) (fun c_4 => ?_)
  · refine lv_iconst (v := 0) hx hb dX10_areStations_34 (by decide +kernel) ?_
    exact hRet () [0, 1, 2, 3] trivial hP hD (by decide +kernel) rfl hS rfl dX10_areStations_35
  · refine lv_aload_n hx hb dX10_areStations_15 rfl (lv_at hl 0 rfl) ?_
    refine va_get (D := D) (ci := 10) (v := .ref k0) (C := RX10) (T := TX10) (N := 13) hx hb hT giX10 hown hK hP 0 rfl rfl 0 (by decide +kernel) (hT (Cond.fieldLink RX10 12 "DesertWire" "now" "LDesertWire$World;") mw_291) (fun _ h9 => h9) rfl dX10_areStations_16 ?_
    refine va_get (D := D) (ci := 9) (v := .ref k04) (C := RX9) (T := TX9) (N := 9) hx hb hT giX9 hown hK hP 1 rfl rfl 4 (by decide +kernel) (hT (Cond.fieldLink RX10 99 "DesertWire$World" "works" "LDesertWire$Works;") mw_99) (fun _ h9 => h9) rfl dX10_areStations_19 ?_
    refine lv_iload_n hx hb dX10_areStations_22 rfl (lv_at hl 2 rfl) ?_
    refine kJi (wr := [(k, .inr (10, [.ref k0, .ref k1, .ref k2, .ref k3, .ref k4, .ref k5, .ref k6, .ref k7, .ref k8, .ref k9, .ref ka, .ref kb, .int cc])), (k0, .inr (9, [.ref k00, .ref k01, .ref k02, .ref k03, .ref k04, .ref k05, .int c06, .int c07, .int c08]))]) (va_runV (As := [.int a1]) (rest := []) ⟨hx, hb, hml, hown, hT⟩ (c_X8_kindOfG l D cI aK aV k04 k040 k041 k042 k043 k044 k045 k046 k047 k048 H.size c049 c040 a1) (cwV 1 hT (gV_in mw_384 mw_381 mw_382 mw_383 mw_3) rfl rfl rfl (by decide +kernel) ⟨Nat.le_of_ble_eq_true rfl, Nat.le_of_ble_eq_true rfl⟩) (kRecvX (q0 := 2) (ci := 8) hK hP hD hN hXS hS hA rfl rfl [2, 3] rfl (by decide +kernel)) rfl rfl hl.1 rfl (lv_room (Nat.le_of_ble_eq_true rfl)) dX10_areStations_23 ⟨Nat.le_of_ble_eq_true rfl, Nat.le_of_ble_eq_true rfl⟩) hP hD hS hA [2, 3] [0, 1] rfl rfl (by decide +kernel) (by decide +kernel) ?_
    clear hP hD hS
    intro r_5 u_7 H locs w_6 hP hD hS
    replace hP : va_P D vwCl [(k, .inr (10, [.ref k0, .ref k1, .ref k2, .ref k3, .ref k4, .ref k5, .ref k6, .ref k7, .ref k8, .ref k9, .ref ka, .ref kb, .int cc])), (k0, .inr (9, [.ref k00, .ref k01, .ref k02, .ref k03, .ref k04, .ref k05, .int c06, .int c07, .int c08])), (k04, .inr (8, [.ref k040, .ref k041, .ref k042, .ref k043, .ref k044, .ref k045, .ref k046, .ref k047, .ref k048, .int c049])), (k040, .inl (cI, 60, .inl c040))] H := hP
    replace hD : va_D A [(k, .inr (10, [.ref k0, .ref k1, .ref k2, .ref k3, .ref k4, .ref k5, .ref k6, .ref k7, .ref k8, .ref k9, .ref ka, .ref kb, .int cc])), (k0, .inr (9, [.ref k00, .ref k01, .ref k02, .ref k03, .ref k04, .ref k05, .int c06, .int c07, .int c08])), (k04, .inr (8, [.ref k040, .ref k041, .ref k042, .ref k043, .ref k044, .ref k045, .ref k046, .ref k047, .ref k048, .int c049])), (k040, .inl (cI, 60, .inl c040))] := hD
    have lo_r_5 := k_lo r_5
    have hi_r_5 := k_hi r_5
    refine lv_iconst (v := 3) hx hb dX10_areStations_26 (by decide +kernel) ?_
    refine b_icmp_ne hx hb rfl zl_3 (tgt := 34) dX10_areStations_27 (by decide +kernel) (fun c_8 => ?_) (fun c_8 => ?_)
    · refine lv_iconst (v := 0) hx hb dX10_areStations_34 (by decide +kernel) ?_
      exact hRet () [0, 1, 2, 3] trivial hP hD (by decide +kernel) rfl hS rfl dX10_areStations_35
    · refine lv_iconst (v := 1) hx hb dX10_areStations_30 (by decide +kernel) ?_
      refine lv_goto (tgt := 35) hx hb dX10_areStations_31 (by decide +kernel) ?_
      exact hRet () [0, 1, 2, 3] trivial hP hD (by decide +kernel) rfl hS rfl dX10_areStations_35
theorem bn_cX10_areParties_0 : BN cX10_areParties 0 0x15a040280550050400534d000adc3ac200ad41a015a8ac2c014d34002b70e30802b5068056a2b := by
  unfold BN; decide +kernel
theorem dX10_areParties_0 : decode cX10_areParties 0 = .ok (.aload_n 0, 1) := dR0 (k := 0) (i := 0) bn_cX10_areParties_0 dop_42 (by decide +kernel)
theorem dX10_areParties_1 : decode cX10_areParties 1 = .ok (.getfield 12, 3) := dR2 (f := Instr.getfield) (k := 0) (i := 1) bn_cX10_areParties_0 dop_180 12 (by decide +kernel)
theorem dX10_areParties_4 : decode cX10_areParties 4 = .ok (.getfield 193, 3) := dR2 (f := Instr.getfield) (k := 0) (i := 4) bn_cX10_areParties_0 dop_180 193 (by decide +kernel)
theorem dX10_areParties_7 : decode cX10_areParties 7 = .ok (.iload_n 1, 1) := dR0 (k := 0) (i := 7) bn_cX10_areParties_0 dop_27 (by decide +kernel)
theorem dX10_areParties_8 : decode cX10_areParties 8 = .ok (.invokevirtual 207, 3) := dR2 (f := Instr.invokevirtual) (k := 0) (i := 8) bn_cX10_areParties_0 dop_182 207 (by decide +kernel)
theorem dX10_areParties_11 : decode cX10_areParties 11 = .ok (.ifCond .eq 21, 3) := dR2s (f := Instr.ifCond .eq) (k := 0) (i := 11) bn_cX10_areParties_0 dop_153 21 21 (by decide +kernel)
theorem dX10_areParties_14 : decode cX10_areParties 14 = .ok (.aload_n 0, 1) := dR0 (k := 0) (i := 14) bn_cX10_areParties_0 dop_42 (by decide +kernel)
theorem dX10_areParties_15 : decode cX10_areParties 15 = .ok (.getfield 12, 3) := dR2 (f := Instr.getfield) (k := 0) (i := 15) bn_cX10_areParties_0 dop_180 12 (by decide +kernel)
theorem dX10_areParties_18 : decode cX10_areParties 18 = .ok (.getfield 193, 3) := dR2 (f := Instr.getfield) (k := 0) (i := 18) bn_cX10_areParties_0 dop_180 193 (by decide +kernel)
theorem dX10_areParties_21 : decode cX10_areParties 21 = .ok (.iload_n 2, 1) := dR0 (k := 0) (i := 21) bn_cX10_areParties_0 dop_28 (by decide +kernel)
theorem dX10_areParties_22 : decode cX10_areParties 22 = .ok (.invokevirtual 207, 3) := dR2 (f := Instr.invokevirtual) (k := 0) (i := 22) bn_cX10_areParties_0 dop_182 207 (by decide +kernel)
theorem dX10_areParties_25 : decode cX10_areParties 25 = .ok (.ifCond .eq 7, 3) := dR2s (f := Instr.ifCond .eq) (k := 0) (i := 25) bn_cX10_areParties_0 dop_153 7 7 (by decide +kernel)
theorem dX10_areParties_28 : decode cX10_areParties 28 = .ok (.iconst 1, 1) := dR0 (k := 0) (i := 28) bn_cX10_areParties_0 dop_4 (by decide +kernel)
theorem dX10_areParties_29 : decode cX10_areParties 29 = .ok (.goto 4, 3) := dR2s (f := Instr.goto) (k := 0) (i := 29) bn_cX10_areParties_0 dop_167 4 4 (by decide +kernel)
theorem dX10_areParties_32 : decode cX10_areParties 32 = .ok (.iconst 0, 1) := dR0 (k := 0) (i := 32) bn_cX10_areParties_0 dop_3 (by decide +kernel)
theorem dX10_areParties_33 : decode cX10_areParties 33 = .ok (.ireturn, 1) := dR0 (k := 0) (i := 33) bn_cX10_areParties_0 dop_172 (by decide +kernel)
set_option maxHeartbeats 4000000 in
set_option maxRecDepth 100000 in
theorem c_X10_arePartiesG (l : Launch) (D : va_G) (cI : ClassId) (aK aV : Nat → Nat) (k k0 k1 k2 k3 k4 k5 k6 k7 k8 k9 ka kb k00 k01 k02 k03 k04 k05 k050 : Nat) (sz : Nat) (cc : Int32) (c06 : Int32) (c07 : Int32) (c08 : Int32) (c051 : Int32) (a0 : Int32) (a1 : Int32) : Met l yX10_areParties (gW yX10_areParties cX10_areParties 3 (some .boolean)) ({ frames := 1, cells := 0, slots := 0, locals := 21 } : Room) (kPreX D cI aK aV [.ref k, .int a0, .int a1] [(k, .inr (10, [.ref k0, .ref k1, .ref k2, .ref k3, .ref k4, .ref k5, .ref k6, .ref k7, .ref k8, .ref k9, .ref ka, .ref kb, .int cc])), (k0, .inr (9, [.ref k00, .ref k01, .ref k02, .ref k03, .ref k04, .ref k05, .int c06, .int c07, .int c08])), (k05, .inr (3, [.ref k050, .int c051]))] sz) (va_Qi (fun (r : Int32) (u : Unit) => True) (fun u t => kWd D cI (va_A [(k, .inr (10, [.ref k0, .ref k1, .ref k2, .ref k3, .ref k4, .ref k5, .ref k6, .ref k7, .ref k8, .ref k9, .ref ka, .ref kb, .int cc])), (k0, .inr (9, [.ref k00, .ref k01, .ref k02, .ref k03, .ref k04, .ref k05, .int c06, .int c07, .int c08])), (k05, .inr (3, [.ref k050, .int c051]))] sz) [(k, .inr (10, [.ref k0, .ref k1, .ref k2, .ref k3, .ref k4, .ref k5, .ref k6, .ref k7, .ref k8, .ref k9, .ref ka, .ref kb, .int cc])), (k0, .inr (9, [.ref k00, .ref k01, .ref k02, .ref k03, .ref k04, .ref k05, .int c06, .int c07, .int c08])), (k05, .inr (3, [.ref k050, .int c051]))] t) (va_A [(k, .inr (10, [.ref k0, .ref k1, .ref k2, .ref k3, .ref k4, .ref k5, .ref k6, .ref k7, .ref k8, .ref k9, .ref ka, .ref kb, .int cc])), (k0, .inr (9, [.ref k00, .ref k01, .ref k02, .ref k03, .ref k04, .ref k05, .int c06, .int c07, .int c08])), (k05, .inr (3, [.ref k050, .int c051]))] sz)) 0 0 (va_A [(k, .inr (10, [.ref k0, .ref k1, .ref k2, .ref k3, .ref k4, .ref k5, .ref k6, .ref k7, .ref k8, .ref k9, .ref ka, .ref kb, .int cc])), (k0, .inr (9, [.ref k00, .ref k01, .ref k02, .ref k03, .ref k04, .ref k05, .int c06, .int c07, .int c08])), (k05, .inr (3, [.ref k050, .int c051]))] sz) := by
  refine kMetIX (own := RX10) (by decide +kernel) rfl (Nat.le_of_ble_eq_true rfl) ?_
  intro p e s m args below meth c hx hb hT hown hname hml A Q hK hP hD hS hA hN hXS hRet ls hl
  have hl : lv_has ls 3 [(0, .ref k), (1, .int a0), (2, .int a1)] := hl
  have lo_a0 := k_lo a0
  have hi_a0 := k_hi a0
  have lo_a1 := k_lo a1
  have hi_a1 := k_hi a1
  have lo_c051 := k_lo c051
  have hi_c051 := k_hi c051
  refine lv_aload_n hx hb dX10_areParties_0 rfl (lv_at hl 0 rfl) ?_
  refine va_get (D := D) (ci := 10) (v := .ref k0) (C := RX10) (T := TX10) (N := 13) hx hb hT giX10 hown hK hP 0 rfl rfl 0 (by decide +kernel) (hT (Cond.fieldLink RX10 12 "DesertWire" "now" "LDesertWire$World;") mw_291) (fun _ h9 => h9) rfl dX10_areParties_1 ?_
  refine va_get (D := D) (ci := 9) (v := .ref k05) (C := RX9) (T := TX9) (N := 9) hx hb hT giX9 hown hK hP 1 rfl rfl 5 (by decide +kernel) (hT (Cond.fieldLink RX10 193 "DesertWire$World" "parties" "LDesertWire$Parties;") mw_102) (fun _ h9 => h9) rfl dX10_areParties_4 ?_
  refine lv_iload_n hx hb dX10_areParties_7 rfl (lv_at hl 1 rfl) ?_
  refine kJi (wr := [(k, .inr (10, [.ref k0, .ref k1, .ref k2, .ref k3, .ref k4, .ref k5, .ref k6, .ref k7, .ref k8, .ref k9, .ref ka, .ref kb, .int cc])), (k0, .inr (9, [.ref k00, .ref k01, .ref k02, .ref k03, .ref k04, .ref k05, .int c06, .int c07, .int c08]))]) (va_runV (As := [.int a0]) (rest := []) ⟨hx, hb, hml, hown, hT⟩ (c_X3_hasG l D cI aK aV k05 k050 s.heap.size c051 a0) (cwV 1 hT (gV_in mw_717 mw_722 mw_715 mw_716 mw_4) rfl rfl rfl (by decide +kernel) ⟨Nat.le_of_ble_eq_true rfl, Nat.le_of_ble_eq_true rfl⟩) (kRecvX (q0 := 2) (ci := 3) hK hP hD hN hXS hS hA rfl rfl [2] rfl (by decide +kernel)) rfl rfl hl.1 rfl (lv_room (Nat.le_of_ble_eq_true rfl)) dX10_areParties_8 ⟨Nat.le_of_ble_eq_true rfl, Nat.le_of_ble_eq_true rfl⟩) hP hD hS hA [2] [0, 1] rfl rfl (by decide +kernel) (by decide +kernel) ?_
  clear hP hD hS
  intro r_1 u_3 H locs w_2 hP hD hS
  replace hP : va_P D vwCl [(k, .inr (10, [.ref k0, .ref k1, .ref k2, .ref k3, .ref k4, .ref k5, .ref k6, .ref k7, .ref k8, .ref k9, .ref ka, .ref kb, .int cc])), (k0, .inr (9, [.ref k00, .ref k01, .ref k02, .ref k03, .ref k04, .ref k05, .int c06, .int c07, .int c08])), (k05, .inr (3, [.ref k050, .int c051]))] H := hP
  replace hD : va_D A [(k, .inr (10, [.ref k0, .ref k1, .ref k2, .ref k3, .ref k4, .ref k5, .ref k6, .ref k7, .ref k8, .ref k9, .ref ka, .ref kb, .int cc])), (k0, .inr (9, [.ref k00, .ref k01, .ref k02, .ref k03, .ref k04, .ref k05, .int c06, .int c07, .int c08])), (k05, .inr (3, [.ref k050, .int c051]))] := hD
  rcases w_2 with ⟨hr_1, h_4, h_5, h_6⟩ | ⟨hr_1, h_7⟩
  · have h_4 : 0 ≤ a0.toInt := h_4
    have h_5 : a0.toInt < c051.toInt := h_5
    have h_6 : a0.toInt < 4 := h_6
    obtain rfl : r_1 = 1 := hr_1.trans (by decide +kernel)
    refine b_if_eq hx hb zl_1 (tgt := 32) dX10_areParties_11 (by decide +kernel) (fun c_8 => by exfalso; omega) (fun c_8 => ?_)
    refine lv_aload_n hx hb dX10_areParties_14 rfl (lv_at hl 0 rfl) ?_
    refine va_get (D := D) (ci := 10) (v := .ref k0) (C := RX10) (T := TX10) (N := 13) hx hb hT giX10 hown hK hP 0 rfl rfl 0 (by decide +kernel) (hT (Cond.fieldLink RX10 12 "DesertWire" "now" "LDesertWire$World;") mw_291) (fun _ h9 => h9) rfl dX10_areParties_15 ?_
    refine va_get (D := D) (ci := 9) (v := .ref k05) (C := RX9) (T := TX9) (N := 9) hx hb hT giX9 hown hK hP 1 rfl rfl 5 (by decide +kernel) (hT (Cond.fieldLink RX10 193 "DesertWire$World" "parties" "LDesertWire$Parties;") mw_102) (fun _ h9 => h9) rfl dX10_areParties_18 ?_
    refine lv_iload_n hx hb dX10_areParties_21 rfl (lv_at hl 2 rfl) ?_
    refine kJi (wr := [(k, .inr (10, [.ref k0, .ref k1, .ref k2, .ref k3, .ref k4, .ref k5, .ref k6, .ref k7, .ref k8, .ref k9, .ref ka, .ref kb, .int cc])), (k0, .inr (9, [.ref k00, .ref k01, .ref k02, .ref k03, .ref k04, .ref k05, .int c06, .int c07, .int c08]))]) (va_runV (As := [.int a1]) (rest := []) ⟨hx, hb, hml, hown, hT⟩ (c_X3_hasG l D cI aK aV k05 k050 H.size c051 a1) (cwV 1 hT (gV_in mw_717 mw_722 mw_715 mw_716 mw_4) rfl rfl rfl (by decide +kernel) ⟨Nat.le_of_ble_eq_true rfl, Nat.le_of_ble_eq_true rfl⟩) (kRecvX (q0 := 2) (ci := 3) hK hP hD hN hXS hS hA rfl rfl [2] rfl (by decide +kernel)) rfl rfl hl.1 rfl (lv_room (Nat.le_of_ble_eq_true rfl)) dX10_areParties_22 ⟨Nat.le_of_ble_eq_true rfl, Nat.le_of_ble_eq_true rfl⟩) hP hD hS hA [2] [0, 1] rfl rfl (by decide +kernel) (by decide +kernel) ?_
    clear hP hD hS
    intro r_9 u_11 H locs w_10 hP hD hS
    replace hP : va_P D vwCl [(k, .inr (10, [.ref k0, .ref k1, .ref k2, .ref k3, .ref k4, .ref k5, .ref k6, .ref k7, .ref k8, .ref k9, .ref ka, .ref kb, .int cc])), (k0, .inr (9, [.ref k00, .ref k01, .ref k02, .ref k03, .ref k04, .ref k05, .int c06, .int c07, .int c08])), (k05, .inr (3, [.ref k050, .int c051]))] H := hP
    replace hD : va_D A [(k, .inr (10, [.ref k0, .ref k1, .ref k2, .ref k3, .ref k4, .ref k5, .ref k6, .ref k7, .ref k8, .ref k9, .ref ka, .ref kb, .int cc])), (k0, .inr (9, [.ref k00, .ref k01, .ref k02, .ref k03, .ref k04, .ref k05, .int c06, .int c07, .int c08])), (k05, .inr (3, [.ref k050, .int c051]))] := hD
    rcases w_10 with ⟨hr_9, h_12, h_13, h_14⟩ | ⟨hr_9, h_15⟩
    · have h_12 : 0 ≤ a1.toInt := h_12
      have h_13 : a1.toInt < c051.toInt := h_13
      have h_14 : a1.toInt < 4 := h_14
      obtain rfl : r_9 = 1 := hr_9.trans (by decide +kernel)
      refine b_if_eq hx hb zl_1 (tgt := 32) dX10_areParties_25 (by decide +kernel) (fun c_16 => by exfalso; omega) (fun c_16 => ?_)
      refine lv_iconst (v := 1) hx hb dX10_areParties_28 (by decide +kernel) ?_
      refine lv_goto (tgt := 33) hx hb dX10_areParties_29 (by decide +kernel) ?_
      exact hRet () [0, 1, 2] trivial hP hD (by decide +kernel) rfl hS rfl dX10_areParties_33
    · have h_15 : a1.toInt < 0 ∨ c051.toInt ≤ a1.toInt ∨ 4 ≤ a1.toInt := h_15
      obtain rfl : r_9 = 0 := hr_9.trans (by decide +kernel)
      refine b_if_eq hx hb zl_0 (tgt := 32) dX10_areParties_25 (by decide +kernel) (fun c_17 => ?_) (fun c_17 => by exfalso; omega)
      refine lv_iconst (v := 0) hx hb dX10_areParties_32 (by decide +kernel) ?_
      exact hRet () [0, 1, 2] trivial hP hD (by decide +kernel) rfl hS rfl dX10_areParties_33
  · have h_7 : a0.toInt < 0 ∨ c051.toInt ≤ a0.toInt ∨ 4 ≤ a0.toInt := h_7
    obtain rfl : r_1 = 0 := hr_1.trans (by decide +kernel)
    refine b_if_eq hx hb zl_0 (tgt := 32) dX10_areParties_11 (by decide +kernel) (fun c_18 => ?_) (fun c_18 => by exfalso; omega)
    refine lv_iconst (v := 0) hx hb dX10_areParties_32 (by decide +kernel) ?_
    exact hRet () [0, 1, 2] trivial hP hD (by decide +kernel) rfl hS rfl dX10_areParties_33
theorem bn_cX10_reads_0 : BN cX10_reads 0 0x2b4080500aa00a0800a69ce015b874380d00ad4562b00ad456e300adc1a015a8ac56015a8ad5a5300adc122b0500536e000adc3a1c15ab4a6015b814560a00a6dba015b874382b := by
  unfold BN; decide +kernel
theorem dX10_reads_0 : decode cX10_reads 0 = .ok (.aload_n 0, 1) := dR0 (k := 0) (i := 0) bn_cX10_reads_0 dop_42 (by decide +kernel)
theorem dX10_reads_1 : decode cX10_reads 1 = .ok (.iload_n 1, 1) := dR0 (k := 0) (i := 1) bn_cX10_reads_0 dop_27 (by decide +kernel)
theorem dX10_reads_2 : decode cX10_reads 2 = .ok (.iload_n 2, 1) := dR0 (k := 0) (i := 2) bn_cX10_reads_0 dop_28 (by decide +kernel)
theorem dX10_reads_3 : decode cX10_reads 3 = .ok (.invokevirtual 220, 3) := dR2 (f := Instr.invokevirtual) (k := 0) (i := 3) bn_cX10_reads_0 dop_182 220 (by decide +kernel)
theorem dX10_reads_6 : decode cX10_reads 6 = .ok (.ifCond .ne 9, 3) := dR2s (f := Instr.ifCond .ne) (k := 0) (i := 6) bn_cX10_reads_0 dop_154 9 9 (by decide +kernel)
theorem dX10_reads_9 : decode cX10_reads 9 = .ok (.aload_n 0, 1) := dR0 (k := 0) (i := 9) bn_cX10_reads_0 dop_42 (by decide +kernel)
theorem dX10_reads_10 : decode cX10_reads 10 = .ok (.iconst 1, 1) := dR0 (k := 0) (i := 10) bn_cX10_reads_0 dop_4 (by decide +kernel)
theorem dX10_reads_11 : decode cX10_reads 11 = .ok (.invokevirtual 82, 3) := dR2 (f := Instr.invokevirtual) (k := 0) (i := 11) bn_cX10_reads_0 dop_182 82 (by decide +kernel)
theorem dX10_reads_14 : decode cX10_reads 14 = .ok (.ireturn, 1) := dR0 (k := 0) (i := 14) bn_cX10_reads_0 dop_172 (by decide +kernel)
theorem dX10_reads_15 : decode cX10_reads 15 = .ok (.aload_n 0, 1) := dR0 (k := 0) (i := 15) bn_cX10_reads_0 dop_42 (by decide +kernel)
theorem dX10_reads_16 : decode cX10_reads 16 = .ok (.iload_n 1, 1) := dR0 (k := 0) (i := 16) bn_cX10_reads_0 dop_27 (by decide +kernel)
theorem dX10_reads_17 : decode cX10_reads 17 = .ok (.iload_n 2, 1) := dR0 (k := 0) (i := 17) bn_cX10_reads_0 dop_28 (by decide +kernel)
theorem dX10_reads_18 : decode cX10_reads 18 = .ok (.invokevirtual 223, 3) := dR2 (f := Instr.invokevirtual) (k := 0) (i := 18) bn_cX10_reads_0 dop_182 223 (by decide +kernel)
theorem dX10_reads_21 : decode cX10_reads 21 = .ok (.ifCond .ne 9, 3) := dR2s (f := Instr.ifCond .ne) (k := 0) (i := 21) bn_cX10_reads_0 dop_154 9 9 (by decide +kernel)
theorem dX10_reads_24 : decode cX10_reads 24 = .ok (.aload_n 0, 1) := dR0 (k := 0) (i := 24) bn_cX10_reads_0 dop_42 (by decide +kernel)
theorem dX10_reads_25 : decode cX10_reads 25 = .ok (.iconst 5, 1) := dR0 (k := 0) (i := 25) bn_cX10_reads_0 dop_8 (by decide +kernel)
theorem dX10_reads_26 : decode cX10_reads 26 = .ok (.invokevirtual 82, 3) := dR2 (f := Instr.invokevirtual) (k := 0) (i := 26) bn_cX10_reads_0 dop_182 82 (by decide +kernel)
theorem dX10_reads_29 : decode cX10_reads 29 = .ok (.ireturn, 1) := dR0 (k := 0) (i := 29) bn_cX10_reads_0 dop_172 (by decide +kernel)
theorem dX10_reads_30 : decode cX10_reads 30 = .ok (.aload_n 0, 1) := dR0 (k := 0) (i := 30) bn_cX10_reads_0 dop_42 (by decide +kernel)
theorem dX10_reads_31 : decode cX10_reads 31 = .ok (.getfield 42, 3) := dR2 (f := Instr.getfield) (k := 0) (i := 31) bn_cX10_reads_0 dop_180 42 (by decide +kernel)
theorem dX10_reads_34 : decode cX10_reads 34 = .ok (.aload_n 0, 1) := dR0 (k := 0) (i := 34) bn_cX10_reads_0 dop_42 (by decide +kernel)
theorem dX10_reads_35 : decode cX10_reads 35 = .ok (.getfield 12, 3) := dR2 (f := Instr.getfield) (k := 0) (i := 35) bn_cX10_reads_0 dop_180 12 (by decide +kernel)
theorem dX10_reads_38 : decode cX10_reads 38 = .ok (.invokevirtual 226, 3) := dR2 (f := Instr.invokevirtual) (k := 0) (i := 38) bn_cX10_reads_0 dop_182 226 (by decide +kernel)
theorem dX10_reads_41 : decode cX10_reads 41 = .ok (.aload_n 0, 1) := dR0 (k := 0) (i := 41) bn_cX10_reads_0 dop_42 (by decide +kernel)
theorem dX10_reads_42 : decode cX10_reads 42 = .ok (.getfield 42, 3) := dR2 (f := Instr.getfield) (k := 0) (i := 42) bn_cX10_reads_0 dop_180 42 (by decide +kernel)
theorem dX10_reads_45 : decode cX10_reads 45 = .ok (.aload_n 0, 1) := dR0 (k := 0) (i := 45) bn_cX10_reads_0 dop_42 (by decide +kernel)
theorem dX10_reads_46 : decode cX10_reads 46 = .ok (.getfield 12, 3) := dR2 (f := Instr.getfield) (k := 0) (i := 46) bn_cX10_reads_0 dop_180 12 (by decide +kernel)
theorem dX10_reads_49 : decode cX10_reads 49 = .ok (.iload_n 1, 1) := dR0 (k := 0) (i := 49) bn_cX10_reads_0 dop_27 (by decide +kernel)
theorem dX10_reads_50 : decode cX10_reads 50 = .ok (.iload_n 2, 1) := dR0 (k := 0) (i := 50) bn_cX10_reads_0 dop_28 (by decide +kernel)
theorem dX10_reads_51 : decode cX10_reads 51 = .ok (.invokevirtual 230, 3) := dR2 (f := Instr.invokevirtual) (k := 0) (i := 51) bn_cX10_reads_0 dop_182 230 (by decide +kernel)
theorem dX10_reads_54 : decode cX10_reads 54 = .ok (.ifCond .eq 7, 3) := dR2s (f := Instr.ifCond .eq) (k := 0) (i := 54) bn_cX10_reads_0 dop_153 7 7 (by decide +kernel)
theorem dX10_reads_57 : decode cX10_reads 57 = .ok (.iconst 1, 1) := dR0 (k := 0) (i := 57) bn_cX10_reads_0 dop_4 (by decide +kernel)
theorem dX10_reads_58 : decode cX10_reads 58 = .ok (.goto 4, 3) := dR2s (f := Instr.goto) (k := 0) (i := 58) bn_cX10_reads_0 dop_167 4 4 (by decide +kernel)
theorem dX10_reads_61 : decode cX10_reads 61 = .ok (.iconst 0, 1) := dR0 (k := 0) (i := 61) bn_cX10_reads_0 dop_3 (by decide +kernel)
theorem dX10_reads_62 : decode cX10_reads 62 = .ok (.ireturn, 1) := dR0 (k := 0) (i := 62) bn_cX10_reads_0 dop_172 (by decide +kernel)
set_option maxHeartbeats 4000000 in
set_option maxRecDepth 100000 in
theorem c_X10_readsG (l : Launch) (D : va_G) (cI : ClassId) (aK aV : Nat → Nat) (k k0 k1 k2 k3 k4 k5 k6 k7 k8 k9 ka kb k00 k01 k02 k03 k04 k05 k60 k61 k62 k63 k64 k040 k041 k042 k043 k044 k045 k046 k047 k048 : Nat) (sz : Nat) (cc : Int32) (c06 : Int32) (c07 : Int32) (c08 : Int32) (c65 : Int32) (cb : Nat → Int32) (c00 : Nat → Int32) (c049 : Int32) (c60 : Nat → Int32) (c61 : Nat → Int32) (c040 : Nat → Int32) (c041 : Nat → Int32) (c043 : Nat → Int32) (c045 : Nat → Int32) (c046 : Nat → Int32) (a0 : Int32) (a1 : Int32) : Met l yX10_reads (gW yX10_reads cX10_reads 3 (some .int)) ({ frames := 4, cells := 0, slots := 0, locals := 91 } : Room) (kPreX D cI aK aV [.ref k, .int a0, .int a1] [(k, .inr (10, [.ref k0, .ref k1, .ref k2, .ref k3, .ref k4, .ref k5, .ref k6, .ref k7, .ref k8, .ref k9, .ref ka, .ref kb, .int cc])), (k0, .inr (9, [.ref k00, .ref k01, .ref k02, .ref k03, .ref k04, .ref k05, .int c06, .int c07, .int c08])), (k6, .inr (0, [.ref k60, .ref k61, .ref k62, .ref k63, .ref k64, .int c65])), (kb, .inl (cI, 6, .inl cb)), (k00, .inl (cI, 12, .inl c00)), (k04, .inr (8, [.ref k040, .ref k041, .ref k042, .ref k043, .ref k044, .ref k045, .ref k046, .ref k047, .ref k048, .int c049])), (k60, .inl (cI, 41, .inl c60)), (k61, .inl (cI, 41, .inl c61)), (k040, .inl (cI, 60, .inl c040)), (k041, .inl (cI, 60, .inl c041)), (k043, .inl (cI, 60, .inl c043)), (k045, .inl (cI, 60, .inl c045)), (k046, .inl (cI, 40, .inl c046))] sz) (va_Qi (fun (r : Int32) (u : (Nat → Int32) × (Nat → Int32) × (Nat → Int32)) => True) (fun u t => kWd D cI (va_A [(k, .inr (10, [.ref k0, .ref k1, .ref k2, .ref k3, .ref k4, .ref k5, .ref k6, .ref k7, .ref k8, .ref k9, .ref ka, .ref kb, .int cc])), (k0, .inr (9, [.ref k00, .ref k01, .ref k02, .ref k03, .ref k04, .ref k05, .int c06, .int c07, .int c08])), (k6, .inr (0, [.ref k60, .ref k61, .ref k62, .ref k63, .ref k64, .int c65])), (kb, .inl (cI, 6, .inl cb)), (k00, .inl (cI, 12, .inl c00)), (k04, .inr (8, [.ref k040, .ref k041, .ref k042, .ref k043, .ref k044, .ref k045, .ref k046, .ref k047, .ref k048, .int c049])), (k60, .inl (cI, 41, .inl c60)), (k61, .inl (cI, 41, .inl c61)), (k040, .inl (cI, 60, .inl c040)), (k041, .inl (cI, 60, .inl c041)), (k043, .inl (cI, 60, .inl c043)), (k045, .inl (cI, 60, .inl c045)), (k046, .inl (cI, 40, .inl c046))] sz) [(k, .inr (10, [.ref k0, .ref k1, .ref k2, .ref k3, .ref k4, .ref k5, .ref k6, .ref k7, .ref k8, .ref k9, .ref ka, .ref kb, .int cc])), (k0, .inr (9, [.ref k00, .ref k01, .ref k02, .ref k03, .ref k04, .ref k05, .int c06, .int c07, .int c08])), (k6, .inr (0, [.ref k60, .ref k61, .ref k62, .ref k63, .ref k64, .int c65])), (kb, .inl (cI, 6, .inl u.1)), (k00, .inl (cI, 12, .inl c00)), (k04, .inr (8, [.ref k040, .ref k041, .ref k042, .ref k043, .ref k044, .ref k045, .ref k046, .ref k047, .ref k048, .int c049])), (k60, .inl (cI, 41, .inl u.2.1)), (k61, .inl (cI, 41, .inl u.2.2)), (k040, .inl (cI, 60, .inl c040)), (k041, .inl (cI, 60, .inl c041)), (k043, .inl (cI, 60, .inl c043)), (k045, .inl (cI, 60, .inl c045)), (k046, .inl (cI, 40, .inl c046))] t) (va_A [(k, .inr (10, [.ref k0, .ref k1, .ref k2, .ref k3, .ref k4, .ref k5, .ref k6, .ref k7, .ref k8, .ref k9, .ref ka, .ref kb, .int cc])), (k0, .inr (9, [.ref k00, .ref k01, .ref k02, .ref k03, .ref k04, .ref k05, .int c06, .int c07, .int c08])), (k6, .inr (0, [.ref k60, .ref k61, .ref k62, .ref k63, .ref k64, .int c65])), (kb, .inl (cI, 6, .inl cb)), (k00, .inl (cI, 12, .inl c00)), (k04, .inr (8, [.ref k040, .ref k041, .ref k042, .ref k043, .ref k044, .ref k045, .ref k046, .ref k047, .ref k048, .int c049])), (k60, .inl (cI, 41, .inl c60)), (k61, .inl (cI, 41, .inl c61)), (k040, .inl (cI, 60, .inl c040)), (k041, .inl (cI, 60, .inl c041)), (k043, .inl (cI, 60, .inl c043)), (k045, .inl (cI, 60, .inl c045)), (k046, .inl (cI, 40, .inl c046))] sz)) 0 0 (va_A [(k, .inr (10, [.ref k0, .ref k1, .ref k2, .ref k3, .ref k4, .ref k5, .ref k6, .ref k7, .ref k8, .ref k9, .ref ka, .ref kb, .int cc])), (k0, .inr (9, [.ref k00, .ref k01, .ref k02, .ref k03, .ref k04, .ref k05, .int c06, .int c07, .int c08])), (k6, .inr (0, [.ref k60, .ref k61, .ref k62, .ref k63, .ref k64, .int c65])), (kb, .inl (cI, 6, .inl cb)), (k00, .inl (cI, 12, .inl c00)), (k04, .inr (8, [.ref k040, .ref k041, .ref k042, .ref k043, .ref k044, .ref k045, .ref k046, .ref k047, .ref k048, .int c049])), (k60, .inl (cI, 41, .inl c60)), (k61, .inl (cI, 41, .inl c61)), (k040, .inl (cI, 60, .inl c040)), (k041, .inl (cI, 60, .inl c041)), (k043, .inl (cI, 60, .inl c043)), (k045, .inl (cI, 60, .inl c045)), (k046, .inl (cI, 40, .inl c046))] sz) := by
  refine kMetIX (own := RX10) (by decide +kernel) rfl (Nat.le_of_ble_eq_true rfl) ?_
  intro p e s m args below meth c hx hb hT hown hname hml A Q hK hP hD hS hA hN hXS hRet ls hl
  have hl : lv_has ls 3 [(0, .ref k), (1, .int a0), (2, .int a1)] := hl
  have lo_a0 := k_lo a0
  have hi_a0 := k_hi a0
  have lo_a1 := k_lo a1
  have hi_a1 := k_hi a1
  refine lv_aload_n hx hb dX10_reads_0 rfl (lv_at hl 0 rfl) ?_
  refine lv_iload_n hx hb dX10_reads_1 rfl (lv_at hl 1 rfl) ?_
  refine lv_iload_n hx hb dX10_reads_2 rfl (lv_at hl 2 rfl) ?_
  refine kJi (wr := [(k6, .inr (0, [.ref k60, .ref k61, .ref k62, .ref k63, .ref k64, .int c65])), (kb, .inl (cI, 6, .inl cb)), (k00, .inl (cI, 12, .inl c00)), (k60, .inl (cI, 41, .inl c60)), (k61, .inl (cI, 41, .inl c61)), (k040, .inl (cI, 60, .inl c040)), (k041, .inl (cI, 60, .inl c041)), (k043, .inl (cI, 60, .inl c043)), (k045, .inl (cI, 60, .inl c045)), (k046, .inl (cI, 40, .inl c046))]) (va_runV (As := [.int a0, .int a1]) (rest := []) ⟨hx, hb, hml, hown, hT⟩ (c_X10_areTwoWorksG l D cI aK aV k k0 k1 k2 k3 k4 k5 k6 k7 k8 k9 ka kb k00 k01 k02 k03 k04 k05 k040 k041 k042 k043 k044 k045 k046 k047 k048 s.heap.size cc c06 c07 c08 c049 a0 a1) (cwV 2 hT (gV_in mw_764 mw_761 mw_763 mw_p2_1 mw_1) rfl rfl rfl (by decide +kernel) ⟨Nat.le_of_ble_eq_true rfl, Nat.le_of_ble_eq_true rfl⟩) (kRecvX (q0 := 0) (ci := 10) hK hP hD hN hXS hS hA rfl rfl [0, 1, 5] rfl (by decide +kernel)) rfl rfl hl.1 rfl (lv_room (Nat.le_of_ble_eq_true rfl)) dX10_reads_3 ⟨Nat.le_of_ble_eq_true rfl, Nat.le_of_ble_eq_true rfl⟩) hP hD hS hA [0, 1, 5] [2, 3, 4, 6, 7, 8, 9, 10, 11, 12] rfl rfl (by decide +kernel) (by decide +kernel) ?_
  clear hP hD hS
  intro r_1 u_3 H locs w_2 hP hD hS
  replace hP : va_P D vwCl [(k6, .inr (0, [.ref k60, .ref k61, .ref k62, .ref k63, .ref k64, .int c65])), (kb, .inl (cI, 6, .inl cb)), (k00, .inl (cI, 12, .inl c00)), (k60, .inl (cI, 41, .inl c60)), (k61, .inl (cI, 41, .inl c61)), (k040, .inl (cI, 60, .inl c040)), (k041, .inl (cI, 60, .inl c041)), (k043, .inl (cI, 60, .inl c043)), (k045, .inl (cI, 60, .inl c045)), (k046, .inl (cI, 40, .inl c046)), (k, .inr (10, [.ref k0, .ref k1, .ref k2, .ref k3, .ref k4, .ref k5, .ref k6, .ref k7, .ref k8, .ref k9, .ref ka, .ref kb, .int cc])), (k0, .inr (9, [.ref k00, .ref k01, .ref k02, .ref k03, .ref k04, .ref k05, .int c06, .int c07, .int c08])), (k04, .inr (8, [.ref k040, .ref k041, .ref k042, .ref k043, .ref k044, .ref k045, .ref k046, .ref k047, .ref k048, .int c049]))] H := hP
  replace hD : va_D A [(k6, .inr (0, [.ref k60, .ref k61, .ref k62, .ref k63, .ref k64, .int c65])), (kb, .inl (cI, 6, .inl cb)), (k00, .inl (cI, 12, .inl c00)), (k60, .inl (cI, 41, .inl c60)), (k61, .inl (cI, 41, .inl c61)), (k040, .inl (cI, 60, .inl c040)), (k041, .inl (cI, 60, .inl c041)), (k043, .inl (cI, 60, .inl c043)), (k045, .inl (cI, 60, .inl c045)), (k046, .inl (cI, 40, .inl c046)), (k, .inr (10, [.ref k0, .ref k1, .ref k2, .ref k3, .ref k4, .ref k5, .ref k6, .ref k7, .ref k8, .ref k9, .ref ka, .ref kb, .int cc])), (k0, .inr (9, [.ref k00, .ref k01, .ref k02, .ref k03, .ref k04, .ref k05, .int c06, .int c07, .int c08])), (k04, .inr (8, [.ref k040, .ref k041, .ref k042, .ref k043, .ref k044, .ref k045, .ref k046, .ref k047, .ref k048, .int c049]))] := hD
  have lo_r_1 := k_lo r_1
  have hi_r_1 := k_hi r_1
  refine b_if_ne hx hb rfl (tgt := 15) dX10_reads_6 (by decide +kernel) (fun c_4 => ?_) (fun c_4 => ?_)
  · refine lv_aload_n hx hb dX10_reads_15 rfl (lv_at hl 0 rfl) ?_
    refine lv_iload_n hx hb dX10_reads_16 rfl (lv_at hl 1 rfl) ?_
    refine lv_iload_n hx hb dX10_reads_17 rfl (lv_at hl 2 rfl) ?_
    refine kJi (wr := [(k6, .inr (0, [.ref k60, .ref k61, .ref k62, .ref k63, .ref k64, .int c65])), (kb, .inl (cI, 6, .inl cb)), (k00, .inl (cI, 12, .inl c00)), (k60, .inl (cI, 41, .inl c60)), (k61, .inl (cI, 41, .inl c61)), (k041, .inl (cI, 60, .inl c041)), (k043, .inl (cI, 60, .inl c043)), (k045, .inl (cI, 60, .inl c045)), (k046, .inl (cI, 40, .inl c046))]) (va_runV (As := [.int a0, .int a1]) (rest := []) ⟨hx, hb, hml, hown, hT⟩ (c_X10_areStationsG l D cI aK aV k k0 k1 k2 k3 k4 k5 k6 k7 k8 k9 ka kb k00 k01 k02 k03 k04 k05 k040 k041 k042 k043 k044 k045 k046 k047 k048 H.size cc c06 c07 c08 c049 c040 a0 a1) (cwV 2 hT (gV_in mw_768 mw_765 mw_767 mw_p2_2 mw_1) rfl rfl rfl (by decide +kernel) ⟨Nat.le_of_ble_eq_true rfl, Nat.le_of_ble_eq_true rfl⟩) (kRecvX (q0 := 10) (ci := 10) hK hP hD hN hXS hS hA rfl rfl [10, 11, 12, 5] rfl (by decide +kernel)) rfl rfl hl.1 rfl (lv_room (Nat.le_of_ble_eq_true rfl)) dX10_reads_18 ⟨Nat.le_of_ble_eq_true rfl, Nat.le_of_ble_eq_true rfl⟩) hP hD hS hA [10, 11, 12, 5] [0, 1, 2, 3, 4, 6, 7, 8, 9] rfl rfl (by decide +kernel) (by decide +kernel) ?_
    clear hP hD hS
    intro r_5 u_7 H locs w_6 hP hD hS
    replace hP : va_P D vwCl [(k6, .inr (0, [.ref k60, .ref k61, .ref k62, .ref k63, .ref k64, .int c65])), (kb, .inl (cI, 6, .inl cb)), (k00, .inl (cI, 12, .inl c00)), (k60, .inl (cI, 41, .inl c60)), (k61, .inl (cI, 41, .inl c61)), (k041, .inl (cI, 60, .inl c041)), (k043, .inl (cI, 60, .inl c043)), (k045, .inl (cI, 60, .inl c045)), (k046, .inl (cI, 40, .inl c046)), (k, .inr (10, [.ref k0, .ref k1, .ref k2, .ref k3, .ref k4, .ref k5, .ref k6, .ref k7, .ref k8, .ref k9, .ref ka, .ref kb, .int cc])), (k0, .inr (9, [.ref k00, .ref k01, .ref k02, .ref k03, .ref k04, .ref k05, .int c06, .int c07, .int c08])), (k04, .inr (8, [.ref k040, .ref k041, .ref k042, .ref k043, .ref k044, .ref k045, .ref k046, .ref k047, .ref k048, .int c049])), (k040, .inl (cI, 60, .inl c040))] H := hP
    replace hD : va_D A [(k6, .inr (0, [.ref k60, .ref k61, .ref k62, .ref k63, .ref k64, .int c65])), (kb, .inl (cI, 6, .inl cb)), (k00, .inl (cI, 12, .inl c00)), (k60, .inl (cI, 41, .inl c60)), (k61, .inl (cI, 41, .inl c61)), (k041, .inl (cI, 60, .inl c041)), (k043, .inl (cI, 60, .inl c043)), (k045, .inl (cI, 60, .inl c045)), (k046, .inl (cI, 40, .inl c046)), (k, .inr (10, [.ref k0, .ref k1, .ref k2, .ref k3, .ref k4, .ref k5, .ref k6, .ref k7, .ref k8, .ref k9, .ref ka, .ref kb, .int cc])), (k0, .inr (9, [.ref k00, .ref k01, .ref k02, .ref k03, .ref k04, .ref k05, .int c06, .int c07, .int c08])), (k04, .inr (8, [.ref k040, .ref k041, .ref k042, .ref k043, .ref k044, .ref k045, .ref k046, .ref k047, .ref k048, .int c049])), (k040, .inl (cI, 60, .inl c040))] := hD
    have lo_r_5 := k_lo r_5
    have hi_r_5 := k_hi r_5
    refine b_if_ne hx hb rfl (tgt := 30) dX10_reads_21 (by decide +kernel) (fun c_8 => ?_) (fun c_8 => ?_)
    · refine lv_aload_n hx hb dX10_reads_30 rfl (lv_at hl 0 rfl) ?_
      refine va_get (D := D) (ci := 10) (v := .ref k6) (C := RX10) (T := TX10) (N := 13) hx hb hT giX10 hown hK hP 9 rfl rfl 6 (by decide +kernel) (hT (Cond.fieldLink RX10 42 "DesertWire" "words" "LDesertWire$Hands;") mw_297) (fun _ h9 => h9) rfl dX10_reads_31 ?_
      refine lv_aload_n hx hb dX10_reads_34 rfl (lv_at hl 0 rfl) ?_
      refine va_get (D := D) (ci := 10) (v := .ref k0) (C := RX10) (T := TX10) (N := 13) hx hb hT giX10 hown hK hP 9 rfl rfl 0 (by decide +kernel) (hT (Cond.fieldLink RX10 12 "DesertWire" "now" "LDesertWire$World;") mw_291) (fun _ h9 => h9) rfl dX10_reads_35 ?_
      refine kJv (wr := [(kb, .inl (cI, 6, .inl cb)), (k, .inr (10, [.ref k0, .ref k1, .ref k2, .ref k3, .ref k4, .ref k5, .ref k6, .ref k7, .ref k8, .ref k9, .ref ka, .ref kb, .int cc]))]) (va_runV (As := [.ref k0]) (rest := []) ⟨hx, hb, hml, hown, hT⟩ (c_X0_surveyG l D cI aK aV k6 k0 k60 k61 k62 k63 k64 k00 k01 k02 k03 k04 k05 k040 k041 k042 k043 k044 k045 k046 k047 k048 H.size c65 c60 c61 c06 c07 c08 c00 c049 c040 c041 c043 c045 c046) (cwV 1 hT (gV_in mw_772 mw_769 mw_770 mw_771 mw_7) rfl rfl rfl (by decide +kernel) ⟨Nat.le_of_ble_eq_true rfl, Nat.le_of_ble_eq_true rfl⟩) (kRecvX (q0 := 0) (ci := 0) hK hP hD hN hXS hS hA rfl rfl [0, 3, 4, 10, 2, 11, 12, 5, 6, 7, 8] rfl (by decide +kernel)) rfl rfl hl.1 rfl (lv_room (Nat.le_of_ble_eq_true rfl)) dX10_reads_38 ⟨Nat.le_of_ble_eq_true rfl, Nat.le_of_ble_eq_true rfl⟩) hP hD hS hA [0, 3, 4, 10, 2, 11, 12, 5, 6, 7, 8] [1, 9] rfl rfl (by decide +kernel) (by decide +kernel) ?_
      clear hP hD hS
      intro u_13 H locs w_10 hP hD hS
      obtain ⟨sc0_11, sc1_12⟩ := u_13
      replace hP : va_P D vwCl [(kb, .inl (cI, 6, .inl cb)), (k, .inr (10, [.ref k0, .ref k1, .ref k2, .ref k3, .ref k4, .ref k5, .ref k6, .ref k7, .ref k8, .ref k9, .ref ka, .ref kb, .int cc])), (k6, .inr (0, [.ref k60, .ref k61, .ref k62, .ref k63, .ref k64, .int c65])), (k60, .inl (cI, 41, .inl sc0_11)), (k61, .inl (cI, 41, .inl sc1_12)), (k0, .inr (9, [.ref k00, .ref k01, .ref k02, .ref k03, .ref k04, .ref k05, .int c06, .int c07, .int c08])), (k00, .inl (cI, 12, .inl c00)), (k04, .inr (8, [.ref k040, .ref k041, .ref k042, .ref k043, .ref k044, .ref k045, .ref k046, .ref k047, .ref k048, .int c049])), (k040, .inl (cI, 60, .inl c040)), (k041, .inl (cI, 60, .inl c041)), (k043, .inl (cI, 60, .inl c043)), (k045, .inl (cI, 60, .inl c045)), (k046, .inl (cI, 40, .inl c046))] H := hP
      replace hD : va_D A [(kb, .inl (cI, 6, .inl cb)), (k, .inr (10, [.ref k0, .ref k1, .ref k2, .ref k3, .ref k4, .ref k5, .ref k6, .ref k7, .ref k8, .ref k9, .ref ka, .ref kb, .int cc])), (k6, .inr (0, [.ref k60, .ref k61, .ref k62, .ref k63, .ref k64, .int c65])), (k60, .inl (cI, 41, .inl sc0_11)), (k61, .inl (cI, 41, .inl sc1_12)), (k0, .inr (9, [.ref k00, .ref k01, .ref k02, .ref k03, .ref k04, .ref k05, .int c06, .int c07, .int c08])), (k00, .inl (cI, 12, .inl c00)), (k04, .inr (8, [.ref k040, .ref k041, .ref k042, .ref k043, .ref k044, .ref k045, .ref k046, .ref k047, .ref k048, .int c049])), (k040, .inl (cI, 60, .inl c040)), (k041, .inl (cI, 60, .inl c041)), (k043, .inl (cI, 60, .inl c043)), (k045, .inl (cI, 60, .inl c045)), (k046, .inl (cI, 40, .inl c046))] := hD
      refine lv_aload_n hx hb dX10_reads_41 rfl (lv_at hl 0 rfl) ?_
      refine va_get (D := D) (ci := 10) (v := .ref k6) (C := RX10) (T := TX10) (N := 13) hx hb hT giX10 hown hK hP 1 rfl rfl 6 (by decide +kernel) (hT (Cond.fieldLink RX10 42 "DesertWire" "words" "LDesertWire$Hands;") mw_297) (fun _ h9 => h9) rfl dX10_reads_42 ?_
      refine lv_aload_n hx hb dX10_reads_45 rfl (lv_at hl 0 rfl) ?_
      refine va_get (D := D) (ci := 10) (v := .ref k0) (C := RX10) (T := TX10) (N := 13) hx hb hT giX10 hown hK hP 1 rfl rfl 0 (by decide +kernel) (hT (Cond.fieldLink RX10 12 "DesertWire" "now" "LDesertWire$World;") mw_291) (fun _ h9 => h9) rfl dX10_reads_46 ?_
      refine lv_iload_n hx hb dX10_reads_49 rfl (lv_at hl 1 rfl) ?_
      refine lv_iload_n hx hb dX10_reads_50 rfl (lv_at hl 2 rfl) ?_
      refine kJi (wr := [(kb, .inl (cI, 6, .inl cb)), (k, .inr (10, [.ref k0, .ref k1, .ref k2, .ref k3, .ref k4, .ref k5, .ref k6, .ref k7, .ref k8, .ref k9, .ref ka, .ref kb, .int cc])), (k00, .inl (cI, 12, .inl c00)), (k040, .inl (cI, 60, .inl c040)), (k043, .inl (cI, 60, .inl c043)), (k046, .inl (cI, 40, .inl c046))]) (va_runV (As := [.ref k0, .int a0, .int a1]) (rest := []) ⟨hx, hb, hml, hown, hT⟩ (c_X0_canReadG l D cI aK aV k6 k0 k60 k61 k62 k63 k64 k00 k01 k02 k03 k04 k05 k040 k041 k042 k043 k044 k045 k046 k047 k048 H.size c65 sc0_11 sc1_12 c06 c07 c08 c049 c041 c045 a0 a1) (cwV 3 hT (gV_in mw_778 mw_775 mw_776 mw_777 mw_7) rfl rfl rfl (by decide +kernel) ⟨Nat.le_of_ble_eq_true rfl, Nat.le_of_ble_eq_true rfl⟩) (kRecvX (q0 := 2) (ci := 0) hK hP hD hN hXS hS hA rfl rfl [2, 3, 4, 5, 7, 9, 11] rfl (by decide +kernel)) rfl rfl hl.1 rfl (lv_room (Nat.le_of_ble_eq_true rfl)) dX10_reads_51 ⟨Nat.le_of_ble_eq_true rfl, Nat.le_of_ble_eq_true rfl⟩) hP hD hS hA [2, 3, 4, 5, 7, 9, 11] [0, 1, 6, 8, 10, 12] rfl rfl (by decide +kernel) (by decide +kernel) ?_
      clear hP hD hS
      intro r_14 u_16 H locs w_15 hP hD hS
      replace hP : va_P D vwCl [(kb, .inl (cI, 6, .inl cb)), (k, .inr (10, [.ref k0, .ref k1, .ref k2, .ref k3, .ref k4, .ref k5, .ref k6, .ref k7, .ref k8, .ref k9, .ref ka, .ref kb, .int cc])), (k00, .inl (cI, 12, .inl c00)), (k040, .inl (cI, 60, .inl c040)), (k043, .inl (cI, 60, .inl c043)), (k046, .inl (cI, 40, .inl c046)), (k6, .inr (0, [.ref k60, .ref k61, .ref k62, .ref k63, .ref k64, .int c65])), (k60, .inl (cI, 41, .inl sc0_11)), (k61, .inl (cI, 41, .inl sc1_12)), (k0, .inr (9, [.ref k00, .ref k01, .ref k02, .ref k03, .ref k04, .ref k05, .int c06, .int c07, .int c08])), (k04, .inr (8, [.ref k040, .ref k041, .ref k042, .ref k043, .ref k044, .ref k045, .ref k046, .ref k047, .ref k048, .int c049])), (k041, .inl (cI, 60, .inl c041)), (k045, .inl (cI, 60, .inl c045))] H := hP
      replace hD : va_D A [(kb, .inl (cI, 6, .inl cb)), (k, .inr (10, [.ref k0, .ref k1, .ref k2, .ref k3, .ref k4, .ref k5, .ref k6, .ref k7, .ref k8, .ref k9, .ref ka, .ref kb, .int cc])), (k00, .inl (cI, 12, .inl c00)), (k040, .inl (cI, 60, .inl c040)), (k043, .inl (cI, 60, .inl c043)), (k046, .inl (cI, 40, .inl c046)), (k6, .inr (0, [.ref k60, .ref k61, .ref k62, .ref k63, .ref k64, .int c65])), (k60, .inl (cI, 41, .inl sc0_11)), (k61, .inl (cI, 41, .inl sc1_12)), (k0, .inr (9, [.ref k00, .ref k01, .ref k02, .ref k03, .ref k04, .ref k05, .int c06, .int c07, .int c08])), (k04, .inr (8, [.ref k040, .ref k041, .ref k042, .ref k043, .ref k044, .ref k045, .ref k046, .ref k047, .ref k048, .int c049])), (k041, .inl (cI, 60, .inl c041)), (k045, .inl (cI, 60, .inl c045))] := hD
      have lo_r_14 := k_lo r_14
      have hi_r_14 := k_hi r_14
      refine b_if_eq hx hb rfl (tgt := 61) dX10_reads_54 (by decide +kernel) (fun c_17 => ?_) (fun c_17 => ?_)
      · refine lv_iconst (v := 0) hx hb dX10_reads_61 (by decide +kernel) ?_
        exact hRet (cb, sc0_11, sc1_12) [1, 9, 6, 0, 2, 10, 7, 8, 3, 11, 4, 12, 5] trivial hP hD (by decide +kernel) rfl hS rfl dX10_reads_62
      · refine lv_iconst (v := 1) hx hb dX10_reads_57 (by decide +kernel) ?_
        refine lv_goto (tgt := 62) hx hb dX10_reads_58 (by decide +kernel) ?_
        exact hRet (cb, sc0_11, sc1_12) [1, 9, 6, 0, 2, 10, 7, 8, 3, 11, 4, 12, 5] trivial hP hD (by decide +kernel) rfl hS rfl dX10_reads_62
    · refine lv_aload_n hx hb dX10_reads_24 rfl (lv_at hl 0 rfl) ?_
      refine lv_iconst (v := 5) hx hb dX10_reads_25 (by decide +kernel) ?_
      refine kJi (wr := [(k6, .inr (0, [.ref k60, .ref k61, .ref k62, .ref k63, .ref k64, .int c65])), (k00, .inl (cI, 12, .inl c00)), (k60, .inl (cI, 41, .inl c60)), (k61, .inl (cI, 41, .inl c61)), (k041, .inl (cI, 60, .inl c041)), (k043, .inl (cI, 60, .inl c043)), (k045, .inl (cI, 60, .inl c045)), (k046, .inl (cI, 40, .inl c046)), (k0, .inr (9, [.ref k00, .ref k01, .ref k02, .ref k03, .ref k04, .ref k05, .int c06, .int c07, .int c08])), (k04, .inr (8, [.ref k040, .ref k041, .ref k042, .ref k043, .ref k044, .ref k045, .ref k046, .ref k047, .ref k048, .int c049])), (k040, .inl (cI, 60, .inl c040))]) (va_runV (As := [.int 5]) (rest := []) ⟨hx, hb, hml, hown, hT⟩ (c_X10_findingG l D cI aK aV k k0 k1 k2 k3 k4 k5 k6 k7 k8 k9 ka kb H.size cc cb 5) (cwV 1 hT (gV_in mw_338 mw_335 mw_337 mw_p1_0 mw_1) rfl rfl rfl (by decide +kernel) ⟨Nat.le_of_ble_eq_true rfl, Nat.le_of_ble_eq_true rfl⟩) (kRecvX (q0 := 9) (ci := 10) hK hP hD hN hXS hS hA rfl rfl [9, 1] rfl (by decide +kernel)) rfl rfl hl.1 rfl (lv_room (Nat.le_of_ble_eq_true rfl)) dX10_reads_26 ⟨Nat.le_of_ble_eq_true rfl, Nat.le_of_ble_eq_true rfl⟩) hP hD hS hA [9, 1] [0, 2, 3, 4, 5, 6, 7, 8, 10, 11, 12] rfl rfl (by decide +kernel) (by decide +kernel) ?_
      clear hP hD hS
      intro r_18 scb_20 H locs w_19 hP hD hS
      replace hP : va_P D vwCl [(k6, .inr (0, [.ref k60, .ref k61, .ref k62, .ref k63, .ref k64, .int c65])), (k00, .inl (cI, 12, .inl c00)), (k60, .inl (cI, 41, .inl c60)), (k61, .inl (cI, 41, .inl c61)), (k041, .inl (cI, 60, .inl c041)), (k043, .inl (cI, 60, .inl c043)), (k045, .inl (cI, 60, .inl c045)), (k046, .inl (cI, 40, .inl c046)), (k0, .inr (9, [.ref k00, .ref k01, .ref k02, .ref k03, .ref k04, .ref k05, .int c06, .int c07, .int c08])), (k04, .inr (8, [.ref k040, .ref k041, .ref k042, .ref k043, .ref k044, .ref k045, .ref k046, .ref k047, .ref k048, .int c049])), (k040, .inl (cI, 60, .inl c040)), (k, .inr (10, [.ref k0, .ref k1, .ref k2, .ref k3, .ref k4, .ref k5, .ref k6, .ref k7, .ref k8, .ref k9, .ref ka, .ref kb, .int cc])), (kb, .inl (cI, 6, .inl scb_20))] H := hP
      replace hD : va_D A [(k6, .inr (0, [.ref k60, .ref k61, .ref k62, .ref k63, .ref k64, .int c65])), (k00, .inl (cI, 12, .inl c00)), (k60, .inl (cI, 41, .inl c60)), (k61, .inl (cI, 41, .inl c61)), (k041, .inl (cI, 60, .inl c041)), (k043, .inl (cI, 60, .inl c043)), (k045, .inl (cI, 60, .inl c045)), (k046, .inl (cI, 40, .inl c046)), (k0, .inr (9, [.ref k00, .ref k01, .ref k02, .ref k03, .ref k04, .ref k05, .int c06, .int c07, .int c08])), (k04, .inr (8, [.ref k040, .ref k041, .ref k042, .ref k043, .ref k044, .ref k045, .ref k046, .ref k047, .ref k048, .int c049])), (k040, .inl (cI, 60, .inl c040)), (k, .inr (10, [.ref k0, .ref k1, .ref k2, .ref k3, .ref k4, .ref k5, .ref k6, .ref k7, .ref k8, .ref k9, .ref ka, .ref kb, .int cc])), (kb, .inl (cI, 6, .inl scb_20))] := hD
      have hr_18 := w_19
      obtain rfl : r_18 = (-1000005) := hr_18.trans (by decide +kernel)
      exact hRet (scb_20, c60, c61) [11, 8, 0, 12, 1, 9, 2, 3, 10, 4, 5, 6, 7] trivial hP hD (by decide +kernel) rfl hS rfl dX10_reads_29
  · refine lv_aload_n hx hb dX10_reads_9 rfl (lv_at hl 0 rfl) ?_
    refine lv_iconst (v := 1) hx hb dX10_reads_10 (by decide +kernel) ?_
    refine kJi (wr := [(k6, .inr (0, [.ref k60, .ref k61, .ref k62, .ref k63, .ref k64, .int c65])), (k00, .inl (cI, 12, .inl c00)), (k60, .inl (cI, 41, .inl c60)), (k61, .inl (cI, 41, .inl c61)), (k040, .inl (cI, 60, .inl c040)), (k041, .inl (cI, 60, .inl c041)), (k043, .inl (cI, 60, .inl c043)), (k045, .inl (cI, 60, .inl c045)), (k046, .inl (cI, 40, .inl c046)), (k0, .inr (9, [.ref k00, .ref k01, .ref k02, .ref k03, .ref k04, .ref k05, .int c06, .int c07, .int c08])), (k04, .inr (8, [.ref k040, .ref k041, .ref k042, .ref k043, .ref k044, .ref k045, .ref k046, .ref k047, .ref k048, .int c049]))]) (va_runV (As := [.int 1]) (rest := []) ⟨hx, hb, hml, hown, hT⟩ (c_X10_findingG l D cI aK aV k k0 k1 k2 k3 k4 k5 k6 k7 k8 k9 ka kb H.size cc cb 1) (cwV 1 hT (gV_in mw_338 mw_335 mw_337 mw_p1_0 mw_1) rfl rfl rfl (by decide +kernel) ⟨Nat.le_of_ble_eq_true rfl, Nat.le_of_ble_eq_true rfl⟩) (kRecvX (q0 := 10) (ci := 10) hK hP hD hN hXS hS hA rfl rfl [10, 1] rfl (by decide +kernel)) rfl rfl hl.1 rfl (lv_room (Nat.le_of_ble_eq_true rfl)) dX10_reads_11 ⟨Nat.le_of_ble_eq_true rfl, Nat.le_of_ble_eq_true rfl⟩) hP hD hS hA [10, 1] [0, 2, 3, 4, 5, 6, 7, 8, 9, 11, 12] rfl rfl (by decide +kernel) (by decide +kernel) ?_
    clear hP hD hS
    intro r_21 scb_23 H locs w_22 hP hD hS
    replace hP : va_P D vwCl [(k6, .inr (0, [.ref k60, .ref k61, .ref k62, .ref k63, .ref k64, .int c65])), (k00, .inl (cI, 12, .inl c00)), (k60, .inl (cI, 41, .inl c60)), (k61, .inl (cI, 41, .inl c61)), (k040, .inl (cI, 60, .inl c040)), (k041, .inl (cI, 60, .inl c041)), (k043, .inl (cI, 60, .inl c043)), (k045, .inl (cI, 60, .inl c045)), (k046, .inl (cI, 40, .inl c046)), (k0, .inr (9, [.ref k00, .ref k01, .ref k02, .ref k03, .ref k04, .ref k05, .int c06, .int c07, .int c08])), (k04, .inr (8, [.ref k040, .ref k041, .ref k042, .ref k043, .ref k044, .ref k045, .ref k046, .ref k047, .ref k048, .int c049])), (k, .inr (10, [.ref k0, .ref k1, .ref k2, .ref k3, .ref k4, .ref k5, .ref k6, .ref k7, .ref k8, .ref k9, .ref ka, .ref kb, .int cc])), (kb, .inl (cI, 6, .inl scb_23))] H := hP
    replace hD : va_D A [(k6, .inr (0, [.ref k60, .ref k61, .ref k62, .ref k63, .ref k64, .int c65])), (k00, .inl (cI, 12, .inl c00)), (k60, .inl (cI, 41, .inl c60)), (k61, .inl (cI, 41, .inl c61)), (k040, .inl (cI, 60, .inl c040)), (k041, .inl (cI, 60, .inl c041)), (k043, .inl (cI, 60, .inl c043)), (k045, .inl (cI, 60, .inl c045)), (k046, .inl (cI, 40, .inl c046)), (k0, .inr (9, [.ref k00, .ref k01, .ref k02, .ref k03, .ref k04, .ref k05, .int c06, .int c07, .int c08])), (k04, .inr (8, [.ref k040, .ref k041, .ref k042, .ref k043, .ref k044, .ref k045, .ref k046, .ref k047, .ref k048, .int c049])), (k, .inr (10, [.ref k0, .ref k1, .ref k2, .ref k3, .ref k4, .ref k5, .ref k6, .ref k7, .ref k8, .ref k9, .ref ka, .ref kb, .int cc])), (kb, .inl (cI, 6, .inl scb_23))] := hD
    have hr_21 := w_22
    obtain rfl : r_21 = (-1000001) := hr_21.trans (by decide +kernel)
    exact hRet (scb_23, c60, c61) [11, 9, 0, 12, 1, 10, 2, 3, 4, 5, 6, 7, 8] trivial hP hD (by decide +kernel) rfl hS rfl dX10_reads_14
theorem bn_cX10_hands_0 : BN cX10_hands 0 0x15aef00adc3c2b00ad4560c00aa00a160480542030f2b4a6015b818560a00a880a160f028029a028580a37758056e1d0e03402b5158ac02b515ab4a6015b824560a00a6dc0015b874382b5694c02b7028ac14015180c3c0900a69ba015b874382b := by
  unfold BN; decide +kernel
theorem dX10_hands_0 : decode cX10_hands 0 = .ok (.aload_n 0, 1) := dR0 (k := 0) (i := 0) bn_cX10_hands_0 dop_42 (by decide +kernel)
theorem dX10_hands_1 : decode cX10_hands 1 = .ok (.iload_n 1, 1) := dR0 (k := 0) (i := 1) bn_cX10_hands_0 dop_27 (by decide +kernel)
theorem dX10_hands_2 : decode cX10_hands 2 = .ok (.iload_n 2, 1) := dR0 (k := 0) (i := 2) bn_cX10_hands_0 dop_28 (by decide +kernel)
theorem dX10_hands_3 : decode cX10_hands 3 = .ok (.invokevirtual 220, 3) := dR2 (f := Instr.invokevirtual) (k := 0) (i := 3) bn_cX10_hands_0 dop_182 220 (by decide +kernel)
theorem dX10_hands_6 : decode cX10_hands 6 = .ok (.ifCond .eq 8, 3) := dR2s (f := Instr.ifCond .eq) (k := 0) (i := 6) bn_cX10_hands_0 dop_153 8 8 (by decide +kernel)
theorem dX10_hands_9 : decode cX10_hands 9 = .ok (.iload_n 3, 1) := dR0 (k := 0) (i := 9) bn_cX10_hands_0 dop_29 (by decide +kernel)
theorem dX10_hands_10 : decode cX10_hands 10 = .ok (.iconst (-1), 1) := dR0 (k := 0) (i := 10) bn_cX10_hands_0 dop_2 (by decide +kernel)
theorem dX10_hands_11 : decode cX10_hands 11 = .ok (.if_icmp .ge 9, 3) := dR2s (f := Instr.if_icmp .ge) (k := 0) (i := 11) bn_cX10_hands_0 dop_162 9 9 (by decide +kernel)
theorem dX10_hands_14 : decode cX10_hands 14 = .ok (.aload_n 0, 1) := dR0 (k := 0) (i := 14) bn_cX10_hands_0 dop_42 (by decide +kernel)
theorem dX10_hands_15 : decode cX10_hands 15 = .ok (.iconst 1, 1) := dR0 (k := 0) (i := 15) bn_cX10_hands_0 dop_4 (by decide +kernel)
theorem dX10_hands_16 : decode cX10_hands 16 = .ok (.invokevirtual 82, 3) := dR2 (f := Instr.invokevirtual) (k := 0) (i := 16) bn_cX10_hands_0 dop_182 82 (by decide +kernel)
theorem dX10_hands_19 : decode cX10_hands 19 = .ok (.ireturn, 1) := dR0 (k := 0) (i := 19) bn_cX10_hands_0 dop_172 (by decide +kernel)
theorem dX10_hands_20 : decode cX10_hands 20 = .ok (.aload_n 0, 1) := dR0 (k := 0) (i := 20) bn_cX10_hands_0 dop_42 (by decide +kernel)
theorem dX10_hands_21 : decode cX10_hands 21 = .ok (.iload_n 1, 1) := dR0 (k := 0) (i := 21) bn_cX10_hands_0 dop_27 (by decide +kernel)
theorem dX10_hands_22 : decode cX10_hands 22 = .ok (.iload_n 2, 1) := dR0 (k := 0) (i := 22) bn_cX10_hands_0 dop_28 (by decide +kernel)
theorem dX10_hands_23 : decode cX10_hands 23 = .ok (.invokevirtual 223, 3) := dR2 (f := Instr.invokevirtual) (k := 0) (i := 23) bn_cX10_hands_0 dop_182 223 (by decide +kernel)
theorem dX10_hands_26 : decode cX10_hands 26 = .ok (.ifCond .ne 9, 3) := dR2s (f := Instr.ifCond .ne) (k := 0) (i := 26) bn_cX10_hands_0 dop_154 9 9 (by decide +kernel)
theorem dX10_hands_29 : decode cX10_hands 29 = .ok (.aload_n 0, 1) := dR0 (k := 0) (i := 29) bn_cX10_hands_0 dop_42 (by decide +kernel)
theorem dX10_hands_30 : decode cX10_hands 30 = .ok (.iconst 5, 1) := dR0 (k := 0) (i := 30) bn_cX10_hands_0 dop_8 (by decide +kernel)
theorem dX10_hands_31 : decode cX10_hands 31 = .ok (.invokevirtual 82, 3) := dR2 (f := Instr.invokevirtual) (k := 0) (i := 31) bn_cX10_hands_0 dop_182 82 (by decide +kernel)
theorem dX10_hands_34 : decode cX10_hands 34 = .ok (.ireturn, 1) := dR0 (k := 0) (i := 34) bn_cX10_hands_0 dop_172 (by decide +kernel)
theorem dX10_hands_35 : decode cX10_hands 35 = .ok (.aload_n 0, 1) := dR0 (k := 0) (i := 35) bn_cX10_hands_0 dop_42 (by decide +kernel)
theorem dX10_hands_36 : decode cX10_hands 36 = .ok (.getfield 42, 3) := dR2 (f := Instr.getfield) (k := 0) (i := 36) bn_cX10_hands_0 dop_180 42 (by decide +kernel)
theorem dX10_hands_39 : decode cX10_hands 39 = .ok (.aload_n 0, 1) := dR0 (k := 0) (i := 39) bn_cX10_hands_0 dop_42 (by decide +kernel)
theorem dX10_hands_40 : decode cX10_hands 40 = .ok (.getfield 12, 3) := dR2 (f := Instr.getfield) (k := 0) (i := 40) bn_cX10_hands_0 dop_180 12 (by decide +kernel)
theorem dX10_hands_43 : decode cX10_hands 43 = .ok (.iload_n 1, 1) := dR0 (k := 0) (i := 43) bn_cX10_hands_0 dop_27 (by decide +kernel)
theorem dX10_hands_44 : decode cX10_hands 44 = .ok (.iload_n 2, 1) := dR0 (k := 0) (i := 44) bn_cX10_hands_0 dop_28 (by decide +kernel)
theorem dX10_hands_45 : decode cX10_hands 45 = .ok (.invokevirtual 234, 3) := dR2 (f := Instr.invokevirtual) (k := 0) (i := 45) bn_cX10_hands_0 dop_182 234 (by decide +kernel)
theorem dX10_hands_48 : decode cX10_hands 48 = .ok (.istore 4, 2) := dR1 (f := Instr.istore) (k := 0) (i := 48) bn_cX10_hands_0 dop_54 4 (by decide +kernel)
theorem dX10_hands_50 : decode cX10_hands 50 = .ok (.iload 4, 2) := dR1 (f := Instr.iload) (k := 0) (i := 50) bn_cX10_hands_0 dop_21 4 (by decide +kernel)
theorem dX10_hands_52 : decode cX10_hands 52 = .ok (.ifCond .eq 9, 3) := dR2s (f := Instr.ifCond .eq) (k := 0) (i := 52) bn_cX10_hands_0 dop_153 9 9 (by decide +kernel)
theorem dX10_hands_55 : decode cX10_hands 55 = .ok (.iload_n 3, 1) := dR0 (k := 0) (i := 55) bn_cX10_hands_0 dop_29 (by decide +kernel)
theorem dX10_hands_56 : decode cX10_hands 56 = .ok (.iload 4, 2) := dR1 (f := Instr.iload) (k := 0) (i := 56) bn_cX10_hands_0 dop_21 4 (by decide +kernel)
theorem dX10_hands_58 : decode cX10_hands 58 = .ok (.if_icmp .lt 9, 3) := dR2s (f := Instr.if_icmp .lt) (k := 0) (i := 58) bn_cX10_hands_0 dop_161 9 9 (by decide +kernel)
theorem dX10_hands_61 : decode cX10_hands 61 = .ok (.aload_n 0, 1) := dR0 (k := 0) (i := 61) bn_cX10_hands_0 dop_42 (by decide +kernel)
theorem dX10_hands_62 : decode cX10_hands 62 = .ok (.iconst 2, 1) := dR0 (k := 0) (i := 62) bn_cX10_hands_0 dop_5 (by decide +kernel)
theorem dX10_hands_63 : decode cX10_hands 63 = .ok (.invokevirtual 82, 3) := dR2 (f := Instr.invokevirtual) (k := 0) (i := 63) bn_cX10_hands_0 dop_182 82 (by decide +kernel)
theorem dX10_hands_66 : decode cX10_hands 66 = .ok (.ireturn, 1) := dR0 (k := 0) (i := 66) bn_cX10_hands_0 dop_172 (by decide +kernel)
theorem dX10_hands_67 : decode cX10_hands 67 = .ok (.iload_n 3, 1) := dR0 (k := 0) (i := 67) bn_cX10_hands_0 dop_29 (by decide +kernel)
theorem dX10_hands_68 : decode cX10_hands 68 = .ok (.iconst (-1), 1) := dR0 (k := 0) (i := 68) bn_cX10_hands_0 dop_2 (by decide +kernel)
theorem dX10_hands_69 : decode cX10_hands 69 = .ok (.if_icmp .ne 8, 3) := dR2s (f := Instr.if_icmp .ne) (k := 0) (i := 69) bn_cX10_hands_0 dop_160 8 8 (by decide +kernel)
theorem dX10_hands_72 : decode cX10_hands 72 = .ok (.iload 4, 2) := dR1 (f := Instr.iload) (k := 0) (i := 72) bn_cX10_hands_0 dop_21 4 (by decide +kernel)
theorem dX10_hands_74 : decode cX10_hands 74 = .ok (.goto 11, 3) := dR2s (f := Instr.goto) (k := 0) (i := 74) bn_cX10_hands_0 dop_167 11 11 (by decide +kernel)
theorem dX10_hands_77 : decode cX10_hands 77 = .ok (.aload_n 0, 1) := dR0 (k := 0) (i := 77) bn_cX10_hands_0 dop_42 (by decide +kernel)
theorem dX10_hands_78 : decode cX10_hands 78 = .ok (.getfield 42, 3) := dR2 (f := Instr.getfield) (k := 0) (i := 78) bn_cX10_hands_0 dop_180 42 (by decide +kernel)
theorem dX10_hands_81 : decode cX10_hands 81 = .ok (.iload_n 3, 1) := dR0 (k := 0) (i := 81) bn_cX10_hands_0 dop_29 (by decide +kernel)
theorem dX10_hands_82 : decode cX10_hands 82 = .ok (.invokevirtual 238, 3) := dR2 (f := Instr.invokevirtual) (k := 0) (i := 82) bn_cX10_hands_0 dop_182 238 (by decide +kernel)
theorem dX10_hands_85 : decode cX10_hands 85 = .ok (.ireturn, 1) := dR0 (k := 0) (i := 85) bn_cX10_hands_0 dop_172 (by decide +kernel)
set_option maxHeartbeats 4000000 in
set_option maxRecDepth 100000 in
theorem c_X10_handsG (l : Launch) (D : va_G) (cI : ClassId) (aK aV : Nat → Nat) (k k0 k1 k2 k3 k4 k5 k6 k7 k8 k9 ka kb k00 k01 k02 k03 k04 k05 k60 k61 k62 k63 k64 k040 k041 k042 k043 k044 k045 k046 k047 k048 : Nat) (sz : Nat) (cc : Int32) (c06 : Int32) (c07 : Int32) (c08 : Int32) (c65 : Int32) (cb : Nat → Int32) (c00 : Nat → Int32) (c049 : Int32) (c60 : Nat → Int32) (c61 : Nat → Int32) (c62 : Nat → Int32) (c63 : Nat → Int32) (c64 : Nat → Int32) (c040 : Nat → Int32) (c041 : Nat → Int32) (c043 : Nat → Int32) (c045 : Nat → Int32) (c046 : Nat → Int32) (a0 : Int32) (a1 : Int32) (a2 : Int32) : Met l yX10_hands (gW yX10_hands cX10_hands 5 (some .int)) ({ frames := 6, cells := 0, slots := 0, locals := 143 } : Room) (kPreX D cI aK aV [.ref k, .int a0, .int a1, .int a2] [(k, .inr (10, [.ref k0, .ref k1, .ref k2, .ref k3, .ref k4, .ref k5, .ref k6, .ref k7, .ref k8, .ref k9, .ref ka, .ref kb, .int cc])), (k0, .inr (9, [.ref k00, .ref k01, .ref k02, .ref k03, .ref k04, .ref k05, .int c06, .int c07, .int c08])), (k6, .inr (0, [.ref k60, .ref k61, .ref k62, .ref k63, .ref k64, .int c65])), (kb, .inl (cI, 6, .inl cb)), (k00, .inl (cI, 12, .inl c00)), (k04, .inr (8, [.ref k040, .ref k041, .ref k042, .ref k043, .ref k044, .ref k045, .ref k046, .ref k047, .ref k048, .int c049])), (k60, .inl (cI, 41, .inl c60)), (k61, .inl (cI, 41, .inl c61)), (k62, .inl (cI, 60, .inl c62)), (k63, .inl (cI, 60, .inl c63)), (k64, .inl (cI, 60, .inl c64)), (k040, .inl (cI, 60, .inl c040)), (k041, .inl (cI, 60, .inl c041)), (k043, .inl (cI, 60, .inl c043)), (k045, .inl (cI, 60, .inl c045)), (k046, .inl (cI, 40, .inl c046))] sz) (va_Qi (fun (r : Int32) (u : Int32 × (Nat → Int32) × (Nat → Int32) × (Nat → Int32) × (Nat → Int32) × (Nat → Int32) × (Nat → Int32)) => True) (fun u t => kWd D cI (va_A [(k, .inr (10, [.ref k0, .ref k1, .ref k2, .ref k3, .ref k4, .ref k5, .ref k6, .ref k7, .ref k8, .ref k9, .ref ka, .ref kb, .int cc])), (k0, .inr (9, [.ref k00, .ref k01, .ref k02, .ref k03, .ref k04, .ref k05, .int c06, .int c07, .int c08])), (k6, .inr (0, [.ref k60, .ref k61, .ref k62, .ref k63, .ref k64, .int c65])), (kb, .inl (cI, 6, .inl cb)), (k00, .inl (cI, 12, .inl c00)), (k04, .inr (8, [.ref k040, .ref k041, .ref k042, .ref k043, .ref k044, .ref k045, .ref k046, .ref k047, .ref k048, .int c049])), (k60, .inl (cI, 41, .inl c60)), (k61, .inl (cI, 41, .inl c61)), (k62, .inl (cI, 60, .inl c62)), (k63, .inl (cI, 60, .inl c63)), (k64, .inl (cI, 60, .inl c64)), (k040, .inl (cI, 60, .inl c040)), (k041, .inl (cI, 60, .inl c041)), (k043, .inl (cI, 60, .inl c043)), (k045, .inl (cI, 60, .inl c045)), (k046, .inl (cI, 40, .inl c046))] sz) [(k, .inr (10, [.ref k0, .ref k1, .ref k2, .ref k3, .ref k4, .ref k5, .ref k6, .ref k7, .ref k8, .ref k9, .ref ka, .ref kb, .int cc])), (k0, .inr (9, [.ref k00, .ref k01, .ref k02, .ref k03, .ref k04, .ref k05, .int c06, .int c07, .int c08])), (k6, .inr (0, [.ref k60, .ref k61, .ref k62, .ref k63, .ref k64, .int u.1])), (kb, .inl (cI, 6, .inl u.2.1)), (k00, .inl (cI, 12, .inl c00)), (k04, .inr (8, [.ref k040, .ref k041, .ref k042, .ref k043, .ref k044, .ref k045, .ref k046, .ref k047, .ref k048, .int c049])), (k60, .inl (cI, 41, .inl u.2.2.1)), (k61, .inl (cI, 41, .inl u.2.2.2.1)), (k62, .inl (cI, 60, .inl u.2.2.2.2.1)), (k63, .inl (cI, 60, .inl u.2.2.2.2.2.1)), (k64, .inl (cI, 60, .inl u.2.2.2.2.2.2)), (k040, .inl (cI, 60, .inl c040)), (k041, .inl (cI, 60, .inl c041)), (k043, .inl (cI, 60, .inl c043)), (k045, .inl (cI, 60, .inl c045)), (k046, .inl (cI, 40, .inl c046))] t) (va_A [(k, .inr (10, [.ref k0, .ref k1, .ref k2, .ref k3, .ref k4, .ref k5, .ref k6, .ref k7, .ref k8, .ref k9, .ref ka, .ref kb, .int cc])), (k0, .inr (9, [.ref k00, .ref k01, .ref k02, .ref k03, .ref k04, .ref k05, .int c06, .int c07, .int c08])), (k6, .inr (0, [.ref k60, .ref k61, .ref k62, .ref k63, .ref k64, .int c65])), (kb, .inl (cI, 6, .inl cb)), (k00, .inl (cI, 12, .inl c00)), (k04, .inr (8, [.ref k040, .ref k041, .ref k042, .ref k043, .ref k044, .ref k045, .ref k046, .ref k047, .ref k048, .int c049])), (k60, .inl (cI, 41, .inl c60)), (k61, .inl (cI, 41, .inl c61)), (k62, .inl (cI, 60, .inl c62)), (k63, .inl (cI, 60, .inl c63)), (k64, .inl (cI, 60, .inl c64)), (k040, .inl (cI, 60, .inl c040)), (k041, .inl (cI, 60, .inl c041)), (k043, .inl (cI, 60, .inl c043)), (k045, .inl (cI, 60, .inl c045)), (k046, .inl (cI, 40, .inl c046))] sz)) 0 0 (va_A [(k, .inr (10, [.ref k0, .ref k1, .ref k2, .ref k3, .ref k4, .ref k5, .ref k6, .ref k7, .ref k8, .ref k9, .ref ka, .ref kb, .int cc])), (k0, .inr (9, [.ref k00, .ref k01, .ref k02, .ref k03, .ref k04, .ref k05, .int c06, .int c07, .int c08])), (k6, .inr (0, [.ref k60, .ref k61, .ref k62, .ref k63, .ref k64, .int c65])), (kb, .inl (cI, 6, .inl cb)), (k00, .inl (cI, 12, .inl c00)), (k04, .inr (8, [.ref k040, .ref k041, .ref k042, .ref k043, .ref k044, .ref k045, .ref k046, .ref k047, .ref k048, .int c049])), (k60, .inl (cI, 41, .inl c60)), (k61, .inl (cI, 41, .inl c61)), (k62, .inl (cI, 60, .inl c62)), (k63, .inl (cI, 60, .inl c63)), (k64, .inl (cI, 60, .inl c64)), (k040, .inl (cI, 60, .inl c040)), (k041, .inl (cI, 60, .inl c041)), (k043, .inl (cI, 60, .inl c043)), (k045, .inl (cI, 60, .inl c045)), (k046, .inl (cI, 40, .inl c046))] sz) := by
  refine kMetIX (own := RX10) (by decide +kernel) rfl (Nat.le_of_ble_eq_true rfl) ?_
  intro p e s m args below meth c hx hb hT hown hname hml A Q hK hP hD hS hA hN hXS hRet ls hl
  have hl : lv_has ls 5 [(0, .ref k), (1, .int a0), (2, .int a1), (3, .int a2)] := hl
  have lo_a0 := k_lo a0
  have hi_a0 := k_hi a0
  have lo_a1 := k_lo a1
  have hi_a1 := k_hi a1
  have lo_a2 := k_lo a2
  have hi_a2 := k_hi a2
  refine lv_aload_n hx hb dX10_hands_0 rfl (lv_at hl 0 rfl) ?_
  refine lv_iload_n hx hb dX10_hands_1 rfl (lv_at hl 1 rfl) ?_
  refine lv_iload_n hx hb dX10_hands_2 rfl (lv_at hl 2 rfl) ?_
  refine kJi (wr := [(k6, .inr (0, [.ref k60, .ref k61, .ref k62, .ref k63, .ref k64, .int c65])), (kb, .inl (cI, 6, .inl cb)), (k00, .inl (cI, 12, .inl c00)), (k60, .inl (cI, 41, .inl c60)), (k61, .inl (cI, 41, .inl c61)), (k62, .inl (cI, 60, .inl c62)), (k63, .inl (cI, 60, .inl c63)), (k64, .inl (cI, 60, .inl c64)), (k040, .inl (cI, 60, .inl c040)), (k041, .inl (cI, 60, .inl c041)), (k043, .inl (cI, 60, .inl c043)), (k045, .inl (cI, 60, .inl c045)), (k046, .inl (cI, 40, .inl c046))]) (va_runV (As := [.int a0, .int a1]) (rest := []) ⟨hx, hb, hml, hown, hT⟩ (c_X10_areTwoWorksG l D cI aK aV k k0 k1 k2 k3 k4 k5 k6 k7 k8 k9 ka kb k00 k01 k02 k03 k04 k05 k040 k041 k042 k043 k044 k045 k046 k047 k048 s.heap.size cc c06 c07 c08 c049 a0 a1) (cwV 2 hT (gV_in mw_764 mw_761 mw_763 mw_p2_1 mw_1) rfl rfl rfl (by decide +kernel) ⟨Nat.le_of_ble_eq_true rfl, Nat.le_of_ble_eq_true rfl⟩) (kRecvX (q0 := 0) (ci := 10) hK hP hD hN hXS hS hA rfl rfl [0, 1, 5] rfl (by decide +kernel)) rfl rfl hl.1 rfl (lv_room (Nat.le_of_ble_eq_true rfl)) dX10_hands_3 ⟨Nat.le_of_ble_eq_true rfl, Nat.le_of_ble_eq_true rfl⟩) hP hD hS hA [0, 1, 5] [2, 3, 4, 6, 7, 8, 9, 10, 11, 12, 13, 14, 15] rfl rfl (by decide +kernel) (by decide +kernel) ?_
  clear hP hD hS
  intro r_1 u_3 H locs w_2 hP hD hS
  replace hP : va_P D vwCl [(k6, .inr (0, [.ref k60, .ref k61, .ref k62, .ref k63, .ref k64, .int c65])), (kb, .inl (cI, 6, .inl cb)), (k00, .inl (cI, 12, .inl c00)), (k60, .inl (cI, 41, .inl c60)), (k61, .inl (cI, 41, .inl c61)), (k62, .inl (cI, 60, .inl c62)), (k63, .inl (cI, 60, .inl c63)), (k64, .inl (cI, 60, .inl c64)), (k040, .inl (cI, 60, .inl c040)), (k041, .inl (cI, 60, .inl c041)), (k043, .inl (cI, 60, .inl c043)), (k045, .inl (cI, 60, .inl c045)), (k046, .inl (cI, 40, .inl c046)), (k, .inr (10, [.ref k0, .ref k1, .ref k2, .ref k3, .ref k4, .ref k5, .ref k6, .ref k7, .ref k8, .ref k9, .ref ka, .ref kb, .int cc])), (k0, .inr (9, [.ref k00, .ref k01, .ref k02, .ref k03, .ref k04, .ref k05, .int c06, .int c07, .int c08])), (k04, .inr (8, [.ref k040, .ref k041, .ref k042, .ref k043, .ref k044, .ref k045, .ref k046, .ref k047, .ref k048, .int c049]))] H := hP
  replace hD : va_D A [(k6, .inr (0, [.ref k60, .ref k61, .ref k62, .ref k63, .ref k64, .int c65])), (kb, .inl (cI, 6, .inl cb)), (k00, .inl (cI, 12, .inl c00)), (k60, .inl (cI, 41, .inl c60)), (k61, .inl (cI, 41, .inl c61)), (k62, .inl (cI, 60, .inl c62)), (k63, .inl (cI, 60, .inl c63)), (k64, .inl (cI, 60, .inl c64)), (k040, .inl (cI, 60, .inl c040)), (k041, .inl (cI, 60, .inl c041)), (k043, .inl (cI, 60, .inl c043)), (k045, .inl (cI, 60, .inl c045)), (k046, .inl (cI, 40, .inl c046)), (k, .inr (10, [.ref k0, .ref k1, .ref k2, .ref k3, .ref k4, .ref k5, .ref k6, .ref k7, .ref k8, .ref k9, .ref ka, .ref kb, .int cc])), (k0, .inr (9, [.ref k00, .ref k01, .ref k02, .ref k03, .ref k04, .ref k05, .int c06, .int c07, .int c08])), (k04, .inr (8, [.ref k040, .ref k041, .ref k042, .ref k043, .ref k044, .ref k045, .ref k046, .ref k047, .ref k048, .int c049]))] := hD
  have lo_r_1 := k_lo r_1
  have hi_r_1 := k_hi r_1
  refine b_if_eq hx hb rfl (tgt := 14) dX10_hands_6 (by decide +kernel) (fun c_4 => ?_) (fun c_4 => ?_)
  · refine lv_aload_n hx hb dX10_hands_14 rfl (lv_at hl 0 rfl) ?_
    refine lv_iconst (v := 1) hx hb dX10_hands_15 (by decide +kernel) ?_
    refine kJi (wr := [(k6, .inr (0, [.ref k60, .ref k61, .ref k62, .ref k63, .ref k64, .int c65])), (k00, .inl (cI, 12, .inl c00)), (k60, .inl (cI, 41, .inl c60)), (k61, .inl (cI, 41, .inl c61)), (k62, .inl (cI, 60, .inl c62)), (k63, .inl (cI, 60, .inl c63)), (k64, .inl (cI, 60, .inl c64)), (k040, .inl (cI, 60, .inl c040)), (k041, .inl (cI, 60, .inl c041)), (k043, .inl (cI, 60, .inl c043)), (k045, .inl (cI, 60, .inl c045)), (k046, .inl (cI, 40, .inl c046)), (k0, .inr (9, [.ref k00, .ref k01, .ref k02, .ref k03, .ref k04, .ref k05, .int c06, .int c07, .int c08])), (k04, .inr (8, [.ref k040, .ref k041, .ref k042, .ref k043, .ref k044, .ref k045, .ref k046, .ref k047, .ref k048, .int c049]))]) (va_runV (As := [.int 1]) (rest := []) ⟨hx, hb, hml, hown, hT⟩ (c_X10_findingG l D cI aK aV k k0 k1 k2 k3 k4 k5 k6 k7 k8 k9 ka kb H.size cc cb 1) (cwV 1 hT (gV_in mw_338 mw_335 mw_337 mw_p1_0 mw_1) rfl rfl rfl (by decide +kernel) ⟨Nat.le_of_ble_eq_true rfl, Nat.le_of_ble_eq_true rfl⟩) (kRecvX (q0 := 13) (ci := 10) hK hP hD hN hXS hS hA rfl rfl [13, 1] rfl (by decide +kernel)) rfl rfl hl.1 rfl (lv_room (Nat.le_of_ble_eq_true rfl)) dX10_hands_16 ⟨Nat.le_of_ble_eq_true rfl, Nat.le_of_ble_eq_true rfl⟩) hP hD hS hA [13, 1] [0, 2, 3, 4, 5, 6, 7, 8, 9, 10, 11, 12, 14, 15] rfl rfl (by decide +kernel) (by decide +kernel) ?_
    clear hP hD hS
    intro r_5 scb_7 H locs w_6 hP hD hS
    replace hP : va_P D vwCl [(k6, .inr (0, [.ref k60, .ref k61, .ref k62, .ref k63, .ref k64, .int c65])), (k00, .inl (cI, 12, .inl c00)), (k60, .inl (cI, 41, .inl c60)), (k61, .inl (cI, 41, .inl c61)), (k62, .inl (cI, 60, .inl c62)), (k63, .inl (cI, 60, .inl c63)), (k64, .inl (cI, 60, .inl c64)), (k040, .inl (cI, 60, .inl c040)), (k041, .inl (cI, 60, .inl c041)), (k043, .inl (cI, 60, .inl c043)), (k045, .inl (cI, 60, .inl c045)), (k046, .inl (cI, 40, .inl c046)), (k0, .inr (9, [.ref k00, .ref k01, .ref k02, .ref k03, .ref k04, .ref k05, .int c06, .int c07, .int c08])), (k04, .inr (8, [.ref k040, .ref k041, .ref k042, .ref k043, .ref k044, .ref k045, .ref k046, .ref k047, .ref k048, .int c049])), (k, .inr (10, [.ref k0, .ref k1, .ref k2, .ref k3, .ref k4, .ref k5, .ref k6, .ref k7, .ref k8, .ref k9, .ref ka, .ref kb, .int cc])), (kb, .inl (cI, 6, .inl scb_7))] H := hP
    replace hD : va_D A [(k6, .inr (0, [.ref k60, .ref k61, .ref k62, .ref k63, .ref k64, .int c65])), (k00, .inl (cI, 12, .inl c00)), (k60, .inl (cI, 41, .inl c60)), (k61, .inl (cI, 41, .inl c61)), (k62, .inl (cI, 60, .inl c62)), (k63, .inl (cI, 60, .inl c63)), (k64, .inl (cI, 60, .inl c64)), (k040, .inl (cI, 60, .inl c040)), (k041, .inl (cI, 60, .inl c041)), (k043, .inl (cI, 60, .inl c043)), (k045, .inl (cI, 60, .inl c045)), (k046, .inl (cI, 40, .inl c046)), (k0, .inr (9, [.ref k00, .ref k01, .ref k02, .ref k03, .ref k04, .ref k05, .int c06, .int c07, .int c08])), (k04, .inr (8, [.ref k040, .ref k041, .ref k042, .ref k043, .ref k044, .ref k045, .ref k046, .ref k047, .ref k048, .int c049])), (k, .inr (10, [.ref k0, .ref k1, .ref k2, .ref k3, .ref k4, .ref k5, .ref k6, .ref k7, .ref k8, .ref k9, .ref ka, .ref kb, .int cc])), (kb, .inl (cI, 6, .inl scb_7))] := hD
    have hr_5 := w_6
    obtain rfl : r_5 = (-1000001) := hr_5.trans (by decide +kernel)
    exact hRet (c65, scb_7, c60, c61, c62, c63, c64) [14, 12, 0, 15, 1, 13, 2, 3, 4, 5, 6, 7, 8, 9, 10, 11] trivial hP hD (by decide +kernel) rfl hS rfl dX10_hands_19
  · refine lv_iload_n hx hb dX10_hands_9 rfl (lv_at hl 3 rfl) ?_
    refine lv_iconst (v := (-1)) hx hb dX10_hands_10 (by decide +kernel) ?_
    refine b_icmp_ge hx hb rfl zl_m1 (tgt := 20) dX10_hands_11 (by decide +kernel) (fun c_8 => ?_) (fun c_8 => ?_)
    · refine lv_aload_n hx hb dX10_hands_20 rfl (lv_at hl 0 rfl) ?_
      refine lv_iload_n hx hb dX10_hands_21 rfl (lv_at hl 1 rfl) ?_
      refine lv_iload_n hx hb dX10_hands_22 rfl (lv_at hl 2 rfl) ?_
      refine kJi (wr := [(k6, .inr (0, [.ref k60, .ref k61, .ref k62, .ref k63, .ref k64, .int c65])), (kb, .inl (cI, 6, .inl cb)), (k00, .inl (cI, 12, .inl c00)), (k60, .inl (cI, 41, .inl c60)), (k61, .inl (cI, 41, .inl c61)), (k62, .inl (cI, 60, .inl c62)), (k63, .inl (cI, 60, .inl c63)), (k64, .inl (cI, 60, .inl c64)), (k041, .inl (cI, 60, .inl c041)), (k043, .inl (cI, 60, .inl c043)), (k045, .inl (cI, 60, .inl c045)), (k046, .inl (cI, 40, .inl c046))]) (va_runV (As := [.int a0, .int a1]) (rest := []) ⟨hx, hb, hml, hown, hT⟩ (c_X10_areStationsG l D cI aK aV k k0 k1 k2 k3 k4 k5 k6 k7 k8 k9 ka kb k00 k01 k02 k03 k04 k05 k040 k041 k042 k043 k044 k045 k046 k047 k048 H.size cc c06 c07 c08 c049 c040 a0 a1) (cwV 2 hT (gV_in mw_768 mw_765 mw_767 mw_p2_2 mw_1) rfl rfl rfl (by decide +kernel) ⟨Nat.le_of_ble_eq_true rfl, Nat.le_of_ble_eq_true rfl⟩) (kRecvX (q0 := 13) (ci := 10) hK hP hD hN hXS hS hA rfl rfl [13, 14, 15, 8] rfl (by decide +kernel)) rfl rfl hl.1 rfl (lv_room (Nat.le_of_ble_eq_true rfl)) dX10_hands_23 ⟨Nat.le_of_ble_eq_true rfl, Nat.le_of_ble_eq_true rfl⟩) hP hD hS hA [13, 14, 15, 8] [0, 1, 2, 3, 4, 5, 6, 7, 9, 10, 11, 12] rfl rfl (by decide +kernel) (by decide +kernel) ?_
      clear hP hD hS
      intro r_9 u_11 H locs w_10 hP hD hS
      replace hP : va_P D vwCl [(k6, .inr (0, [.ref k60, .ref k61, .ref k62, .ref k63, .ref k64, .int c65])), (kb, .inl (cI, 6, .inl cb)), (k00, .inl (cI, 12, .inl c00)), (k60, .inl (cI, 41, .inl c60)), (k61, .inl (cI, 41, .inl c61)), (k62, .inl (cI, 60, .inl c62)), (k63, .inl (cI, 60, .inl c63)), (k64, .inl (cI, 60, .inl c64)), (k041, .inl (cI, 60, .inl c041)), (k043, .inl (cI, 60, .inl c043)), (k045, .inl (cI, 60, .inl c045)), (k046, .inl (cI, 40, .inl c046)), (k, .inr (10, [.ref k0, .ref k1, .ref k2, .ref k3, .ref k4, .ref k5, .ref k6, .ref k7, .ref k8, .ref k9, .ref ka, .ref kb, .int cc])), (k0, .inr (9, [.ref k00, .ref k01, .ref k02, .ref k03, .ref k04, .ref k05, .int c06, .int c07, .int c08])), (k04, .inr (8, [.ref k040, .ref k041, .ref k042, .ref k043, .ref k044, .ref k045, .ref k046, .ref k047, .ref k048, .int c049])), (k040, .inl (cI, 60, .inl c040))] H := hP
      replace hD : va_D A [(k6, .inr (0, [.ref k60, .ref k61, .ref k62, .ref k63, .ref k64, .int c65])), (kb, .inl (cI, 6, .inl cb)), (k00, .inl (cI, 12, .inl c00)), (k60, .inl (cI, 41, .inl c60)), (k61, .inl (cI, 41, .inl c61)), (k62, .inl (cI, 60, .inl c62)), (k63, .inl (cI, 60, .inl c63)), (k64, .inl (cI, 60, .inl c64)), (k041, .inl (cI, 60, .inl c041)), (k043, .inl (cI, 60, .inl c043)), (k045, .inl (cI, 60, .inl c045)), (k046, .inl (cI, 40, .inl c046)), (k, .inr (10, [.ref k0, .ref k1, .ref k2, .ref k3, .ref k4, .ref k5, .ref k6, .ref k7, .ref k8, .ref k9, .ref ka, .ref kb, .int cc])), (k0, .inr (9, [.ref k00, .ref k01, .ref k02, .ref k03, .ref k04, .ref k05, .int c06, .int c07, .int c08])), (k04, .inr (8, [.ref k040, .ref k041, .ref k042, .ref k043, .ref k044, .ref k045, .ref k046, .ref k047, .ref k048, .int c049])), (k040, .inl (cI, 60, .inl c040))] := hD
      have lo_r_9 := k_lo r_9
      have hi_r_9 := k_hi r_9
      refine b_if_ne hx hb rfl (tgt := 35) dX10_hands_26 (by decide +kernel) (fun c_12 => ?_) (fun c_12 => ?_)
      · refine lv_aload_n hx hb dX10_hands_35 rfl (lv_at hl 0 rfl) ?_
        refine va_get (D := D) (ci := 10) (v := .ref k6) (C := RX10) (T := TX10) (N := 13) hx hb hT giX10 hown hK hP 12 rfl rfl 6 (by decide +kernel) (hT (Cond.fieldLink RX10 42 "DesertWire" "words" "LDesertWire$Hands;") mw_297) (fun _ h9 => h9) rfl dX10_hands_36 ?_
        refine lv_aload_n hx hb dX10_hands_39 rfl (lv_at hl 0 rfl) ?_
        refine va_get (D := D) (ci := 10) (v := .ref k0) (C := RX10) (T := TX10) (N := 13) hx hb hT giX10 hown hK hP 12 rfl rfl 0 (by decide +kernel) (hT (Cond.fieldLink RX10 12 "DesertWire" "now" "LDesertWire$World;") mw_291) (fun _ h9 => h9) rfl dX10_hands_40 ?_
        refine lv_iload_n hx hb dX10_hands_43 rfl (lv_at hl 1 rfl) ?_
        refine lv_iload_n hx hb dX10_hands_44 rfl (lv_at hl 2 rfl) ?_
        refine kJi (wr := [(kb, .inl (cI, 6, .inl cb)), (k, .inr (10, [.ref k0, .ref k1, .ref k2, .ref k3, .ref k4, .ref k5, .ref k6, .ref k7, .ref k8, .ref k9, .ref ka, .ref kb, .int cc]))]) (va_runV (As := [.ref k0, .int a0, .int a1]) (rest := []) ⟨hx, hb, hml, hown, hT⟩ (c_X0_findG l D cI aK aV k6 k0 k60 k61 k62 k63 k64 k00 k01 k02 k03 k04 k05 k040 k041 k042 k043 k044 k045 k046 k047 k048 H.size c65 c60 c61 c62 c63 c64 c06 c07 c08 c00 c049 c040 c041 c043 c045 c046 a0 a1) (cwV 3 hT (gV_in mw_790 mw_787 mw_788 mw_789 mw_7) rfl rfl rfl (by decide +kernel) ⟨Nat.le_of_ble_eq_true rfl, Nat.le_of_ble_eq_true rfl⟩) (kRecvX (q0 := 0) (ci := 0) hK hP hD hN hXS hS hA rfl rfl [0, 3, 4, 5, 6, 7, 13, 2, 14, 15, 8, 9, 10, 11] rfl (by decide +kernel)) rfl rfl hl.1 rfl (lv_room (Nat.le_of_ble_eq_true rfl)) dX10_hands_45 ⟨Nat.le_of_ble_eq_true rfl, Nat.le_of_ble_eq_true rfl⟩) hP hD hS hA [0, 3, 4, 5, 6, 7, 13, 2, 14, 15, 8, 9, 10, 11] [1, 12] rfl rfl (by decide +kernel) (by decide +kernel) ?_
        clear hP hD hS
        intro r_13 u_21 H locs w_14 hP hD hS
        obtain ⟨sc5_15, sc0_16, sc1_17, sc2_18, sc3_19, sc4_20⟩ := u_21
        replace hP : va_P D vwCl [(kb, .inl (cI, 6, .inl cb)), (k, .inr (10, [.ref k0, .ref k1, .ref k2, .ref k3, .ref k4, .ref k5, .ref k6, .ref k7, .ref k8, .ref k9, .ref ka, .ref kb, .int cc])), (k6, .inr (0, [.ref k60, .ref k61, .ref k62, .ref k63, .ref k64, .int sc5_15])), (k60, .inl (cI, 41, .inl sc0_16)), (k61, .inl (cI, 41, .inl sc1_17)), (k62, .inl (cI, 60, .inl sc2_18)), (k63, .inl (cI, 60, .inl sc3_19)), (k64, .inl (cI, 60, .inl sc4_20)), (k0, .inr (9, [.ref k00, .ref k01, .ref k02, .ref k03, .ref k04, .ref k05, .int c06, .int c07, .int c08])), (k00, .inl (cI, 12, .inl c00)), (k04, .inr (8, [.ref k040, .ref k041, .ref k042, .ref k043, .ref k044, .ref k045, .ref k046, .ref k047, .ref k048, .int c049])), (k040, .inl (cI, 60, .inl c040)), (k041, .inl (cI, 60, .inl c041)), (k043, .inl (cI, 60, .inl c043)), (k045, .inl (cI, 60, .inl c045)), (k046, .inl (cI, 40, .inl c046))] H := hP
        replace hD : va_D A [(kb, .inl (cI, 6, .inl cb)), (k, .inr (10, [.ref k0, .ref k1, .ref k2, .ref k3, .ref k4, .ref k5, .ref k6, .ref k7, .ref k8, .ref k9, .ref ka, .ref kb, .int cc])), (k6, .inr (0, [.ref k60, .ref k61, .ref k62, .ref k63, .ref k64, .int sc5_15])), (k60, .inl (cI, 41, .inl sc0_16)), (k61, .inl (cI, 41, .inl sc1_17)), (k62, .inl (cI, 60, .inl sc2_18)), (k63, .inl (cI, 60, .inl sc3_19)), (k64, .inl (cI, 60, .inl sc4_20)), (k0, .inr (9, [.ref k00, .ref k01, .ref k02, .ref k03, .ref k04, .ref k05, .int c06, .int c07, .int c08])), (k00, .inl (cI, 12, .inl c00)), (k04, .inr (8, [.ref k040, .ref k041, .ref k042, .ref k043, .ref k044, .ref k045, .ref k046, .ref k047, .ref k048, .int c049])), (k040, .inl (cI, 60, .inl c040)), (k041, .inl (cI, 60, .inl c041)), (k043, .inl (cI, 60, .inl c043)), (k045, .inl (cI, 60, .inl c045)), (k046, .inl (cI, 40, .inl c046))] := hD
        have lo_r_13 := k_lo r_13
        have hi_r_13 := k_hi r_13
        refine lv_istore (lv' := [(4, .int r_13), (0, .ref k), (1, .int a0), (2, .int a1), (3, .int a2)]) hx hb dX10_hands_48 hl (by decide +kernel) rfl ?_
        clear hl
        intro ls hl
        refine lv_iload hx hb dX10_hands_50 (lv_at hl 0 rfl) ?_
        refine b_if_eq hx hb rfl (tgt := 61) dX10_hands_52 (by decide +kernel) (fun c_22 => ?_) (fun c_22 => ?_)
        · refine lv_aload_n hx hb dX10_hands_61 rfl (lv_at hl 1 rfl) ?_
          refine lv_iconst (v := 2) hx hb dX10_hands_62 (by decide +kernel) ?_
          refine kJi (wr := [(k6, .inr (0, [.ref k60, .ref k61, .ref k62, .ref k63, .ref k64, .int sc5_15])), (k60, .inl (cI, 41, .inl sc0_16)), (k61, .inl (cI, 41, .inl sc1_17)), (k62, .inl (cI, 60, .inl sc2_18)), (k63, .inl (cI, 60, .inl sc3_19)), (k64, .inl (cI, 60, .inl sc4_20)), (k0, .inr (9, [.ref k00, .ref k01, .ref k02, .ref k03, .ref k04, .ref k05, .int c06, .int c07, .int c08])), (k00, .inl (cI, 12, .inl c00)), (k04, .inr (8, [.ref k040, .ref k041, .ref k042, .ref k043, .ref k044, .ref k045, .ref k046, .ref k047, .ref k048, .int c049])), (k040, .inl (cI, 60, .inl c040)), (k041, .inl (cI, 60, .inl c041)), (k043, .inl (cI, 60, .inl c043)), (k045, .inl (cI, 60, .inl c045)), (k046, .inl (cI, 40, .inl c046))]) (va_runV (As := [.int 2]) (rest := []) ⟨hx, hb, hml, hown, hT⟩ (c_X10_findingG l D cI aK aV k k0 k1 k2 k3 k4 k5 k6 k7 k8 k9 ka kb H.size cc cb 2) (cwV 1 hT (gV_in mw_338 mw_335 mw_337 mw_p1_0 mw_1) rfl rfl rfl (by decide +kernel) ⟨Nat.le_of_ble_eq_true rfl, Nat.le_of_ble_eq_true rfl⟩) (kRecvX (q0 := 1) (ci := 10) hK hP hD hN hXS hS hA rfl rfl [1, 0] rfl (by decide +kernel)) rfl rfl hl.1 rfl (lv_room (Nat.le_of_ble_eq_true rfl)) dX10_hands_63 ⟨Nat.le_of_ble_eq_true rfl, Nat.le_of_ble_eq_true rfl⟩) hP hD hS hA [1, 0] [2, 3, 4, 5, 6, 7, 8, 9, 10, 11, 12, 13, 14, 15] rfl rfl (by decide +kernel) (by decide +kernel) ?_
          clear hP hD hS
          intro r_23 scb_25 H locs w_24 hP hD hS
          replace hP : va_P D vwCl [(k6, .inr (0, [.ref k60, .ref k61, .ref k62, .ref k63, .ref k64, .int sc5_15])), (k60, .inl (cI, 41, .inl sc0_16)), (k61, .inl (cI, 41, .inl sc1_17)), (k62, .inl (cI, 60, .inl sc2_18)), (k63, .inl (cI, 60, .inl sc3_19)), (k64, .inl (cI, 60, .inl sc4_20)), (k0, .inr (9, [.ref k00, .ref k01, .ref k02, .ref k03, .ref k04, .ref k05, .int c06, .int c07, .int c08])), (k00, .inl (cI, 12, .inl c00)), (k04, .inr (8, [.ref k040, .ref k041, .ref k042, .ref k043, .ref k044, .ref k045, .ref k046, .ref k047, .ref k048, .int c049])), (k040, .inl (cI, 60, .inl c040)), (k041, .inl (cI, 60, .inl c041)), (k043, .inl (cI, 60, .inl c043)), (k045, .inl (cI, 60, .inl c045)), (k046, .inl (cI, 40, .inl c046)), (k, .inr (10, [.ref k0, .ref k1, .ref k2, .ref k3, .ref k4, .ref k5, .ref k6, .ref k7, .ref k8, .ref k9, .ref ka, .ref kb, .int cc])), (kb, .inl (cI, 6, .inl scb_25))] H := hP
          replace hD : va_D A [(k6, .inr (0, [.ref k60, .ref k61, .ref k62, .ref k63, .ref k64, .int sc5_15])), (k60, .inl (cI, 41, .inl sc0_16)), (k61, .inl (cI, 41, .inl sc1_17)), (k62, .inl (cI, 60, .inl sc2_18)), (k63, .inl (cI, 60, .inl sc3_19)), (k64, .inl (cI, 60, .inl sc4_20)), (k0, .inr (9, [.ref k00, .ref k01, .ref k02, .ref k03, .ref k04, .ref k05, .int c06, .int c07, .int c08])), (k00, .inl (cI, 12, .inl c00)), (k04, .inr (8, [.ref k040, .ref k041, .ref k042, .ref k043, .ref k044, .ref k045, .ref k046, .ref k047, .ref k048, .int c049])), (k040, .inl (cI, 60, .inl c040)), (k041, .inl (cI, 60, .inl c041)), (k043, .inl (cI, 60, .inl c043)), (k045, .inl (cI, 60, .inl c045)), (k046, .inl (cI, 40, .inl c046)), (k, .inr (10, [.ref k0, .ref k1, .ref k2, .ref k3, .ref k4, .ref k5, .ref k6, .ref k7, .ref k8, .ref k9, .ref ka, .ref kb, .int cc])), (kb, .inl (cI, 6, .inl scb_25))] := hD
          have hr_23 := w_24
          obtain rfl : r_23 = (-1000002) := hr_23.trans (by decide +kernel)
          exact hRet (sc5_15, scb_25, sc0_16, sc1_17, sc2_18, sc3_19, sc4_20) [14, 6, 0, 15, 7, 8, 1, 2, 3, 4, 5, 9, 10, 11, 12, 13] trivial hP hD (by decide +kernel) rfl hS rfl dX10_hands_66
        · refine lv_iload_n hx hb dX10_hands_55 rfl (lv_at hl 4 rfl) ?_
          refine lv_iload hx hb dX10_hands_56 (lv_at hl 0 rfl) ?_
          refine b_icmp_lt hx hb rfl rfl (tgt := 67) dX10_hands_58 (by decide +kernel) (fun c_26 => ?_) (fun c_26 => ?_)
          · refine lv_iload_n hx hb dX10_hands_67 rfl (lv_at hl 4 rfl) ?_
            refine lv_iconst (v := (-1)) hx hb dX10_hands_68 (by decide +kernel) ?_
            refine b_icmp_ne hx hb rfl zl_m1 (tgt := 77) dX10_hands_69 (by decide +kernel) (fun c_27 => ?_) (fun c_27 => ?_)
            · refine lv_aload_n hx hb dX10_hands_77 rfl (lv_at hl 1 rfl) ?_
              refine va_get (D := D) (ci := 10) (v := .ref k6) (C := RX10) (T := TX10) (N := 13) hx hb hT giX10 hown hK hP 1 rfl rfl 6 (by decide +kernel) (hT (Cond.fieldLink RX10 42 "DesertWire" "words" "LDesertWire$Hands;") mw_297) (fun _ h9 => h9) rfl dX10_hands_78 ?_
              refine lv_iload_n hx hb dX10_hands_81 rfl (lv_at hl 4 rfl) ?_
              refine kJi (wr := [(kb, .inl (cI, 6, .inl cb)), (k, .inr (10, [.ref k0, .ref k1, .ref k2, .ref k3, .ref k4, .ref k5, .ref k6, .ref k7, .ref k8, .ref k9, .ref ka, .ref kb, .int cc])), (k60, .inl (cI, 41, .inl sc0_16)), (k61, .inl (cI, 41, .inl sc1_17)), (k62, .inl (cI, 60, .inl sc2_18)), (k63, .inl (cI, 60, .inl sc3_19)), (k0, .inr (9, [.ref k00, .ref k01, .ref k02, .ref k03, .ref k04, .ref k05, .int c06, .int c07, .int c08])), (k00, .inl (cI, 12, .inl c00)), (k04, .inr (8, [.ref k040, .ref k041, .ref k042, .ref k043, .ref k044, .ref k045, .ref k046, .ref k047, .ref k048, .int c049])), (k040, .inl (cI, 60, .inl c040)), (k041, .inl (cI, 60, .inl c041)), (k043, .inl (cI, 60, .inl c043)), (k045, .inl (cI, 60, .inl c045)), (k046, .inl (cI, 40, .inl c046))]) (va_runV (As := [.int a2]) (rest := []) ⟨hx, hb, hml, hown, hT⟩ (c_X0_stationAtG l D cI aK aV k6 k60 k61 k62 k63 k64 H.size sc5_15 sc4_20 a2) (cwV 1 hT (gV_in mw_814 mw_811 mw_812 mw_813 mw_7) rfl rfl rfl (by decide +kernel) ⟨Nat.le_of_ble_eq_true rfl, Nat.le_of_ble_eq_true rfl⟩) (kRecvX (q0 := 2) (ci := 0) hK hP hD hN hXS hS hA rfl rfl [2, 7] rfl (by decide +kernel)) rfl rfl hl.1 rfl (lv_room (Nat.le_of_ble_eq_true rfl)) dX10_hands_82 ⟨Nat.le_of_ble_eq_true rfl, Nat.le_of_ble_eq_true rfl⟩) hP hD hS hA [2, 7] [0, 1, 3, 4, 5, 6, 8, 9, 10, 11, 12, 13, 14, 15] rfl rfl (by decide +kernel) (by decide +kernel) ?_
              clear hP hD hS
              intro r_28 u_30 H locs w_29 hP hD hS
              replace hP : va_P D vwCl [(kb, .inl (cI, 6, .inl cb)), (k, .inr (10, [.ref k0, .ref k1, .ref k2, .ref k3, .ref k4, .ref k5, .ref k6, .ref k7, .ref k8, .ref k9, .ref ka, .ref kb, .int cc])), (k60, .inl (cI, 41, .inl sc0_16)), (k61, .inl (cI, 41, .inl sc1_17)), (k62, .inl (cI, 60, .inl sc2_18)), (k63, .inl (cI, 60, .inl sc3_19)), (k0, .inr (9, [.ref k00, .ref k01, .ref k02, .ref k03, .ref k04, .ref k05, .int c06, .int c07, .int c08])), (k00, .inl (cI, 12, .inl c00)), (k04, .inr (8, [.ref k040, .ref k041, .ref k042, .ref k043, .ref k044, .ref k045, .ref k046, .ref k047, .ref k048, .int c049])), (k040, .inl (cI, 60, .inl c040)), (k041, .inl (cI, 60, .inl c041)), (k043, .inl (cI, 60, .inl c043)), (k045, .inl (cI, 60, .inl c045)), (k046, .inl (cI, 40, .inl c046)), (k6, .inr (0, [.ref k60, .ref k61, .ref k62, .ref k63, .ref k64, .int sc5_15])), (k64, .inl (cI, 60, .inl sc4_20))] H := hP
              replace hD : va_D A [(kb, .inl (cI, 6, .inl cb)), (k, .inr (10, [.ref k0, .ref k1, .ref k2, .ref k3, .ref k4, .ref k5, .ref k6, .ref k7, .ref k8, .ref k9, .ref ka, .ref kb, .int cc])), (k60, .inl (cI, 41, .inl sc0_16)), (k61, .inl (cI, 41, .inl sc1_17)), (k62, .inl (cI, 60, .inl sc2_18)), (k63, .inl (cI, 60, .inl sc3_19)), (k0, .inr (9, [.ref k00, .ref k01, .ref k02, .ref k03, .ref k04, .ref k05, .int c06, .int c07, .int c08])), (k00, .inl (cI, 12, .inl c00)), (k04, .inr (8, [.ref k040, .ref k041, .ref k042, .ref k043, .ref k044, .ref k045, .ref k046, .ref k047, .ref k048, .int c049])), (k040, .inl (cI, 60, .inl c040)), (k041, .inl (cI, 60, .inl c041)), (k043, .inl (cI, 60, .inl c043)), (k045, .inl (cI, 60, .inl c045)), (k046, .inl (cI, 40, .inl c046)), (k6, .inr (0, [.ref k60, .ref k61, .ref k62, .ref k63, .ref k64, .int sc5_15])), (k64, .inl (cI, 60, .inl sc4_20))] := hD
              have lo_r_28 := k_lo r_28
              have hi_r_28 := k_hi r_28
              exact hRet (sc5_15, cb, sc0_16, sc1_17, sc2_18, sc3_19, sc4_20) [1, 6, 14, 0, 7, 8, 2, 3, 4, 5, 15, 9, 10, 11, 12, 13] trivial hP hD (by decide +kernel) rfl hS rfl dX10_hands_85
            · refine lv_iload hx hb dX10_hands_72 (lv_at hl 0 rfl) ?_
              refine lv_goto (tgt := 85) hx hb dX10_hands_74 (by decide +kernel) ?_
              exact hRet (sc5_15, cb, sc0_16, sc1_17, sc2_18, sc3_19, sc4_20) [1, 8, 2, 0, 9, 10, 3, 4, 5, 6, 7, 11, 12, 13, 14, 15] trivial hP hD (by decide +kernel) rfl hS rfl dX10_hands_85
          · refine lv_aload_n hx hb dX10_hands_61 rfl (lv_at hl 1 rfl) ?_
            refine lv_iconst (v := 2) hx hb dX10_hands_62 (by decide +kernel) ?_
            refine kJi (wr := [(k6, .inr (0, [.ref k60, .ref k61, .ref k62, .ref k63, .ref k64, .int sc5_15])), (k60, .inl (cI, 41, .inl sc0_16)), (k61, .inl (cI, 41, .inl sc1_17)), (k62, .inl (cI, 60, .inl sc2_18)), (k63, .inl (cI, 60, .inl sc3_19)), (k64, .inl (cI, 60, .inl sc4_20)), (k0, .inr (9, [.ref k00, .ref k01, .ref k02, .ref k03, .ref k04, .ref k05, .int c06, .int c07, .int c08])), (k00, .inl (cI, 12, .inl c00)), (k04, .inr (8, [.ref k040, .ref k041, .ref k042, .ref k043, .ref k044, .ref k045, .ref k046, .ref k047, .ref k048, .int c049])), (k040, .inl (cI, 60, .inl c040)), (k041, .inl (cI, 60, .inl c041)), (k043, .inl (cI, 60, .inl c043)), (k045, .inl (cI, 60, .inl c045)), (k046, .inl (cI, 40, .inl c046))]) (va_runV (As := [.int 2]) (rest := []) ⟨hx, hb, hml, hown, hT⟩ (c_X10_findingG l D cI aK aV k k0 k1 k2 k3 k4 k5 k6 k7 k8 k9 ka kb H.size cc cb 2) (cwV 1 hT (gV_in mw_338 mw_335 mw_337 mw_p1_0 mw_1) rfl rfl rfl (by decide +kernel) ⟨Nat.le_of_ble_eq_true rfl, Nat.le_of_ble_eq_true rfl⟩) (kRecvX (q0 := 1) (ci := 10) hK hP hD hN hXS hS hA rfl rfl [1, 0] rfl (by decide +kernel)) rfl rfl hl.1 rfl (lv_room (Nat.le_of_ble_eq_true rfl)) dX10_hands_63 ⟨Nat.le_of_ble_eq_true rfl, Nat.le_of_ble_eq_true rfl⟩) hP hD hS hA [1, 0] [2, 3, 4, 5, 6, 7, 8, 9, 10, 11, 12, 13, 14, 15] rfl rfl (by decide +kernel) (by decide +kernel) ?_
            clear hP hD hS
            intro r_31 scb_33 H locs w_32 hP hD hS
            replace hP : va_P D vwCl [(k6, .inr (0, [.ref k60, .ref k61, .ref k62, .ref k63, .ref k64, .int sc5_15])), (k60, .inl (cI, 41, .inl sc0_16)), (k61, .inl (cI, 41, .inl sc1_17)), (k62, .inl (cI, 60, .inl sc2_18)), (k63, .inl (cI, 60, .inl sc3_19)), (k64, .inl (cI, 60, .inl sc4_20)), (k0, .inr (9, [.ref k00, .ref k01, .ref k02, .ref k03, .ref k04, .ref k05, .int c06, .int c07, .int c08])), (k00, .inl (cI, 12, .inl c00)), (k04, .inr (8, [.ref k040, .ref k041, .ref k042, .ref k043, .ref k044, .ref k045, .ref k046, .ref k047, .ref k048, .int c049])), (k040, .inl (cI, 60, .inl c040)), (k041, .inl (cI, 60, .inl c041)), (k043, .inl (cI, 60, .inl c043)), (k045, .inl (cI, 60, .inl c045)), (k046, .inl (cI, 40, .inl c046)), (k, .inr (10, [.ref k0, .ref k1, .ref k2, .ref k3, .ref k4, .ref k5, .ref k6, .ref k7, .ref k8, .ref k9, .ref ka, .ref kb, .int cc])), (kb, .inl (cI, 6, .inl scb_33))] H := hP
            replace hD : va_D A [(k6, .inr (0, [.ref k60, .ref k61, .ref k62, .ref k63, .ref k64, .int sc5_15])), (k60, .inl (cI, 41, .inl sc0_16)), (k61, .inl (cI, 41, .inl sc1_17)), (k62, .inl (cI, 60, .inl sc2_18)), (k63, .inl (cI, 60, .inl sc3_19)), (k64, .inl (cI, 60, .inl sc4_20)), (k0, .inr (9, [.ref k00, .ref k01, .ref k02, .ref k03, .ref k04, .ref k05, .int c06, .int c07, .int c08])), (k00, .inl (cI, 12, .inl c00)), (k04, .inr (8, [.ref k040, .ref k041, .ref k042, .ref k043, .ref k044, .ref k045, .ref k046, .ref k047, .ref k048, .int c049])), (k040, .inl (cI, 60, .inl c040)), (k041, .inl (cI, 60, .inl c041)), (k043, .inl (cI, 60, .inl c043)), (k045, .inl (cI, 60, .inl c045)), (k046, .inl (cI, 40, .inl c046)), (k, .inr (10, [.ref k0, .ref k1, .ref k2, .ref k3, .ref k4, .ref k5, .ref k6, .ref k7, .ref k8, .ref k9, .ref ka, .ref kb, .int cc])), (kb, .inl (cI, 6, .inl scb_33))] := hD
            have hr_31 := w_32
            obtain rfl : r_31 = (-1000002) := hr_31.trans (by decide +kernel)
            exact hRet (sc5_15, scb_33, sc0_16, sc1_17, sc2_18, sc3_19, sc4_20) [14, 6, 0, 15, 7, 8, 1, 2, 3, 4, 5, 9, 10, 11, 12, 13] trivial hP hD (by decide +kernel) rfl hS rfl dX10_hands_66
      · refine lv_aload_n hx hb dX10_hands_29 rfl (lv_at hl 0 rfl) ?_
        refine lv_iconst (v := 5) hx hb dX10_hands_30 (by decide +kernel) ?_
        refine kJi (wr := [(k6, .inr (0, [.ref k60, .ref k61, .ref k62, .ref k63, .ref k64, .int c65])), (k00, .inl (cI, 12, .inl c00)), (k60, .inl (cI, 41, .inl c60)), (k61, .inl (cI, 41, .inl c61)), (k62, .inl (cI, 60, .inl c62)), (k63, .inl (cI, 60, .inl c63)), (k64, .inl (cI, 60, .inl c64)), (k041, .inl (cI, 60, .inl c041)), (k043, .inl (cI, 60, .inl c043)), (k045, .inl (cI, 60, .inl c045)), (k046, .inl (cI, 40, .inl c046)), (k0, .inr (9, [.ref k00, .ref k01, .ref k02, .ref k03, .ref k04, .ref k05, .int c06, .int c07, .int c08])), (k04, .inr (8, [.ref k040, .ref k041, .ref k042, .ref k043, .ref k044, .ref k045, .ref k046, .ref k047, .ref k048, .int c049])), (k040, .inl (cI, 60, .inl c040))]) (va_runV (As := [.int 5]) (rest := []) ⟨hx, hb, hml, hown, hT⟩ (c_X10_findingG l D cI aK aV k k0 k1 k2 k3 k4 k5 k6 k7 k8 k9 ka kb H.size cc cb 5) (cwV 1 hT (gV_in mw_338 mw_335 mw_337 mw_p1_0 mw_1) rfl rfl rfl (by decide +kernel) ⟨Nat.le_of_ble_eq_true rfl, Nat.le_of_ble_eq_true rfl⟩) (kRecvX (q0 := 12) (ci := 10) hK hP hD hN hXS hS hA rfl rfl [12, 1] rfl (by decide +kernel)) rfl rfl hl.1 rfl (lv_room (Nat.le_of_ble_eq_true rfl)) dX10_hands_31 ⟨Nat.le_of_ble_eq_true rfl, Nat.le_of_ble_eq_true rfl⟩) hP hD hS hA [12, 1] [0, 2, 3, 4, 5, 6, 7, 8, 9, 10, 11, 13, 14, 15] rfl rfl (by decide +kernel) (by decide +kernel) ?_
        clear hP hD hS
        intro r_34 scb_36 H locs w_35 hP hD hS
        replace hP : va_P D vwCl [(k6, .inr (0, [.ref k60, .ref k61, .ref k62, .ref k63, .ref k64, .int c65])), (k00, .inl (cI, 12, .inl c00)), (k60, .inl (cI, 41, .inl c60)), (k61, .inl (cI, 41, .inl c61)), (k62, .inl (cI, 60, .inl c62)), (k63, .inl (cI, 60, .inl c63)), (k64, .inl (cI, 60, .inl c64)), (k041, .inl (cI, 60, .inl c041)), (k043, .inl (cI, 60, .inl c043)), (k045, .inl (cI, 60, .inl c045)), (k046, .inl (cI, 40, .inl c046)), (k0, .inr (9, [.ref k00, .ref k01, .ref k02, .ref k03, .ref k04, .ref k05, .int c06, .int c07, .int c08])), (k04, .inr (8, [.ref k040, .ref k041, .ref k042, .ref k043, .ref k044, .ref k045, .ref k046, .ref k047, .ref k048, .int c049])), (k040, .inl (cI, 60, .inl c040)), (k, .inr (10, [.ref k0, .ref k1, .ref k2, .ref k3, .ref k4, .ref k5, .ref k6, .ref k7, .ref k8, .ref k9, .ref ka, .ref kb, .int cc])), (kb, .inl (cI, 6, .inl scb_36))] H := hP
        replace hD : va_D A [(k6, .inr (0, [.ref k60, .ref k61, .ref k62, .ref k63, .ref k64, .int c65])), (k00, .inl (cI, 12, .inl c00)), (k60, .inl (cI, 41, .inl c60)), (k61, .inl (cI, 41, .inl c61)), (k62, .inl (cI, 60, .inl c62)), (k63, .inl (cI, 60, .inl c63)), (k64, .inl (cI, 60, .inl c64)), (k041, .inl (cI, 60, .inl c041)), (k043, .inl (cI, 60, .inl c043)), (k045, .inl (cI, 60, .inl c045)), (k046, .inl (cI, 40, .inl c046)), (k0, .inr (9, [.ref k00, .ref k01, .ref k02, .ref k03, .ref k04, .ref k05, .int c06, .int c07, .int c08])), (k04, .inr (8, [.ref k040, .ref k041, .ref k042, .ref k043, .ref k044, .ref k045, .ref k046, .ref k047, .ref k048, .int c049])), (k040, .inl (cI, 60, .inl c040)), (k, .inr (10, [.ref k0, .ref k1, .ref k2, .ref k3, .ref k4, .ref k5, .ref k6, .ref k7, .ref k8, .ref k9, .ref ka, .ref kb, .int cc])), (kb, .inl (cI, 6, .inl scb_36))] := hD
        have hr_34 := w_35
        obtain rfl : r_34 = (-1000005) := hr_34.trans (by decide +kernel)
        exact hRet (c65, scb_36, c60, c61, c62, c63, c64) [14, 11, 0, 15, 1, 12, 2, 3, 4, 5, 6, 13, 7, 8, 9, 10] trivial hP hD (by decide +kernel) rfl hS rfl dX10_hands_34
    · refine lv_aload_n hx hb dX10_hands_14 rfl (lv_at hl 0 rfl) ?_
      refine lv_iconst (v := 1) hx hb dX10_hands_15 (by decide +kernel) ?_
      refine kJi (wr := [(k6, .inr (0, [.ref k60, .ref k61, .ref k62, .ref k63, .ref k64, .int c65])), (k00, .inl (cI, 12, .inl c00)), (k60, .inl (cI, 41, .inl c60)), (k61, .inl (cI, 41, .inl c61)), (k62, .inl (cI, 60, .inl c62)), (k63, .inl (cI, 60, .inl c63)), (k64, .inl (cI, 60, .inl c64)), (k040, .inl (cI, 60, .inl c040)), (k041, .inl (cI, 60, .inl c041)), (k043, .inl (cI, 60, .inl c043)), (k045, .inl (cI, 60, .inl c045)), (k046, .inl (cI, 40, .inl c046)), (k0, .inr (9, [.ref k00, .ref k01, .ref k02, .ref k03, .ref k04, .ref k05, .int c06, .int c07, .int c08])), (k04, .inr (8, [.ref k040, .ref k041, .ref k042, .ref k043, .ref k044, .ref k045, .ref k046, .ref k047, .ref k048, .int c049]))]) (va_runV (As := [.int 1]) (rest := []) ⟨hx, hb, hml, hown, hT⟩ (c_X10_findingG l D cI aK aV k k0 k1 k2 k3 k4 k5 k6 k7 k8 k9 ka kb H.size cc cb 1) (cwV 1 hT (gV_in mw_338 mw_335 mw_337 mw_p1_0 mw_1) rfl rfl rfl (by decide +kernel) ⟨Nat.le_of_ble_eq_true rfl, Nat.le_of_ble_eq_true rfl⟩) (kRecvX (q0 := 13) (ci := 10) hK hP hD hN hXS hS hA rfl rfl [13, 1] rfl (by decide +kernel)) rfl rfl hl.1 rfl (lv_room (Nat.le_of_ble_eq_true rfl)) dX10_hands_16 ⟨Nat.le_of_ble_eq_true rfl, Nat.le_of_ble_eq_true rfl⟩) hP hD hS hA [13, 1] [0, 2, 3, 4, 5, 6, 7, 8, 9, 10, 11, 12, 14, 15] rfl rfl (by decide +kernel) (by decide +kernel) ?_
      clear hP hD hS
      intro r_37 scb_39 H locs w_38 hP hD hS
      replace hP : va_P D vwCl [(k6, .inr (0, [.ref k60, .ref k61, .ref k62, .ref k63, .ref k64, .int c65])), (k00, .inl (cI, 12, .inl c00)), (k60, .inl (cI, 41, .inl c60)), (k61, .inl (cI, 41, .inl c61)), (k62, .inl (cI, 60, .inl c62)), (k63, .inl (cI, 60, .inl c63)), (k64, .inl (cI, 60, .inl c64)), (k040, .inl (cI, 60, .inl c040)), (k041, .inl (cI, 60, .inl c041)), (k043, .inl (cI, 60, .inl c043)), (k045, .inl (cI, 60, .inl c045)), (k046, .inl (cI, 40, .inl c046)), (k0, .inr (9, [.ref k00, .ref k01, .ref k02, .ref k03, .ref k04, .ref k05, .int c06, .int c07, .int c08])), (k04, .inr (8, [.ref k040, .ref k041, .ref k042, .ref k043, .ref k044, .ref k045, .ref k046, .ref k047, .ref k048, .int c049])), (k, .inr (10, [.ref k0, .ref k1, .ref k2, .ref k3, .ref k4, .ref k5, .ref k6, .ref k7, .ref k8, .ref k9, .ref ka, .ref kb, .int cc])), (kb, .inl (cI, 6, .inl scb_39))] H := hP
      replace hD : va_D A [(k6, .inr (0, [.ref k60, .ref k61, .ref k62, .ref k63, .ref k64, .int c65])), (k00, .inl (cI, 12, .inl c00)), (k60, .inl (cI, 41, .inl c60)), (k61, .inl (cI, 41, .inl c61)), (k62, .inl (cI, 60, .inl c62)), (k63, .inl (cI, 60, .inl c63)), (k64, .inl (cI, 60, .inl c64)), (k040, .inl (cI, 60, .inl c040)), (k041, .inl (cI, 60, .inl c041)), (k043, .inl (cI, 60, .inl c043)), (k045, .inl (cI, 60, .inl c045)), (k046, .inl (cI, 40, .inl c046)), (k0, .inr (9, [.ref k00, .ref k01, .ref k02, .ref k03, .ref k04, .ref k05, .int c06, .int c07, .int c08])), (k04, .inr (8, [.ref k040, .ref k041, .ref k042, .ref k043, .ref k044, .ref k045, .ref k046, .ref k047, .ref k048, .int c049])), (k, .inr (10, [.ref k0, .ref k1, .ref k2, .ref k3, .ref k4, .ref k5, .ref k6, .ref k7, .ref k8, .ref k9, .ref ka, .ref kb, .int cc])), (kb, .inl (cI, 6, .inl scb_39))] := hD
      have hr_37 := w_38
      obtain rfl : r_37 = (-1000001) := hr_37.trans (by decide +kernel)
      exact hRet (c65, scb_39, c60, c61, c62, c63, c64) [14, 12, 0, 15, 1, 13, 2, 3, 4, 5, 6, 7, 8, 9, 10, 11] trivial hP hD (by decide +kernel) rfl hS rfl dX10_hands_19
theorem bn_cX10_slipOn_0 : BN cX10_slipOn 0 0x15a0302805501e0400542030eac600a8010190a051b8182c02022155a6103058d261028142c650883c02a10e8782e015001c2cbf00adc0a160e11c02b515898029c028585e015401c02a10181c2c071bafc02b703058384700ad4564a00a8d68015b8708e015a8ac0c16030dc08051b80c7e04 := by
  unfold BN; decide +kernel
theorem dX10_slipOn_0 : decode cX10_slipOn 0 = .ok (.iconst 0, 1) := dR0 (k := 0) (i := 0) bn_cX10_slipOn_0 dop_3 (by decide +kernel)
theorem dX10_slipOn_1 : decode cX10_slipOn 1 = .ok (.istore_n 3, 1) := dR0 (k := 0) (i := 1) bn_cX10_slipOn_0 dop_62 (by decide +kernel)
theorem dX10_slipOn_2 : decode cX10_slipOn 2 = .ok (.iconst (-1), 1) := dR0 (k := 0) (i := 2) bn_cX10_slipOn_0 dop_2 (by decide +kernel)
theorem dX10_slipOn_3 : decode cX10_slipOn 3 = .ok (.istore 4, 2) := dR1 (f := Instr.istore) (k := 0) (i := 3) bn_cX10_slipOn_0 dop_54 4 (by decide +kernel)
theorem dX10_slipOn_5 : decode cX10_slipOn 5 = .ok (.iconst 0, 1) := dR0 (k := 0) (i := 5) bn_cX10_slipOn_0 dop_3 (by decide +kernel)
theorem dX10_slipOn_6 : decode cX10_slipOn 6 = .ok (.istore 5, 2) := dR1 (f := Instr.istore) (k := 0) (i := 6) bn_cX10_slipOn_0 dop_54 5 (by decide +kernel)
theorem dX10_slipOn_8 : decode cX10_slipOn 8 = .ok (.iload 5, 2) := dR1 (f := Instr.iload) (k := 0) (i := 8) bn_cX10_slipOn_0 dop_21 5 (by decide +kernel)
theorem dX10_slipOn_10 : decode cX10_slipOn 10 = .ok (.aload_n 0, 1) := dR0 (k := 0) (i := 10) bn_cX10_slipOn_0 dop_42 (by decide +kernel)
theorem dX10_slipOn_11 : decode cX10_slipOn 11 = .ok (.getfield 70, 3) := dR2 (f := Instr.getfield) (k := 0) (i := 11) bn_cX10_slipOn_0 dop_180 70 (by decide +kernel)
theorem dX10_slipOn_14 : decode cX10_slipOn 14 = .ok (.iload_n 1, 1) := dR0 (k := 0) (i := 14) bn_cX10_slipOn_0 dop_27 (by decide +kernel)
theorem dX10_slipOn_15 : decode cX10_slipOn 15 = .ok (.invokevirtual 179, 3) := dR2 (f := Instr.invokevirtual) (k := 0) (i := 15) bn_cX10_slipOn_0 dop_182 179 (by decide +kernel)
theorem dX10_slipOn_18 : decode cX10_slipOn 18 = .ok (.if_icmp .ge 73, 3) := dR2s (f := Instr.if_icmp .ge) (k := 0) (i := 18) bn_cX10_slipOn_0 dop_162 73 73 (by decide +kernel)
theorem dX10_slipOn_21 : decode cX10_slipOn 21 = .ok (.aload_n 0, 1) := dR0 (k := 0) (i := 21) bn_cX10_slipOn_0 dop_42 (by decide +kernel)
theorem dX10_slipOn_22 : decode cX10_slipOn 22 = .ok (.getfield 70, 3) := dR2 (f := Instr.getfield) (k := 0) (i := 22) bn_cX10_slipOn_0 dop_180 70 (by decide +kernel)
theorem dX10_slipOn_25 : decode cX10_slipOn 25 = .ok (.iload_n 1, 1) := dR0 (k := 0) (i := 25) bn_cX10_slipOn_0 dop_27 (by decide +kernel)
theorem dX10_slipOn_26 : decode cX10_slipOn 26 = .ok (.iload 5, 2) := dR1 (f := Instr.iload) (k := 0) (i := 26) bn_cX10_slipOn_0 dop_21 5 (by decide +kernel)
theorem dX10_slipOn_28 : decode cX10_slipOn 28 = .ok (.invokevirtual 190, 3) := dR2 (f := Instr.invokevirtual) (k := 0) (i := 28) bn_cX10_slipOn_0 dop_182 190 (by decide +kernel)
theorem dX10_slipOn_31 : decode cX10_slipOn 31 = .ok (.istore 6, 2) := dR1 (f := Instr.istore) (k := 0) (i := 31) bn_cX10_slipOn_0 dop_54 6 (by decide +kernel)
theorem dX10_slipOn_33 : decode cX10_slipOn 33 = .ok (.iload 6, 2) := dR1 (f := Instr.iload) (k := 0) (i := 33) bn_cX10_slipOn_0 dop_21 6 (by decide +kernel)
theorem dX10_slipOn_35 : decode cX10_slipOn 35 = .ok (.iconst (-1), 1) := dR0 (k := 0) (i := 35) bn_cX10_slipOn_0 dop_2 (by decide +kernel)
theorem dX10_slipOn_36 : decode cX10_slipOn 36 = .ok (.if_icmp .ne 6, 3) := dR2s (f := Instr.if_icmp .ne) (k := 0) (i := 36) bn_cX10_slipOn_0 dop_160 6 6 (by decide +kernel)
theorem dX10_slipOn_39 : decode cX10_slipOn 39 = .ok (.goto 46, 3) := dR2s (f := Instr.goto) (k := 0) (i := 39) bn_cX10_slipOn_0 dop_167 46 46 (by decide +kernel)
theorem dX10_slipOn_42 : decode cX10_slipOn 42 = .ok (.iload 4, 2) := dR1 (f := Instr.iload) (k := 0) (i := 42) bn_cX10_slipOn_0 dop_21 4 (by decide +kernel)
theorem dX10_slipOn_44 : decode cX10_slipOn 44 = .ok (.ifCond .lt 37, 3) := dR2s (f := Instr.ifCond .lt) (k := 0) (i := 44) bn_cX10_slipOn_0 dop_155 37 37 (by decide +kernel)
theorem dX10_slipOn_47 : decode cX10_slipOn 47 = .ok (.aload_n 0, 1) := dR0 (k := 0) (i := 47) bn_cX10_slipOn_0 dop_42 (by decide +kernel)
theorem dX10_slipOn_48 : decode cX10_slipOn 48 = .ok (.getfield 70, 3) := dR2 (f := Instr.getfield) (k := 0) (i := 48) bn_cX10_slipOn_0 dop_180 70 (by decide +kernel)
theorem dX10_slipOn_51 : decode cX10_slipOn 51 = .ok (.iload_n 1, 1) := dR0 (k := 0) (i := 51) bn_cX10_slipOn_0 dop_27 (by decide +kernel)
theorem dX10_slipOn_52 : decode cX10_slipOn 52 = .ok (.iload 4, 2) := dR1 (f := Instr.iload) (k := 0) (i := 52) bn_cX10_slipOn_0 dop_21 4 (by decide +kernel)
theorem dX10_slipOn_54 : decode cX10_slipOn 54 = .ok (.invokevirtual 190, 3) := dR2 (f := Instr.invokevirtual) (k := 0) (i := 54) bn_cX10_slipOn_0 dop_182 190 (by decide +kernel)
theorem dX10_slipOn_57 : decode cX10_slipOn 57 = .ok (.iload 6, 2) := dR1 (f := Instr.iload) (k := 0) (i := 57) bn_cX10_slipOn_0 dop_21 6 (by decide +kernel)
theorem dX10_slipOn_59 : decode cX10_slipOn 59 = .ok (.if_icmp .eq 22, 3) := dR2s (f := Instr.if_icmp .eq) (k := 0) (i := 59) bn_cX10_slipOn_0 dop_159 22 22 (by decide +kernel)
theorem dX10_slipOn_62 : decode cX10_slipOn 62 = .ok (.iload_n 3, 1) := dR0 (k := 0) (i := 62) bn_cX10_slipOn_0 dop_29 (by decide +kernel)
theorem dX10_slipOn_63 : decode cX10_slipOn 63 = .ok (.iload_n 2, 1) := dR0 (k := 0) (i := 63) bn_cX10_slipOn_0 dop_28 (by decide +kernel)
theorem dX10_slipOn_64 : decode cX10_slipOn 64 = .ok (.if_icmp .ne 14, 3) := dR2s (f := Instr.if_icmp .ne) (k := 0) (i := 64) bn_cX10_slipOn_0 dop_160 14 14 (by decide +kernel)
theorem dX10_slipOn_67 : decode cX10_slipOn 67 = .ok (.bipush 100, 2) := dR1s (f := Instr.bipush) (k := 0) (i := 67) bn_cX10_slipOn_0 dop_16 100 100 (by decide +kernel)
theorem dX10_slipOn_69 : decode cX10_slipOn 69 = .ok (.iload 4, 2) := dR1 (f := Instr.iload) (k := 0) (i := 69) bn_cX10_slipOn_0 dop_21 4 (by decide +kernel)
theorem dX10_slipOn_71 : decode cX10_slipOn 71 = .ok (.iconst 1, 1) := dR0 (k := 0) (i := 71) bn_cX10_slipOn_0 dop_4 (by decide +kernel)
theorem dX10_slipOn_72 : decode cX10_slipOn 72 = .ok (.iadd, 1) := dR0 (k := 0) (i := 72) bn_cX10_slipOn_0 dop_96 (by decide +kernel)
theorem dX10_slipOn_73 : decode cX10_slipOn 73 = .ok (.imul, 1) := dR0 (k := 0) (i := 73) bn_cX10_slipOn_0 dop_104 (by decide +kernel)
theorem dX10_slipOn_74 : decode cX10_slipOn 74 = .ok (.iload 5, 2) := dR1 (f := Instr.iload) (k := 0) (i := 74) bn_cX10_slipOn_0 dop_21 5 (by decide +kernel)
theorem dX10_slipOn_76 : decode cX10_slipOn 76 = .ok (.iadd, 1) := dR0 (k := 0) (i := 76) bn_cX10_slipOn_0 dop_96 (by decide +kernel)
theorem dX10_slipOn_77 : decode cX10_slipOn 77 = .ok (.ireturn, 1) := dR0 (k := 0) (i := 77) bn_cX10_slipOn_0 dop_172 (by decide +kernel)
theorem dX10_slipOn_78 : decode cX10_slipOn 78 = .ok (.iinc 3 1, 3) := dRii (f := Instr.iinc) (k := 0) (i := 78) bn_cX10_slipOn_0 dop_132 3 1 1 (by decide +kernel)
theorem dX10_slipOn_81 : decode cX10_slipOn 81 = .ok (.iload 5, 2) := dR1 (f := Instr.iload) (k := 0) (i := 81) bn_cX10_slipOn_0 dop_21 5 (by decide +kernel)
theorem dX10_slipOn_83 : decode cX10_slipOn 83 = .ok (.istore 4, 2) := dR1 (f := Instr.istore) (k := 0) (i := 83) bn_cX10_slipOn_0 dop_54 4 (by decide +kernel)
theorem dX10_slipOn_85 : decode cX10_slipOn 85 = .ok (.iinc 5 1, 3) := dRii (f := Instr.iinc) (k := 0) (i := 85) bn_cX10_slipOn_0 dop_132 5 1 1 (by decide +kernel)
theorem dX10_slipOn_88 : decode cX10_slipOn 88 = .ok (.goto (-80), 3) := dR2s (f := Instr.goto) (k := 0) (i := 88) bn_cX10_slipOn_0 dop_167 65456 (-80) (by decide +kernel)
theorem dX10_slipOn_91 : decode cX10_slipOn 91 = .ok (.iload_n 2, 1) := dR0 (k := 0) (i := 91) bn_cX10_slipOn_0 dop_28 (by decide +kernel)
theorem dX10_slipOn_92 : decode cX10_slipOn 92 = .ok (.iconst (-1), 1) := dR0 (k := 0) (i := 92) bn_cX10_slipOn_0 dop_2 (by decide +kernel)
theorem dX10_slipOn_93 : decode cX10_slipOn 93 = .ok (.if_icmp .ne 7, 3) := dR2s (f := Instr.if_icmp .ne) (k := 0) (i := 93) bn_cX10_slipOn_0 dop_160 7 7 (by decide +kernel)
theorem dX10_slipOn_96 : decode cX10_slipOn 96 = .ok (.iload_n 3, 1) := dR0 (k := 0) (i := 96) bn_cX10_slipOn_0 dop_29 (by decide +kernel)
theorem dX10_slipOn_97 : decode cX10_slipOn 97 = .ok (.goto 4, 3) := dR2s (f := Instr.goto) (k := 0) (i := 97) bn_cX10_slipOn_0 dop_167 4 4 (by decide +kernel)
theorem dX10_slipOn_100 : decode cX10_slipOn 100 = .ok (.iconst (-1), 1) := dR0 (k := 0) (i := 100) bn_cX10_slipOn_0 dop_2 (by decide +kernel)
theorem dX10_slipOn_101 : decode cX10_slipOn 101 = .ok (.ireturn, 1) := dR0 (k := 0) (i := 101) bn_cX10_slipOn_0 dop_172 (by decide +kernel)
set_option maxHeartbeats 4000000 in
set_option maxRecDepth 100000 in
theorem c_X10_slipOnG (l : Launch) (D : va_G) (cI : ClassId) (aK aV : Nat → Nat) (k k0 k1 k2 k3 k4 k5 k6 k7 k8 k9 ka kb ka0 ka1 ka2 : Nat) (sz : Nat) (cc : Int32) (ca1 : Nat → Int32) (ca2 : Nat → Int32) (a0 : Int32) (a1 : Int32) (pre0 : ∀ k : Nat, k < 4 → 0 ≤ (ca1 k).toInt ∧ (ca1 k).toInt ≤ 36) : Met l yX10_slipOn (gW yX10_slipOn cX10_slipOn 7 (some .int)) ({ frames := 4, cells := 0, slots := 0, locals := 85 } : Room) (kPreX D cI aK aV [.ref k, .int a0, .int a1] [(k, .inr (10, [.ref k0, .ref k1, .ref k2, .ref k3, .ref k4, .ref k5, .ref k6, .ref k7, .ref k8, .ref k9, .ref ka, .ref kb, .int cc])), (ka, .inr (6, [.ref ka0, .ref ka1, .ref ka2])), (ka1, .inl (cI, 4, .inl ca1)), (ka2, .inl (cI, 144, .inl ca2))] sz) (va_Qi (fun (r : Int32) (u : Unit) => True) (fun u t => kWd D cI (va_A [(k, .inr (10, [.ref k0, .ref k1, .ref k2, .ref k3, .ref k4, .ref k5, .ref k6, .ref k7, .ref k8, .ref k9, .ref ka, .ref kb, .int cc])), (ka, .inr (6, [.ref ka0, .ref ka1, .ref ka2])), (ka1, .inl (cI, 4, .inl ca1)), (ka2, .inl (cI, 144, .inl ca2))] sz) [(k, .inr (10, [.ref k0, .ref k1, .ref k2, .ref k3, .ref k4, .ref k5, .ref k6, .ref k7, .ref k8, .ref k9, .ref ka, .ref kb, .int cc])), (ka, .inr (6, [.ref ka0, .ref ka1, .ref ka2])), (ka1, .inl (cI, 4, .inl ca1)), (ka2, .inl (cI, 144, .inl ca2))] t) (va_A [(k, .inr (10, [.ref k0, .ref k1, .ref k2, .ref k3, .ref k4, .ref k5, .ref k6, .ref k7, .ref k8, .ref k9, .ref ka, .ref kb, .int cc])), (ka, .inr (6, [.ref ka0, .ref ka1, .ref ka2])), (ka1, .inl (cI, 4, .inl ca1)), (ka2, .inl (cI, 144, .inl ca2))] sz)) 0 0 (va_A [(k, .inr (10, [.ref k0, .ref k1, .ref k2, .ref k3, .ref k4, .ref k5, .ref k6, .ref k7, .ref k8, .ref k9, .ref ka, .ref kb, .int cc])), (ka, .inr (6, [.ref ka0, .ref ka1, .ref ka2])), (ka1, .inl (cI, 4, .inl ca1)), (ka2, .inl (cI, 144, .inl ca2))] sz) := by
  refine kMetIX (own := RX10) (by decide +kernel) rfl (Nat.le_of_ble_eq_true rfl) ?_
  intro p e s m args below meth c hx hb hT hown hname hml A Q hK hP hD hS hA hN hXS hRet ls hl
  have hl : lv_has ls 7 [(0, .ref k), (1, .int a0), (2, .int a1)] := hl
  have lo_a0 := k_lo a0
  have hi_a0 := k_hi a0
  have lo_a1 := k_lo a1
  have hi_a1 := k_hi a1
  refine lv_iconst (v := 0) hx hb dX10_slipOn_0 (by decide +kernel) ?_
  refine lv_istore_n (lv' := [(3, .int 0), (0, .ref k), (1, .int a0), (2, .int a1)]) hx hb dX10_slipOn_1 rfl hl (by decide +kernel) rfl ?_
  clear hl
  intro ls hl
  refine lv_iconst (v := (-1)) hx hb dX10_slipOn_2 (by decide +kernel) ?_
  refine lv_istore (lv' := [(4, .int (-1)), (3, .int 0), (0, .ref k), (1, .int a0), (2, .int a1)]) hx hb dX10_slipOn_3 hl (by decide +kernel) rfl ?_
  clear hl
  intro ls hl
  refine lv_iconst (v := 0) hx hb dX10_slipOn_5 (by decide +kernel) ?_
  refine lv_istore (lv' := [(5, .int 0), (4, .int (-1)), (3, .int 0), (0, .ref k), (1, .int a0), (2, .int a1)]) hx hb dX10_slipOn_6 hl (by decide +kernel) rfl ?_
  clear hl
  intro ls hl
  have hloop_8 : ∀ (fu_ : Nat) (l8_3 : Int32) (l8_4 : Int32) (l8_5 : Int32), (-1) ≤ l8_4.toInt → 0 ≤ l8_5.toInt → (36 - l8_5.toInt).toNat < fu_ → ∀ (ls : Array Slot) (H : Heap) (locs : List Loc), lv_has ls 7 [(5, .int l8_5), (4, .int l8_4), (3, .int l8_3), (0, .ref k), (1, .int a0), (2, .int a1)] → va_P D vwCl [(k, .inr (10, [.ref k0, .ref k1, .ref k2, .ref k3, .ref k4, .ref k5, .ref k6, .ref k7, .ref k8, .ref k9, .ref ka, .ref kb, .int cc])), (ka, .inr (6, [.ref ka0, .ref ka1, .ref ka2])), (ka1, .inl (cI, 4, .inl ca1)), (ka2, .inl (cI, 144, .inl ca2))] H → va_D A [(k, .inr (10, [.ref k0, .ref k1, .ref k2, .ref k3, .ref k4, .ref k5, .ref k6, .ref k7, .ref k8, .ref k9, .ref ka, .ref kb, .int cc])), (ka, .inr (6, [.ref ka0, .ref ka1, .ref ka2])), (ka1, .inl (cI, 4, .inl ca1)), (ka2, .inl (cI, 144, .inl ca2))] → va_S A s.heap H locs → W p l e ({ frames := 4, cells := 0, slots := 0, locals := 85 } : Room) s m args below meth c H locs 0 0 Q (F0 m 8 ls []) := by
    intro fu_; induction fu_ with
    | zero => intro l8_3 l8_4 l8_5 i8_0 i8_1 hm; exact absurd hm (by omega)
    | succ fu_ ih8 =>
        intro l8_3 l8_4 l8_5 i8_0 i8_1 hm ls H locs hl hP hD hS
        have lo_l8_3 := k_lo l8_3
        have hi_l8_3 := k_hi l8_3
        have lo_l8_4 := k_lo l8_4
        have hi_l8_4 := k_hi l8_4
        have lo_l8_5 := k_lo l8_5
        have hi_l8_5 := k_hi l8_5
        refine lv_iload hx hb dX10_slipOn_8 (lv_at hl 0 rfl) ?_
        refine lv_aload_n hx hb dX10_slipOn_10 rfl (lv_at hl 3 rfl) ?_
        refine va_get (D := D) (ci := 10) (v := .ref ka) (C := RX10) (T := TX10) (N := 13) hx hb hT giX10 hown hK hP 0 rfl rfl 10 (by decide +kernel) (hT (Cond.fieldLink RX10 70 "DesertWire" "sheets" "LDesertWire$Sheets;") mw_301) (fun _ h9 => h9) rfl dX10_slipOn_11 ?_
        refine lv_iload_n hx hb dX10_slipOn_14 rfl (lv_at hl 4 rfl) ?_
        refine kJi (wr := [(k, .inr (10, [.ref k0, .ref k1, .ref k2, .ref k3, .ref k4, .ref k5, .ref k6, .ref k7, .ref k8, .ref k9, .ref ka, .ref kb, .int cc])), (ka2, .inl (cI, 144, .inl ca2))]) (va_runV (As := [.int a0]) (rest := [.int l8_5]) ⟨hx, hb, hml, hown, hT⟩ (c_X6_lengthOfG l D cI aK aV ka ka0 ka1 ka2 H.size ca1 a0 (by first | omega | decide | assumption | rfl)) (cwV 1 hT (gV_in mw_675 mw_672 mw_673 mw_674 mw_11) rfl rfl rfl (by decide +kernel) ⟨Nat.le_of_ble_eq_true rfl, Nat.le_of_ble_eq_true rfl⟩) (kRecvX (q0 := 1) (ci := 6) hK hP hD hN hXS hS hA rfl rfl [1, 2] rfl (by decide +kernel)) rfl rfl hl.1 rfl (lv_room (Nat.le_of_ble_eq_true rfl)) dX10_slipOn_15 ⟨Nat.le_of_ble_eq_true rfl, Nat.le_of_ble_eq_true rfl⟩) hP hD hS hA [1, 2] [0, 3] rfl rfl (by decide +kernel) (by decide +kernel) ?_
        clear hP hD hS
        intro r_1 u_3 H locs w_2 hP hD hS
        replace hP : va_P D vwCl [(k, .inr (10, [.ref k0, .ref k1, .ref k2, .ref k3, .ref k4, .ref k5, .ref k6, .ref k7, .ref k8, .ref k9, .ref ka, .ref kb, .int cc])), (ka2, .inl (cI, 144, .inl ca2)), (ka, .inr (6, [.ref ka0, .ref ka1, .ref ka2])), (ka1, .inl (cI, 4, .inl ca1))] H := hP
        replace hD : va_D A [(k, .inr (10, [.ref k0, .ref k1, .ref k2, .ref k3, .ref k4, .ref k5, .ref k6, .ref k7, .ref k8, .ref k9, .ref ka, .ref kb, .int cc])), (ka2, .inl (cI, 144, .inl ca2)), (ka, .inr (6, [.ref ka0, .ref ka1, .ref ka2])), (ka1, .inl (cI, 4, .inl ca1))] := hD
        rcases w_2 with ⟨h_4, h_5, h_6, h_7, h_8⟩ | ⟨hr_1, h_9⟩
        · have h_4 : 0 ≤ a0.toInt := h_4
          have h_5 : a0.toInt ≤ 3 := h_5
          have h_6 : 0 ≤ r_1.toInt := h_6
          have h_7 : r_1.toInt ≤ 36 := h_7
          have h_8 : r_1.toInt = (ca1 a0.toNatClampNeg).toInt := h_8
          have lo_r_1 := k_lo r_1
          have hi_r_1 := k_hi r_1
          refine b_icmp_ge hx hb rfl rfl (tgt := 91) dX10_slipOn_18 (by decide +kernel) (fun c_10 => ?_) (fun c_10 => ?_)
          · refine lv_iload_n hx hb dX10_slipOn_91 rfl (lv_at hl 5 rfl) ?_
            refine lv_iconst (v := (-1)) hx hb dX10_slipOn_92 (by decide +kernel) ?_
            refine b_icmp_ne hx hb rfl zl_m1 (tgt := 100) dX10_slipOn_93 (by decide +kernel) (fun c_11 => ?_) (fun c_11 => ?_)
            · refine lv_iconst (v := (-1)) hx hb dX10_slipOn_100 (by decide +kernel) ?_
              exact hRet () [0, 2, 3, 1] trivial hP hD (by decide +kernel) rfl hS rfl dX10_slipOn_101
            · refine lv_iload_n hx hb dX10_slipOn_96 rfl (lv_at hl 2 rfl) ?_
              refine lv_goto (tgt := 101) hx hb dX10_slipOn_97 (by decide +kernel) ?_
              exact hRet () [0, 2, 3, 1] trivial hP hD (by decide +kernel) rfl hS rfl dX10_slipOn_101
          · refine lv_aload_n hx hb dX10_slipOn_21 rfl (lv_at hl 3 rfl) ?_
            refine va_get (D := D) (ci := 10) (v := .ref ka) (C := RX10) (T := TX10) (N := 13) hx hb hT giX10 hown hK hP 0 rfl rfl 10 (by decide +kernel) (hT (Cond.fieldLink RX10 70 "DesertWire" "sheets" "LDesertWire$Sheets;") mw_301) (fun _ h9 => h9) rfl dX10_slipOn_22 ?_
            refine lv_iload_n hx hb dX10_slipOn_25 rfl (lv_at hl 4 rfl) ?_
            refine lv_iload hx hb dX10_slipOn_26 (lv_at hl 0 rfl) ?_
            refine kJi (wr := [(k, .inr (10, [.ref k0, .ref k1, .ref k2, .ref k3, .ref k4, .ref k5, .ref k6, .ref k7, .ref k8, .ref k9, .ref ka, .ref kb, .int cc]))]) (va_runV (As := [.int a0, .int l8_5]) (rest := []) ⟨hx, hb, hml, hown, hT⟩ (c_X6_numberAtG l D cI aK aV ka ka0 ka1 ka2 H.size ca1 ca2 a0 l8_5 (by first | omega | decide | assumption | rfl)) (cwV 2 hT (gV_in mw_684 mw_696 mw_682 mw_683 mw_11) rfl rfl rfl (by decide +kernel) ⟨Nat.le_of_ble_eq_true rfl, Nat.le_of_ble_eq_true rfl⟩) (kRecvX (q0 := 2) (ci := 6) hK hP hD hN hXS hS hA rfl rfl [2, 3, 1] rfl (by decide +kernel)) rfl rfl hl.1 rfl (lv_room (Nat.le_of_ble_eq_true rfl)) dX10_slipOn_28 ⟨Nat.le_of_ble_eq_true rfl, Nat.le_of_ble_eq_true rfl⟩) hP hD hS hA [2, 3, 1] [0] rfl rfl (by decide +kernel) (by decide +kernel) ?_
            clear hP hD hS
            intro r_12 u_14 H locs w_13 hP hD hS
            replace hP : va_P D vwCl [(k, .inr (10, [.ref k0, .ref k1, .ref k2, .ref k3, .ref k4, .ref k5, .ref k6, .ref k7, .ref k8, .ref k9, .ref ka, .ref kb, .int cc])), (ka, .inr (6, [.ref ka0, .ref ka1, .ref ka2])), (ka1, .inl (cI, 4, .inl ca1)), (ka2, .inl (cI, 144, .inl ca2))] H := hP
            replace hD : va_D A [(k, .inr (10, [.ref k0, .ref k1, .ref k2, .ref k3, .ref k4, .ref k5, .ref k6, .ref k7, .ref k8, .ref k9, .ref ka, .ref kb, .int cc])), (ka, .inr (6, [.ref ka0, .ref ka1, .ref ka2])), (ka1, .inl (cI, 4, .inl ca1)), (ka2, .inl (cI, 144, .inl ca2))] := hD
            have h_15 := w_13
            have h_15 : r_12 = kNum ca1 ca2 a0 l8_5 := h_15
            have lo_r_12 := k_lo r_12
            have hi_r_12 := k_hi r_12
            refine lv_istore (lv' := [(6, .int r_12), (5, .int l8_5), (4, .int l8_4), (3, .int l8_3), (0, .ref k), (1, .int a0), (2, .int a1)]) hx hb dX10_slipOn_31 hl (by decide +kernel) rfl ?_
            clear hl
            intro ls hl
            refine lv_iload hx hb dX10_slipOn_33 (lv_at hl 0 rfl) ?_
            refine lv_iconst (v := (-1)) hx hb dX10_slipOn_35 (by decide +kernel) ?_
            refine b_icmp_ne hx hb rfl zl_m1 (tgt := 42) dX10_slipOn_36 (by decide +kernel) (fun c_16 => ?_) (fun c_16 => ?_)
            · refine lv_iload hx hb dX10_slipOn_42 (lv_at hl 2 rfl) ?_
              refine b_if_lt hx hb rfl (tgt := 81) dX10_slipOn_44 (by decide +kernel) (fun c_17 => ?_) (fun c_17 => ?_)
              · refine lv_iload hx hb dX10_slipOn_81 (lv_at hl 1 rfl) ?_
                refine lv_istore (lv' := [(4, .int l8_5), (6, .int r_12), (5, .int l8_5), (3, .int l8_3), (0, .ref k), (1, .int a0), (2, .int a1)]) hx hb dX10_slipOn_83 hl (by decide +kernel) rfl ?_
                clear hl
                intro ls hl
                obtain ⟨v_18, ev_18⟩ : ∃ y : Int32, y = l8_5 + 1 := ⟨_, rfl⟩
                have tv_18 : v_18.toInt = l8_5.toInt + 1 := by rw [ev_18]; exact k_addv rfl zl_1 (by omega) (by omega)
                refine lv_iinc (v := v_18) (lv' := [(5, .int v_18), (4, .int l8_5), (6, .int r_12), (3, .int l8_3), (0, .ref k), (1, .int a0), (2, .int a1)]) hx hb dX10_slipOn_85 hl (k := 2) rfl (by rw [ev_18]; rfl) (by decide +kernel) rfl ?_
                clear hl
                intro ls hl
                refine lv_goto (tgt := 8) hx hb dX10_slipOn_88 (by decide +kernel) ?_
                exact ih8 l8_3 l8_5 v_18 (by first | omega | decide | assumption | rfl) (by first | omega | decide | assumption | rfl) (by omega) ls _ _ (lv_sub hl [0, 1, 3, 4, 5, 6] rfl) (hP.sub [0, 1, 2, 3] rfl) (hD.sub [0, 1, 2, 3] (by decide +kernel) rfl) hS
              · refine lv_aload_n hx hb dX10_slipOn_47 rfl (lv_at hl 4 rfl) ?_
                refine va_get (D := D) (ci := 10) (v := .ref ka) (C := RX10) (T := TX10) (N := 13) hx hb hT giX10 hown hK hP 0 rfl rfl 10 (by decide +kernel) (hT (Cond.fieldLink RX10 70 "DesertWire" "sheets" "LDesertWire$Sheets;") mw_301) (fun _ h9 => h9) rfl dX10_slipOn_48 ?_
                refine lv_iload_n hx hb dX10_slipOn_51 rfl (lv_at hl 5 rfl) ?_
                refine lv_iload hx hb dX10_slipOn_52 (lv_at hl 2 rfl) ?_
                refine kJi (wr := [(k, .inr (10, [.ref k0, .ref k1, .ref k2, .ref k3, .ref k4, .ref k5, .ref k6, .ref k7, .ref k8, .ref k9, .ref ka, .ref kb, .int cc]))]) (va_runV (As := [.int a0, .int l8_4]) (rest := []) ⟨hx, hb, hml, hown, hT⟩ (c_X6_numberAtG l D cI aK aV ka ka0 ka1 ka2 H.size ca1 ca2 a0 l8_4 (by first | omega | decide | assumption | rfl)) (cwV 2 hT (gV_in mw_684 mw_696 mw_682 mw_683 mw_11) rfl rfl rfl (by decide +kernel) ⟨Nat.le_of_ble_eq_true rfl, Nat.le_of_ble_eq_true rfl⟩) (kRecvX (q0 := 1) (ci := 6) hK hP hD hN hXS hS hA rfl rfl [1, 2, 3] rfl (by decide +kernel)) rfl rfl hl.1 rfl (lv_room (Nat.le_of_ble_eq_true rfl)) dX10_slipOn_54 ⟨Nat.le_of_ble_eq_true rfl, Nat.le_of_ble_eq_true rfl⟩) hP hD hS hA [1, 2, 3] [0] rfl rfl (by decide +kernel) (by decide +kernel) ?_
                clear hP hD hS
                intro r_19 u_21 H locs w_20 hP hD hS
                replace hP : va_P D vwCl [(k, .inr (10, [.ref k0, .ref k1, .ref k2, .ref k3, .ref k4, .ref k5, .ref k6, .ref k7, .ref k8, .ref k9, .ref ka, .ref kb, .int cc])), (ka, .inr (6, [.ref ka0, .ref ka1, .ref ka2])), (ka1, .inl (cI, 4, .inl ca1)), (ka2, .inl (cI, 144, .inl ca2))] H := hP
                replace hD : va_D A [(k, .inr (10, [.ref k0, .ref k1, .ref k2, .ref k3, .ref k4, .ref k5, .ref k6, .ref k7, .ref k8, .ref k9, .ref ka, .ref kb, .int cc])), (ka, .inr (6, [.ref ka0, .ref ka1, .ref ka2])), (ka1, .inl (cI, 4, .inl ca1)), (ka2, .inl (cI, 144, .inl ca2))] := hD
                have h_22 := w_20
                have h_22 : r_19 = kNum ca1 ca2 a0 l8_4 := h_22
                have lo_r_19 := k_lo r_19
                have hi_r_19 := k_hi r_19
                refine lv_iload hx hb dX10_slipOn_57 (lv_at hl 0 rfl) ?_
                refine b_icmp_eq hx hb rfl rfl (tgt := 81) dX10_slipOn_59 (by decide +kernel) (fun c_23 => ?_) (fun c_23 => ?_)
                · refine lv_iload hx hb dX10_slipOn_81 (lv_at hl 1 rfl) ?_
                  refine lv_istore (lv' := [(4, .int l8_5), (6, .int r_12), (5, .int l8_5), (3, .int l8_3), (0, .ref k), (1, .int a0), (2, .int a1)]) hx hb dX10_slipOn_83 hl (by decide +kernel) rfl ?_
                  clear hl
                  intro ls hl
                  obtain ⟨v_24, ev_24⟩ : ∃ y : Int32, y = l8_5 + 1 := ⟨_, rfl⟩
                  have tv_24 : v_24.toInt = l8_5.toInt + 1 := by rw [ev_24]; exact k_addv rfl zl_1 (by omega) (by omega)
                  refine lv_iinc (v := v_24) (lv' := [(5, .int v_24), (4, .int l8_5), (6, .int r_12), (3, .int l8_3), (0, .ref k), (1, .int a0), (2, .int a1)]) hx hb dX10_slipOn_85 hl (k := 2) rfl (by rw [ev_24]; rfl) (by decide +kernel) rfl ?_
                  clear hl
                  intro ls hl
                  refine lv_goto (tgt := 8) hx hb dX10_slipOn_88 (by decide +kernel) ?_
                  exact ih8 l8_3 l8_5 v_24 (by first | omega | decide | assumption | rfl) (by first | omega | decide | assumption | rfl) (by omega) ls _ _ (lv_sub hl [0, 1, 3, 4, 5, 6] rfl) (hP.sub [0, 1, 2, 3] rfl) (hD.sub [0, 1, 2, 3] (by decide +kernel) rfl) hS
                · refine lv_iload_n hx hb dX10_slipOn_62 rfl (lv_at hl 3 rfl) ?_
                  refine lv_iload_n hx hb dX10_slipOn_63 rfl (lv_at hl 6 rfl) ?_
                  refine b_icmp_ne hx hb rfl rfl (tgt := 78) dX10_slipOn_64 (by decide +kernel) (fun c_25 => ?_) (fun c_25 => ?_)
                  · obtain ⟨v_26, ev_26⟩ : ∃ y : Int32, y = l8_3 + 1 := ⟨_, rfl⟩
                    have lo_v_26 := k_lo v_26
                    have hi_v_26 := k_hi v_26
                    refine lv_iinc (v := v_26) (lv' := [(3, .int v_26), (6, .int r_12), (5, .int l8_5), (4, .int l8_4), (0, .ref k), (1, .int a0), (2, .int a1)]) hx hb dX10_slipOn_78 hl (k := 3) rfl (by rw [ev_26]; rfl) (by decide +kernel) rfl ?_
                    clear hl
                    intro ls hl
                    refine lv_iload hx hb dX10_slipOn_81 (lv_at hl 2 rfl) ?_
                    refine lv_istore (lv' := [(4, .int l8_5), (3, .int v_26), (6, .int r_12), (5, .int l8_5), (0, .ref k), (1, .int a0), (2, .int a1)]) hx hb dX10_slipOn_83 hl (by decide +kernel) rfl ?_
                    clear hl
                    intro ls hl
                    obtain ⟨v_27, ev_27⟩ : ∃ y : Int32, y = l8_5 + 1 := ⟨_, rfl⟩
                    have tv_27 : v_27.toInt = l8_5.toInt + 1 := by rw [ev_27]; exact k_addv rfl zl_1 (by omega) (by omega)
                    refine lv_iinc (v := v_27) (lv' := [(5, .int v_27), (4, .int l8_5), (3, .int v_26), (6, .int r_12), (0, .ref k), (1, .int a0), (2, .int a1)]) hx hb dX10_slipOn_85 hl (k := 3) rfl (by rw [ev_27]; rfl) (by decide +kernel) rfl ?_
                    clear hl
                    intro ls hl
                    refine lv_goto (tgt := 8) hx hb dX10_slipOn_88 (by decide +kernel) ?_
                    exact ih8 v_26 l8_5 v_27 (by first | omega | decide | assumption | rfl) (by first | omega | decide | assumption | rfl) (by omega) ls _ _ (lv_sub hl [0, 1, 2, 4, 5, 6] rfl) (hP.sub [0, 1, 2, 3] rfl) (hD.sub [0, 1, 2, 3] (by decide +kernel) rfl) hS
                  · refine lv_bipush (v := 100) hx hb dX10_slipOn_67 (by decide +kernel) ?_
                    refine lv_iload hx hb dX10_slipOn_69 (lv_at hl 2 rfl) ?_
                    refine lv_iconst (v := 1) hx hb dX10_slipOn_71 (by decide +kernel) ?_
                    refine lv_iadd hx hb dX10_slipOn_72 ?_
                    refine lv_topi (fun v_28 ev_28 => ?_)
                    have lo_v_28 := k_lo v_28
                    have hi_v_28 := k_hi v_28
                    refine lv_imul hx hb dX10_slipOn_73 ?_
                    refine lv_topi (fun v_29 ev_29 => ?_)
                    have lo_v_29 := k_lo v_29
                    have hi_v_29 := k_hi v_29
                    refine lv_iload hx hb dX10_slipOn_74 (lv_at hl 1 rfl) ?_
                    refine lv_iadd hx hb dX10_slipOn_76 ?_
                    refine lv_topi (fun v_30 ev_30 => ?_)
                    have lo_v_30 := k_lo v_30
                    have hi_v_30 := k_hi v_30
                    exact hRet () [0, 1, 2, 3] trivial hP hD (by decide +kernel) rfl hS rfl dX10_slipOn_77
            · refine lv_goto (tgt := 85) hx hb dX10_slipOn_39 (by decide +kernel) ?_
              obtain ⟨v_31, ev_31⟩ : ∃ y : Int32, y = l8_5 + 1 := ⟨_, rfl⟩
              have tv_31 : v_31.toInt = l8_5.toInt + 1 := by rw [ev_31]; exact k_addv rfl zl_1 (by omega) (by omega)
              refine lv_iinc (v := v_31) (lv' := [(5, .int v_31), (6, .int r_12), (4, .int l8_4), (3, .int l8_3), (0, .ref k), (1, .int a0), (2, .int a1)]) hx hb dX10_slipOn_85 hl (k := 1) rfl (by rw [ev_31]; rfl) (by decide +kernel) rfl ?_
              clear hl
              intro ls hl
              refine lv_goto (tgt := 8) hx hb dX10_slipOn_88 (by decide +kernel) ?_
              exact ih8 l8_3 l8_4 v_31 (by first | omega | decide | assumption | rfl) (by first | omega | decide | assumption | rfl) (by omega) ls _ _ (lv_sub hl [0, 2, 3, 4, 5, 6] rfl) (hP.sub [0, 1, 2, 3] rfl) (hD.sub [0, 1, 2, 3] (by decide +kernel) rfl) hS
        · have h_9 : a0.toInt < 0 ∨ 3 < a0.toInt := h_9
          obtain rfl : r_1 = 0 := hr_1.trans (by decide +kernel)
          refine b_icmp_ge hx hb rfl zl_0 (tgt := 91) dX10_slipOn_18 (by decide +kernel) (fun c_32 => ?_) (fun c_32 => by exfalso; omega)
          refine lv_iload_n hx hb dX10_slipOn_91 rfl (lv_at hl 5 rfl) ?_
          refine lv_iconst (v := (-1)) hx hb dX10_slipOn_92 (by decide +kernel) ?_
          refine b_icmp_ne hx hb rfl zl_m1 (tgt := 100) dX10_slipOn_93 (by decide +kernel) (fun c_33 => ?_) (fun c_33 => ?_)
          · refine lv_iconst (v := (-1)) hx hb dX10_slipOn_100 (by decide +kernel) ?_
            exact hRet () [0, 2, 3, 1] trivial hP hD (by decide +kernel) rfl hS rfl dX10_slipOn_101
          · refine lv_iload_n hx hb dX10_slipOn_96 rfl (lv_at hl 2 rfl) ?_
            refine lv_goto (tgt := 101) hx hb dX10_slipOn_97 (by decide +kernel) ?_
            exact hRet () [0, 2, 3, 1] trivial hP hD (by decide +kernel) rfl hS rfl dX10_slipOn_101
  exact hloop_8 _ 0 (-1) 0 (by first | omega | (simp only [zl_m1, zl_0]; first | done | omega) | decide | assumption | rfl) (by first | omega | (simp only [zl_m1, zl_0]; first | done | omega) | decide | assumption | rfl) (Nat.lt_succ_self _) ls _ _ (lv_sub hl [0, 1, 2, 3, 4, 5] rfl) hP hD hS
theorem bn_cX10_slip_0 : BN cX10_slip 0 0x15a070b2b4a6015b81c560a00a800c165a0056e1c238056a2b5694c02b7030ac14014e81c2c0900a680c16038dde4015b8142c1c158186eeb00adc3c1d068056a2b158056a2b5694c02b7030ac14014d2c402b70e11c02b515ab4a6015b824560a00a6dc0015b8783a2b5694c02b7028ac14015180c0a160500534dd00adc3c1d1584c029a57005721c := by
  unfold BN; decide +kernel
theorem dX10_slip_0 : decode cX10_slip 0 = .ok (.iload_n 1, 1) := dR0 (k := 0) (i := 0) bn_cX10_slip_0 dop_27 (by decide +kernel)
theorem dX10_slip_1 : decode cX10_slip 1 = .ok (.invokestatic 173, 3) := dR2 (f := Instr.invokestatic) (k := 0) (i := 1) bn_cX10_slip_0 dop_184 173 (by decide +kernel)
theorem dX10_slip_4 : decode cX10_slip 4 = .ok (.ifCond .eq 18, 3) := dR2s (f := Instr.ifCond .eq) (k := 0) (i := 4) bn_cX10_slip_0 dop_153 18 18 (by decide +kernel)
theorem dX10_slip_7 : decode cX10_slip 7 = .ok (.aload_n 0, 1) := dR0 (k := 0) (i := 7) bn_cX10_slip_0 dop_42 (by decide +kernel)
theorem dX10_slip_8 : decode cX10_slip 8 = .ok (.iload_n 2, 1) := dR0 (k := 0) (i := 8) bn_cX10_slip_0 dop_28 (by decide +kernel)
theorem dX10_slip_9 : decode cX10_slip 9 = .ok (.iload_n 3, 1) := dR0 (k := 0) (i := 9) bn_cX10_slip_0 dop_29 (by decide +kernel)
theorem dX10_slip_10 : decode cX10_slip 10 = .ok (.invokevirtual 220, 3) := dR2 (f := Instr.invokevirtual) (k := 0) (i := 10) bn_cX10_slip_0 dop_182 220 (by decide +kernel)
theorem dX10_slip_13 : decode cX10_slip 13 = .ok (.ifCond .eq 9, 3) := dR2s (f := Instr.ifCond .eq) (k := 0) (i := 13) bn_cX10_slip_0 dop_153 9 9 (by decide +kernel)
theorem dX10_slip_16 : decode cX10_slip 16 = .ok (.iload 4, 2) := dR1 (f := Instr.iload) (k := 0) (i := 16) bn_cX10_slip_0 dop_21 4 (by decide +kernel)
theorem dX10_slip_18 : decode cX10_slip 18 = .ok (.iconst (-1), 1) := dR0 (k := 0) (i := 18) bn_cX10_slip_0 dop_2 (by decide +kernel)
theorem dX10_slip_19 : decode cX10_slip 19 = .ok (.if_icmp .ge 9, 3) := dR2s (f := Instr.if_icmp .ge) (k := 0) (i := 19) bn_cX10_slip_0 dop_162 9 9 (by decide +kernel)
theorem dX10_slip_22 : decode cX10_slip 22 = .ok (.aload_n 0, 1) := dR0 (k := 0) (i := 22) bn_cX10_slip_0 dop_42 (by decide +kernel)
theorem dX10_slip_23 : decode cX10_slip 23 = .ok (.iconst 1, 1) := dR0 (k := 0) (i := 23) bn_cX10_slip_0 dop_4 (by decide +kernel)
theorem dX10_slip_24 : decode cX10_slip 24 = .ok (.invokevirtual 82, 3) := dR2 (f := Instr.invokevirtual) (k := 0) (i := 24) bn_cX10_slip_0 dop_182 82 (by decide +kernel)
theorem dX10_slip_27 : decode cX10_slip 27 = .ok (.ireturn, 1) := dR0 (k := 0) (i := 27) bn_cX10_slip_0 dop_172 (by decide +kernel)
theorem dX10_slip_28 : decode cX10_slip 28 = .ok (.aload_n 0, 1) := dR0 (k := 0) (i := 28) bn_cX10_slip_0 dop_42 (by decide +kernel)
theorem dX10_slip_29 : decode cX10_slip 29 = .ok (.iload_n 2, 1) := dR0 (k := 0) (i := 29) bn_cX10_slip_0 dop_28 (by decide +kernel)
theorem dX10_slip_30 : decode cX10_slip 30 = .ok (.iload_n 3, 1) := dR0 (k := 0) (i := 30) bn_cX10_slip_0 dop_29 (by decide +kernel)
theorem dX10_slip_31 : decode cX10_slip 31 = .ok (.invokevirtual 223, 3) := dR2 (f := Instr.invokevirtual) (k := 0) (i := 31) bn_cX10_slip_0 dop_182 223 (by decide +kernel)
theorem dX10_slip_34 : decode cX10_slip 34 = .ok (.ifCond .ne 9, 3) := dR2s (f := Instr.ifCond .ne) (k := 0) (i := 34) bn_cX10_slip_0 dop_154 9 9 (by decide +kernel)
theorem dX10_slip_37 : decode cX10_slip 37 = .ok (.aload_n 0, 1) := dR0 (k := 0) (i := 37) bn_cX10_slip_0 dop_42 (by decide +kernel)
theorem dX10_slip_38 : decode cX10_slip 38 = .ok (.iconst 5, 1) := dR0 (k := 0) (i := 38) bn_cX10_slip_0 dop_8 (by decide +kernel)
theorem dX10_slip_39 : decode cX10_slip 39 = .ok (.invokevirtual 82, 3) := dR2 (f := Instr.invokevirtual) (k := 0) (i := 39) bn_cX10_slip_0 dop_182 82 (by decide +kernel)
theorem dX10_slip_42 : decode cX10_slip 42 = .ok (.ireturn, 1) := dR0 (k := 0) (i := 42) bn_cX10_slip_0 dop_172 (by decide +kernel)
theorem dX10_slip_43 : decode cX10_slip 43 = .ok (.aload_n 0, 1) := dR0 (k := 0) (i := 43) bn_cX10_slip_0 dop_42 (by decide +kernel)
theorem dX10_slip_44 : decode cX10_slip 44 = .ok (.getfield 70, 3) := dR2 (f := Instr.getfield) (k := 0) (i := 44) bn_cX10_slip_0 dop_180 70 (by decide +kernel)
theorem dX10_slip_47 : decode cX10_slip 47 = .ok (.iload_n 1, 1) := dR0 (k := 0) (i := 47) bn_cX10_slip_0 dop_27 (by decide +kernel)
theorem dX10_slip_48 : decode cX10_slip 48 = .ok (.invokevirtual 176, 3) := dR2 (f := Instr.invokevirtual) (k := 0) (i := 48) bn_cX10_slip_0 dop_182 176 (by decide +kernel)
theorem dX10_slip_51 : decode cX10_slip 51 = .ok (.ifCond .eq 9, 3) := dR2s (f := Instr.ifCond .eq) (k := 0) (i := 51) bn_cX10_slip_0 dop_153 9 9 (by decide +kernel)
theorem dX10_slip_54 : decode cX10_slip 54 = .ok (.aload_n 0, 1) := dR0 (k := 0) (i := 54) bn_cX10_slip_0 dop_42 (by decide +kernel)
theorem dX10_slip_55 : decode cX10_slip 55 = .ok (.iconst 2, 1) := dR0 (k := 0) (i := 55) bn_cX10_slip_0 dop_5 (by decide +kernel)
theorem dX10_slip_56 : decode cX10_slip 56 = .ok (.invokevirtual 82, 3) := dR2 (f := Instr.invokevirtual) (k := 0) (i := 56) bn_cX10_slip_0 dop_182 82 (by decide +kernel)
theorem dX10_slip_59 : decode cX10_slip 59 = .ok (.ireturn, 1) := dR0 (k := 0) (i := 59) bn_cX10_slip_0 dop_172 (by decide +kernel)
theorem dX10_slip_60 : decode cX10_slip 60 = .ok (.aload_n 0, 1) := dR0 (k := 0) (i := 60) bn_cX10_slip_0 dop_42 (by decide +kernel)
theorem dX10_slip_61 : decode cX10_slip 61 = .ok (.getfield 42, 3) := dR2 (f := Instr.getfield) (k := 0) (i := 61) bn_cX10_slip_0 dop_180 42 (by decide +kernel)
theorem dX10_slip_64 : decode cX10_slip 64 = .ok (.aload_n 0, 1) := dR0 (k := 0) (i := 64) bn_cX10_slip_0 dop_42 (by decide +kernel)
theorem dX10_slip_65 : decode cX10_slip 65 = .ok (.getfield 12, 3) := dR2 (f := Instr.getfield) (k := 0) (i := 65) bn_cX10_slip_0 dop_180 12 (by decide +kernel)
theorem dX10_slip_68 : decode cX10_slip 68 = .ok (.iload_n 2, 1) := dR0 (k := 0) (i := 68) bn_cX10_slip_0 dop_28 (by decide +kernel)
theorem dX10_slip_69 : decode cX10_slip 69 = .ok (.iload_n 3, 1) := dR0 (k := 0) (i := 69) bn_cX10_slip_0 dop_29 (by decide +kernel)
theorem dX10_slip_70 : decode cX10_slip 70 = .ok (.invokevirtual 234, 3) := dR2 (f := Instr.invokevirtual) (k := 0) (i := 70) bn_cX10_slip_0 dop_182 234 (by decide +kernel)
theorem dX10_slip_73 : decode cX10_slip 73 = .ok (.istore 5, 2) := dR1 (f := Instr.istore) (k := 0) (i := 73) bn_cX10_slip_0 dop_54 5 (by decide +kernel)
theorem dX10_slip_75 : decode cX10_slip 75 = .ok (.aload_n 0, 1) := dR0 (k := 0) (i := 75) bn_cX10_slip_0 dop_42 (by decide +kernel)
theorem dX10_slip_76 : decode cX10_slip 76 = .ok (.iload_n 1, 1) := dR0 (k := 0) (i := 76) bn_cX10_slip_0 dop_27 (by decide +kernel)
theorem dX10_slip_77 : decode cX10_slip 77 = .ok (.iload 4, 2) := dR1 (f := Instr.iload) (k := 0) (i := 77) bn_cX10_slip_0 dop_21 4 (by decide +kernel)
theorem dX10_slip_79 : decode cX10_slip 79 = .ok (.invokevirtual 241, 3) := dR2 (f := Instr.invokevirtual) (k := 0) (i := 79) bn_cX10_slip_0 dop_182 241 (by decide +kernel)
theorem dX10_slip_82 : decode cX10_slip 82 = .ok (.istore 6, 2) := dR1 (f := Instr.istore) (k := 0) (i := 82) bn_cX10_slip_0 dop_54 6 (by decide +kernel)
theorem dX10_slip_84 : decode cX10_slip 84 = .ok (.iload 5, 2) := dR1 (f := Instr.iload) (k := 0) (i := 84) bn_cX10_slip_0 dop_21 5 (by decide +kernel)
theorem dX10_slip_86 : decode cX10_slip 86 = .ok (.ifCond .eq 8, 3) := dR2s (f := Instr.ifCond .eq) (k := 0) (i := 86) bn_cX10_slip_0 dop_153 8 8 (by decide +kernel)
theorem dX10_slip_89 : decode cX10_slip 89 = .ok (.iload 6, 2) := dR1 (f := Instr.iload) (k := 0) (i := 89) bn_cX10_slip_0 dop_21 6 (by decide +kernel)
theorem dX10_slip_91 : decode cX10_slip 91 = .ok (.ifCond .ge 9, 3) := dR2s (f := Instr.ifCond .ge) (k := 0) (i := 91) bn_cX10_slip_0 dop_156 9 9 (by decide +kernel)
theorem dX10_slip_94 : decode cX10_slip 94 = .ok (.aload_n 0, 1) := dR0 (k := 0) (i := 94) bn_cX10_slip_0 dop_42 (by decide +kernel)
theorem dX10_slip_95 : decode cX10_slip 95 = .ok (.iconst 2, 1) := dR0 (k := 0) (i := 95) bn_cX10_slip_0 dop_5 (by decide +kernel)
theorem dX10_slip_96 : decode cX10_slip 96 = .ok (.invokevirtual 82, 3) := dR2 (f := Instr.invokevirtual) (k := 0) (i := 96) bn_cX10_slip_0 dop_182 82 (by decide +kernel)
theorem dX10_slip_99 : decode cX10_slip 99 = .ok (.ireturn, 1) := dR0 (k := 0) (i := 99) bn_cX10_slip_0 dop_172 (by decide +kernel)
theorem dX10_slip_100 : decode cX10_slip 100 = .ok (.aload_n 0, 1) := dR0 (k := 0) (i := 100) bn_cX10_slip_0 dop_42 (by decide +kernel)
theorem dX10_slip_101 : decode cX10_slip 101 = .ok (.getfield 70, 3) := dR2 (f := Instr.getfield) (k := 0) (i := 101) bn_cX10_slip_0 dop_180 70 (by decide +kernel)
theorem dX10_slip_104 : decode cX10_slip 104 = .ok (.iload_n 1, 1) := dR0 (k := 0) (i := 104) bn_cX10_slip_0 dop_27 (by decide +kernel)
theorem dX10_slip_105 : decode cX10_slip 105 = .ok (.invokevirtual 179, 3) := dR2 (f := Instr.invokevirtual) (k := 0) (i := 105) bn_cX10_slip_0 dop_182 179 (by decide +kernel)
theorem dX10_slip_108 : decode cX10_slip 108 = .ok (.iload 5, 2) := dR1 (f := Instr.iload) (k := 0) (i := 108) bn_cX10_slip_0 dop_21 5 (by decide +kernel)
theorem dX10_slip_110 : decode cX10_slip 110 = .ok (.if_icmp .eq 9, 3) := dR2s (f := Instr.if_icmp .eq) (k := 0) (i := 110) bn_cX10_slip_0 dop_159 9 9 (by decide +kernel)
theorem dX10_slip_113 : decode cX10_slip 113 = .ok (.aload_n 0, 1) := dR0 (k := 0) (i := 113) bn_cX10_slip_0 dop_42 (by decide +kernel)
theorem dX10_slip_114 : decode cX10_slip 114 = .ok (.iconst 3, 1) := dR0 (k := 0) (i := 114) bn_cX10_slip_0 dop_6 (by decide +kernel)
theorem dX10_slip_115 : decode cX10_slip 115 = .ok (.invokevirtual 82, 3) := dR2 (f := Instr.invokevirtual) (k := 0) (i := 115) bn_cX10_slip_0 dop_182 82 (by decide +kernel)
theorem dX10_slip_118 : decode cX10_slip 118 = .ok (.ireturn, 1) := dR0 (k := 0) (i := 118) bn_cX10_slip_0 dop_172 (by decide +kernel)
theorem dX10_slip_119 : decode cX10_slip 119 = .ok (.iload 6, 2) := dR1 (f := Instr.iload) (k := 0) (i := 119) bn_cX10_slip_0 dop_21 6 (by decide +kernel)
theorem dX10_slip_121 : decode cX10_slip 121 = .ok (.ireturn, 1) := dR0 (k := 0) (i := 121) bn_cX10_slip_0 dop_172 (by decide +kernel)
set_option maxHeartbeats 4000000 in
set_option maxRecDepth 100000 in
theorem c_X10_slipG (l : Launch) (D : va_G) (cI : ClassId) (aK aV : Nat → Nat) (k k0 k1 k2 k3 k4 k5 k6 k7 k8 k9 ka kb k00 k01 k02 k03 k04 k05 k60 k61 k62 k63 k64 ka0 ka1 ka2 k040 k041 k042 k043 k044 k045 k046 k047 k048 : Nat) (sz : Nat) (cc : Int32) (c06 : Int32) (c07 : Int32) (c08 : Int32) (c65 : Int32) (cb : Nat → Int32) (c00 : Nat → Int32) (c049 : Int32) (c60 : Nat → Int32) (c61 : Nat → Int32) (c62 : Nat → Int32) (c63 : Nat → Int32) (c64 : Nat → Int32) (ca0 : Nat → Int32) (ca1 : Nat → Int32) (ca2 : Nat → Int32) (c040 : Nat → Int32) (c041 : Nat → Int32) (c043 : Nat → Int32) (c045 : Nat → Int32) (c046 : Nat → Int32) (a0 : Int32) (a1 : Int32) (a2 : Int32) (a3 : Int32) (pre0 : ∀ k : Nat, k < 4 → 0 ≤ (ca1 k).toInt ∧ (ca1 k).toInt ≤ 36) : Met l yX10_slip (gW yX10_slip cX10_slip 7 (some .int)) ({ frames := 6, cells := 0, slots := 0, locals := 143 } : Room) (kPreX D cI aK aV [.ref k, .int a0, .int a1, .int a2, .int a3] [(k, .inr (10, [.ref k0, .ref k1, .ref k2, .ref k3, .ref k4, .ref k5, .ref k6, .ref k7, .ref k8, .ref k9, .ref ka, .ref kb, .int cc])), (k0, .inr (9, [.ref k00, .ref k01, .ref k02, .ref k03, .ref k04, .ref k05, .int c06, .int c07, .int c08])), (k6, .inr (0, [.ref k60, .ref k61, .ref k62, .ref k63, .ref k64, .int c65])), (ka, .inr (6, [.ref ka0, .ref ka1, .ref ka2])), (kb, .inl (cI, 6, .inl cb)), (k00, .inl (cI, 12, .inl c00)), (k04, .inr (8, [.ref k040, .ref k041, .ref k042, .ref k043, .ref k044, .ref k045, .ref k046, .ref k047, .ref k048, .int c049])), (k60, .inl (cI, 41, .inl c60)), (k61, .inl (cI, 41, .inl c61)), (k62, .inl (cI, 60, .inl c62)), (k63, .inl (cI, 60, .inl c63)), (k64, .inl (cI, 60, .inl c64)), (ka0, .inl (cI, 4, .inl ca0)), (ka1, .inl (cI, 4, .inl ca1)), (ka2, .inl (cI, 144, .inl ca2)), (k040, .inl (cI, 60, .inl c040)), (k041, .inl (cI, 60, .inl c041)), (k043, .inl (cI, 60, .inl c043)), (k045, .inl (cI, 60, .inl c045)), (k046, .inl (cI, 40, .inl c046))] sz) (va_Qi (fun (r : Int32) (u : Int32 × (Nat → Int32) × (Nat → Int32) × (Nat → Int32) × (Nat → Int32) × (Nat → Int32) × (Nat → Int32)) => True) (fun u t => kWd D cI (va_A [(k, .inr (10, [.ref k0, .ref k1, .ref k2, .ref k3, .ref k4, .ref k5, .ref k6, .ref k7, .ref k8, .ref k9, .ref ka, .ref kb, .int cc])), (k0, .inr (9, [.ref k00, .ref k01, .ref k02, .ref k03, .ref k04, .ref k05, .int c06, .int c07, .int c08])), (k6, .inr (0, [.ref k60, .ref k61, .ref k62, .ref k63, .ref k64, .int c65])), (ka, .inr (6, [.ref ka0, .ref ka1, .ref ka2])), (kb, .inl (cI, 6, .inl cb)), (k00, .inl (cI, 12, .inl c00)), (k04, .inr (8, [.ref k040, .ref k041, .ref k042, .ref k043, .ref k044, .ref k045, .ref k046, .ref k047, .ref k048, .int c049])), (k60, .inl (cI, 41, .inl c60)), (k61, .inl (cI, 41, .inl c61)), (k62, .inl (cI, 60, .inl c62)), (k63, .inl (cI, 60, .inl c63)), (k64, .inl (cI, 60, .inl c64)), (ka0, .inl (cI, 4, .inl ca0)), (ka1, .inl (cI, 4, .inl ca1)), (ka2, .inl (cI, 144, .inl ca2)), (k040, .inl (cI, 60, .inl c040)), (k041, .inl (cI, 60, .inl c041)), (k043, .inl (cI, 60, .inl c043)), (k045, .inl (cI, 60, .inl c045)), (k046, .inl (cI, 40, .inl c046))] sz) [(k, .inr (10, [.ref k0, .ref k1, .ref k2, .ref k3, .ref k4, .ref k5, .ref k6, .ref k7, .ref k8, .ref k9, .ref ka, .ref kb, .int cc])), (k0, .inr (9, [.ref k00, .ref k01, .ref k02, .ref k03, .ref k04, .ref k05, .int c06, .int c07, .int c08])), (k6, .inr (0, [.ref k60, .ref k61, .ref k62, .ref k63, .ref k64, .int u.1])), (ka, .inr (6, [.ref ka0, .ref ka1, .ref ka2])), (kb, .inl (cI, 6, .inl u.2.1)), (k00, .inl (cI, 12, .inl c00)), (k04, .inr (8, [.ref k040, .ref k041, .ref k042, .ref k043, .ref k044, .ref k045, .ref k046, .ref k047, .ref k048, .int c049])), (k60, .inl (cI, 41, .inl u.2.2.1)), (k61, .inl (cI, 41, .inl u.2.2.2.1)), (k62, .inl (cI, 60, .inl u.2.2.2.2.1)), (k63, .inl (cI, 60, .inl u.2.2.2.2.2.1)), (k64, .inl (cI, 60, .inl u.2.2.2.2.2.2)), (ka0, .inl (cI, 4, .inl ca0)), (ka1, .inl (cI, 4, .inl ca1)), (ka2, .inl (cI, 144, .inl ca2)), (k040, .inl (cI, 60, .inl c040)), (k041, .inl (cI, 60, .inl c041)), (k043, .inl (cI, 60, .inl c043)), (k045, .inl (cI, 60, .inl c045)), (k046, .inl (cI, 40, .inl c046))] t) (va_A [(k, .inr (10, [.ref k0, .ref k1, .ref k2, .ref k3, .ref k4, .ref k5, .ref k6, .ref k7, .ref k8, .ref k9, .ref ka, .ref kb, .int cc])), (k0, .inr (9, [.ref k00, .ref k01, .ref k02, .ref k03, .ref k04, .ref k05, .int c06, .int c07, .int c08])), (k6, .inr (0, [.ref k60, .ref k61, .ref k62, .ref k63, .ref k64, .int c65])), (ka, .inr (6, [.ref ka0, .ref ka1, .ref ka2])), (kb, .inl (cI, 6, .inl cb)), (k00, .inl (cI, 12, .inl c00)), (k04, .inr (8, [.ref k040, .ref k041, .ref k042, .ref k043, .ref k044, .ref k045, .ref k046, .ref k047, .ref k048, .int c049])), (k60, .inl (cI, 41, .inl c60)), (k61, .inl (cI, 41, .inl c61)), (k62, .inl (cI, 60, .inl c62)), (k63, .inl (cI, 60, .inl c63)), (k64, .inl (cI, 60, .inl c64)), (ka0, .inl (cI, 4, .inl ca0)), (ka1, .inl (cI, 4, .inl ca1)), (ka2, .inl (cI, 144, .inl ca2)), (k040, .inl (cI, 60, .inl c040)), (k041, .inl (cI, 60, .inl c041)), (k043, .inl (cI, 60, .inl c043)), (k045, .inl (cI, 60, .inl c045)), (k046, .inl (cI, 40, .inl c046))] sz)) 0 0 (va_A [(k, .inr (10, [.ref k0, .ref k1, .ref k2, .ref k3, .ref k4, .ref k5, .ref k6, .ref k7, .ref k8, .ref k9, .ref ka, .ref kb, .int cc])), (k0, .inr (9, [.ref k00, .ref k01, .ref k02, .ref k03, .ref k04, .ref k05, .int c06, .int c07, .int c08])), (k6, .inr (0, [.ref k60, .ref k61, .ref k62, .ref k63, .ref k64, .int c65])), (ka, .inr (6, [.ref ka0, .ref ka1, .ref ka2])), (kb, .inl (cI, 6, .inl cb)), (k00, .inl (cI, 12, .inl c00)), (k04, .inr (8, [.ref k040, .ref k041, .ref k042, .ref k043, .ref k044, .ref k045, .ref k046, .ref k047, .ref k048, .int c049])), (k60, .inl (cI, 41, .inl c60)), (k61, .inl (cI, 41, .inl c61)), (k62, .inl (cI, 60, .inl c62)), (k63, .inl (cI, 60, .inl c63)), (k64, .inl (cI, 60, .inl c64)), (ka0, .inl (cI, 4, .inl ca0)), (ka1, .inl (cI, 4, .inl ca1)), (ka2, .inl (cI, 144, .inl ca2)), (k040, .inl (cI, 60, .inl c040)), (k041, .inl (cI, 60, .inl c041)), (k043, .inl (cI, 60, .inl c043)), (k045, .inl (cI, 60, .inl c045)), (k046, .inl (cI, 40, .inl c046))] sz) := by
  refine kMetIX (own := RX10) (by decide +kernel) rfl (Nat.le_of_ble_eq_true rfl) ?_
  intro p e s m args below meth c hx hb hT hown hname hml A Q hK hP hD hS hA hN hXS hRet ls hl
  have hl : lv_has ls 7 [(0, .ref k), (1, .int a0), (2, .int a1), (3, .int a2), (4, .int a3)] := hl
  have lo_a0 := k_lo a0
  have hi_a0 := k_hi a0
  have lo_a1 := k_lo a1
  have hi_a1 := k_hi a1
  have lo_a2 := k_lo a2
  have hi_a2 := k_hi a2
  have lo_a3 := k_lo a3
  have hi_a3 := k_hi a3
  refine lv_iload_n hx hb dX10_slip_0 rfl (lv_at hl 1 rfl) ?_
  refine kJi (wr := [(k, .inr (10, [.ref k0, .ref k1, .ref k2, .ref k3, .ref k4, .ref k5, .ref k6, .ref k7, .ref k8, .ref k9, .ref ka, .ref kb, .int cc])), (k0, .inr (9, [.ref k00, .ref k01, .ref k02, .ref k03, .ref k04, .ref k05, .int c06, .int c07, .int c08])), (k6, .inr (0, [.ref k60, .ref k61, .ref k62, .ref k63, .ref k64, .int c65])), (ka, .inr (6, [.ref ka0, .ref ka1, .ref ka2])), (kb, .inl (cI, 6, .inl cb)), (k00, .inl (cI, 12, .inl c00)), (k04, .inr (8, [.ref k040, .ref k041, .ref k042, .ref k043, .ref k044, .ref k045, .ref k046, .ref k047, .ref k048, .int c049])), (k60, .inl (cI, 41, .inl c60)), (k61, .inl (cI, 41, .inl c61)), (k62, .inl (cI, 60, .inl c62)), (k63, .inl (cI, 60, .inl c63)), (k64, .inl (cI, 60, .inl c64)), (ka0, .inl (cI, 4, .inl ca0)), (ka1, .inl (cI, 4, .inl ca1)), (ka2, .inl (cI, 144, .inl ca2)), (k040, .inl (cI, 60, .inl c040)), (k041, .inl (cI, 60, .inl c041)), (k043, .inl (cI, 60, .inl c043)), (k045, .inl (cI, 60, .inl c045)), (k046, .inl (cI, 40, .inl c046))]) (va_runS (As := [.int a0]) (rest := []) ⟨hx, hb, hml, hown, hT⟩ (c_X10_isSheetG l D cI aK aV s.heap.size a0) (cwS 1 hT (gS_in mw_662 mw_660 mw_661 mw_1) rfl rfl rfl (by decide +kernel) ⟨Nat.le_of_ble_eq_true rfl, Nat.le_of_ble_eq_true rfl⟩) (kStatX hK hP hD hN hXS hS hA [] rfl (by decide +kernel)) rfl rfl hl.1 rfl (lv_room (Nat.le_of_ble_eq_true rfl)) dX10_slip_1 ⟨Nat.le_of_ble_eq_true rfl, Nat.le_of_ble_eq_true rfl⟩) hP hD hS hA [] [0, 1, 2, 3, 4, 5, 6, 7, 8, 9, 10, 11, 12, 13, 14, 15, 16, 17, 18, 19] rfl rfl (by decide +kernel) (by decide +kernel) ?_
  clear hP hD hS
  intro r_1 u_3 H locs w_2 hP hD hS
  replace hP : va_P D vwCl [(k, .inr (10, [.ref k0, .ref k1, .ref k2, .ref k3, .ref k4, .ref k5, .ref k6, .ref k7, .ref k8, .ref k9, .ref ka, .ref kb, .int cc])), (k0, .inr (9, [.ref k00, .ref k01, .ref k02, .ref k03, .ref k04, .ref k05, .int c06, .int c07, .int c08])), (k6, .inr (0, [.ref k60, .ref k61, .ref k62, .ref k63, .ref k64, .int c65])), (ka, .inr (6, [.ref ka0, .ref ka1, .ref ka2])), (kb, .inl (cI, 6, .inl cb)), (k00, .inl (cI, 12, .inl c00)), (k04, .inr (8, [.ref k040, .ref k041, .ref k042, .ref k043, .ref k044, .ref k045, .ref k046, .ref k047, .ref k048, .int c049])), (k60, .inl (cI, 41, .inl c60)), (k61, .inl (cI, 41, .inl c61)), (k62, .inl (cI, 60, .inl c62)), (k63, .inl (cI, 60, .inl c63)), (k64, .inl (cI, 60, .inl c64)), (ka0, .inl (cI, 4, .inl ca0)), (ka1, .inl (cI, 4, .inl ca1)), (ka2, .inl (cI, 144, .inl ca2)), (k040, .inl (cI, 60, .inl c040)), (k041, .inl (cI, 60, .inl c041)), (k043, .inl (cI, 60, .inl c043)), (k045, .inl (cI, 60, .inl c045)), (k046, .inl (cI, 40, .inl c046))] H := hP
  replace hD : va_D A [(k, .inr (10, [.ref k0, .ref k1, .ref k2, .ref k3, .ref k4, .ref k5, .ref k6, .ref k7, .ref k8, .ref k9, .ref ka, .ref kb, .int cc])), (k0, .inr (9, [.ref k00, .ref k01, .ref k02, .ref k03, .ref k04, .ref k05, .int c06, .int c07, .int c08])), (k6, .inr (0, [.ref k60, .ref k61, .ref k62, .ref k63, .ref k64, .int c65])), (ka, .inr (6, [.ref ka0, .ref ka1, .ref ka2])), (kb, .inl (cI, 6, .inl cb)), (k00, .inl (cI, 12, .inl c00)), (k04, .inr (8, [.ref k040, .ref k041, .ref k042, .ref k043, .ref k044, .ref k045, .ref k046, .ref k047, .ref k048, .int c049])), (k60, .inl (cI, 41, .inl c60)), (k61, .inl (cI, 41, .inl c61)), (k62, .inl (cI, 60, .inl c62)), (k63, .inl (cI, 60, .inl c63)), (k64, .inl (cI, 60, .inl c64)), (ka0, .inl (cI, 4, .inl ca0)), (ka1, .inl (cI, 4, .inl ca1)), (ka2, .inl (cI, 144, .inl ca2)), (k040, .inl (cI, 60, .inl c040)), (k041, .inl (cI, 60, .inl c041)), (k043, .inl (cI, 60, .inl c043)), (k045, .inl (cI, 60, .inl c045)), (k046, .inl (cI, 40, .inl c046))] := hD
  rcases w_2 with ⟨hr_1, h_4, h_5⟩ | ⟨hr_1, h_6⟩
  · have h_4 : 0 ≤ a0.toInt := h_4
    have h_5 : a0.toInt ≤ 3 := h_5
    obtain rfl : r_1 = 1 := hr_1.trans (by decide +kernel)
    refine b_if_eq hx hb zl_1 (tgt := 22) dX10_slip_4 (by decide +kernel) (fun c_7 => by exfalso; omega) (fun c_7 => ?_)
    refine lv_aload_n hx hb dX10_slip_7 rfl (lv_at hl 0 rfl) ?_
    refine lv_iload_n hx hb dX10_slip_8 rfl (lv_at hl 2 rfl) ?_
    refine lv_iload_n hx hb dX10_slip_9 rfl (lv_at hl 3 rfl) ?_
    refine kJi (wr := [(k6, .inr (0, [.ref k60, .ref k61, .ref k62, .ref k63, .ref k64, .int c65])), (ka, .inr (6, [.ref ka0, .ref ka1, .ref ka2])), (kb, .inl (cI, 6, .inl cb)), (k00, .inl (cI, 12, .inl c00)), (k60, .inl (cI, 41, .inl c60)), (k61, .inl (cI, 41, .inl c61)), (k62, .inl (cI, 60, .inl c62)), (k63, .inl (cI, 60, .inl c63)), (k64, .inl (cI, 60, .inl c64)), (ka0, .inl (cI, 4, .inl ca0)), (ka1, .inl (cI, 4, .inl ca1)), (ka2, .inl (cI, 144, .inl ca2)), (k040, .inl (cI, 60, .inl c040)), (k041, .inl (cI, 60, .inl c041)), (k043, .inl (cI, 60, .inl c043)), (k045, .inl (cI, 60, .inl c045)), (k046, .inl (cI, 40, .inl c046))]) (va_runV (As := [.int a1, .int a2]) (rest := []) ⟨hx, hb, hml, hown, hT⟩ (c_X10_areTwoWorksG l D cI aK aV k k0 k1 k2 k3 k4 k5 k6 k7 k8 k9 ka kb k00 k01 k02 k03 k04 k05 k040 k041 k042 k043 k044 k045 k046 k047 k048 H.size cc c06 c07 c08 c049 a1 a2) (cwV 2 hT (gV_in mw_764 mw_761 mw_763 mw_p2_1 mw_1) rfl rfl rfl (by decide +kernel) ⟨Nat.le_of_ble_eq_true rfl, Nat.le_of_ble_eq_true rfl⟩) (kRecvX (q0 := 0) (ci := 10) hK hP hD hN hXS hS hA rfl rfl [0, 1, 6] rfl (by decide +kernel)) rfl rfl hl.1 rfl (lv_room (Nat.le_of_ble_eq_true rfl)) dX10_slip_10 ⟨Nat.le_of_ble_eq_true rfl, Nat.le_of_ble_eq_true rfl⟩) hP hD hS hA [0, 1, 6] [2, 3, 4, 5, 7, 8, 9, 10, 11, 12, 13, 14, 15, 16, 17, 18, 19] rfl rfl (by decide +kernel) (by decide +kernel) ?_
    clear hP hD hS
    intro r_8 u_10 H locs w_9 hP hD hS
    replace hP : va_P D vwCl [(k6, .inr (0, [.ref k60, .ref k61, .ref k62, .ref k63, .ref k64, .int c65])), (ka, .inr (6, [.ref ka0, .ref ka1, .ref ka2])), (kb, .inl (cI, 6, .inl cb)), (k00, .inl (cI, 12, .inl c00)), (k60, .inl (cI, 41, .inl c60)), (k61, .inl (cI, 41, .inl c61)), (k62, .inl (cI, 60, .inl c62)), (k63, .inl (cI, 60, .inl c63)), (k64, .inl (cI, 60, .inl c64)), (ka0, .inl (cI, 4, .inl ca0)), (ka1, .inl (cI, 4, .inl ca1)), (ka2, .inl (cI, 144, .inl ca2)), (k040, .inl (cI, 60, .inl c040)), (k041, .inl (cI, 60, .inl c041)), (k043, .inl (cI, 60, .inl c043)), (k045, .inl (cI, 60, .inl c045)), (k046, .inl (cI, 40, .inl c046)), (k, .inr (10, [.ref k0, .ref k1, .ref k2, .ref k3, .ref k4, .ref k5, .ref k6, .ref k7, .ref k8, .ref k9, .ref ka, .ref kb, .int cc])), (k0, .inr (9, [.ref k00, .ref k01, .ref k02, .ref k03, .ref k04, .ref k05, .int c06, .int c07, .int c08])), (k04, .inr (8, [.ref k040, .ref k041, .ref k042, .ref k043, .ref k044, .ref k045, .ref k046, .ref k047, .ref k048, .int c049]))] H := hP
    replace hD : va_D A [(k6, .inr (0, [.ref k60, .ref k61, .ref k62, .ref k63, .ref k64, .int c65])), (ka, .inr (6, [.ref ka0, .ref ka1, .ref ka2])), (kb, .inl (cI, 6, .inl cb)), (k00, .inl (cI, 12, .inl c00)), (k60, .inl (cI, 41, .inl c60)), (k61, .inl (cI, 41, .inl c61)), (k62, .inl (cI, 60, .inl c62)), (k63, .inl (cI, 60, .inl c63)), (k64, .inl (cI, 60, .inl c64)), (ka0, .inl (cI, 4, .inl ca0)), (ka1, .inl (cI, 4, .inl ca1)), (ka2, .inl (cI, 144, .inl ca2)), (k040, .inl (cI, 60, .inl c040)), (k041, .inl (cI, 60, .inl c041)), (k043, .inl (cI, 60, .inl c043)), (k045, .inl (cI, 60, .inl c045)), (k046, .inl (cI, 40, .inl c046)), (k, .inr (10, [.ref k0, .ref k1, .ref k2, .ref k3, .ref k4, .ref k5, .ref k6, .ref k7, .ref k8, .ref k9, .ref ka, .ref kb, .int cc])), (k0, .inr (9, [.ref k00, .ref k01, .ref k02, .ref k03, .ref k04, .ref k05, .int c06, .int c07, .int c08])), (k04, .inr (8, [.ref k040, .ref k041, .ref k042, .ref k043, .ref k044, .ref k045, .ref k046, .ref k047, .ref k048, .int c049]))] := hD
    have lo_r_8 := k_lo r_8
    have hi_r_8 := k_hi r_8
    refine b_if_eq hx hb rfl (tgt := 22) dX10_slip_13 (by decide +kernel) (fun c_11 => ?_) (fun c_11 => ?_)
    · refine lv_aload_n hx hb dX10_slip_22 rfl (lv_at hl 0 rfl) ?_
      refine lv_iconst (v := 1) hx hb dX10_slip_23 (by decide +kernel) ?_
      refine kJi (wr := [(k6, .inr (0, [.ref k60, .ref k61, .ref k62, .ref k63, .ref k64, .int c65])), (ka, .inr (6, [.ref ka0, .ref ka1, .ref ka2])), (k00, .inl (cI, 12, .inl c00)), (k60, .inl (cI, 41, .inl c60)), (k61, .inl (cI, 41, .inl c61)), (k62, .inl (cI, 60, .inl c62)), (k63, .inl (cI, 60, .inl c63)), (k64, .inl (cI, 60, .inl c64)), (ka0, .inl (cI, 4, .inl ca0)), (ka1, .inl (cI, 4, .inl ca1)), (ka2, .inl (cI, 144, .inl ca2)), (k040, .inl (cI, 60, .inl c040)), (k041, .inl (cI, 60, .inl c041)), (k043, .inl (cI, 60, .inl c043)), (k045, .inl (cI, 60, .inl c045)), (k046, .inl (cI, 40, .inl c046)), (k0, .inr (9, [.ref k00, .ref k01, .ref k02, .ref k03, .ref k04, .ref k05, .int c06, .int c07, .int c08])), (k04, .inr (8, [.ref k040, .ref k041, .ref k042, .ref k043, .ref k044, .ref k045, .ref k046, .ref k047, .ref k048, .int c049]))]) (va_runV (As := [.int 1]) (rest := []) ⟨hx, hb, hml, hown, hT⟩ (c_X10_findingG l D cI aK aV k k0 k1 k2 k3 k4 k5 k6 k7 k8 k9 ka kb H.size cc cb 1) (cwV 1 hT (gV_in mw_338 mw_335 mw_337 mw_p1_0 mw_1) rfl rfl rfl (by decide +kernel) ⟨Nat.le_of_ble_eq_true rfl, Nat.le_of_ble_eq_true rfl⟩) (kRecvX (q0 := 17) (ci := 10) hK hP hD hN hXS hS hA rfl rfl [17, 2] rfl (by decide +kernel)) rfl rfl hl.1 rfl (lv_room (Nat.le_of_ble_eq_true rfl)) dX10_slip_24 ⟨Nat.le_of_ble_eq_true rfl, Nat.le_of_ble_eq_true rfl⟩) hP hD hS hA [17, 2] [0, 1, 3, 4, 5, 6, 7, 8, 9, 10, 11, 12, 13, 14, 15, 16, 18, 19] rfl rfl (by decide +kernel) (by decide +kernel) ?_
      clear hP hD hS
      intro r_12 scb_14 H locs w_13 hP hD hS
      replace hP : va_P D vwCl [(k6, .inr (0, [.ref k60, .ref k61, .ref k62, .ref k63, .ref k64, .int c65])), (ka, .inr (6, [.ref ka0, .ref ka1, .ref ka2])), (k00, .inl (cI, 12, .inl c00)), (k60, .inl (cI, 41, .inl c60)), (k61, .inl (cI, 41, .inl c61)), (k62, .inl (cI, 60, .inl c62)), (k63, .inl (cI, 60, .inl c63)), (k64, .inl (cI, 60, .inl c64)), (ka0, .inl (cI, 4, .inl ca0)), (ka1, .inl (cI, 4, .inl ca1)), (ka2, .inl (cI, 144, .inl ca2)), (k040, .inl (cI, 60, .inl c040)), (k041, .inl (cI, 60, .inl c041)), (k043, .inl (cI, 60, .inl c043)), (k045, .inl (cI, 60, .inl c045)), (k046, .inl (cI, 40, .inl c046)), (k0, .inr (9, [.ref k00, .ref k01, .ref k02, .ref k03, .ref k04, .ref k05, .int c06, .int c07, .int c08])), (k04, .inr (8, [.ref k040, .ref k041, .ref k042, .ref k043, .ref k044, .ref k045, .ref k046, .ref k047, .ref k048, .int c049])), (k, .inr (10, [.ref k0, .ref k1, .ref k2, .ref k3, .ref k4, .ref k5, .ref k6, .ref k7, .ref k8, .ref k9, .ref ka, .ref kb, .int cc])), (kb, .inl (cI, 6, .inl scb_14))] H := hP
      replace hD : va_D A [(k6, .inr (0, [.ref k60, .ref k61, .ref k62, .ref k63, .ref k64, .int c65])), (ka, .inr (6, [.ref ka0, .ref ka1, .ref ka2])), (k00, .inl (cI, 12, .inl c00)), (k60, .inl (cI, 41, .inl c60)), (k61, .inl (cI, 41, .inl c61)), (k62, .inl (cI, 60, .inl c62)), (k63, .inl (cI, 60, .inl c63)), (k64, .inl (cI, 60, .inl c64)), (ka0, .inl (cI, 4, .inl ca0)), (ka1, .inl (cI, 4, .inl ca1)), (ka2, .inl (cI, 144, .inl ca2)), (k040, .inl (cI, 60, .inl c040)), (k041, .inl (cI, 60, .inl c041)), (k043, .inl (cI, 60, .inl c043)), (k045, .inl (cI, 60, .inl c045)), (k046, .inl (cI, 40, .inl c046)), (k0, .inr (9, [.ref k00, .ref k01, .ref k02, .ref k03, .ref k04, .ref k05, .int c06, .int c07, .int c08])), (k04, .inr (8, [.ref k040, .ref k041, .ref k042, .ref k043, .ref k044, .ref k045, .ref k046, .ref k047, .ref k048, .int c049])), (k, .inr (10, [.ref k0, .ref k1, .ref k2, .ref k3, .ref k4, .ref k5, .ref k6, .ref k7, .ref k8, .ref k9, .ref ka, .ref kb, .int cc])), (kb, .inl (cI, 6, .inl scb_14))] := hD
      have hr_12 := w_13
      obtain rfl : r_12 = (-1000001) := hr_12.trans (by decide +kernel)
      exact hRet (c65, scb_14, c60, c61, c62, c63, c64) [18, 16, 0, 1, 19, 2, 17, 3, 4, 5, 6, 7, 8, 9, 10, 11, 12, 13, 14, 15] trivial hP hD (by decide +kernel) rfl hS rfl dX10_slip_27
    · refine lv_iload hx hb dX10_slip_16 (lv_at hl 4 rfl) ?_
      refine lv_iconst (v := (-1)) hx hb dX10_slip_18 (by decide +kernel) ?_
      refine b_icmp_ge hx hb rfl zl_m1 (tgt := 28) dX10_slip_19 (by decide +kernel) (fun c_15 => ?_) (fun c_15 => ?_)
      · refine lv_aload_n hx hb dX10_slip_28 rfl (lv_at hl 0 rfl) ?_
        refine lv_iload_n hx hb dX10_slip_29 rfl (lv_at hl 2 rfl) ?_
        refine lv_iload_n hx hb dX10_slip_30 rfl (lv_at hl 3 rfl) ?_
        refine kJi (wr := [(k6, .inr (0, [.ref k60, .ref k61, .ref k62, .ref k63, .ref k64, .int c65])), (ka, .inr (6, [.ref ka0, .ref ka1, .ref ka2])), (kb, .inl (cI, 6, .inl cb)), (k00, .inl (cI, 12, .inl c00)), (k60, .inl (cI, 41, .inl c60)), (k61, .inl (cI, 41, .inl c61)), (k62, .inl (cI, 60, .inl c62)), (k63, .inl (cI, 60, .inl c63)), (k64, .inl (cI, 60, .inl c64)), (ka0, .inl (cI, 4, .inl ca0)), (ka1, .inl (cI, 4, .inl ca1)), (ka2, .inl (cI, 144, .inl ca2)), (k041, .inl (cI, 60, .inl c041)), (k043, .inl (cI, 60, .inl c043)), (k045, .inl (cI, 60, .inl c045)), (k046, .inl (cI, 40, .inl c046))]) (va_runV (As := [.int a1, .int a2]) (rest := []) ⟨hx, hb, hml, hown, hT⟩ (c_X10_areStationsG l D cI aK aV k k0 k1 k2 k3 k4 k5 k6 k7 k8 k9 ka kb k00 k01 k02 k03 k04 k05 k040 k041 k042 k043 k044 k045 k046 k047 k048 H.size cc c06 c07 c08 c049 c040 a1 a2) (cwV 2 hT (gV_in mw_768 mw_765 mw_767 mw_p2_2 mw_1) rfl rfl rfl (by decide +kernel) ⟨Nat.le_of_ble_eq_true rfl, Nat.le_of_ble_eq_true rfl⟩) (kRecvX (q0 := 17) (ci := 10) hK hP hD hN hXS hS hA rfl rfl [17, 18, 19, 12] rfl (by decide +kernel)) rfl rfl hl.1 rfl (lv_room (Nat.le_of_ble_eq_true rfl)) dX10_slip_31 ⟨Nat.le_of_ble_eq_true rfl, Nat.le_of_ble_eq_true rfl⟩) hP hD hS hA [17, 18, 19, 12] [0, 1, 2, 3, 4, 5, 6, 7, 8, 9, 10, 11, 13, 14, 15, 16] rfl rfl (by decide +kernel) (by decide +kernel) ?_
        clear hP hD hS
        intro r_16 u_18 H locs w_17 hP hD hS
        replace hP : va_P D vwCl [(k6, .inr (0, [.ref k60, .ref k61, .ref k62, .ref k63, .ref k64, .int c65])), (ka, .inr (6, [.ref ka0, .ref ka1, .ref ka2])), (kb, .inl (cI, 6, .inl cb)), (k00, .inl (cI, 12, .inl c00)), (k60, .inl (cI, 41, .inl c60)), (k61, .inl (cI, 41, .inl c61)), (k62, .inl (cI, 60, .inl c62)), (k63, .inl (cI, 60, .inl c63)), (k64, .inl (cI, 60, .inl c64)), (ka0, .inl (cI, 4, .inl ca0)), (ka1, .inl (cI, 4, .inl ca1)), (ka2, .inl (cI, 144, .inl ca2)), (k041, .inl (cI, 60, .inl c041)), (k043, .inl (cI, 60, .inl c043)), (k045, .inl (cI, 60, .inl c045)), (k046, .inl (cI, 40, .inl c046)), (k, .inr (10, [.ref k0, .ref k1, .ref k2, .ref k3, .ref k4, .ref k5, .ref k6, .ref k7, .ref k8, .ref k9, .ref ka, .ref kb, .int cc])), (k0, .inr (9, [.ref k00, .ref k01, .ref k02, .ref k03, .ref k04, .ref k05, .int c06, .int c07, .int c08])), (k04, .inr (8, [.ref k040, .ref k041, .ref k042, .ref k043, .ref k044, .ref k045, .ref k046, .ref k047, .ref k048, .int c049])), (k040, .inl (cI, 60, .inl c040))] H := hP
        replace hD : va_D A [(k6, .inr (0, [.ref k60, .ref k61, .ref k62, .ref k63, .ref k64, .int c65])), (ka, .inr (6, [.ref ka0, .ref ka1, .ref ka2])), (kb, .inl (cI, 6, .inl cb)), (k00, .inl (cI, 12, .inl c00)), (k60, .inl (cI, 41, .inl c60)), (k61, .inl (cI, 41, .inl c61)), (k62, .inl (cI, 60, .inl c62)), (k63, .inl (cI, 60, .inl c63)), (k64, .inl (cI, 60, .inl c64)), (ka0, .inl (cI, 4, .inl ca0)), (ka1, .inl (cI, 4, .inl ca1)), (ka2, .inl (cI, 144, .inl ca2)), (k041, .inl (cI, 60, .inl c041)), (k043, .inl (cI, 60, .inl c043)), (k045, .inl (cI, 60, .inl c045)), (k046, .inl (cI, 40, .inl c046)), (k, .inr (10, [.ref k0, .ref k1, .ref k2, .ref k3, .ref k4, .ref k5, .ref k6, .ref k7, .ref k8, .ref k9, .ref ka, .ref kb, .int cc])), (k0, .inr (9, [.ref k00, .ref k01, .ref k02, .ref k03, .ref k04, .ref k05, .int c06, .int c07, .int c08])), (k04, .inr (8, [.ref k040, .ref k041, .ref k042, .ref k043, .ref k044, .ref k045, .ref k046, .ref k047, .ref k048, .int c049])), (k040, .inl (cI, 60, .inl c040))] := hD
        have lo_r_16 := k_lo r_16
        have hi_r_16 := k_hi r_16
        refine b_if_ne hx hb rfl (tgt := 43) dX10_slip_34 (by decide +kernel) (fun c_19 => ?_) (fun c_19 => ?_)
        · refine lv_aload_n hx hb dX10_slip_43 rfl (lv_at hl 0 rfl) ?_
          refine va_get (D := D) (ci := 10) (v := .ref ka) (C := RX10) (T := TX10) (N := 13) hx hb hT giX10 hown hK hP 16 rfl rfl 10 (by decide +kernel) (hT (Cond.fieldLink RX10 70 "DesertWire" "sheets" "LDesertWire$Sheets;") mw_301) (fun _ h9 => h9) rfl dX10_slip_44 ?_
          refine lv_iload_n hx hb dX10_slip_47 rfl (lv_at hl 1 rfl) ?_
          refine kJi (wr := [(k6, .inr (0, [.ref k60, .ref k61, .ref k62, .ref k63, .ref k64, .int c65])), (kb, .inl (cI, 6, .inl cb)), (k00, .inl (cI, 12, .inl c00)), (k60, .inl (cI, 41, .inl c60)), (k61, .inl (cI, 41, .inl c61)), (k62, .inl (cI, 60, .inl c62)), (k63, .inl (cI, 60, .inl c63)), (k64, .inl (cI, 60, .inl c64)), (ka1, .inl (cI, 4, .inl ca1)), (ka2, .inl (cI, 144, .inl ca2)), (k041, .inl (cI, 60, .inl c041)), (k043, .inl (cI, 60, .inl c043)), (k045, .inl (cI, 60, .inl c045)), (k046, .inl (cI, 40, .inl c046)), (k, .inr (10, [.ref k0, .ref k1, .ref k2, .ref k3, .ref k4, .ref k5, .ref k6, .ref k7, .ref k8, .ref k9, .ref ka, .ref kb, .int cc])), (k0, .inr (9, [.ref k00, .ref k01, .ref k02, .ref k03, .ref k04, .ref k05, .int c06, .int c07, .int c08])), (k04, .inr (8, [.ref k040, .ref k041, .ref k042, .ref k043, .ref k044, .ref k045, .ref k046, .ref k047, .ref k048, .int c049])), (k040, .inl (cI, 60, .inl c040))]) (va_runV (As := [.int a0]) (rest := []) ⟨hx, hb, hml, hown, hT⟩ (c_X6_isMissingG l D cI aK aV ka ka0 ka1 ka2 H.size ca0 a0) (cwV 1 hT (gV_in mw_666 mw_663 mw_664 mw_665 mw_11) rfl rfl rfl (by decide +kernel) ⟨Nat.le_of_ble_eq_true rfl, Nat.le_of_ble_eq_true rfl⟩) (kRecvX (q0 := 1) (ci := 6) hK hP hD hN hXS hS hA rfl rfl [1, 9] rfl (by decide +kernel)) rfl rfl hl.1 rfl (lv_room (Nat.le_of_ble_eq_true rfl)) dX10_slip_48 ⟨Nat.le_of_ble_eq_true rfl, Nat.le_of_ble_eq_true rfl⟩) hP hD hS hA [1, 9] [0, 2, 3, 4, 5, 6, 7, 8, 10, 11, 12, 13, 14, 15, 16, 17, 18, 19] rfl rfl (by decide +kernel) (by decide +kernel) ?_
          clear hP hD hS
          intro r_20 u_22 H locs w_21 hP hD hS
          replace hP : va_P D vwCl [(k6, .inr (0, [.ref k60, .ref k61, .ref k62, .ref k63, .ref k64, .int c65])), (kb, .inl (cI, 6, .inl cb)), (k00, .inl (cI, 12, .inl c00)), (k60, .inl (cI, 41, .inl c60)), (k61, .inl (cI, 41, .inl c61)), (k62, .inl (cI, 60, .inl c62)), (k63, .inl (cI, 60, .inl c63)), (k64, .inl (cI, 60, .inl c64)), (ka1, .inl (cI, 4, .inl ca1)), (ka2, .inl (cI, 144, .inl ca2)), (k041, .inl (cI, 60, .inl c041)), (k043, .inl (cI, 60, .inl c043)), (k045, .inl (cI, 60, .inl c045)), (k046, .inl (cI, 40, .inl c046)), (k, .inr (10, [.ref k0, .ref k1, .ref k2, .ref k3, .ref k4, .ref k5, .ref k6, .ref k7, .ref k8, .ref k9, .ref ka, .ref kb, .int cc])), (k0, .inr (9, [.ref k00, .ref k01, .ref k02, .ref k03, .ref k04, .ref k05, .int c06, .int c07, .int c08])), (k04, .inr (8, [.ref k040, .ref k041, .ref k042, .ref k043, .ref k044, .ref k045, .ref k046, .ref k047, .ref k048, .int c049])), (k040, .inl (cI, 60, .inl c040)), (ka, .inr (6, [.ref ka0, .ref ka1, .ref ka2])), (ka0, .inl (cI, 4, .inl ca0))] H := hP
          replace hD : va_D A [(k6, .inr (0, [.ref k60, .ref k61, .ref k62, .ref k63, .ref k64, .int c65])), (kb, .inl (cI, 6, .inl cb)), (k00, .inl (cI, 12, .inl c00)), (k60, .inl (cI, 41, .inl c60)), (k61, .inl (cI, 41, .inl c61)), (k62, .inl (cI, 60, .inl c62)), (k63, .inl (cI, 60, .inl c63)), (k64, .inl (cI, 60, .inl c64)), (ka1, .inl (cI, 4, .inl ca1)), (ka2, .inl (cI, 144, .inl ca2)), (k041, .inl (cI, 60, .inl c041)), (k043, .inl (cI, 60, .inl c043)), (k045, .inl (cI, 60, .inl c045)), (k046, .inl (cI, 40, .inl c046)), (k, .inr (10, [.ref k0, .ref k1, .ref k2, .ref k3, .ref k4, .ref k5, .ref k6, .ref k7, .ref k8, .ref k9, .ref ka, .ref kb, .int cc])), (k0, .inr (9, [.ref k00, .ref k01, .ref k02, .ref k03, .ref k04, .ref k05, .int c06, .int c07, .int c08])), (k04, .inr (8, [.ref k040, .ref k041, .ref k042, .ref k043, .ref k044, .ref k045, .ref k046, .ref k047, .ref k048, .int c049])), (k040, .inl (cI, 60, .inl c040)), (ka, .inr (6, [.ref ka0, .ref ka1, .ref ka2])), (ka0, .inl (cI, 4, .inl ca0))] := hD
          rcases w_21 with ⟨hr_20, h_23, h_24, h_25⟩ | ⟨hr_20, h_26, h_27, h_28⟩ | ⟨hr_20, h_29⟩
          · have h_23 : 0 ≤ a0.toInt := h_23
            have h_24 : a0.toInt ≤ 3 := h_24
            have h_25 : (ca0 a0.toNatClampNeg).toInt = 0 := h_25
            obtain rfl : r_20 = 1 := hr_20.trans (by decide +kernel)
            refine b_if_eq hx hb zl_1 (tgt := 60) dX10_slip_51 (by decide +kernel) (fun c_30 => by exfalso; omega) (fun c_30 => ?_)
            refine lv_aload_n hx hb dX10_slip_54 rfl (lv_at hl 0 rfl) ?_
            refine lv_iconst (v := 2) hx hb dX10_slip_55 (by decide +kernel) ?_
            refine kJi (wr := [(k6, .inr (0, [.ref k60, .ref k61, .ref k62, .ref k63, .ref k64, .int c65])), (k00, .inl (cI, 12, .inl c00)), (k60, .inl (cI, 41, .inl c60)), (k61, .inl (cI, 41, .inl c61)), (k62, .inl (cI, 60, .inl c62)), (k63, .inl (cI, 60, .inl c63)), (k64, .inl (cI, 60, .inl c64)), (ka1, .inl (cI, 4, .inl ca1)), (ka2, .inl (cI, 144, .inl ca2)), (k041, .inl (cI, 60, .inl c041)), (k043, .inl (cI, 60, .inl c043)), (k045, .inl (cI, 60, .inl c045)), (k046, .inl (cI, 40, .inl c046)), (k0, .inr (9, [.ref k00, .ref k01, .ref k02, .ref k03, .ref k04, .ref k05, .int c06, .int c07, .int c08])), (k04, .inr (8, [.ref k040, .ref k041, .ref k042, .ref k043, .ref k044, .ref k045, .ref k046, .ref k047, .ref k048, .int c049])), (k040, .inl (cI, 60, .inl c040)), (ka, .inr (6, [.ref ka0, .ref ka1, .ref ka2])), (ka0, .inl (cI, 4, .inl ca0))]) (va_runV (As := [.int 2]) (rest := []) ⟨hx, hb, hml, hown, hT⟩ (c_X10_findingG l D cI aK aV k k0 k1 k2 k3 k4 k5 k6 k7 k8 k9 ka kb H.size cc cb 2) (cwV 1 hT (gV_in mw_338 mw_335 mw_337 mw_p1_0 mw_1) rfl rfl rfl (by decide +kernel) ⟨Nat.le_of_ble_eq_true rfl, Nat.le_of_ble_eq_true rfl⟩) (kRecvX (q0 := 14) (ci := 10) hK hP hD hN hXS hS hA rfl rfl [14, 1] rfl (by decide +kernel)) rfl rfl hl.1 rfl (lv_room (Nat.le_of_ble_eq_true rfl)) dX10_slip_56 ⟨Nat.le_of_ble_eq_true rfl, Nat.le_of_ble_eq_true rfl⟩) hP hD hS hA [14, 1] [0, 2, 3, 4, 5, 6, 7, 8, 9, 10, 11, 12, 13, 15, 16, 17, 18, 19] rfl rfl (by decide +kernel) (by decide +kernel) ?_
            clear hP hD hS
            intro r_31 scb_33 H locs w_32 hP hD hS
            replace hP : va_P D vwCl [(k6, .inr (0, [.ref k60, .ref k61, .ref k62, .ref k63, .ref k64, .int c65])), (k00, .inl (cI, 12, .inl c00)), (k60, .inl (cI, 41, .inl c60)), (k61, .inl (cI, 41, .inl c61)), (k62, .inl (cI, 60, .inl c62)), (k63, .inl (cI, 60, .inl c63)), (k64, .inl (cI, 60, .inl c64)), (ka1, .inl (cI, 4, .inl ca1)), (ka2, .inl (cI, 144, .inl ca2)), (k041, .inl (cI, 60, .inl c041)), (k043, .inl (cI, 60, .inl c043)), (k045, .inl (cI, 60, .inl c045)), (k046, .inl (cI, 40, .inl c046)), (k0, .inr (9, [.ref k00, .ref k01, .ref k02, .ref k03, .ref k04, .ref k05, .int c06, .int c07, .int c08])), (k04, .inr (8, [.ref k040, .ref k041, .ref k042, .ref k043, .ref k044, .ref k045, .ref k046, .ref k047, .ref k048, .int c049])), (k040, .inl (cI, 60, .inl c040)), (ka, .inr (6, [.ref ka0, .ref ka1, .ref ka2])), (ka0, .inl (cI, 4, .inl ca0)), (k, .inr (10, [.ref k0, .ref k1, .ref k2, .ref k3, .ref k4, .ref k5, .ref k6, .ref k7, .ref k8, .ref k9, .ref ka, .ref kb, .int cc])), (kb, .inl (cI, 6, .inl scb_33))] H := hP
            replace hD : va_D A [(k6, .inr (0, [.ref k60, .ref k61, .ref k62, .ref k63, .ref k64, .int c65])), (k00, .inl (cI, 12, .inl c00)), (k60, .inl (cI, 41, .inl c60)), (k61, .inl (cI, 41, .inl c61)), (k62, .inl (cI, 60, .inl c62)), (k63, .inl (cI, 60, .inl c63)), (k64, .inl (cI, 60, .inl c64)), (ka1, .inl (cI, 4, .inl ca1)), (ka2, .inl (cI, 144, .inl ca2)), (k041, .inl (cI, 60, .inl c041)), (k043, .inl (cI, 60, .inl c043)), (k045, .inl (cI, 60, .inl c045)), (k046, .inl (cI, 40, .inl c046)), (k0, .inr (9, [.ref k00, .ref k01, .ref k02, .ref k03, .ref k04, .ref k05, .int c06, .int c07, .int c08])), (k04, .inr (8, [.ref k040, .ref k041, .ref k042, .ref k043, .ref k044, .ref k045, .ref k046, .ref k047, .ref k048, .int c049])), (k040, .inl (cI, 60, .inl c040)), (ka, .inr (6, [.ref ka0, .ref ka1, .ref ka2])), (ka0, .inl (cI, 4, .inl ca0)), (k, .inr (10, [.ref k0, .ref k1, .ref k2, .ref k3, .ref k4, .ref k5, .ref k6, .ref k7, .ref k8, .ref k9, .ref ka, .ref kb, .int cc])), (kb, .inl (cI, 6, .inl scb_33))] := hD
            have hr_31 := w_32
            obtain rfl : r_31 = (-1000002) := hr_31.trans (by decide +kernel)
            exact hRet (c65, scb_33, c60, c61, c62, c63, c64) [18, 13, 0, 16, 19, 1, 14, 2, 3, 4, 5, 6, 17, 7, 8, 15, 9, 10, 11, 12] trivial hP hD (by decide +kernel) rfl hS rfl dX10_slip_59
          · have h_26 : 0 ≤ a0.toInt := h_26
            have h_27 : a0.toInt ≤ 3 := h_27
            have h_28 : (ca0 a0.toNatClampNeg).toInt ≠ 0 := h_28
            obtain rfl : r_20 = 0 := hr_20.trans (by decide +kernel)
            refine b_if_eq hx hb zl_0 (tgt := 60) dX10_slip_51 (by decide +kernel) (fun c_34 => ?_) (fun c_34 => by exfalso; omega)
            refine lv_aload_n hx hb dX10_slip_60 rfl (lv_at hl 0 rfl) ?_
            refine va_get (D := D) (ci := 10) (v := .ref k6) (C := RX10) (T := TX10) (N := 13) hx hb hT giX10 hown hK hP 14 rfl rfl 6 (by decide +kernel) (hT (Cond.fieldLink RX10 42 "DesertWire" "words" "LDesertWire$Hands;") mw_297) (fun _ h9 => h9) rfl dX10_slip_61 ?_
            refine lv_aload_n hx hb dX10_slip_64 rfl (lv_at hl 0 rfl) ?_
            refine va_get (D := D) (ci := 10) (v := .ref k0) (C := RX10) (T := TX10) (N := 13) hx hb hT giX10 hown hK hP 14 rfl rfl 0 (by decide +kernel) (hT (Cond.fieldLink RX10 12 "DesertWire" "now" "LDesertWire$World;") mw_291) (fun _ h9 => h9) rfl dX10_slip_65 ?_
            refine lv_iload_n hx hb dX10_slip_68 rfl (lv_at hl 2 rfl) ?_
            refine lv_iload_n hx hb dX10_slip_69 rfl (lv_at hl 3 rfl) ?_
            refine kJi (wr := [(kb, .inl (cI, 6, .inl cb)), (ka1, .inl (cI, 4, .inl ca1)), (ka2, .inl (cI, 144, .inl ca2)), (k, .inr (10, [.ref k0, .ref k1, .ref k2, .ref k3, .ref k4, .ref k5, .ref k6, .ref k7, .ref k8, .ref k9, .ref ka, .ref kb, .int cc])), (ka, .inr (6, [.ref ka0, .ref ka1, .ref ka2])), (ka0, .inl (cI, 4, .inl ca0))]) (va_runV (As := [.ref k0, .int a1, .int a2]) (rest := []) ⟨hx, hb, hml, hown, hT⟩ (c_X0_findG l D cI aK aV k6 k0 k60 k61 k62 k63 k64 k00 k01 k02 k03 k04 k05 k040 k041 k042 k043 k044 k045 k046 k047 k048 H.size c65 c60 c61 c62 c63 c64 c06 c07 c08 c00 c049 c040 c041 c043 c045 c046 a1 a2) (cwV 3 hT (gV_in mw_790 mw_787 mw_788 mw_789 mw_7) rfl rfl rfl (by decide +kernel) ⟨Nat.le_of_ble_eq_true rfl, Nat.le_of_ble_eq_true rfl⟩) (kRecvX (q0 := 0) (ci := 0) hK hP hD hN hXS hS hA rfl rfl [0, 3, 4, 5, 6, 7, 15, 2, 16, 17, 10, 11, 12, 13] rfl (by decide +kernel)) rfl rfl hl.1 rfl (lv_room (Nat.le_of_ble_eq_true rfl)) dX10_slip_70 ⟨Nat.le_of_ble_eq_true rfl, Nat.le_of_ble_eq_true rfl⟩) hP hD hS hA [0, 3, 4, 5, 6, 7, 15, 2, 16, 17, 10, 11, 12, 13] [1, 8, 9, 14, 18, 19] rfl rfl (by decide +kernel) (by decide +kernel) ?_
            clear hP hD hS
            intro r_35 u_43 H locs w_36 hP hD hS
            obtain ⟨sc5_37, sc0_38, sc1_39, sc2_40, sc3_41, sc4_42⟩ := u_43
            replace hP : va_P D vwCl [(kb, .inl (cI, 6, .inl cb)), (ka1, .inl (cI, 4, .inl ca1)), (ka2, .inl (cI, 144, .inl ca2)), (k, .inr (10, [.ref k0, .ref k1, .ref k2, .ref k3, .ref k4, .ref k5, .ref k6, .ref k7, .ref k8, .ref k9, .ref ka, .ref kb, .int cc])), (ka, .inr (6, [.ref ka0, .ref ka1, .ref ka2])), (ka0, .inl (cI, 4, .inl ca0)), (k6, .inr (0, [.ref k60, .ref k61, .ref k62, .ref k63, .ref k64, .int sc5_37])), (k60, .inl (cI, 41, .inl sc0_38)), (k61, .inl (cI, 41, .inl sc1_39)), (k62, .inl (cI, 60, .inl sc2_40)), (k63, .inl (cI, 60, .inl sc3_41)), (k64, .inl (cI, 60, .inl sc4_42)), (k0, .inr (9, [.ref k00, .ref k01, .ref k02, .ref k03, .ref k04, .ref k05, .int c06, .int c07, .int c08])), (k00, .inl (cI, 12, .inl c00)), (k04, .inr (8, [.ref k040, .ref k041, .ref k042, .ref k043, .ref k044, .ref k045, .ref k046, .ref k047, .ref k048, .int c049])), (k040, .inl (cI, 60, .inl c040)), (k041, .inl (cI, 60, .inl c041)), (k043, .inl (cI, 60, .inl c043)), (k045, .inl (cI, 60, .inl c045)), (k046, .inl (cI, 40, .inl c046))] H := hP
            replace hD : va_D A [(kb, .inl (cI, 6, .inl cb)), (ka1, .inl (cI, 4, .inl ca1)), (ka2, .inl (cI, 144, .inl ca2)), (k, .inr (10, [.ref k0, .ref k1, .ref k2, .ref k3, .ref k4, .ref k5, .ref k6, .ref k7, .ref k8, .ref k9, .ref ka, .ref kb, .int cc])), (ka, .inr (6, [.ref ka0, .ref ka1, .ref ka2])), (ka0, .inl (cI, 4, .inl ca0)), (k6, .inr (0, [.ref k60, .ref k61, .ref k62, .ref k63, .ref k64, .int sc5_37])), (k60, .inl (cI, 41, .inl sc0_38)), (k61, .inl (cI, 41, .inl sc1_39)), (k62, .inl (cI, 60, .inl sc2_40)), (k63, .inl (cI, 60, .inl sc3_41)), (k64, .inl (cI, 60, .inl sc4_42)), (k0, .inr (9, [.ref k00, .ref k01, .ref k02, .ref k03, .ref k04, .ref k05, .int c06, .int c07, .int c08])), (k00, .inl (cI, 12, .inl c00)), (k04, .inr (8, [.ref k040, .ref k041, .ref k042, .ref k043, .ref k044, .ref k045, .ref k046, .ref k047, .ref k048, .int c049])), (k040, .inl (cI, 60, .inl c040)), (k041, .inl (cI, 60, .inl c041)), (k043, .inl (cI, 60, .inl c043)), (k045, .inl (cI, 60, .inl c045)), (k046, .inl (cI, 40, .inl c046))] := hD
            have lo_r_35 := k_lo r_35
            have hi_r_35 := k_hi r_35
            refine lv_istore (lv' := [(5, .int r_35), (0, .ref k), (1, .int a0), (2, .int a1), (3, .int a2), (4, .int a3)]) hx hb dX10_slip_73 hl (by decide +kernel) rfl ?_
            clear hl
            intro ls hl
            refine lv_aload_n hx hb dX10_slip_75 rfl (lv_at hl 1 rfl) ?_
            refine lv_iload_n hx hb dX10_slip_76 rfl (lv_at hl 2 rfl) ?_
            refine lv_iload hx hb dX10_slip_77 (lv_at hl 5 rfl) ?_
            refine kJi (wr := [(kb, .inl (cI, 6, .inl cb)), (ka0, .inl (cI, 4, .inl ca0)), (k6, .inr (0, [.ref k60, .ref k61, .ref k62, .ref k63, .ref k64, .int sc5_37])), (k60, .inl (cI, 41, .inl sc0_38)), (k61, .inl (cI, 41, .inl sc1_39)), (k62, .inl (cI, 60, .inl sc2_40)), (k63, .inl (cI, 60, .inl sc3_41)), (k64, .inl (cI, 60, .inl sc4_42)), (k0, .inr (9, [.ref k00, .ref k01, .ref k02, .ref k03, .ref k04, .ref k05, .int c06, .int c07, .int c08])), (k00, .inl (cI, 12, .inl c00)), (k04, .inr (8, [.ref k040, .ref k041, .ref k042, .ref k043, .ref k044, .ref k045, .ref k046, .ref k047, .ref k048, .int c049])), (k040, .inl (cI, 60, .inl c040)), (k041, .inl (cI, 60, .inl c041)), (k043, .inl (cI, 60, .inl c043)), (k045, .inl (cI, 60, .inl c045)), (k046, .inl (cI, 40, .inl c046))]) (va_runV (As := [.int a0, .int a3]) (rest := []) ⟨hx, hb, hml, hown, hT⟩ (c_X10_slipOnG l D cI aK aV k k0 k1 k2 k3 k4 k5 k6 k7 k8 k9 ka kb ka0 ka1 ka2 H.size cc ca1 ca2 a0 a3 (by first | omega | decide | assumption | rfl)) (cwV 2 hT (gV_in mw_822 mw_819 mw_821 mw_p2_7 mw_1) rfl rfl rfl (by decide +kernel) ⟨Nat.le_of_ble_eq_true rfl, Nat.le_of_ble_eq_true rfl⟩) (kRecvX (q0 := 3) (ci := 10) hK hP hD hN hXS hS hA rfl rfl [3, 4, 1, 2] rfl (by decide +kernel)) rfl rfl hl.1 rfl (lv_room (Nat.le_of_ble_eq_true rfl)) dX10_slip_79 ⟨Nat.le_of_ble_eq_true rfl, Nat.le_of_ble_eq_true rfl⟩) hP hD hS hA [3, 4, 1, 2] [0, 5, 6, 7, 8, 9, 10, 11, 12, 13, 14, 15, 16, 17, 18, 19] rfl rfl (by decide +kernel) (by decide +kernel) ?_
            clear hP hD hS
            intro r_44 u_46 H locs w_45 hP hD hS
            replace hP : va_P D vwCl [(kb, .inl (cI, 6, .inl cb)), (ka0, .inl (cI, 4, .inl ca0)), (k6, .inr (0, [.ref k60, .ref k61, .ref k62, .ref k63, .ref k64, .int sc5_37])), (k60, .inl (cI, 41, .inl sc0_38)), (k61, .inl (cI, 41, .inl sc1_39)), (k62, .inl (cI, 60, .inl sc2_40)), (k63, .inl (cI, 60, .inl sc3_41)), (k64, .inl (cI, 60, .inl sc4_42)), (k0, .inr (9, [.ref k00, .ref k01, .ref k02, .ref k03, .ref k04, .ref k05, .int c06, .int c07, .int c08])), (k00, .inl (cI, 12, .inl c00)), (k04, .inr (8, [.ref k040, .ref k041, .ref k042, .ref k043, .ref k044, .ref k045, .ref k046, .ref k047, .ref k048, .int c049])), (k040, .inl (cI, 60, .inl c040)), (k041, .inl (cI, 60, .inl c041)), (k043, .inl (cI, 60, .inl c043)), (k045, .inl (cI, 60, .inl c045)), (k046, .inl (cI, 40, .inl c046)), (k, .inr (10, [.ref k0, .ref k1, .ref k2, .ref k3, .ref k4, .ref k5, .ref k6, .ref k7, .ref k8, .ref k9, .ref ka, .ref kb, .int cc])), (ka, .inr (6, [.ref ka0, .ref ka1, .ref ka2])), (ka1, .inl (cI, 4, .inl ca1)), (ka2, .inl (cI, 144, .inl ca2))] H := hP
            replace hD : va_D A [(kb, .inl (cI, 6, .inl cb)), (ka0, .inl (cI, 4, .inl ca0)), (k6, .inr (0, [.ref k60, .ref k61, .ref k62, .ref k63, .ref k64, .int sc5_37])), (k60, .inl (cI, 41, .inl sc0_38)), (k61, .inl (cI, 41, .inl sc1_39)), (k62, .inl (cI, 60, .inl sc2_40)), (k63, .inl (cI, 60, .inl sc3_41)), (k64, .inl (cI, 60, .inl sc4_42)), (k0, .inr (9, [.ref k00, .ref k01, .ref k02, .ref k03, .ref k04, .ref k05, .int c06, .int c07, .int c08])), (k00, .inl (cI, 12, .inl c00)), (k04, .inr (8, [.ref k040, .ref k041, .ref k042, .ref k043, .ref k044, .ref k045, .ref k046, .ref k047, .ref k048, .int c049])), (k040, .inl (cI, 60, .inl c040)), (k041, .inl (cI, 60, .inl c041)), (k043, .inl (cI, 60, .inl c043)), (k045, .inl (cI, 60, .inl c045)), (k046, .inl (cI, 40, .inl c046)), (k, .inr (10, [.ref k0, .ref k1, .ref k2, .ref k3, .ref k4, .ref k5, .ref k6, .ref k7, .ref k8, .ref k9, .ref ka, .ref kb, .int cc])), (ka, .inr (6, [.ref ka0, .ref ka1, .ref ka2])), (ka1, .inl (cI, 4, .inl ca1)), (ka2, .inl (cI, 144, .inl ca2))] := hD
            have lo_r_44 := k_lo r_44
            have hi_r_44 := k_hi r_44
            refine lv_istore (lv' := [(6, .int r_44), (5, .int r_35), (0, .ref k), (1, .int a0), (2, .int a1), (3, .int a2), (4, .int a3)]) hx hb dX10_slip_82 hl (by decide +kernel) rfl ?_
            clear hl
            intro ls hl
            refine lv_iload hx hb dX10_slip_84 (lv_at hl 1 rfl) ?_
            refine b_if_eq hx hb rfl (tgt := 94) dX10_slip_86 (by decide +kernel) (fun c_47 => ?_) (fun c_47 => ?_)
            · refine lv_aload_n hx hb dX10_slip_94 rfl (lv_at hl 2 rfl) ?_
              refine lv_iconst (v := 2) hx hb dX10_slip_95 (by decide +kernel) ?_
              refine kJi (wr := [(ka0, .inl (cI, 4, .inl ca0)), (k6, .inr (0, [.ref k60, .ref k61, .ref k62, .ref k63, .ref k64, .int sc5_37])), (k60, .inl (cI, 41, .inl sc0_38)), (k61, .inl (cI, 41, .inl sc1_39)), (k62, .inl (cI, 60, .inl sc2_40)), (k63, .inl (cI, 60, .inl sc3_41)), (k64, .inl (cI, 60, .inl sc4_42)), (k0, .inr (9, [.ref k00, .ref k01, .ref k02, .ref k03, .ref k04, .ref k05, .int c06, .int c07, .int c08])), (k00, .inl (cI, 12, .inl c00)), (k04, .inr (8, [.ref k040, .ref k041, .ref k042, .ref k043, .ref k044, .ref k045, .ref k046, .ref k047, .ref k048, .int c049])), (k040, .inl (cI, 60, .inl c040)), (k041, .inl (cI, 60, .inl c041)), (k043, .inl (cI, 60, .inl c043)), (k045, .inl (cI, 60, .inl c045)), (k046, .inl (cI, 40, .inl c046)), (ka, .inr (6, [.ref ka0, .ref ka1, .ref ka2])), (ka1, .inl (cI, 4, .inl ca1)), (ka2, .inl (cI, 144, .inl ca2))]) (va_runV (As := [.int 2]) (rest := []) ⟨hx, hb, hml, hown, hT⟩ (c_X10_findingG l D cI aK aV k k0 k1 k2 k3 k4 k5 k6 k7 k8 k9 ka kb H.size cc cb 2) (cwV 1 hT (gV_in mw_338 mw_335 mw_337 mw_p1_0 mw_1) rfl rfl rfl (by decide +kernel) ⟨Nat.le_of_ble_eq_true rfl, Nat.le_of_ble_eq_true rfl⟩) (kRecvX (q0 := 16) (ci := 10) hK hP hD hN hXS hS hA rfl rfl [16, 0] rfl (by decide +kernel)) rfl rfl hl.1 rfl (lv_room (Nat.le_of_ble_eq_true rfl)) dX10_slip_96 ⟨Nat.le_of_ble_eq_true rfl, Nat.le_of_ble_eq_true rfl⟩) hP hD hS hA [16, 0] [1, 2, 3, 4, 5, 6, 7, 8, 9, 10, 11, 12, 13, 14, 15, 17, 18, 19] rfl rfl (by decide +kernel) (by decide +kernel) ?_
              clear hP hD hS
              intro r_48 scb_50 H locs w_49 hP hD hS
              replace hP : va_P D vwCl [(ka0, .inl (cI, 4, .inl ca0)), (k6, .inr (0, [.ref k60, .ref k61, .ref k62, .ref k63, .ref k64, .int sc5_37])), (k60, .inl (cI, 41, .inl sc0_38)), (k61, .inl (cI, 41, .inl sc1_39)), (k62, .inl (cI, 60, .inl sc2_40)), (k63, .inl (cI, 60, .inl sc3_41)), (k64, .inl (cI, 60, .inl sc4_42)), (k0, .inr (9, [.ref k00, .ref k01, .ref k02, .ref k03, .ref k04, .ref k05, .int c06, .int c07, .int c08])), (k00, .inl (cI, 12, .inl c00)), (k04, .inr (8, [.ref k040, .ref k041, .ref k042, .ref k043, .ref k044, .ref k045, .ref k046, .ref k047, .ref k048, .int c049])), (k040, .inl (cI, 60, .inl c040)), (k041, .inl (cI, 60, .inl c041)), (k043, .inl (cI, 60, .inl c043)), (k045, .inl (cI, 60, .inl c045)), (k046, .inl (cI, 40, .inl c046)), (ka, .inr (6, [.ref ka0, .ref ka1, .ref ka2])), (ka1, .inl (cI, 4, .inl ca1)), (ka2, .inl (cI, 144, .inl ca2)), (k, .inr (10, [.ref k0, .ref k1, .ref k2, .ref k3, .ref k4, .ref k5, .ref k6, .ref k7, .ref k8, .ref k9, .ref ka, .ref kb, .int cc])), (kb, .inl (cI, 6, .inl scb_50))] H := hP
              replace hD : va_D A [(ka0, .inl (cI, 4, .inl ca0)), (k6, .inr (0, [.ref k60, .ref k61, .ref k62, .ref k63, .ref k64, .int sc5_37])), (k60, .inl (cI, 41, .inl sc0_38)), (k61, .inl (cI, 41, .inl sc1_39)), (k62, .inl (cI, 60, .inl sc2_40)), (k63, .inl (cI, 60, .inl sc3_41)), (k64, .inl (cI, 60, .inl sc4_42)), (k0, .inr (9, [.ref k00, .ref k01, .ref k02, .ref k03, .ref k04, .ref k05, .int c06, .int c07, .int c08])), (k00, .inl (cI, 12, .inl c00)), (k04, .inr (8, [.ref k040, .ref k041, .ref k042, .ref k043, .ref k044, .ref k045, .ref k046, .ref k047, .ref k048, .int c049])), (k040, .inl (cI, 60, .inl c040)), (k041, .inl (cI, 60, .inl c041)), (k043, .inl (cI, 60, .inl c043)), (k045, .inl (cI, 60, .inl c045)), (k046, .inl (cI, 40, .inl c046)), (ka, .inr (6, [.ref ka0, .ref ka1, .ref ka2])), (ka1, .inl (cI, 4, .inl ca1)), (ka2, .inl (cI, 144, .inl ca2)), (k, .inr (10, [.ref k0, .ref k1, .ref k2, .ref k3, .ref k4, .ref k5, .ref k6, .ref k7, .ref k8, .ref k9, .ref ka, .ref kb, .int cc])), (kb, .inl (cI, 6, .inl scb_50))] := hD
              have hr_48 := w_49
              obtain rfl : r_48 = (-1000002) := hr_48.trans (by decide +kernel)
              exact hRet (sc5_37, scb_50, sc0_38, sc1_39, sc2_40, sc3_41, sc4_42) [18, 7, 1, 15, 19, 8, 9, 2, 3, 4, 5, 6, 0, 16, 17, 10, 11, 12, 13, 14] trivial hP hD (by decide +kernel) rfl hS rfl dX10_slip_99
            · refine lv_iload hx hb dX10_slip_89 (lv_at hl 0 rfl) ?_
              refine b_if_ge hx hb rfl (tgt := 100) dX10_slip_91 (by decide +kernel) (fun c_51 => ?_) (fun c_51 => ?_)
              · refine lv_aload_n hx hb dX10_slip_100 rfl (lv_at hl 2 rfl) ?_
                refine va_get (D := D) (ci := 10) (v := .ref ka) (C := RX10) (T := TX10) (N := 13) hx hb hT giX10 hown hK hP 16 rfl rfl 10 (by decide +kernel) (hT (Cond.fieldLink RX10 70 "DesertWire" "sheets" "LDesertWire$Sheets;") mw_301) (fun _ h9 => h9) rfl dX10_slip_101 ?_
                refine lv_iload_n hx hb dX10_slip_104 rfl (lv_at hl 3 rfl) ?_
                refine kJi (wr := [(kb, .inl (cI, 6, .inl cb)), (ka0, .inl (cI, 4, .inl ca0)), (k6, .inr (0, [.ref k60, .ref k61, .ref k62, .ref k63, .ref k64, .int sc5_37])), (k60, .inl (cI, 41, .inl sc0_38)), (k61, .inl (cI, 41, .inl sc1_39)), (k62, .inl (cI, 60, .inl sc2_40)), (k63, .inl (cI, 60, .inl sc3_41)), (k64, .inl (cI, 60, .inl sc4_42)), (k0, .inr (9, [.ref k00, .ref k01, .ref k02, .ref k03, .ref k04, .ref k05, .int c06, .int c07, .int c08])), (k00, .inl (cI, 12, .inl c00)), (k04, .inr (8, [.ref k040, .ref k041, .ref k042, .ref k043, .ref k044, .ref k045, .ref k046, .ref k047, .ref k048, .int c049])), (k040, .inl (cI, 60, .inl c040)), (k041, .inl (cI, 60, .inl c041)), (k043, .inl (cI, 60, .inl c043)), (k045, .inl (cI, 60, .inl c045)), (k046, .inl (cI, 40, .inl c046)), (k, .inr (10, [.ref k0, .ref k1, .ref k2, .ref k3, .ref k4, .ref k5, .ref k6, .ref k7, .ref k8, .ref k9, .ref ka, .ref kb, .int cc])), (ka2, .inl (cI, 144, .inl ca2))]) (va_runV (As := [.int a0]) (rest := []) ⟨hx, hb, hml, hown, hT⟩ (c_X6_lengthOfG l D cI aK aV ka ka0 ka1 ka2 H.size ca1 a0 (by first | omega | decide | assumption | rfl)) (cwV 1 hT (gV_in mw_675 mw_672 mw_673 mw_674 mw_11) rfl rfl rfl (by decide +kernel) ⟨Nat.le_of_ble_eq_true rfl, Nat.le_of_ble_eq_true rfl⟩) (kRecvX (q0 := 17) (ci := 6) hK hP hD hN hXS hS hA rfl rfl [17, 18] rfl (by decide +kernel)) rfl rfl hl.1 rfl (lv_room (Nat.le_of_ble_eq_true rfl)) dX10_slip_105 ⟨Nat.le_of_ble_eq_true rfl, Nat.le_of_ble_eq_true rfl⟩) hP hD hS hA [17, 18] [0, 1, 2, 3, 4, 5, 6, 7, 8, 9, 10, 11, 12, 13, 14, 15, 16, 19] rfl rfl (by decide +kernel) (by decide +kernel) ?_
                clear hP hD hS
                intro r_52 u_54 H locs w_53 hP hD hS
                replace hP : va_P D vwCl [(kb, .inl (cI, 6, .inl cb)), (ka0, .inl (cI, 4, .inl ca0)), (k6, .inr (0, [.ref k60, .ref k61, .ref k62, .ref k63, .ref k64, .int sc5_37])), (k60, .inl (cI, 41, .inl sc0_38)), (k61, .inl (cI, 41, .inl sc1_39)), (k62, .inl (cI, 60, .inl sc2_40)), (k63, .inl (cI, 60, .inl sc3_41)), (k64, .inl (cI, 60, .inl sc4_42)), (k0, .inr (9, [.ref k00, .ref k01, .ref k02, .ref k03, .ref k04, .ref k05, .int c06, .int c07, .int c08])), (k00, .inl (cI, 12, .inl c00)), (k04, .inr (8, [.ref k040, .ref k041, .ref k042, .ref k043, .ref k044, .ref k045, .ref k046, .ref k047, .ref k048, .int c049])), (k040, .inl (cI, 60, .inl c040)), (k041, .inl (cI, 60, .inl c041)), (k043, .inl (cI, 60, .inl c043)), (k045, .inl (cI, 60, .inl c045)), (k046, .inl (cI, 40, .inl c046)), (k, .inr (10, [.ref k0, .ref k1, .ref k2, .ref k3, .ref k4, .ref k5, .ref k6, .ref k7, .ref k8, .ref k9, .ref ka, .ref kb, .int cc])), (ka2, .inl (cI, 144, .inl ca2)), (ka, .inr (6, [.ref ka0, .ref ka1, .ref ka2])), (ka1, .inl (cI, 4, .inl ca1))] H := hP
                replace hD : va_D A [(kb, .inl (cI, 6, .inl cb)), (ka0, .inl (cI, 4, .inl ca0)), (k6, .inr (0, [.ref k60, .ref k61, .ref k62, .ref k63, .ref k64, .int sc5_37])), (k60, .inl (cI, 41, .inl sc0_38)), (k61, .inl (cI, 41, .inl sc1_39)), (k62, .inl (cI, 60, .inl sc2_40)), (k63, .inl (cI, 60, .inl sc3_41)), (k64, .inl (cI, 60, .inl sc4_42)), (k0, .inr (9, [.ref k00, .ref k01, .ref k02, .ref k03, .ref k04, .ref k05, .int c06, .int c07, .int c08])), (k00, .inl (cI, 12, .inl c00)), (k04, .inr (8, [.ref k040, .ref k041, .ref k042, .ref k043, .ref k044, .ref k045, .ref k046, .ref k047, .ref k048, .int c049])), (k040, .inl (cI, 60, .inl c040)), (k041, .inl (cI, 60, .inl c041)), (k043, .inl (cI, 60, .inl c043)), (k045, .inl (cI, 60, .inl c045)), (k046, .inl (cI, 40, .inl c046)), (k, .inr (10, [.ref k0, .ref k1, .ref k2, .ref k3, .ref k4, .ref k5, .ref k6, .ref k7, .ref k8, .ref k9, .ref ka, .ref kb, .int cc])), (ka2, .inl (cI, 144, .inl ca2)), (ka, .inr (6, [.ref ka0, .ref ka1, .ref ka2])), (ka1, .inl (cI, 4, .inl ca1))] := hD
                rcases w_53 with ⟨h_55, h_56, h_57, h_58, h_59⟩ | ⟨hr_52, h_60⟩
                · have h_55 : 0 ≤ a0.toInt := h_55
                  have h_56 : a0.toInt ≤ 3 := h_56
                  have h_57 : 0 ≤ r_52.toInt := h_57
                  have h_58 : r_52.toInt ≤ 36 := h_58
                  have h_59 : r_52.toInt = (ca1 a0.toNatClampNeg).toInt := h_59
                  have lo_r_52 := k_lo r_52
                  have hi_r_52 := k_hi r_52
                  refine lv_iload hx hb dX10_slip_108 (lv_at hl 1 rfl) ?_
                  refine b_icmp_eq hx hb rfl rfl (tgt := 119) dX10_slip_110 (by decide +kernel) (fun c_61 => ?_) (fun c_61 => ?_)
                  · refine lv_iload hx hb dX10_slip_119 (lv_at hl 0 rfl) ?_
                    exact hRet (sc5_37, cb, sc0_38, sc1_39, sc2_40, sc3_41, sc4_42) [16, 8, 2, 18, 0, 9, 10, 3, 4, 5, 6, 7, 1, 19, 17, 11, 12, 13, 14, 15] trivial hP hD (by decide +kernel) rfl hS rfl dX10_slip_121
                  · refine lv_aload_n hx hb dX10_slip_113 rfl (lv_at hl 2 rfl) ?_
                    refine lv_iconst (v := 3) hx hb dX10_slip_114 (by decide +kernel) ?_
                    refine kJi (wr := [(ka0, .inl (cI, 4, .inl ca0)), (k6, .inr (0, [.ref k60, .ref k61, .ref k62, .ref k63, .ref k64, .int sc5_37])), (k60, .inl (cI, 41, .inl sc0_38)), (k61, .inl (cI, 41, .inl sc1_39)), (k62, .inl (cI, 60, .inl sc2_40)), (k63, .inl (cI, 60, .inl sc3_41)), (k64, .inl (cI, 60, .inl sc4_42)), (k0, .inr (9, [.ref k00, .ref k01, .ref k02, .ref k03, .ref k04, .ref k05, .int c06, .int c07, .int c08])), (k00, .inl (cI, 12, .inl c00)), (k04, .inr (8, [.ref k040, .ref k041, .ref k042, .ref k043, .ref k044, .ref k045, .ref k046, .ref k047, .ref k048, .int c049])), (k040, .inl (cI, 60, .inl c040)), (k041, .inl (cI, 60, .inl c041)), (k043, .inl (cI, 60, .inl c043)), (k045, .inl (cI, 60, .inl c045)), (k046, .inl (cI, 40, .inl c046)), (ka2, .inl (cI, 144, .inl ca2)), (ka, .inr (6, [.ref ka0, .ref ka1, .ref ka2])), (ka1, .inl (cI, 4, .inl ca1))]) (va_runV (As := [.int 3]) (rest := []) ⟨hx, hb, hml, hown, hT⟩ (c_X10_findingG l D cI aK aV k k0 k1 k2 k3 k4 k5 k6 k7 k8 k9 ka kb H.size cc cb 3) (cwV 1 hT (gV_in mw_338 mw_335 mw_337 mw_p1_0 mw_1) rfl rfl rfl (by decide +kernel) ⟨Nat.le_of_ble_eq_true rfl, Nat.le_of_ble_eq_true rfl⟩) (kRecvX (q0 := 16) (ci := 10) hK hP hD hN hXS hS hA rfl rfl [16, 0] rfl (by decide +kernel)) rfl rfl hl.1 rfl (lv_room (Nat.le_of_ble_eq_true rfl)) dX10_slip_115 ⟨Nat.le_of_ble_eq_true rfl, Nat.le_of_ble_eq_true rfl⟩) hP hD hS hA [16, 0] [1, 2, 3, 4, 5, 6, 7, 8, 9, 10, 11, 12, 13, 14, 15, 17, 18, 19] rfl rfl (by decide +kernel) (by decide +kernel) ?_
                    clear hP hD hS
                    intro r_62 scb_64 H locs w_63 hP hD hS
                    replace hP : va_P D vwCl [(ka0, .inl (cI, 4, .inl ca0)), (k6, .inr (0, [.ref k60, .ref k61, .ref k62, .ref k63, .ref k64, .int sc5_37])), (k60, .inl (cI, 41, .inl sc0_38)), (k61, .inl (cI, 41, .inl sc1_39)), (k62, .inl (cI, 60, .inl sc2_40)), (k63, .inl (cI, 60, .inl sc3_41)), (k64, .inl (cI, 60, .inl sc4_42)), (k0, .inr (9, [.ref k00, .ref k01, .ref k02, .ref k03, .ref k04, .ref k05, .int c06, .int c07, .int c08])), (k00, .inl (cI, 12, .inl c00)), (k04, .inr (8, [.ref k040, .ref k041, .ref k042, .ref k043, .ref k044, .ref k045, .ref k046, .ref k047, .ref k048, .int c049])), (k040, .inl (cI, 60, .inl c040)), (k041, .inl (cI, 60, .inl c041)), (k043, .inl (cI, 60, .inl c043)), (k045, .inl (cI, 60, .inl c045)), (k046, .inl (cI, 40, .inl c046)), (ka2, .inl (cI, 144, .inl ca2)), (ka, .inr (6, [.ref ka0, .ref ka1, .ref ka2])), (ka1, .inl (cI, 4, .inl ca1)), (k, .inr (10, [.ref k0, .ref k1, .ref k2, .ref k3, .ref k4, .ref k5, .ref k6, .ref k7, .ref k8, .ref k9, .ref ka, .ref kb, .int cc])), (kb, .inl (cI, 6, .inl scb_64))] H := hP
                    replace hD : va_D A [(ka0, .inl (cI, 4, .inl ca0)), (k6, .inr (0, [.ref k60, .ref k61, .ref k62, .ref k63, .ref k64, .int sc5_37])), (k60, .inl (cI, 41, .inl sc0_38)), (k61, .inl (cI, 41, .inl sc1_39)), (k62, .inl (cI, 60, .inl sc2_40)), (k63, .inl (cI, 60, .inl sc3_41)), (k64, .inl (cI, 60, .inl sc4_42)), (k0, .inr (9, [.ref k00, .ref k01, .ref k02, .ref k03, .ref k04, .ref k05, .int c06, .int c07, .int c08])), (k00, .inl (cI, 12, .inl c00)), (k04, .inr (8, [.ref k040, .ref k041, .ref k042, .ref k043, .ref k044, .ref k045, .ref k046, .ref k047, .ref k048, .int c049])), (k040, .inl (cI, 60, .inl c040)), (k041, .inl (cI, 60, .inl c041)), (k043, .inl (cI, 60, .inl c043)), (k045, .inl (cI, 60, .inl c045)), (k046, .inl (cI, 40, .inl c046)), (ka2, .inl (cI, 144, .inl ca2)), (ka, .inr (6, [.ref ka0, .ref ka1, .ref ka2])), (ka1, .inl (cI, 4, .inl ca1)), (k, .inr (10, [.ref k0, .ref k1, .ref k2, .ref k3, .ref k4, .ref k5, .ref k6, .ref k7, .ref k8, .ref k9, .ref ka, .ref kb, .int cc])), (kb, .inl (cI, 6, .inl scb_64))] := hD
                    have hr_62 := w_63
                    obtain rfl : r_62 = (-1000003) := hr_62.trans (by decide +kernel)
                    exact hRet (sc5_37, scb_64, sc0_38, sc1_39, sc2_40, sc3_41, sc4_42) [18, 7, 1, 16, 19, 8, 9, 2, 3, 4, 5, 6, 0, 17, 15, 10, 11, 12, 13, 14] trivial hP hD (by decide +kernel) rfl hS rfl dX10_slip_118
                · exfalso; omega
              · refine lv_aload_n hx hb dX10_slip_94 rfl (lv_at hl 2 rfl) ?_
                refine lv_iconst (v := 2) hx hb dX10_slip_95 (by decide +kernel) ?_
                refine kJi (wr := [(ka0, .inl (cI, 4, .inl ca0)), (k6, .inr (0, [.ref k60, .ref k61, .ref k62, .ref k63, .ref k64, .int sc5_37])), (k60, .inl (cI, 41, .inl sc0_38)), (k61, .inl (cI, 41, .inl sc1_39)), (k62, .inl (cI, 60, .inl sc2_40)), (k63, .inl (cI, 60, .inl sc3_41)), (k64, .inl (cI, 60, .inl sc4_42)), (k0, .inr (9, [.ref k00, .ref k01, .ref k02, .ref k03, .ref k04, .ref k05, .int c06, .int c07, .int c08])), (k00, .inl (cI, 12, .inl c00)), (k04, .inr (8, [.ref k040, .ref k041, .ref k042, .ref k043, .ref k044, .ref k045, .ref k046, .ref k047, .ref k048, .int c049])), (k040, .inl (cI, 60, .inl c040)), (k041, .inl (cI, 60, .inl c041)), (k043, .inl (cI, 60, .inl c043)), (k045, .inl (cI, 60, .inl c045)), (k046, .inl (cI, 40, .inl c046)), (ka, .inr (6, [.ref ka0, .ref ka1, .ref ka2])), (ka1, .inl (cI, 4, .inl ca1)), (ka2, .inl (cI, 144, .inl ca2))]) (va_runV (As := [.int 2]) (rest := []) ⟨hx, hb, hml, hown, hT⟩ (c_X10_findingG l D cI aK aV k k0 k1 k2 k3 k4 k5 k6 k7 k8 k9 ka kb H.size cc cb 2) (cwV 1 hT (gV_in mw_338 mw_335 mw_337 mw_p1_0 mw_1) rfl rfl rfl (by decide +kernel) ⟨Nat.le_of_ble_eq_true rfl, Nat.le_of_ble_eq_true rfl⟩) (kRecvX (q0 := 16) (ci := 10) hK hP hD hN hXS hS hA rfl rfl [16, 0] rfl (by decide +kernel)) rfl rfl hl.1 rfl (lv_room (Nat.le_of_ble_eq_true rfl)) dX10_slip_96 ⟨Nat.le_of_ble_eq_true rfl, Nat.le_of_ble_eq_true rfl⟩) hP hD hS hA [16, 0] [1, 2, 3, 4, 5, 6, 7, 8, 9, 10, 11, 12, 13, 14, 15, 17, 18, 19] rfl rfl (by decide +kernel) (by decide +kernel) ?_
                clear hP hD hS
                intro r_65 scb_67 H locs w_66 hP hD hS
                replace hP : va_P D vwCl [(ka0, .inl (cI, 4, .inl ca0)), (k6, .inr (0, [.ref k60, .ref k61, .ref k62, .ref k63, .ref k64, .int sc5_37])), (k60, .inl (cI, 41, .inl sc0_38)), (k61, .inl (cI, 41, .inl sc1_39)), (k62, .inl (cI, 60, .inl sc2_40)), (k63, .inl (cI, 60, .inl sc3_41)), (k64, .inl (cI, 60, .inl sc4_42)), (k0, .inr (9, [.ref k00, .ref k01, .ref k02, .ref k03, .ref k04, .ref k05, .int c06, .int c07, .int c08])), (k00, .inl (cI, 12, .inl c00)), (k04, .inr (8, [.ref k040, .ref k041, .ref k042, .ref k043, .ref k044, .ref k045, .ref k046, .ref k047, .ref k048, .int c049])), (k040, .inl (cI, 60, .inl c040)), (k041, .inl (cI, 60, .inl c041)), (k043, .inl (cI, 60, .inl c043)), (k045, .inl (cI, 60, .inl c045)), (k046, .inl (cI, 40, .inl c046)), (ka, .inr (6, [.ref ka0, .ref ka1, .ref ka2])), (ka1, .inl (cI, 4, .inl ca1)), (ka2, .inl (cI, 144, .inl ca2)), (k, .inr (10, [.ref k0, .ref k1, .ref k2, .ref k3, .ref k4, .ref k5, .ref k6, .ref k7, .ref k8, .ref k9, .ref ka, .ref kb, .int cc])), (kb, .inl (cI, 6, .inl scb_67))] H := hP
                replace hD : va_D A [(ka0, .inl (cI, 4, .inl ca0)), (k6, .inr (0, [.ref k60, .ref k61, .ref k62, .ref k63, .ref k64, .int sc5_37])), (k60, .inl (cI, 41, .inl sc0_38)), (k61, .inl (cI, 41, .inl sc1_39)), (k62, .inl (cI, 60, .inl sc2_40)), (k63, .inl (cI, 60, .inl sc3_41)), (k64, .inl (cI, 60, .inl sc4_42)), (k0, .inr (9, [.ref k00, .ref k01, .ref k02, .ref k03, .ref k04, .ref k05, .int c06, .int c07, .int c08])), (k00, .inl (cI, 12, .inl c00)), (k04, .inr (8, [.ref k040, .ref k041, .ref k042, .ref k043, .ref k044, .ref k045, .ref k046, .ref k047, .ref k048, .int c049])), (k040, .inl (cI, 60, .inl c040)), (k041, .inl (cI, 60, .inl c041)), (k043, .inl (cI, 60, .inl c043)), (k045, .inl (cI, 60, .inl c045)), (k046, .inl (cI, 40, .inl c046)), (ka, .inr (6, [.ref ka0, .ref ka1, .ref ka2])), (ka1, .inl (cI, 4, .inl ca1)), (ka2, .inl (cI, 144, .inl ca2)), (k, .inr (10, [.ref k0, .ref k1, .ref k2, .ref k3, .ref k4, .ref k5, .ref k6, .ref k7, .ref k8, .ref k9, .ref ka, .ref kb, .int cc])), (kb, .inl (cI, 6, .inl scb_67))] := hD
                have hr_65 := w_66
                obtain rfl : r_65 = (-1000002) := hr_65.trans (by decide +kernel)
                exact hRet (sc5_37, scb_67, sc0_38, sc1_39, sc2_40, sc3_41, sc4_42) [18, 7, 1, 15, 19, 8, 9, 2, 3, 4, 5, 6, 0, 16, 17, 10, 11, 12, 13, 14] trivial hP hD (by decide +kernel) rfl hS rfl dX10_slip_99
          · exfalso; omega
        · refine lv_aload_n hx hb dX10_slip_37 rfl (lv_at hl 0 rfl) ?_
          refine lv_iconst (v := 5) hx hb dX10_slip_38 (by decide +kernel) ?_
          refine kJi (wr := [(k6, .inr (0, [.ref k60, .ref k61, .ref k62, .ref k63, .ref k64, .int c65])), (ka, .inr (6, [.ref ka0, .ref ka1, .ref ka2])), (k00, .inl (cI, 12, .inl c00)), (k60, .inl (cI, 41, .inl c60)), (k61, .inl (cI, 41, .inl c61)), (k62, .inl (cI, 60, .inl c62)), (k63, .inl (cI, 60, .inl c63)), (k64, .inl (cI, 60, .inl c64)), (ka0, .inl (cI, 4, .inl ca0)), (ka1, .inl (cI, 4, .inl ca1)), (ka2, .inl (cI, 144, .inl ca2)), (k041, .inl (cI, 60, .inl c041)), (k043, .inl (cI, 60, .inl c043)), (k045, .inl (cI, 60, .inl c045)), (k046, .inl (cI, 40, .inl c046)), (k0, .inr (9, [.ref k00, .ref k01, .ref k02, .ref k03, .ref k04, .ref k05, .int c06, .int c07, .int c08])), (k04, .inr (8, [.ref k040, .ref k041, .ref k042, .ref k043, .ref k044, .ref k045, .ref k046, .ref k047, .ref k048, .int c049])), (k040, .inl (cI, 60, .inl c040))]) (va_runV (As := [.int 5]) (rest := []) ⟨hx, hb, hml, hown, hT⟩ (c_X10_findingG l D cI aK aV k k0 k1 k2 k3 k4 k5 k6 k7 k8 k9 ka kb H.size cc cb 5) (cwV 1 hT (gV_in mw_338 mw_335 mw_337 mw_p1_0 mw_1) rfl rfl rfl (by decide +kernel) ⟨Nat.le_of_ble_eq_true rfl, Nat.le_of_ble_eq_true rfl⟩) (kRecvX (q0 := 16) (ci := 10) hK hP hD hN hXS hS hA rfl rfl [16, 2] rfl (by decide +kernel)) rfl rfl hl.1 rfl (lv_room (Nat.le_of_ble_eq_true rfl)) dX10_slip_39 ⟨Nat.le_of_ble_eq_true rfl, Nat.le_of_ble_eq_true rfl⟩) hP hD hS hA [16, 2] [0, 1, 3, 4, 5, 6, 7, 8, 9, 10, 11, 12, 13, 14, 15, 17, 18, 19] rfl rfl (by decide +kernel) (by decide +kernel) ?_
          clear hP hD hS
          intro r_68 scb_70 H locs w_69 hP hD hS
          replace hP : va_P D vwCl [(k6, .inr (0, [.ref k60, .ref k61, .ref k62, .ref k63, .ref k64, .int c65])), (ka, .inr (6, [.ref ka0, .ref ka1, .ref ka2])), (k00, .inl (cI, 12, .inl c00)), (k60, .inl (cI, 41, .inl c60)), (k61, .inl (cI, 41, .inl c61)), (k62, .inl (cI, 60, .inl c62)), (k63, .inl (cI, 60, .inl c63)), (k64, .inl (cI, 60, .inl c64)), (ka0, .inl (cI, 4, .inl ca0)), (ka1, .inl (cI, 4, .inl ca1)), (ka2, .inl (cI, 144, .inl ca2)), (k041, .inl (cI, 60, .inl c041)), (k043, .inl (cI, 60, .inl c043)), (k045, .inl (cI, 60, .inl c045)), (k046, .inl (cI, 40, .inl c046)), (k0, .inr (9, [.ref k00, .ref k01, .ref k02, .ref k03, .ref k04, .ref k05, .int c06, .int c07, .int c08])), (k04, .inr (8, [.ref k040, .ref k041, .ref k042, .ref k043, .ref k044, .ref k045, .ref k046, .ref k047, .ref k048, .int c049])), (k040, .inl (cI, 60, .inl c040)), (k, .inr (10, [.ref k0, .ref k1, .ref k2, .ref k3, .ref k4, .ref k5, .ref k6, .ref k7, .ref k8, .ref k9, .ref ka, .ref kb, .int cc])), (kb, .inl (cI, 6, .inl scb_70))] H := hP
          replace hD : va_D A [(k6, .inr (0, [.ref k60, .ref k61, .ref k62, .ref k63, .ref k64, .int c65])), (ka, .inr (6, [.ref ka0, .ref ka1, .ref ka2])), (k00, .inl (cI, 12, .inl c00)), (k60, .inl (cI, 41, .inl c60)), (k61, .inl (cI, 41, .inl c61)), (k62, .inl (cI, 60, .inl c62)), (k63, .inl (cI, 60, .inl c63)), (k64, .inl (cI, 60, .inl c64)), (ka0, .inl (cI, 4, .inl ca0)), (ka1, .inl (cI, 4, .inl ca1)), (ka2, .inl (cI, 144, .inl ca2)), (k041, .inl (cI, 60, .inl c041)), (k043, .inl (cI, 60, .inl c043)), (k045, .inl (cI, 60, .inl c045)), (k046, .inl (cI, 40, .inl c046)), (k0, .inr (9, [.ref k00, .ref k01, .ref k02, .ref k03, .ref k04, .ref k05, .int c06, .int c07, .int c08])), (k04, .inr (8, [.ref k040, .ref k041, .ref k042, .ref k043, .ref k044, .ref k045, .ref k046, .ref k047, .ref k048, .int c049])), (k040, .inl (cI, 60, .inl c040)), (k, .inr (10, [.ref k0, .ref k1, .ref k2, .ref k3, .ref k4, .ref k5, .ref k6, .ref k7, .ref k8, .ref k9, .ref ka, .ref kb, .int cc])), (kb, .inl (cI, 6, .inl scb_70))] := hD
          have hr_68 := w_69
          obtain rfl : r_68 = (-1000005) := hr_68.trans (by decide +kernel)
          exact hRet (c65, scb_70, c60, c61, c62, c63, c64) [18, 15, 0, 1, 19, 2, 16, 3, 4, 5, 6, 7, 8, 9, 10, 17, 11, 12, 13, 14] trivial hP hD (by decide +kernel) rfl hS rfl dX10_slip_42
      · refine lv_aload_n hx hb dX10_slip_22 rfl (lv_at hl 0 rfl) ?_
        refine lv_iconst (v := 1) hx hb dX10_slip_23 (by decide +kernel) ?_
        refine kJi (wr := [(k6, .inr (0, [.ref k60, .ref k61, .ref k62, .ref k63, .ref k64, .int c65])), (ka, .inr (6, [.ref ka0, .ref ka1, .ref ka2])), (k00, .inl (cI, 12, .inl c00)), (k60, .inl (cI, 41, .inl c60)), (k61, .inl (cI, 41, .inl c61)), (k62, .inl (cI, 60, .inl c62)), (k63, .inl (cI, 60, .inl c63)), (k64, .inl (cI, 60, .inl c64)), (ka0, .inl (cI, 4, .inl ca0)), (ka1, .inl (cI, 4, .inl ca1)), (ka2, .inl (cI, 144, .inl ca2)), (k040, .inl (cI, 60, .inl c040)), (k041, .inl (cI, 60, .inl c041)), (k043, .inl (cI, 60, .inl c043)), (k045, .inl (cI, 60, .inl c045)), (k046, .inl (cI, 40, .inl c046)), (k0, .inr (9, [.ref k00, .ref k01, .ref k02, .ref k03, .ref k04, .ref k05, .int c06, .int c07, .int c08])), (k04, .inr (8, [.ref k040, .ref k041, .ref k042, .ref k043, .ref k044, .ref k045, .ref k046, .ref k047, .ref k048, .int c049]))]) (va_runV (As := [.int 1]) (rest := []) ⟨hx, hb, hml, hown, hT⟩ (c_X10_findingG l D cI aK aV k k0 k1 k2 k3 k4 k5 k6 k7 k8 k9 ka kb H.size cc cb 1) (cwV 1 hT (gV_in mw_338 mw_335 mw_337 mw_p1_0 mw_1) rfl rfl rfl (by decide +kernel) ⟨Nat.le_of_ble_eq_true rfl, Nat.le_of_ble_eq_true rfl⟩) (kRecvX (q0 := 17) (ci := 10) hK hP hD hN hXS hS hA rfl rfl [17, 2] rfl (by decide +kernel)) rfl rfl hl.1 rfl (lv_room (Nat.le_of_ble_eq_true rfl)) dX10_slip_24 ⟨Nat.le_of_ble_eq_true rfl, Nat.le_of_ble_eq_true rfl⟩) hP hD hS hA [17, 2] [0, 1, 3, 4, 5, 6, 7, 8, 9, 10, 11, 12, 13, 14, 15, 16, 18, 19] rfl rfl (by decide +kernel) (by decide +kernel) ?_
        clear hP hD hS
        intro r_71 scb_73 H locs w_72 hP hD hS
        replace hP : va_P D vwCl [(k6, .inr (0, [.ref k60, .ref k61, .ref k62, .ref k63, .ref k64, .int c65])), (ka, .inr (6, [.ref ka0, .ref ka1, .ref ka2])), (k00, .inl (cI, 12, .inl c00)), (k60, .inl (cI, 41, .inl c60)), (k61, .inl (cI, 41, .inl c61)), (k62, .inl (cI, 60, .inl c62)), (k63, .inl (cI, 60, .inl c63)), (k64, .inl (cI, 60, .inl c64)), (ka0, .inl (cI, 4, .inl ca0)), (ka1, .inl (cI, 4, .inl ca1)), (ka2, .inl (cI, 144, .inl ca2)), (k040, .inl (cI, 60, .inl c040)), (k041, .inl (cI, 60, .inl c041)), (k043, .inl (cI, 60, .inl c043)), (k045, .inl (cI, 60, .inl c045)), (k046, .inl (cI, 40, .inl c046)), (k0, .inr (9, [.ref k00, .ref k01, .ref k02, .ref k03, .ref k04, .ref k05, .int c06, .int c07, .int c08])), (k04, .inr (8, [.ref k040, .ref k041, .ref k042, .ref k043, .ref k044, .ref k045, .ref k046, .ref k047, .ref k048, .int c049])), (k, .inr (10, [.ref k0, .ref k1, .ref k2, .ref k3, .ref k4, .ref k5, .ref k6, .ref k7, .ref k8, .ref k9, .ref ka, .ref kb, .int cc])), (kb, .inl (cI, 6, .inl scb_73))] H := hP
        replace hD : va_D A [(k6, .inr (0, [.ref k60, .ref k61, .ref k62, .ref k63, .ref k64, .int c65])), (ka, .inr (6, [.ref ka0, .ref ka1, .ref ka2])), (k00, .inl (cI, 12, .inl c00)), (k60, .inl (cI, 41, .inl c60)), (k61, .inl (cI, 41, .inl c61)), (k62, .inl (cI, 60, .inl c62)), (k63, .inl (cI, 60, .inl c63)), (k64, .inl (cI, 60, .inl c64)), (ka0, .inl (cI, 4, .inl ca0)), (ka1, .inl (cI, 4, .inl ca1)), (ka2, .inl (cI, 144, .inl ca2)), (k040, .inl (cI, 60, .inl c040)), (k041, .inl (cI, 60, .inl c041)), (k043, .inl (cI, 60, .inl c043)), (k045, .inl (cI, 60, .inl c045)), (k046, .inl (cI, 40, .inl c046)), (k0, .inr (9, [.ref k00, .ref k01, .ref k02, .ref k03, .ref k04, .ref k05, .int c06, .int c07, .int c08])), (k04, .inr (8, [.ref k040, .ref k041, .ref k042, .ref k043, .ref k044, .ref k045, .ref k046, .ref k047, .ref k048, .int c049])), (k, .inr (10, [.ref k0, .ref k1, .ref k2, .ref k3, .ref k4, .ref k5, .ref k6, .ref k7, .ref k8, .ref k9, .ref ka, .ref kb, .int cc])), (kb, .inl (cI, 6, .inl scb_73))] := hD
        have hr_71 := w_72
        obtain rfl : r_71 = (-1000001) := hr_71.trans (by decide +kernel)
        exact hRet (c65, scb_73, c60, c61, c62, c63, c64) [18, 16, 0, 1, 19, 2, 17, 3, 4, 5, 6, 7, 8, 9, 10, 11, 12, 13, 14, 15] trivial hP hD (by decide +kernel) rfl hS rfl dX10_slip_27
  · have h_6 : a0.toInt < 0 ∨ 3 < a0.toInt := h_6
    obtain rfl : r_1 = 0 := hr_1.trans (by decide +kernel)
    refine b_if_eq hx hb zl_0 (tgt := 22) dX10_slip_4 (by decide +kernel) (fun c_74 => ?_) (fun c_74 => by exfalso; omega)
    refine lv_aload_n hx hb dX10_slip_22 rfl (lv_at hl 0 rfl) ?_
    refine lv_iconst (v := 1) hx hb dX10_slip_23 (by decide +kernel) ?_
    refine kJi (wr := [(k0, .inr (9, [.ref k00, .ref k01, .ref k02, .ref k03, .ref k04, .ref k05, .int c06, .int c07, .int c08])), (k6, .inr (0, [.ref k60, .ref k61, .ref k62, .ref k63, .ref k64, .int c65])), (ka, .inr (6, [.ref ka0, .ref ka1, .ref ka2])), (k00, .inl (cI, 12, .inl c00)), (k04, .inr (8, [.ref k040, .ref k041, .ref k042, .ref k043, .ref k044, .ref k045, .ref k046, .ref k047, .ref k048, .int c049])), (k60, .inl (cI, 41, .inl c60)), (k61, .inl (cI, 41, .inl c61)), (k62, .inl (cI, 60, .inl c62)), (k63, .inl (cI, 60, .inl c63)), (k64, .inl (cI, 60, .inl c64)), (ka0, .inl (cI, 4, .inl ca0)), (ka1, .inl (cI, 4, .inl ca1)), (ka2, .inl (cI, 144, .inl ca2)), (k040, .inl (cI, 60, .inl c040)), (k041, .inl (cI, 60, .inl c041)), (k043, .inl (cI, 60, .inl c043)), (k045, .inl (cI, 60, .inl c045)), (k046, .inl (cI, 40, .inl c046))]) (va_runV (As := [.int 1]) (rest := []) ⟨hx, hb, hml, hown, hT⟩ (c_X10_findingG l D cI aK aV k k0 k1 k2 k3 k4 k5 k6 k7 k8 k9 ka kb H.size cc cb 1) (cwV 1 hT (gV_in mw_338 mw_335 mw_337 mw_p1_0 mw_1) rfl rfl rfl (by decide +kernel) ⟨Nat.le_of_ble_eq_true rfl, Nat.le_of_ble_eq_true rfl⟩) (kRecvX (q0 := 0) (ci := 10) hK hP hD hN hXS hS hA rfl rfl [0, 4] rfl (by decide +kernel)) rfl rfl hl.1 rfl (lv_room (Nat.le_of_ble_eq_true rfl)) dX10_slip_24 ⟨Nat.le_of_ble_eq_true rfl, Nat.le_of_ble_eq_true rfl⟩) hP hD hS hA [0, 4] [1, 2, 3, 5, 6, 7, 8, 9, 10, 11, 12, 13, 14, 15, 16, 17, 18, 19] rfl rfl (by decide +kernel) (by decide +kernel) ?_
    clear hP hD hS
    intro r_75 scb_77 H locs w_76 hP hD hS
    replace hP : va_P D vwCl [(k0, .inr (9, [.ref k00, .ref k01, .ref k02, .ref k03, .ref k04, .ref k05, .int c06, .int c07, .int c08])), (k6, .inr (0, [.ref k60, .ref k61, .ref k62, .ref k63, .ref k64, .int c65])), (ka, .inr (6, [.ref ka0, .ref ka1, .ref ka2])), (k00, .inl (cI, 12, .inl c00)), (k04, .inr (8, [.ref k040, .ref k041, .ref k042, .ref k043, .ref k044, .ref k045, .ref k046, .ref k047, .ref k048, .int c049])), (k60, .inl (cI, 41, .inl c60)), (k61, .inl (cI, 41, .inl c61)), (k62, .inl (cI, 60, .inl c62)), (k63, .inl (cI, 60, .inl c63)), (k64, .inl (cI, 60, .inl c64)), (ka0, .inl (cI, 4, .inl ca0)), (ka1, .inl (cI, 4, .inl ca1)), (ka2, .inl (cI, 144, .inl ca2)), (k040, .inl (cI, 60, .inl c040)), (k041, .inl (cI, 60, .inl c041)), (k043, .inl (cI, 60, .inl c043)), (k045, .inl (cI, 60, .inl c045)), (k046, .inl (cI, 40, .inl c046)), (k, .inr (10, [.ref k0, .ref k1, .ref k2, .ref k3, .ref k4, .ref k5, .ref k6, .ref k7, .ref k8, .ref k9, .ref ka, .ref kb, .int cc])), (kb, .inl (cI, 6, .inl scb_77))] H := hP
    replace hD : va_D A [(k0, .inr (9, [.ref k00, .ref k01, .ref k02, .ref k03, .ref k04, .ref k05, .int c06, .int c07, .int c08])), (k6, .inr (0, [.ref k60, .ref k61, .ref k62, .ref k63, .ref k64, .int c65])), (ka, .inr (6, [.ref ka0, .ref ka1, .ref ka2])), (k00, .inl (cI, 12, .inl c00)), (k04, .inr (8, [.ref k040, .ref k041, .ref k042, .ref k043, .ref k044, .ref k045, .ref k046, .ref k047, .ref k048, .int c049])), (k60, .inl (cI, 41, .inl c60)), (k61, .inl (cI, 41, .inl c61)), (k62, .inl (cI, 60, .inl c62)), (k63, .inl (cI, 60, .inl c63)), (k64, .inl (cI, 60, .inl c64)), (ka0, .inl (cI, 4, .inl ca0)), (ka1, .inl (cI, 4, .inl ca1)), (ka2, .inl (cI, 144, .inl ca2)), (k040, .inl (cI, 60, .inl c040)), (k041, .inl (cI, 60, .inl c041)), (k043, .inl (cI, 60, .inl c043)), (k045, .inl (cI, 60, .inl c045)), (k046, .inl (cI, 40, .inl c046)), (k, .inr (10, [.ref k0, .ref k1, .ref k2, .ref k3, .ref k4, .ref k5, .ref k6, .ref k7, .ref k8, .ref k9, .ref ka, .ref kb, .int cc])), (kb, .inl (cI, 6, .inl scb_77))] := hD
    have hr_75 := w_76
    obtain rfl : r_75 = (-1000001) := hr_75.trans (by decide +kernel)
    exact hRet (c65, scb_77, c60, c61, c62, c63, c64) [18, 0, 1, 2, 19, 3, 4, 5, 6, 7, 8, 9, 10, 11, 12, 13, 14, 15, 16, 17] trivial hP hD (by decide +kernel) rfl hS rfl dX10_slip_27
theorem bn_cX10_broke_0 : BN cX10_broke 0 0xad308282c6904858ca115694c02b7030ac1401528282c090b0286efd00ae4ca060b0142c610f07012377c0057265038580a163087438ad298056e0515828029b7a80572070b0182c0e00a69ea015c8783a1600a681016040dc080500aa00a0800a8c0a160e038029a2d00572050b058029a2d005721c := by
  unfold BN; decide +kernel
theorem dX10_broke_0 : decode cX10_broke 0 = .ok (.iload_n 1, 1) := dR0 (k := 0) (i := 0) bn_cX10_broke_0 dop_27 (by decide +kernel)
theorem dX10_broke_1 : decode cX10_broke 1 = .ok (.invokestatic 89, 3) := dR2 (f := Instr.invokestatic) (k := 0) (i := 1) bn_cX10_broke_0 dop_184 89 (by decide +kernel)
theorem dX10_broke_4 : decode cX10_broke 4 = .ok (.ifCond .eq 21, 3) := dR2s (f := Instr.ifCond .eq) (k := 0) (i := 4) bn_cX10_broke_0 dop_153 21 21 (by decide +kernel)
theorem dX10_broke_7 : decode cX10_broke 7 = .ok (.iload 4, 2) := dR1 (f := Instr.iload) (k := 0) (i := 7) bn_cX10_broke_0 dop_21 4 (by decide +kernel)
theorem dX10_broke_9 : decode cX10_broke 9 = .ok (.invokestatic 89, 3) := dR2 (f := Instr.invokestatic) (k := 0) (i := 9) bn_cX10_broke_0 dop_184 89 (by decide +kernel)
theorem dX10_broke_12 : decode cX10_broke 12 = .ok (.ifCond .eq 13, 3) := dR2s (f := Instr.ifCond .eq) (k := 0) (i := 12) bn_cX10_broke_0 dop_153 13 13 (by decide +kernel)
theorem dX10_broke_15 : decode cX10_broke 15 = .ok (.iload_n 1, 1) := dR0 (k := 0) (i := 15) bn_cX10_broke_0 dop_27 (by decide +kernel)
theorem dX10_broke_16 : decode cX10_broke 16 = .ok (.iload 4, 2) := dR1 (f := Instr.iload) (k := 0) (i := 16) bn_cX10_broke_0 dop_21 4 (by decide +kernel)
theorem dX10_broke_18 : decode cX10_broke 18 = .ok (.if_icmp .ge 7, 3) := dR2s (f := Instr.if_icmp .ge) (k := 0) (i := 18) bn_cX10_broke_0 dop_162 7 7 (by decide +kernel)
theorem dX10_broke_21 : decode cX10_broke 21 = .ok (.iconst 1, 1) := dR0 (k := 0) (i := 21) bn_cX10_broke_0 dop_4 (by decide +kernel)
theorem dX10_broke_22 : decode cX10_broke 22 = .ok (.goto 4, 3) := dR2s (f := Instr.goto) (k := 0) (i := 22) bn_cX10_broke_0 dop_167 4 4 (by decide +kernel)
theorem dX10_broke_25 : decode cX10_broke 25 = .ok (.iconst 0, 1) := dR0 (k := 0) (i := 25) bn_cX10_broke_0 dop_3 (by decide +kernel)
theorem dX10_broke_26 : decode cX10_broke 26 = .ok (.istore 7, 2) := dR1 (f := Instr.istore) (k := 0) (i := 26) bn_cX10_broke_0 dop_54 7 (by decide +kernel)
theorem dX10_broke_28 : decode cX10_broke 28 = .ok (.iload 7, 2) := dR1 (f := Instr.iload) (k := 0) (i := 28) bn_cX10_broke_0 dop_21 7 (by decide +kernel)
theorem dX10_broke_30 : decode cX10_broke 30 = .ok (.ifCond .eq 21, 3) := dR2s (f := Instr.ifCond .eq) (k := 0) (i := 30) bn_cX10_broke_0 dop_153 21 21 (by decide +kernel)
theorem dX10_broke_33 : decode cX10_broke 33 = .ok (.iload_n 2, 1) := dR0 (k := 0) (i := 33) bn_cX10_broke_0 dop_28 (by decide +kernel)
theorem dX10_broke_34 : decode cX10_broke 34 = .ok (.iload_n 3, 1) := dR0 (k := 0) (i := 34) bn_cX10_broke_0 dop_29 (by decide +kernel)
theorem dX10_broke_35 : decode cX10_broke 35 = .ok (.invokestatic 244, 3) := dR2 (f := Instr.invokestatic) (k := 0) (i := 35) bn_cX10_broke_0 dop_184 244 (by decide +kernel)
theorem dX10_broke_38 : decode cX10_broke 38 = .ok (.ifCond .eq 13, 3) := dR2s (f := Instr.ifCond .eq) (k := 0) (i := 38) bn_cX10_broke_0 dop_153 13 13 (by decide +kernel)
theorem dX10_broke_41 : decode cX10_broke 41 = .ok (.iload 5, 2) := dR1 (f := Instr.iload) (k := 0) (i := 41) bn_cX10_broke_0 dop_21 5 (by decide +kernel)
theorem dX10_broke_43 : decode cX10_broke 43 = .ok (.iload 6, 2) := dR1 (f := Instr.iload) (k := 0) (i := 43) bn_cX10_broke_0 dop_21 6 (by decide +kernel)
theorem dX10_broke_45 : decode cX10_broke 45 = .ok (.invokestatic 244, 3) := dR2 (f := Instr.invokestatic) (k := 0) (i := 45) bn_cX10_broke_0 dop_184 244 (by decide +kernel)
theorem dX10_broke_48 : decode cX10_broke 48 = .ok (.ifCond .ne 9, 3) := dR2s (f := Instr.ifCond .ne) (k := 0) (i := 48) bn_cX10_broke_0 dop_154 9 9 (by decide +kernel)
theorem dX10_broke_51 : decode cX10_broke 51 = .ok (.aload_n 0, 1) := dR0 (k := 0) (i := 51) bn_cX10_broke_0 dop_42 (by decide +kernel)
theorem dX10_broke_52 : decode cX10_broke 52 = .ok (.iconst 1, 1) := dR0 (k := 0) (i := 52) bn_cX10_broke_0 dop_4 (by decide +kernel)
theorem dX10_broke_53 : decode cX10_broke 53 = .ok (.invokevirtual 82, 3) := dR2 (f := Instr.invokevirtual) (k := 0) (i := 53) bn_cX10_broke_0 dop_182 82 (by decide +kernel)
theorem dX10_broke_56 : decode cX10_broke 56 = .ok (.ireturn, 1) := dR0 (k := 0) (i := 56) bn_cX10_broke_0 dop_172 (by decide +kernel)
theorem dX10_broke_57 : decode cX10_broke 57 = .ok (.iload_n 1, 1) := dR0 (k := 0) (i := 57) bn_cX10_broke_0 dop_27 (by decide +kernel)
theorem dX10_broke_58 : decode cX10_broke 58 = .ok (.iload_n 2, 1) := dR0 (k := 0) (i := 58) bn_cX10_broke_0 dop_28 (by decide +kernel)
theorem dX10_broke_59 : decode cX10_broke 59 = .ok (.iadd, 1) := dR0 (k := 0) (i := 59) bn_cX10_broke_0 dop_96 (by decide +kernel)
theorem dX10_broke_60 : decode cX10_broke 60 = .ok (.iload 4, 2) := dR1 (f := Instr.iload) (k := 0) (i := 60) bn_cX10_broke_0 dop_21 4 (by decide +kernel)
theorem dX10_broke_62 : decode cX10_broke 62 = .ok (.iload 6, 2) := dR1 (f := Instr.iload) (k := 0) (i := 62) bn_cX10_broke_0 dop_21 6 (by decide +kernel)
theorem dX10_broke_64 : decode cX10_broke 64 = .ok (.isub, 1) := dR0 (k := 0) (i := 64) bn_cX10_broke_0 dop_100 (by decide +kernel)
theorem dX10_broke_65 : decode cX10_broke 65 = .ok (.invokestatic 247, 3) := dR2 (f := Instr.invokestatic) (k := 0) (i := 65) bn_cX10_broke_0 dop_184 247 (by decide +kernel)
theorem dX10_broke_68 : decode cX10_broke 68 = .ok (.istore 8, 2) := dR1 (f := Instr.istore) (k := 0) (i := 68) bn_cX10_broke_0 dop_54 8 (by decide +kernel)
theorem dX10_broke_70 : decode cX10_broke 70 = .ok (.iload_n 1, 1) := dR0 (k := 0) (i := 70) bn_cX10_broke_0 dop_27 (by decide +kernel)
theorem dX10_broke_71 : decode cX10_broke 71 = .ok (.iload_n 3, 1) := dR0 (k := 0) (i := 71) bn_cX10_broke_0 dop_29 (by decide +kernel)
theorem dX10_broke_72 : decode cX10_broke 72 = .ok (.iadd, 1) := dR0 (k := 0) (i := 72) bn_cX10_broke_0 dop_96 (by decide +kernel)
theorem dX10_broke_73 : decode cX10_broke 73 = .ok (.iload 4, 2) := dR1 (f := Instr.iload) (k := 0) (i := 73) bn_cX10_broke_0 dop_21 4 (by decide +kernel)
theorem dX10_broke_75 : decode cX10_broke 75 = .ok (.iload 5, 2) := dR1 (f := Instr.iload) (k := 0) (i := 75) bn_cX10_broke_0 dop_21 5 (by decide +kernel)
theorem dX10_broke_77 : decode cX10_broke 77 = .ok (.isub, 1) := dR0 (k := 0) (i := 77) bn_cX10_broke_0 dop_100 (by decide +kernel)
theorem dX10_broke_78 : decode cX10_broke 78 = .ok (.invokestatic 252, 3) := dR2 (f := Instr.invokestatic) (k := 0) (i := 78) bn_cX10_broke_0 dop_184 252 (by decide +kernel)
theorem dX10_broke_81 : decode cX10_broke 81 = .ok (.istore 9, 2) := dR1 (f := Instr.istore) (k := 0) (i := 81) bn_cX10_broke_0 dop_54 9 (by decide +kernel)
theorem dX10_broke_83 : decode cX10_broke 83 = .ok (.iload 8, 2) := dR1 (f := Instr.iload) (k := 0) (i := 83) bn_cX10_broke_0 dop_21 8 (by decide +kernel)
theorem dX10_broke_85 : decode cX10_broke 85 = .ok (.iload 9, 2) := dR1 (f := Instr.iload) (k := 0) (i := 85) bn_cX10_broke_0 dop_21 9 (by decide +kernel)
theorem dX10_broke_87 : decode cX10_broke 87 = .ok (.if_icmp .le 9, 3) := dR2s (f := Instr.if_icmp .le) (k := 0) (i := 87) bn_cX10_broke_0 dop_164 9 9 (by decide +kernel)
theorem dX10_broke_90 : decode cX10_broke 90 = .ok (.aload_n 0, 1) := dR0 (k := 0) (i := 90) bn_cX10_broke_0 dop_42 (by decide +kernel)
theorem dX10_broke_91 : decode cX10_broke 91 = .ok (.iconst 2, 1) := dR0 (k := 0) (i := 91) bn_cX10_broke_0 dop_5 (by decide +kernel)
theorem dX10_broke_92 : decode cX10_broke 92 = .ok (.invokevirtual 82, 3) := dR2 (f := Instr.invokevirtual) (k := 0) (i := 92) bn_cX10_broke_0 dop_182 82 (by decide +kernel)
theorem dX10_broke_95 : decode cX10_broke 95 = .ok (.ireturn, 1) := dR0 (k := 0) (i := 95) bn_cX10_broke_0 dop_172 (by decide +kernel)
theorem dX10_broke_96 : decode cX10_broke 96 = .ok (.bipush 100, 2) := dR1s (f := Instr.bipush) (k := 0) (i := 96) bn_cX10_broke_0 dop_16 100 100 (by decide +kernel)
theorem dX10_broke_98 : decode cX10_broke 98 = .ok (.iload 8, 2) := dR1 (f := Instr.iload) (k := 0) (i := 98) bn_cX10_broke_0 dop_21 8 (by decide +kernel)
theorem dX10_broke_100 : decode cX10_broke 100 = .ok (.imul, 1) := dR0 (k := 0) (i := 100) bn_cX10_broke_0 dop_104 (by decide +kernel)
theorem dX10_broke_101 : decode cX10_broke 101 = .ok (.iload 9, 2) := dR1 (f := Instr.iload) (k := 0) (i := 101) bn_cX10_broke_0 dop_21 9 (by decide +kernel)
theorem dX10_broke_103 : decode cX10_broke 103 = .ok (.iadd, 1) := dR0 (k := 0) (i := 103) bn_cX10_broke_0 dop_96 (by decide +kernel)
theorem dX10_broke_104 : decode cX10_broke 104 = .ok (.ireturn, 1) := dR0 (k := 0) (i := 104) bn_cX10_broke_0 dop_172 (by decide +kernel)
set_option maxHeartbeats 4000000 in
set_option maxRecDepth 100000 in
theorem c_X10_brokeG (l : Launch) (D : va_G) (cI : ClassId) (aK aV : Nat → Nat) (k k0 k1 k2 k3 k4 k5 k6 k7 k8 k9 ka kb : Nat) (sz : Nat) (cc : Int32) (cb : Nat → Int32) (a0 : Int32) (a1 : Int32) (a2 : Int32) (a3 : Int32) (a4 : Int32) (a5 : Int32) : Met l yX10_broke (gW yX10_broke cX10_broke 10 (some .int)) ({ frames := 1, cells := 0, slots := 0, locals := 40 } : Room) (kPreX D cI aK aV [.ref k, .int a0, .int a1, .int a2, .int a3, .int a4, .int a5] [(k, .inr (10, [.ref k0, .ref k1, .ref k2, .ref k3, .ref k4, .ref k5, .ref k6, .ref k7, .ref k8, .ref k9, .ref ka, .ref kb, .int cc])), (kb, .inl (cI, 6, .inl cb))] sz) (va_Qi (fun (r : Int32) (u : (Nat → Int32)) => True) (fun u t => kWd D cI (va_A [(k, .inr (10, [.ref k0, .ref k1, .ref k2, .ref k3, .ref k4, .ref k5, .ref k6, .ref k7, .ref k8, .ref k9, .ref ka, .ref kb, .int cc])), (kb, .inl (cI, 6, .inl cb))] sz) [(k, .inr (10, [.ref k0, .ref k1, .ref k2, .ref k3, .ref k4, .ref k5, .ref k6, .ref k7, .ref k8, .ref k9, .ref ka, .ref kb, .int cc])), (kb, .inl (cI, 6, .inl u))] t) (va_A [(k, .inr (10, [.ref k0, .ref k1, .ref k2, .ref k3, .ref k4, .ref k5, .ref k6, .ref k7, .ref k8, .ref k9, .ref ka, .ref kb, .int cc])), (kb, .inl (cI, 6, .inl cb))] sz)) 0 0 (va_A [(k, .inr (10, [.ref k0, .ref k1, .ref k2, .ref k3, .ref k4, .ref k5, .ref k6, .ref k7, .ref k8, .ref k9, .ref ka, .ref kb, .int cc])), (kb, .inl (cI, 6, .inl cb))] sz) := by
  refine kMetIX (own := RX10) (by decide +kernel) rfl (Nat.le_of_ble_eq_true rfl) ?_
  intro p e s m args below meth c hx hb hT hown hname hml A Q hK hP hD hS hA hN hXS hRet ls hl
  have hl : lv_has ls 10 [(0, .ref k), (1, .int a0), (2, .int a1), (3, .int a2), (4, .int a3), (5, .int a4), (6, .int a5)] := hl
  have lo_a0 := k_lo a0
  have hi_a0 := k_hi a0
  have lo_a1 := k_lo a1
  have hi_a1 := k_hi a1
  have lo_a2 := k_lo a2
  have hi_a2 := k_hi a2
  have lo_a3 := k_lo a3
  have hi_a3 := k_hi a3
  have lo_a4 := k_lo a4
  have hi_a4 := k_hi a4
  have lo_a5 := k_lo a5
  have hi_a5 := k_hi a5
  refine lv_iload_n hx hb dX10_broke_0 rfl (lv_at hl 1 rfl) ?_
  refine kJi (wr := [(k, .inr (10, [.ref k0, .ref k1, .ref k2, .ref k3, .ref k4, .ref k5, .ref k6, .ref k7, .ref k8, .ref k9, .ref ka, .ref kb, .int cc])), (kb, .inl (cI, 6, .inl cb))]) (va_runS (As := [.int a0]) (rest := []) ⟨hx, hb, hml, hown, hT⟩ (c_X10_isMileG l D cI aK aV s.heap.size a0) (cwS 1 hT (gS_in mw_346 mw_344 mw_345 mw_1) rfl rfl rfl (by decide +kernel) ⟨Nat.le_of_ble_eq_true rfl, Nat.le_of_ble_eq_true rfl⟩) (kStatX hK hP hD hN hXS hS hA [] rfl (by decide +kernel)) rfl rfl hl.1 rfl (lv_room (Nat.le_of_ble_eq_true rfl)) dX10_broke_1 ⟨Nat.le_of_ble_eq_true rfl, Nat.le_of_ble_eq_true rfl⟩) hP hD hS hA [] [0, 1] rfl rfl (by decide +kernel) (by decide +kernel) ?_
  clear hP hD hS
  intro r_1 u_3 H locs w_2 hP hD hS
  replace hP : va_P D vwCl [(k, .inr (10, [.ref k0, .ref k1, .ref k2, .ref k3, .ref k4, .ref k5, .ref k6, .ref k7, .ref k8, .ref k9, .ref ka, .ref kb, .int cc])), (kb, .inl (cI, 6, .inl cb))] H := hP
  replace hD : va_D A [(k, .inr (10, [.ref k0, .ref k1, .ref k2, .ref k3, .ref k4, .ref k5, .ref k6, .ref k7, .ref k8, .ref k9, .ref ka, .ref kb, .int cc])), (kb, .inl (cI, 6, .inl cb))] := hD
  rcases w_2 with ⟨hr_1, h_4, h_5⟩ | ⟨hr_1, h_6⟩
  · have h_4 : 0 ≤ a0.toInt := h_4
    have h_5 : a0.toInt ≤ 39 := h_5
    obtain rfl : r_1 = 1 := hr_1.trans (by decide +kernel)
    refine b_if_eq hx hb zl_1 (tgt := 25) dX10_broke_4 (by decide +kernel) (fun c_7 => by exfalso; omega) (fun c_7 => ?_)
    refine lv_iload hx hb dX10_broke_7 (lv_at hl 4 rfl) ?_
    refine kJi (wr := [(k, .inr (10, [.ref k0, .ref k1, .ref k2, .ref k3, .ref k4, .ref k5, .ref k6, .ref k7, .ref k8, .ref k9, .ref ka, .ref kb, .int cc])), (kb, .inl (cI, 6, .inl cb))]) (va_runS (As := [.int a3]) (rest := []) ⟨hx, hb, hml, hown, hT⟩ (c_X10_isMileG l D cI aK aV H.size a3) (cwS 1 hT (gS_in mw_346 mw_344 mw_345 mw_1) rfl rfl rfl (by decide +kernel) ⟨Nat.le_of_ble_eq_true rfl, Nat.le_of_ble_eq_true rfl⟩) (kStatX hK hP hD hN hXS hS hA [] rfl (by decide +kernel)) rfl rfl hl.1 rfl (lv_room (Nat.le_of_ble_eq_true rfl)) dX10_broke_9 ⟨Nat.le_of_ble_eq_true rfl, Nat.le_of_ble_eq_true rfl⟩) hP hD hS hA [] [0, 1] rfl rfl (by decide +kernel) (by decide +kernel) ?_
    clear hP hD hS
    intro r_8 u_10 H locs w_9 hP hD hS
    replace hP : va_P D vwCl [(k, .inr (10, [.ref k0, .ref k1, .ref k2, .ref k3, .ref k4, .ref k5, .ref k6, .ref k7, .ref k8, .ref k9, .ref ka, .ref kb, .int cc])), (kb, .inl (cI, 6, .inl cb))] H := hP
    replace hD : va_D A [(k, .inr (10, [.ref k0, .ref k1, .ref k2, .ref k3, .ref k4, .ref k5, .ref k6, .ref k7, .ref k8, .ref k9, .ref ka, .ref kb, .int cc])), (kb, .inl (cI, 6, .inl cb))] := hD
    rcases w_9 with ⟨hr_8, h_11, h_12⟩ | ⟨hr_8, h_13⟩
    · have h_11 : 0 ≤ a3.toInt := h_11
      have h_12 : a3.toInt ≤ 39 := h_12
      obtain rfl : r_8 = 1 := hr_8.trans (by decide +kernel)
      refine b_if_eq hx hb zl_1 (tgt := 25) dX10_broke_12 (by decide +kernel) (fun c_14 => by exfalso; omega) (fun c_14 => ?_)
      refine lv_iload_n hx hb dX10_broke_15 rfl (lv_at hl 1 rfl) ?_
      refine lv_iload hx hb dX10_broke_16 (lv_at hl 4 rfl) ?_
      refine b_icmp_ge hx hb rfl rfl (tgt := 25) dX10_broke_18 (by decide +kernel) (fun c_15 => ?_) (fun c_15 => ?_)
      · refine lv_iconst (v := 0) hx hb dX10_broke_25 (by decide +kernel) ?_
        refine lv_istore (lv' := [(7, .int 0), (0, .ref k), (1, .int a0), (2, .int a1), (3, .int a2), (4, .int a3), (5, .int a4), (6, .int a5)]) hx hb dX10_broke_26 hl (by decide +kernel) rfl ?_
        clear hl
        intro ls hl
        refine lv_iload hx hb dX10_broke_28 (lv_at hl 0 rfl) ?_
        refine b_if_eq hx hb zl_0 (tgt := 51) dX10_broke_30 (by decide +kernel) (fun c_16 => ?_) (fun c_16 => by exfalso; omega)
        refine lv_aload_n hx hb dX10_broke_51 rfl (lv_at hl 1 rfl) ?_
        refine lv_iconst (v := 1) hx hb dX10_broke_52 (by decide +kernel) ?_
        refine kJi (wr := []) (va_runV (As := [.int 1]) (rest := []) ⟨hx, hb, hml, hown, hT⟩ (c_X10_findingG l D cI aK aV k k0 k1 k2 k3 k4 k5 k6 k7 k8 k9 ka kb H.size cc cb 1) (cwV 1 hT (gV_in mw_338 mw_335 mw_337 mw_p1_0 mw_1) rfl rfl rfl (by decide +kernel) ⟨Nat.le_of_ble_eq_true rfl, Nat.le_of_ble_eq_true rfl⟩) (kRecvX (q0 := 0) (ci := 10) hK hP hD hN hXS hS hA rfl rfl [0, 1] rfl (by decide +kernel)) rfl rfl hl.1 rfl (lv_room (Nat.le_of_ble_eq_true rfl)) dX10_broke_53 ⟨Nat.le_of_ble_eq_true rfl, Nat.le_of_ble_eq_true rfl⟩) hP hD hS hA [0, 1] [] rfl rfl (by decide +kernel) (by decide +kernel) ?_
        clear hP hD hS
        intro r_17 scb_19 H locs w_18 hP hD hS
        replace hP : va_P D vwCl [(k, .inr (10, [.ref k0, .ref k1, .ref k2, .ref k3, .ref k4, .ref k5, .ref k6, .ref k7, .ref k8, .ref k9, .ref ka, .ref kb, .int cc])), (kb, .inl (cI, 6, .inl scb_19))] H := hP
        replace hD : va_D A [(k, .inr (10, [.ref k0, .ref k1, .ref k2, .ref k3, .ref k4, .ref k5, .ref k6, .ref k7, .ref k8, .ref k9, .ref ka, .ref kb, .int cc])), (kb, .inl (cI, 6, .inl scb_19))] := hD
        have hr_17 := w_18
        obtain rfl : r_17 = (-1000001) := hr_17.trans (by decide +kernel)
        exact hRet scb_19 [0, 1] trivial hP hD (by decide +kernel) rfl hS rfl dX10_broke_56
      · refine lv_iconst (v := 1) hx hb dX10_broke_21 (by decide +kernel) ?_
        refine lv_goto (tgt := 26) hx hb dX10_broke_22 (by decide +kernel) ?_
        refine lv_istore (lv' := [(7, .int 1), (0, .ref k), (1, .int a0), (2, .int a1), (3, .int a2), (4, .int a3), (5, .int a4), (6, .int a5)]) hx hb dX10_broke_26 hl (by decide +kernel) rfl ?_
        clear hl
        intro ls hl
        refine lv_iload hx hb dX10_broke_28 (lv_at hl 0 rfl) ?_
        refine b_if_eq hx hb zl_1 (tgt := 51) dX10_broke_30 (by decide +kernel) (fun c_20 => by exfalso; omega) (fun c_20 => ?_)
        refine lv_iload_n hx hb dX10_broke_33 rfl (lv_at hl 3 rfl) ?_
        refine lv_iload_n hx hb dX10_broke_34 rfl (lv_at hl 4 rfl) ?_
        refine kJi (wr := [(k, .inr (10, [.ref k0, .ref k1, .ref k2, .ref k3, .ref k4, .ref k5, .ref k6, .ref k7, .ref k8, .ref k9, .ref ka, .ref kb, .int cc])), (kb, .inl (cI, 6, .inl cb))]) (va_runS (As := [.int a1, .int a2]) (rest := []) ⟨hx, hb, hml, hown, hT⟩ (c_X10_isSpanG l D cI aK aV H.size a1 a2) (cwS 2 hT (gS_in mw_829 mw_827 mw_828 mw_1) rfl rfl rfl (by decide +kernel) ⟨Nat.le_of_ble_eq_true rfl, Nat.le_of_ble_eq_true rfl⟩) (kStatX hK hP hD hN hXS hS hA [] rfl (by decide +kernel)) rfl rfl hl.1 rfl (lv_room (Nat.le_of_ble_eq_true rfl)) dX10_broke_35 ⟨Nat.le_of_ble_eq_true rfl, Nat.le_of_ble_eq_true rfl⟩) hP hD hS hA [] [0, 1] rfl rfl (by decide +kernel) (by decide +kernel) ?_
        clear hP hD hS
        intro r_21 u_23 H locs w_22 hP hD hS
        replace hP : va_P D vwCl [(k, .inr (10, [.ref k0, .ref k1, .ref k2, .ref k3, .ref k4, .ref k5, .ref k6, .ref k7, .ref k8, .ref k9, .ref ka, .ref kb, .int cc])), (kb, .inl (cI, 6, .inl cb))] H := hP
        replace hD : va_D A [(k, .inr (10, [.ref k0, .ref k1, .ref k2, .ref k3, .ref k4, .ref k5, .ref k6, .ref k7, .ref k8, .ref k9, .ref ka, .ref kb, .int cc])), (kb, .inl (cI, 6, .inl cb))] := hD
        rcases w_22 with ⟨hr_21, h_24, h_25, h_26⟩ | ⟨hr_21, h_27⟩
        · have h_24 : 0 ≤ a1.toInt := h_24
          have h_25 : a1.toInt ≤ a2.toInt := h_25
          have h_26 : a2.toInt ≤ 39 := h_26
          obtain rfl : r_21 = 1 := hr_21.trans (by decide +kernel)
          refine b_if_eq hx hb zl_1 (tgt := 51) dX10_broke_38 (by decide +kernel) (fun c_28 => by exfalso; omega) (fun c_28 => ?_)
          refine lv_iload hx hb dX10_broke_41 (lv_at hl 6 rfl) ?_
          refine lv_iload hx hb dX10_broke_43 (lv_at hl 7 rfl) ?_
          refine kJi (wr := [(k, .inr (10, [.ref k0, .ref k1, .ref k2, .ref k3, .ref k4, .ref k5, .ref k6, .ref k7, .ref k8, .ref k9, .ref ka, .ref kb, .int cc])), (kb, .inl (cI, 6, .inl cb))]) (va_runS (As := [.int a4, .int a5]) (rest := []) ⟨hx, hb, hml, hown, hT⟩ (c_X10_isSpanG l D cI aK aV H.size a4 a5) (cwS 2 hT (gS_in mw_829 mw_827 mw_828 mw_1) rfl rfl rfl (by decide +kernel) ⟨Nat.le_of_ble_eq_true rfl, Nat.le_of_ble_eq_true rfl⟩) (kStatX hK hP hD hN hXS hS hA [] rfl (by decide +kernel)) rfl rfl hl.1 rfl (lv_room (Nat.le_of_ble_eq_true rfl)) dX10_broke_45 ⟨Nat.le_of_ble_eq_true rfl, Nat.le_of_ble_eq_true rfl⟩) hP hD hS hA [] [0, 1] rfl rfl (by decide +kernel) (by decide +kernel) ?_
          clear hP hD hS
          intro r_29 u_31 H locs w_30 hP hD hS
          replace hP : va_P D vwCl [(k, .inr (10, [.ref k0, .ref k1, .ref k2, .ref k3, .ref k4, .ref k5, .ref k6, .ref k7, .ref k8, .ref k9, .ref ka, .ref kb, .int cc])), (kb, .inl (cI, 6, .inl cb))] H := hP
          replace hD : va_D A [(k, .inr (10, [.ref k0, .ref k1, .ref k2, .ref k3, .ref k4, .ref k5, .ref k6, .ref k7, .ref k8, .ref k9, .ref ka, .ref kb, .int cc])), (kb, .inl (cI, 6, .inl cb))] := hD
          rcases w_30 with ⟨hr_29, h_32, h_33, h_34⟩ | ⟨hr_29, h_35⟩
          · have h_32 : 0 ≤ a4.toInt := h_32
            have h_33 : a4.toInt ≤ a5.toInt := h_33
            have h_34 : a5.toInt ≤ 39 := h_34
            obtain rfl : r_29 = 1 := hr_29.trans (by decide +kernel)
            refine b_if_ne hx hb zl_1 (tgt := 57) dX10_broke_48 (by decide +kernel) (fun c_36 => ?_) (fun c_36 => by exfalso; omega)
            refine lv_iload_n hx hb dX10_broke_57 rfl (lv_at hl 2 rfl) ?_
            refine lv_iload_n hx hb dX10_broke_58 rfl (lv_at hl 3 rfl) ?_
            refine lv_iadd hx hb dX10_broke_59 ?_
            refine lv_topi (fun v_37 ev_37 => ?_)
            have tv_37 : v_37.toInt = a0.toInt + a1.toInt := by rw [ev_37]; exact k_addv rfl rfl (by omega) (by omega)
            refine lv_iload hx hb dX10_broke_60 (lv_at hl 5 rfl) ?_
            refine lv_iload hx hb dX10_broke_62 (lv_at hl 7 rfl) ?_
            refine lv_isub hx hb dX10_broke_64 ?_
            refine lv_topi (fun v_38 ev_38 => ?_)
            have tv_38 : v_38.toInt = a3.toInt - a5.toInt := by rw [ev_38]; exact k_subv rfl rfl (by omega) (by omega)
            refine va_mmax hx hb (hml.trans hl.1.symm) hown (hT _ mw_594) (hT _ mw_426) (hT _ mw_13) (hT _ mw_427) (Nat.le_of_ble_eq_true rfl) (Nat.le_of_ble_eq_true rfl) (Nat.le_of_ble_eq_true rfl) (Nat.le_of_ble_eq_true rfl) dX10_broke_65 ?_
            refine lv_topi (fun v_39 ev_39 => ?_)
            have lo_v_39 := k_lo v_39
            have hi_v_39 := k_hi v_39
            have tv_39 : v_39.toInt = k_max v_37.toInt v_38.toInt := by rw [ev_39]; exact k_mmax rfl rfl
            try rw [tv_37] at tv_39
            try rw [tv_38] at tv_39
            have sv_39 := k_max_spec (v_37.toInt) (v_38.toInt)
            try rw [tv_37] at sv_39
            try rw [tv_38] at sv_39
            refine lv_istore (lv' := [(8, .int v_39), (7, .int 1), (0, .ref k), (1, .int a0), (2, .int a1), (3, .int a2), (4, .int a3), (5, .int a4), (6, .int a5)]) hx hb dX10_broke_68 hl (by decide +kernel) rfl ?_
            clear hl
            intro ls hl
            refine lv_iload_n hx hb dX10_broke_70 rfl (lv_at hl 3 rfl) ?_
            refine lv_iload_n hx hb dX10_broke_71 rfl (lv_at hl 5 rfl) ?_
            refine lv_iadd hx hb dX10_broke_72 ?_
            refine lv_topi (fun v_40 ev_40 => ?_)
            have tv_40 : v_40.toInt = a0.toInt + a2.toInt := by rw [ev_40]; exact k_addv rfl rfl (by omega) (by omega)
            refine lv_iload hx hb dX10_broke_73 (lv_at hl 6 rfl) ?_
            refine lv_iload hx hb dX10_broke_75 (lv_at hl 7 rfl) ?_
            refine lv_isub hx hb dX10_broke_77 ?_
            refine lv_topi (fun v_41 ev_41 => ?_)
            have tv_41 : v_41.toInt = a3.toInt - a4.toInt := by rw [ev_41]; exact k_subv rfl rfl (by omega) (by omega)
            refine va_mmin hx hb (hml.trans hl.1.symm) hown (hT _ mw_830) (hT _ mw_538) (hT _ mw_13) (hT _ mw_539) (Nat.le_of_ble_eq_true rfl) (Nat.le_of_ble_eq_true rfl) (Nat.le_of_ble_eq_true rfl) (Nat.le_of_ble_eq_true rfl) dX10_broke_78 ?_
            refine lv_topi (fun v_42 ev_42 => ?_)
            have lo_v_42 := k_lo v_42
            have hi_v_42 := k_hi v_42
            have tv_42 : v_42.toInt = k_min v_40.toInt v_41.toInt := by rw [ev_42]; exact k_mmin rfl rfl
            try rw [tv_40] at tv_42
            try rw [tv_41] at tv_42
            have sv_42 := k_min_spec (v_40.toInt) (v_41.toInt)
            try rw [tv_40] at sv_42
            try rw [tv_41] at sv_42
            refine lv_istore (lv' := [(9, .int v_42), (8, .int v_39), (7, .int 1), (0, .ref k), (1, .int a0), (2, .int a1), (3, .int a2), (4, .int a3), (5, .int a4), (6, .int a5)]) hx hb dX10_broke_81 hl (by decide +kernel) rfl ?_
            clear hl
            intro ls hl
            refine lv_iload hx hb dX10_broke_83 (lv_at hl 1 rfl) ?_
            refine lv_iload hx hb dX10_broke_85 (lv_at hl 0 rfl) ?_
            refine b_icmp_le hx hb rfl rfl (tgt := 96) dX10_broke_87 (by decide +kernel) (fun c_43 => ?_) (fun c_43 => ?_)
            · refine lv_bipush (v := 100) hx hb dX10_broke_96 (by decide +kernel) ?_
              refine lv_iload hx hb dX10_broke_98 (lv_at hl 1 rfl) ?_
              refine lv_imul hx hb dX10_broke_100 ?_
              refine lv_topi (fun v_44 ev_44 => ?_)
              have tv_44 : v_44.toInt = 100 * v_39.toInt := by rw [ev_44]; exact k_mulv zl_100 rfl (by omega) (by omega)
              refine lv_iload hx hb dX10_broke_101 (lv_at hl 0 rfl) ?_
              refine lv_iadd hx hb dX10_broke_103 ?_
              refine lv_topi (fun v_45 ev_45 => ?_)
              have tv_45 : v_45.toInt = v_44.toInt + v_42.toInt := by rw [ev_45]; exact k_addv rfl rfl (by omega) (by omega)
              exact hRet cb [0, 1] trivial hP hD (by decide +kernel) rfl hS rfl dX10_broke_104
            · refine lv_aload_n hx hb dX10_broke_90 rfl (lv_at hl 3 rfl) ?_
              refine lv_iconst (v := 2) hx hb dX10_broke_91 (by decide +kernel) ?_
              refine kJi (wr := []) (va_runV (As := [.int 2]) (rest := []) ⟨hx, hb, hml, hown, hT⟩ (c_X10_findingG l D cI aK aV k k0 k1 k2 k3 k4 k5 k6 k7 k8 k9 ka kb H.size cc cb 2) (cwV 1 hT (gV_in mw_338 mw_335 mw_337 mw_p1_0 mw_1) rfl rfl rfl (by decide +kernel) ⟨Nat.le_of_ble_eq_true rfl, Nat.le_of_ble_eq_true rfl⟩) (kRecvX (q0 := 0) (ci := 10) hK hP hD hN hXS hS hA rfl rfl [0, 1] rfl (by decide +kernel)) rfl rfl hl.1 rfl (lv_room (Nat.le_of_ble_eq_true rfl)) dX10_broke_92 ⟨Nat.le_of_ble_eq_true rfl, Nat.le_of_ble_eq_true rfl⟩) hP hD hS hA [0, 1] [] rfl rfl (by decide +kernel) (by decide +kernel) ?_
              clear hP hD hS
              intro r_46 scb_48 H locs w_47 hP hD hS
              replace hP : va_P D vwCl [(k, .inr (10, [.ref k0, .ref k1, .ref k2, .ref k3, .ref k4, .ref k5, .ref k6, .ref k7, .ref k8, .ref k9, .ref ka, .ref kb, .int cc])), (kb, .inl (cI, 6, .inl scb_48))] H := hP
              replace hD : va_D A [(k, .inr (10, [.ref k0, .ref k1, .ref k2, .ref k3, .ref k4, .ref k5, .ref k6, .ref k7, .ref k8, .ref k9, .ref ka, .ref kb, .int cc])), (kb, .inl (cI, 6, .inl scb_48))] := hD
              have hr_46 := w_47
              obtain rfl : r_46 = (-1000002) := hr_46.trans (by decide +kernel)
              exact hRet scb_48 [0, 1] trivial hP hD (by decide +kernel) rfl hS rfl dX10_broke_95
          · have h_35 : a4.toInt < 0 ∨ a5.toInt < a4.toInt ∨ 39 < a5.toInt := h_35
            obtain rfl : r_29 = 0 := hr_29.trans (by decide +kernel)
            refine b_if_ne hx hb zl_0 (tgt := 57) dX10_broke_48 (by decide +kernel) (fun c_49 => by exfalso; omega) (fun c_49 => ?_)
            refine lv_aload_n hx hb dX10_broke_51 rfl (lv_at hl 1 rfl) ?_
            refine lv_iconst (v := 1) hx hb dX10_broke_52 (by decide +kernel) ?_
            refine kJi (wr := []) (va_runV (As := [.int 1]) (rest := []) ⟨hx, hb, hml, hown, hT⟩ (c_X10_findingG l D cI aK aV k k0 k1 k2 k3 k4 k5 k6 k7 k8 k9 ka kb H.size cc cb 1) (cwV 1 hT (gV_in mw_338 mw_335 mw_337 mw_p1_0 mw_1) rfl rfl rfl (by decide +kernel) ⟨Nat.le_of_ble_eq_true rfl, Nat.le_of_ble_eq_true rfl⟩) (kRecvX (q0 := 0) (ci := 10) hK hP hD hN hXS hS hA rfl rfl [0, 1] rfl (by decide +kernel)) rfl rfl hl.1 rfl (lv_room (Nat.le_of_ble_eq_true rfl)) dX10_broke_53 ⟨Nat.le_of_ble_eq_true rfl, Nat.le_of_ble_eq_true rfl⟩) hP hD hS hA [0, 1] [] rfl rfl (by decide +kernel) (by decide +kernel) ?_
            clear hP hD hS
            intro r_50 scb_52 H locs w_51 hP hD hS
            replace hP : va_P D vwCl [(k, .inr (10, [.ref k0, .ref k1, .ref k2, .ref k3, .ref k4, .ref k5, .ref k6, .ref k7, .ref k8, .ref k9, .ref ka, .ref kb, .int cc])), (kb, .inl (cI, 6, .inl scb_52))] H := hP
            replace hD : va_D A [(k, .inr (10, [.ref k0, .ref k1, .ref k2, .ref k3, .ref k4, .ref k5, .ref k6, .ref k7, .ref k8, .ref k9, .ref ka, .ref kb, .int cc])), (kb, .inl (cI, 6, .inl scb_52))] := hD
            have hr_50 := w_51
            obtain rfl : r_50 = (-1000001) := hr_50.trans (by decide +kernel)
            exact hRet scb_52 [0, 1] trivial hP hD (by decide +kernel) rfl hS rfl dX10_broke_56
        · have h_27 : a1.toInt < 0 ∨ a2.toInt < a1.toInt ∨ 39 < a2.toInt := h_27
          obtain rfl : r_21 = 0 := hr_21.trans (by decide +kernel)
          refine b_if_eq hx hb zl_0 (tgt := 51) dX10_broke_38 (by decide +kernel) (fun c_53 => ?_) (fun c_53 => by exfalso; omega)
          refine lv_aload_n hx hb dX10_broke_51 rfl (lv_at hl 1 rfl) ?_
          refine lv_iconst (v := 1) hx hb dX10_broke_52 (by decide +kernel) ?_
          refine kJi (wr := []) (va_runV (As := [.int 1]) (rest := []) ⟨hx, hb, hml, hown, hT⟩ (c_X10_findingG l D cI aK aV k k0 k1 k2 k3 k4 k5 k6 k7 k8 k9 ka kb H.size cc cb 1) (cwV 1 hT (gV_in mw_338 mw_335 mw_337 mw_p1_0 mw_1) rfl rfl rfl (by decide +kernel) ⟨Nat.le_of_ble_eq_true rfl, Nat.le_of_ble_eq_true rfl⟩) (kRecvX (q0 := 0) (ci := 10) hK hP hD hN hXS hS hA rfl rfl [0, 1] rfl (by decide +kernel)) rfl rfl hl.1 rfl (lv_room (Nat.le_of_ble_eq_true rfl)) dX10_broke_53 ⟨Nat.le_of_ble_eq_true rfl, Nat.le_of_ble_eq_true rfl⟩) hP hD hS hA [0, 1] [] rfl rfl (by decide +kernel) (by decide +kernel) ?_
          clear hP hD hS
          intro r_54 scb_56 H locs w_55 hP hD hS
          replace hP : va_P D vwCl [(k, .inr (10, [.ref k0, .ref k1, .ref k2, .ref k3, .ref k4, .ref k5, .ref k6, .ref k7, .ref k8, .ref k9, .ref ka, .ref kb, .int cc])), (kb, .inl (cI, 6, .inl scb_56))] H := hP
          replace hD : va_D A [(k, .inr (10, [.ref k0, .ref k1, .ref k2, .ref k3, .ref k4, .ref k5, .ref k6, .ref k7, .ref k8, .ref k9, .ref ka, .ref kb, .int cc])), (kb, .inl (cI, 6, .inl scb_56))] := hD
          have hr_54 := w_55
          obtain rfl : r_54 = (-1000001) := hr_54.trans (by decide +kernel)
          exact hRet scb_56 [0, 1] trivial hP hD (by decide +kernel) rfl hS rfl dX10_broke_56
    · have h_13 : a3.toInt < 0 ∨ 39 < a3.toInt := h_13
      obtain rfl : r_8 = 0 := hr_8.trans (by decide +kernel)
      refine b_if_eq hx hb zl_0 (tgt := 25) dX10_broke_12 (by decide +kernel) (fun c_57 => ?_) (fun c_57 => by exfalso; omega)
      refine lv_iconst (v := 0) hx hb dX10_broke_25 (by decide +kernel) ?_
      refine lv_istore (lv' := [(7, .int 0), (0, .ref k), (1, .int a0), (2, .int a1), (3, .int a2), (4, .int a3), (5, .int a4), (6, .int a5)]) hx hb dX10_broke_26 hl (by decide +kernel) rfl ?_
      clear hl
      intro ls hl
      refine lv_iload hx hb dX10_broke_28 (lv_at hl 0 rfl) ?_
      refine b_if_eq hx hb zl_0 (tgt := 51) dX10_broke_30 (by decide +kernel) (fun c_58 => ?_) (fun c_58 => by exfalso; omega)
      refine lv_aload_n hx hb dX10_broke_51 rfl (lv_at hl 1 rfl) ?_
      refine lv_iconst (v := 1) hx hb dX10_broke_52 (by decide +kernel) ?_
      refine kJi (wr := []) (va_runV (As := [.int 1]) (rest := []) ⟨hx, hb, hml, hown, hT⟩ (c_X10_findingG l D cI aK aV k k0 k1 k2 k3 k4 k5 k6 k7 k8 k9 ka kb H.size cc cb 1) (cwV 1 hT (gV_in mw_338 mw_335 mw_337 mw_p1_0 mw_1) rfl rfl rfl (by decide +kernel) ⟨Nat.le_of_ble_eq_true rfl, Nat.le_of_ble_eq_true rfl⟩) (kRecvX (q0 := 0) (ci := 10) hK hP hD hN hXS hS hA rfl rfl [0, 1] rfl (by decide +kernel)) rfl rfl hl.1 rfl (lv_room (Nat.le_of_ble_eq_true rfl)) dX10_broke_53 ⟨Nat.le_of_ble_eq_true rfl, Nat.le_of_ble_eq_true rfl⟩) hP hD hS hA [0, 1] [] rfl rfl (by decide +kernel) (by decide +kernel) ?_
      clear hP hD hS
      intro r_59 scb_61 H locs w_60 hP hD hS
      replace hP : va_P D vwCl [(k, .inr (10, [.ref k0, .ref k1, .ref k2, .ref k3, .ref k4, .ref k5, .ref k6, .ref k7, .ref k8, .ref k9, .ref ka, .ref kb, .int cc])), (kb, .inl (cI, 6, .inl scb_61))] H := hP
      replace hD : va_D A [(k, .inr (10, [.ref k0, .ref k1, .ref k2, .ref k3, .ref k4, .ref k5, .ref k6, .ref k7, .ref k8, .ref k9, .ref ka, .ref kb, .int cc])), (kb, .inl (cI, 6, .inl scb_61))] := hD
      have hr_59 := w_60
      obtain rfl : r_59 = (-1000001) := hr_59.trans (by decide +kernel)
      exact hRet scb_61 [0, 1] trivial hP hD (by decide +kernel) rfl hS rfl dX10_broke_56
  · have h_6 : a0.toInt < 0 ∨ 39 < a0.toInt := h_6
    obtain rfl : r_1 = 0 := hr_1.trans (by decide +kernel)
    refine b_if_eq hx hb zl_0 (tgt := 25) dX10_broke_4 (by decide +kernel) (fun c_62 => ?_) (fun c_62 => by exfalso; omega)
    refine lv_iconst (v := 0) hx hb dX10_broke_25 (by decide +kernel) ?_
    refine lv_istore (lv' := [(7, .int 0), (0, .ref k), (1, .int a0), (2, .int a1), (3, .int a2), (4, .int a3), (5, .int a4), (6, .int a5)]) hx hb dX10_broke_26 hl (by decide +kernel) rfl ?_
    clear hl
    intro ls hl
    refine lv_iload hx hb dX10_broke_28 (lv_at hl 0 rfl) ?_
    refine b_if_eq hx hb zl_0 (tgt := 51) dX10_broke_30 (by decide +kernel) (fun c_63 => ?_) (fun c_63 => by exfalso; omega)
    refine lv_aload_n hx hb dX10_broke_51 rfl (lv_at hl 1 rfl) ?_
    refine lv_iconst (v := 1) hx hb dX10_broke_52 (by decide +kernel) ?_
    refine kJi (wr := []) (va_runV (As := [.int 1]) (rest := []) ⟨hx, hb, hml, hown, hT⟩ (c_X10_findingG l D cI aK aV k k0 k1 k2 k3 k4 k5 k6 k7 k8 k9 ka kb H.size cc cb 1) (cwV 1 hT (gV_in mw_338 mw_335 mw_337 mw_p1_0 mw_1) rfl rfl rfl (by decide +kernel) ⟨Nat.le_of_ble_eq_true rfl, Nat.le_of_ble_eq_true rfl⟩) (kRecvX (q0 := 0) (ci := 10) hK hP hD hN hXS hS hA rfl rfl [0, 1] rfl (by decide +kernel)) rfl rfl hl.1 rfl (lv_room (Nat.le_of_ble_eq_true rfl)) dX10_broke_53 ⟨Nat.le_of_ble_eq_true rfl, Nat.le_of_ble_eq_true rfl⟩) hP hD hS hA [0, 1] [] rfl rfl (by decide +kernel) (by decide +kernel) ?_
    clear hP hD hS
    intro r_64 scb_66 H locs w_65 hP hD hS
    replace hP : va_P D vwCl [(k, .inr (10, [.ref k0, .ref k1, .ref k2, .ref k3, .ref k4, .ref k5, .ref k6, .ref k7, .ref k8, .ref k9, .ref ka, .ref kb, .int cc])), (kb, .inl (cI, 6, .inl scb_66))] H := hP
    replace hD : va_D A [(k, .inr (10, [.ref k0, .ref k1, .ref k2, .ref k3, .ref k4, .ref k5, .ref k6, .ref k7, .ref k8, .ref k9, .ref ka, .ref kb, .int cc])), (kb, .inl (cI, 6, .inl scb_66))] := hD
    have hr_64 := w_65
    obtain rfl : r_64 = (-1000001) := hr_64.trans (by decide +kernel)
    exact hRet scb_66 [0, 1] trivial hP hD (by decide +kernel) rfl hS rfl dX10_broke_56
