
set_option maxHeartbeats 4000000 in
set_option maxRecDepth 100000 in
theorem c_X6_numberAtT (l : Launch) (D : va_G) (cI : ClassId) (aK aV : Nat → Nat) (k k0 k1 k2 : Nat) (sz : Nat) (c1 : Nat → Int32) (c2 : Nat → Int32) (a0 : Int32) (a1 : Int32) (pre0 : ∀ k : Nat, k < 4 → 0 ≤ (c1 k).toInt ∧ (c1 k).toInt ≤ 36) (pre1 : ∀ i : Int32, i.toInt % 3 = 2 → (kNum c1 c2 a0 i).toInt ≤ 3) (pre2 : a1.toInt % 3 = 2) : Met l yX6_numberAt (gW yX6_numberAt cX6_numberAt 3 (some .int)) ({ frames := 3, cells := 0, slots := 0, locals := 63 } : Room) (kPreX D cI aK aV [.ref k, .int a0, .int a1] [(k, .inr (6, [.ref k0, .ref k1, .ref k2])), (k1, .inl (cI, 4, .inl c1)), (k2, .inl (cI, 144, .inl c2))] sz) (va_Qi (fun (r : Int32) (u : Unit) => r.toInt ≤ 3) (fun u t => kWd D cI (va_A [(k, .inr (6, [.ref k0, .ref k1, .ref k2])), (k1, .inl (cI, 4, .inl c1)), (k2, .inl (cI, 144, .inl c2))] sz) [(k, .inr (6, [.ref k0, .ref k1, .ref k2])), (k1, .inl (cI, 4, .inl c1)), (k2, .inl (cI, 144, .inl c2))] t) (va_A [(k, .inr (6, [.ref k0, .ref k1, .ref k2])), (k1, .inl (cI, 4, .inl c1)), (k2, .inl (cI, 144, .inl c2))] sz)) 0 0 (va_A [(k, .inr (6, [.ref k0, .ref k1, .ref k2])), (k1, .inl (cI, 4, .inl c1)), (k2, .inl (cI, 144, .inl c2))] sz) := by
  refine kMetIX (own := RX6) (by decide +kernel) rfl (Nat.le_of_ble_eq_true rfl) ?_
  intro p e s m args below meth c hx hb hT hown hname hml A Q hK hP hD hS hA hN hXS hRet ls hl
  have hl : lv_has ls 3 [(0, .ref k), (1, .int a0), (2, .int a1)] := hl
  have lo_a0 := k_lo a0
  have hi_a0 := k_hi a0
  have lo_a1 := k_lo a1
  have hi_a1 := k_hi a1
  refine lv_aload_n hx hb dX6_numberAt_0 rfl (lv_at hl 0 rfl) ?_
  refine lv_iload_n hx hb dX6_numberAt_1 rfl (lv_at hl 1 rfl) ?_
  refine lv_iload_n hx hb dX6_numberAt_2 rfl (lv_at hl 2 rfl) ?_
  refine kJi (wr := [(k2, .inl (cI, 144, .inl c2))]) (va_runV (As := [.int a0, .int a1]) (rest := []) ⟨hx, hb, hml, hown, hT⟩ (c_X6_holdsG l D cI aK aV k k0 k1 k2 s.heap.size c1 a0 a1 (by first | omega | decide | assumption | rfl)) (cwV 2 hT (gV_in mw_688 mw_685 mw_686 mw_687 mw_11) rfl rfl rfl (by decide +kernel) ⟨Nat.le_of_ble_eq_true rfl, Nat.le_of_ble_eq_true rfl⟩) (kRecvX (q0 := 0) (ci := 6) hK hP hD hN hXS hS hA rfl rfl [0, 1] rfl (by decide +kernel)) rfl rfl hl.1 rfl (lv_room (Nat.le_of_ble_eq_true rfl)) dX6_numberAt_3 ⟨Nat.le_of_ble_eq_true rfl, Nat.le_of_ble_eq_true rfl⟩) hP hD hS hA [0, 1] [2] rfl rfl (by decide +kernel) (by decide +kernel) ?_
  clear hP hD hS
  intro r_1 u_3 H locs w_2 hP hD hS
  replace hP : va_P D vwCl [(k2, .inl (cI, 144, .inl c2)), (k, .inr (6, [.ref k0, .ref k1, .ref k2])), (k1, .inl (cI, 4, .inl c1))] H := hP
  replace hD : va_D A [(k2, .inl (cI, 144, .inl c2)), (k, .inr (6, [.ref k0, .ref k1, .ref k2])), (k1, .inl (cI, 4, .inl c1))] := hD
  rcases w_2 with ⟨hr_1, h_4, h_5, h_6, h_7, h_8⟩ | ⟨hr_1, h_9⟩
  · have h_4 : 0 ≤ a0.toInt := h_4
    have h_5 : a0.toInt ≤ 3 := h_5
    have h_6 : 0 ≤ a1.toInt := h_6
    have h_7 : a1.toInt ≤ 35 := h_7
    have h_8 : a1.toInt < (c1 a0.toNatClampNeg).toInt := h_8
    obtain rfl : r_1 = 1 := hr_1.trans (by decide +kernel)
    refine b_if_eq hx hb zl_1 (tgt := 23) dX6_numberAt_6 (by decide +kernel) (fun c_10 => by exfalso; omega) (fun c_10 => ?_)
    refine lv_aload_n hx hb dX6_numberAt_9 rfl (lv_at hl 0 rfl) ?_
    refine va_get (D := D) (ci := 6) (v := .ref k2) (C := RX6) (T := TX6) (N := 3) hx hb hT giX6 hown hK hP 1 rfl rfl 2 (by decide +kernel) (hT (Cond.fieldLink RX6 18 "DesertWire$Sheets" "numbers" "[I") mw_283) (fun _ h9 => h9) rfl dX6_numberAt_10 ?_
    refine lv_iload_n hx hb dX6_numberAt_13 rfl (lv_at hl 1 rfl) ?_
    refine lv_bipush (v := 36) hx hb dX6_numberAt_14 (by decide +kernel) ?_
    refine lv_imul hx hb dX6_numberAt_16 ?_
    refine lv_topi (fun v_11 ev_11 => ?_)
    have tv_11 : v_11.toInt = a0.toInt * 36 := by rw [ev_11]; exact k_mulv rfl zl_36 (by omega) (by omega)
    refine lv_iload_n hx hb dX6_numberAt_17 rfl (lv_at hl 2 rfl) ?_
    refine lv_iadd hx hb dX6_numberAt_18 ?_
    refine lv_topi (fun v_12 ev_12 => ?_)
    have tv_12 : v_12.toInt = v_11.toInt + a1.toInt := by rw [ev_12]; exact k_addv rfl rfl (by omega) (by omega)
    refine k_iald (v := (c2 v_12.toNatClampNeg)) hx hb hK hP 0 0 rfl rfl (k_in (by omega) (by omega)) rfl dX6_numberAt_19 ?_
    refine lv_topi (fun v_13 ev_13 => ?_)
    have lo_v_13 := k_lo v_13
    have hi_v_13 := k_hi v_13
    have tv_13 : v_13.toInt = (c2 v_12.toNatClampNeg).toInt := by rw [ev_13]
    refine lv_goto (tgt := 24) hx hb dX6_numberAt_20 (by decide +kernel) ?_
    exact hRet () [1, 2, 0] (by have z := pre1 a1 pre2; rw [← kNum_in (v := v_13) (by omega) (by omega) (by omega) (by omega) (by omega) ev_13 (by omega)] at z; exact z) hP hD (by decide +kernel) rfl hS rfl dX6_numberAt_24
  · have h_9 : a0.toInt < 0 ∨ 3 < a0.toInt ∨ a1.toInt < 0 ∨ 35 < a1.toInt ∨ (c1 a0.toNatClampNeg).toInt ≤ a1.toInt := h_9
    obtain rfl : r_1 = 0 := hr_1.trans (by decide +kernel)
    refine b_if_eq hx hb zl_0 (tgt := 23) dX6_numberAt_6 (by decide +kernel) (fun c_14 => ?_) (fun c_14 => by exfalso; omega)
    refine lv_iconst (v := 0) hx hb dX6_numberAt_23 (by decide +kernel) ?_
    exact hRet () [1, 2, 0] (by rw [zl_0]; omega) hP hD (by decide +kernel) rfl hS rfl dX6_numberAt_24
theorem bn_cX10_areThings_0 : BN cX10_areThings 0 0x2b40ab5802a0080442ab4080600a6c76025c81c0abf00adcc2060f0708e015a8ac2e014d0182c1c00a680a16030dc76025cba00812022fc02b7308143c1c238056a2b028dc76025c8a422055f8056e1e0e11c02b51593802a30e8787e04568100c014d1c40e1d0500548190887420015101c3a3e5a0056e1c238056a2b := by
  unfold BN; decide +kernel
theorem dX10_areThings_0 : decode cX10_areThings 0 = .ok (.aload_n 0, 1) := dR0 (k := 0) (i := 0) bn_cX10_areThings_0 dop_42 (by decide +kernel)
theorem dX10_areThings_1 : decode cX10_areThings 1 = .ok (.getfield 70, 3) := dR2 (f := Instr.getfield) (k := 0) (i := 1) bn_cX10_areThings_0 dop_180 70 (by decide +kernel)
theorem dX10_areThings_4 : decode cX10_areThings 4 = .ok (.iload_n 1, 1) := dR0 (k := 0) (i := 4) bn_cX10_areThings_0 dop_27 (by decide +kernel)
theorem dX10_areThings_5 : decode cX10_areThings 5 = .ok (.invokevirtual 179, 3) := dR2 (f := Instr.invokevirtual) (k := 0) (i := 5) bn_cX10_areThings_0 dop_182 179 (by decide +kernel)
theorem dX10_areThings_8 : decode cX10_areThings 8 = .ok (.istore_n 2, 1) := dR0 (k := 0) (i := 8) bn_cX10_areThings_0 dop_61 (by decide +kernel)
theorem dX10_areThings_9 : decode cX10_areThings 9 = .ok (.iload_n 2, 1) := dR0 (k := 0) (i := 9) bn_cX10_areThings_0 dop_28 (by decide +kernel)
theorem dX10_areThings_10 : decode cX10_areThings 10 = .ok (.iconst 3, 1) := dR0 (k := 0) (i := 10) bn_cX10_areThings_0 dop_6 (by decide +kernel)
theorem dX10_areThings_11 : decode cX10_areThings 11 = .ok (.if_icmp .lt 15, 3) := dR2s (f := Instr.if_icmp .lt) (k := 0) (i := 11) bn_cX10_areThings_0 dop_161 15 15 (by decide +kernel)
theorem dX10_areThings_14 : decode cX10_areThings 14 = .ok (.iload_n 2, 1) := dR0 (k := 0) (i := 14) bn_cX10_areThings_0 dop_28 (by decide +kernel)
theorem dX10_areThings_15 : decode cX10_areThings 15 = .ok (.bipush 24, 2) := dR1s (f := Instr.bipush) (k := 0) (i := 15) bn_cX10_areThings_0 dop_16 24 24 (by decide +kernel)
theorem dX10_areThings_17 : decode cX10_areThings 17 = .ok (.if_icmp .gt 9, 3) := dR2s (f := Instr.if_icmp .gt) (k := 0) (i := 17) bn_cX10_areThings_0 dop_163 9 9 (by decide +kernel)
theorem dX10_areThings_20 : decode cX10_areThings 20 = .ok (.iload_n 2, 1) := dR0 (k := 0) (i := 20) bn_cX10_areThings_0 dop_28 (by decide +kernel)
theorem dX10_areThings_21 : decode cX10_areThings 21 = .ok (.iconst 3, 1) := dR0 (k := 0) (i := 21) bn_cX10_areThings_0 dop_6 (by decide +kernel)
theorem dX10_areThings_22 : decode cX10_areThings 22 = .ok (.irem, 1) := dR0 (k := 0) (i := 22) bn_cX10_areThings_0 dop_112 (by decide +kernel)
theorem dX10_areThings_23 : decode cX10_areThings 23 = .ok (.ifCond .eq 5, 3) := dR2s (f := Instr.ifCond .eq) (k := 0) (i := 23) bn_cX10_areThings_0 dop_153 5 5 (by decide +kernel)
theorem dX10_areThings_26 : decode cX10_areThings 26 = .ok (.iconst 0, 1) := dR0 (k := 0) (i := 26) bn_cX10_areThings_0 dop_3 (by decide +kernel)
theorem dX10_areThings_27 : decode cX10_areThings 27 = .ok (.ireturn, 1) := dR0 (k := 0) (i := 27) bn_cX10_areThings_0 dop_172 (by decide +kernel)
theorem dX10_areThings_28 : decode cX10_areThings 28 = .ok (.iconst 0, 1) := dR0 (k := 0) (i := 28) bn_cX10_areThings_0 dop_3 (by decide +kernel)
theorem dX10_areThings_29 : decode cX10_areThings 29 = .ok (.istore_n 3, 1) := dR0 (k := 0) (i := 29) bn_cX10_areThings_0 dop_62 (by decide +kernel)
theorem dX10_areThings_30 : decode cX10_areThings 30 = .ok (.iload_n 3, 1) := dR0 (k := 0) (i := 30) bn_cX10_areThings_0 dop_29 (by decide +kernel)
theorem dX10_areThings_31 : decode cX10_areThings 31 = .ok (.iload_n 2, 1) := dR0 (k := 0) (i := 31) bn_cX10_areThings_0 dop_28 (by decide +kernel)
theorem dX10_areThings_32 : decode cX10_areThings 32 = .ok (.if_icmp .ge 77, 3) := dR2s (f := Instr.if_icmp .ge) (k := 0) (i := 32) bn_cX10_areThings_0 dop_162 77 77 (by decide +kernel)
theorem dX10_areThings_35 : decode cX10_areThings 35 = .ok (.aload_n 0, 1) := dR0 (k := 0) (i := 35) bn_cX10_areThings_0 dop_42 (by decide +kernel)
theorem dX10_areThings_36 : decode cX10_areThings 36 = .ok (.getfield 70, 3) := dR2 (f := Instr.getfield) (k := 0) (i := 36) bn_cX10_areThings_0 dop_180 70 (by decide +kernel)
theorem dX10_areThings_39 : decode cX10_areThings 39 = .ok (.iload_n 1, 1) := dR0 (k := 0) (i := 39) bn_cX10_areThings_0 dop_27 (by decide +kernel)
theorem dX10_areThings_40 : decode cX10_areThings 40 = .ok (.iload_n 3, 1) := dR0 (k := 0) (i := 40) bn_cX10_areThings_0 dop_29 (by decide +kernel)
theorem dX10_areThings_41 : decode cX10_areThings 41 = .ok (.invokevirtual 190, 3) := dR2 (f := Instr.invokevirtual) (k := 0) (i := 41) bn_cX10_areThings_0 dop_182 190 (by decide +kernel)
theorem dX10_areThings_44 : decode cX10_areThings 44 = .ok (.iconst 1, 1) := dR0 (k := 0) (i := 44) bn_cX10_areThings_0 dop_4 (by decide +kernel)
theorem dX10_areThings_45 : decode cX10_areThings 45 = .ok (.bipush 40, 2) := dR1s (f := Instr.bipush) (k := 0) (i := 45) bn_cX10_areThings_0 dop_16 40 40 (by decide +kernel)
theorem dX10_areThings_47 : decode cX10_areThings 47 = .ok (.invokestatic 314, 3) := dR2 (f := Instr.invokestatic) (k := 0) (i := 47) bn_cX10_areThings_0 dop_184 314 (by decide +kernel)
theorem dX10_areThings_50 : decode cX10_areThings 50 = .ok (.istore 4, 2) := dR1 (f := Instr.istore) (k := 0) (i := 50) bn_cX10_areThings_0 dop_54 4 (by decide +kernel)
theorem dX10_areThings_52 : decode cX10_areThings 52 = .ok (.aload_n 0, 1) := dR0 (k := 0) (i := 52) bn_cX10_areThings_0 dop_42 (by decide +kernel)
theorem dX10_areThings_53 : decode cX10_areThings 53 = .ok (.getfield 70, 3) := dR2 (f := Instr.getfield) (k := 0) (i := 53) bn_cX10_areThings_0 dop_180 70 (by decide +kernel)
theorem dX10_areThings_56 : decode cX10_areThings 56 = .ok (.iload_n 1, 1) := dR0 (k := 0) (i := 56) bn_cX10_areThings_0 dop_27 (by decide +kernel)
theorem dX10_areThings_57 : decode cX10_areThings 57 = .ok (.iload_n 3, 1) := dR0 (k := 0) (i := 57) bn_cX10_areThings_0 dop_29 (by decide +kernel)
theorem dX10_areThings_58 : decode cX10_areThings 58 = .ok (.iconst 1, 1) := dR0 (k := 0) (i := 58) bn_cX10_areThings_0 dop_4 (by decide +kernel)
theorem dX10_areThings_59 : decode cX10_areThings 59 = .ok (.iadd, 1) := dR0 (k := 0) (i := 59) bn_cX10_areThings_0 dop_96 (by decide +kernel)
theorem dX10_areThings_60 : decode cX10_areThings 60 = .ok (.invokevirtual 190, 3) := dR2 (f := Instr.invokevirtual) (k := 0) (i := 60) bn_cX10_areThings_0 dop_182 190 (by decide +kernel)
theorem dX10_areThings_63 : decode cX10_areThings 63 = .ok (.iconst 0, 1) := dR0 (k := 0) (i := 63) bn_cX10_areThings_0 dop_3 (by decide +kernel)
theorem dX10_areThings_64 : decode cX10_areThings 64 = .ok (.sipush 999, 3) := dR2s (f := Instr.sipush) (k := 0) (i := 64) bn_cX10_areThings_0 dop_17 999 999 (by decide +kernel)
theorem dX10_areThings_67 : decode cX10_areThings 67 = .ok (.invokestatic 314, 3) := dR2 (f := Instr.invokestatic) (k := 0) (i := 67) bn_cX10_areThings_0 dop_184 314 (by decide +kernel)
theorem dX10_areThings_70 : decode cX10_areThings 70 = .ok (.istore 5, 2) := dR1 (f := Instr.istore) (k := 0) (i := 70) bn_cX10_areThings_0 dop_54 5 (by decide +kernel)
theorem dX10_areThings_72 : decode cX10_areThings 72 = .ok (.iload 4, 2) := dR1 (f := Instr.iload) (k := 0) (i := 72) bn_cX10_areThings_0 dop_21 4 (by decide +kernel)
theorem dX10_areThings_74 : decode cX10_areThings 74 = .ok (.ifCond .eq 27, 3) := dR2s (f := Instr.ifCond .eq) (k := 0) (i := 74) bn_cX10_areThings_0 dop_153 27 27 (by decide +kernel)
theorem dX10_areThings_77 : decode cX10_areThings 77 = .ok (.iload 5, 2) := dR1 (f := Instr.iload) (k := 0) (i := 77) bn_cX10_areThings_0 dop_21 5 (by decide +kernel)
theorem dX10_areThings_79 : decode cX10_areThings 79 = .ok (.ifCond .eq 22, 3) := dR2s (f := Instr.ifCond .eq) (k := 0) (i := 79) bn_cX10_areThings_0 dop_153 22 22 (by decide +kernel)
theorem dX10_areThings_82 : decode cX10_areThings 82 = .ok (.aload_n 0, 1) := dR0 (k := 0) (i := 82) bn_cX10_areThings_0 dop_42 (by decide +kernel)
theorem dX10_areThings_83 : decode cX10_areThings 83 = .ok (.getfield 70, 3) := dR2 (f := Instr.getfield) (k := 0) (i := 83) bn_cX10_areThings_0 dop_180 70 (by decide +kernel)
theorem dX10_areThings_86 : decode cX10_areThings 86 = .ok (.iload_n 1, 1) := dR0 (k := 0) (i := 86) bn_cX10_areThings_0 dop_27 (by decide +kernel)
theorem dX10_areThings_87 : decode cX10_areThings 87 = .ok (.iload_n 3, 1) := dR0 (k := 0) (i := 87) bn_cX10_areThings_0 dop_29 (by decide +kernel)
theorem dX10_areThings_88 : decode cX10_areThings 88 = .ok (.iconst 2, 1) := dR0 (k := 0) (i := 88) bn_cX10_areThings_0 dop_5 (by decide +kernel)
theorem dX10_areThings_89 : decode cX10_areThings 89 = .ok (.iadd, 1) := dR0 (k := 0) (i := 89) bn_cX10_areThings_0 dop_96 (by decide +kernel)
theorem dX10_areThings_90 : decode cX10_areThings 90 = .ok (.invokevirtual 190, 3) := dR2 (f := Instr.invokevirtual) (k := 0) (i := 90) bn_cX10_areThings_0 dop_182 190 (by decide +kernel)
theorem dX10_areThings_93 : decode cX10_areThings 93 = .ok (.iconst 1, 1) := dR0 (k := 0) (i := 93) bn_cX10_areThings_0 dop_4 (by decide +kernel)
theorem dX10_areThings_94 : decode cX10_areThings 94 = .ok (.iconst 3, 1) := dR0 (k := 0) (i := 94) bn_cX10_areThings_0 dop_6 (by decide +kernel)
theorem dX10_areThings_95 : decode cX10_areThings 95 = .ok (.invokestatic 314, 3) := dR2 (f := Instr.invokestatic) (k := 0) (i := 95) bn_cX10_areThings_0 dop_184 314 (by decide +kernel)
theorem dX10_areThings_98 : decode cX10_areThings 98 = .ok (.ifCond .ne 5, 3) := dR2s (f := Instr.ifCond .ne) (k := 0) (i := 98) bn_cX10_areThings_0 dop_154 5 5 (by decide +kernel)
theorem dX10_areThings_101 : decode cX10_areThings 101 = .ok (.iconst 0, 1) := dR0 (k := 0) (i := 101) bn_cX10_areThings_0 dop_3 (by decide +kernel)
theorem dX10_areThings_102 : decode cX10_areThings 102 = .ok (.ireturn, 1) := dR0 (k := 0) (i := 102) bn_cX10_areThings_0 dop_172 (by decide +kernel)
theorem dX10_areThings_103 : decode cX10_areThings 103 = .ok (.iinc 3 3, 3) := dRii (f := Instr.iinc) (k := 0) (i := 103) bn_cX10_areThings_0 dop_132 3 3 3 (by decide +kernel)
theorem dX10_areThings_106 : decode cX10_areThings 106 = .ok (.goto (-76), 3) := dR2s (f := Instr.goto) (k := 0) (i := 106) bn_cX10_areThings_0 dop_167 65460 (-76) (by decide +kernel)
theorem dX10_areThings_109 : decode cX10_areThings 109 = .ok (.iconst 1, 1) := dR0 (k := 0) (i := 109) bn_cX10_areThings_0 dop_4 (by decide +kernel)
theorem dX10_areThings_110 : decode cX10_areThings 110 = .ok (.ireturn, 1) := dR0 (k := 0) (i := 110) bn_cX10_areThings_0 dop_172 (by decide +kernel)
set_option maxHeartbeats 4000000 in
set_option maxRecDepth 100000 in
theorem c_X10_areThingsG (l : Launch) (D : va_G) (cI : ClassId) (aK aV : Nat → Nat) (k k0 k1 k2 k3 k4 k5 k6 k7 k8 k9 ka kb ka0 ka1 ka2 : Nat) (sz : Nat) (cc : Int32) (ca1 : Nat → Int32) (ca2 : Nat → Int32) (a0 : Int32) (pre0 : ∀ k : Nat, k < 4 → 0 ≤ (ca1 k).toInt ∧ (ca1 k).toInt ≤ 36) (pre1 : 0 ≤ a0.toInt) (pre2 : a0.toInt ≤ 3) : Met l yX10_areThings (gW yX10_areThings cX10_areThings 6 (some .boolean)) ({ frames := 4, cells := 0, slots := 0, locals := 85 } : Room) (kPreX D cI aK aV [.ref k, .int a0] [(k, .inr (10, [.ref k0, .ref k1, .ref k2, .ref k3, .ref k4, .ref k5, .ref k6, .ref k7, .ref k8, .ref k9, .ref ka, .ref kb, .int cc])), (ka, .inr (6, [.ref ka0, .ref ka1, .ref ka2])), (ka1, .inl (cI, 4, .inl ca1)), (ka2, .inl (cI, 144, .inl ca2))] sz) (va_Qi (fun (r : Int32) (u : Unit) => (r = 1 ∧ 3 ≤ (ca1 a0.toNatClampNeg).toInt ∧ (ca1 a0.toNatClampNeg).toInt ≤ 24 ∧ (∀ i : Int32, i.toInt % 3 = 2 → (kNum ca1 ca2 a0 i).toInt ≤ 3)) ∨ (r = 0)) (fun u t => kWd D cI (va_A [(k, .inr (10, [.ref k0, .ref k1, .ref k2, .ref k3, .ref k4, .ref k5, .ref k6, .ref k7, .ref k8, .ref k9, .ref ka, .ref kb, .int cc])), (ka, .inr (6, [.ref ka0, .ref ka1, .ref ka2])), (ka1, .inl (cI, 4, .inl ca1)), (ka2, .inl (cI, 144, .inl ca2))] sz) [(k, .inr (10, [.ref k0, .ref k1, .ref k2, .ref k3, .ref k4, .ref k5, .ref k6, .ref k7, .ref k8, .ref k9, .ref ka, .ref kb, .int cc])), (ka, .inr (6, [.ref ka0, .ref ka1, .ref ka2])), (ka1, .inl (cI, 4, .inl ca1)), (ka2, .inl (cI, 144, .inl ca2))] t) (va_A [(k, .inr (10, [.ref k0, .ref k1, .ref k2, .ref k3, .ref k4, .ref k5, .ref k6, .ref k7, .ref k8, .ref k9, .ref ka, .ref kb, .int cc])), (ka, .inr (6, [.ref ka0, .ref ka1, .ref ka2])), (ka1, .inl (cI, 4, .inl ca1)), (ka2, .inl (cI, 144, .inl ca2))] sz)) 0 0 (va_A [(k, .inr (10, [.ref k0, .ref k1, .ref k2, .ref k3, .ref k4, .ref k5, .ref k6, .ref k7, .ref k8, .ref k9, .ref ka, .ref kb, .int cc])), (ka, .inr (6, [.ref ka0, .ref ka1, .ref ka2])), (ka1, .inl (cI, 4, .inl ca1)), (ka2, .inl (cI, 144, .inl ca2))] sz) := by
  refine kMetIX (own := RX10) (by decide +kernel) rfl (Nat.le_of_ble_eq_true rfl) ?_
  intro p e s m args below meth c hx hb hT hown hname hml A Q hK hP hD hS hA hN hXS hRet ls hl
  have hl : lv_has ls 6 [(0, .ref k), (1, .int a0)] := hl
  have lo_a0 := k_lo a0
  have hi_a0 := k_hi a0
  refine lv_aload_n hx hb dX10_areThings_0 rfl (lv_at hl 0 rfl) ?_
  refine va_get (D := D) (ci := 10) (v := .ref ka) (C := RX10) (T := TX10) (N := 13) hx hb hT giX10 hown hK hP 0 rfl rfl 10 (by decide +kernel) (hT (Cond.fieldLink RX10 70 "DesertWire" "sheets" "LDesertWire$Sheets;") mw_301) (fun _ h9 => h9) rfl dX10_areThings_1 ?_
  refine lv_iload_n hx hb dX10_areThings_4 rfl (lv_at hl 1 rfl) ?_
  refine kJi (wr := [(k, .inr (10, [.ref k0, .ref k1, .ref k2, .ref k3, .ref k4, .ref k5, .ref k6, .ref k7, .ref k8, .ref k9, .ref ka, .ref kb, .int cc])), (ka2, .inl (cI, 144, .inl ca2))]) (va_runV (As := [.int a0]) (rest := []) ⟨hx, hb, hml, hown, hT⟩ (c_X6_lengthOfG l D cI aK aV ka ka0 ka1 ka2 s.heap.size ca1 a0 (by first | omega | decide | assumption | rfl)) (cwV 1 hT (gV_in mw_675 mw_672 mw_673 mw_674 mw_11) rfl rfl rfl (by decide +kernel) ⟨Nat.le_of_ble_eq_true rfl, Nat.le_of_ble_eq_true rfl⟩) (kRecvX (q0 := 1) (ci := 6) hK hP hD hN hXS hS hA rfl rfl [1, 2] rfl (by decide +kernel)) rfl rfl hl.1 rfl (lv_room (Nat.le_of_ble_eq_true rfl)) dX10_areThings_5 ⟨Nat.le_of_ble_eq_true rfl, Nat.le_of_ble_eq_true rfl⟩) hP hD hS hA [1, 2] [0, 3] rfl rfl (by decide +kernel) (by decide +kernel) ?_
  clear hP hD hS
  intro r_1 u_3 H locs w_2 hP hD hS
  replace hP : va_P D vwCl [(k, .inr (10, [.ref k0, .ref k1, .ref k2, .ref k3, .ref k4, .ref k5, .ref k6, .ref k7, .ref k8, .ref k9, .ref ka, .ref kb, .int cc])), (ka2, .inl (cI, 144, .inl ca2)), (ka, .inr (6, [.ref ka0, .ref ka1, .ref ka2])), (ka1, .inl (cI, 4, .inl ca1))] H := hP
  replace hD : va_D A [(k, .inr (10, [.ref k0, .ref k1, .ref k2, .ref k3, .ref k4, .ref k5, .ref k6, .ref k7, .ref k8, .ref k9, .ref ka, .ref kb, .int cc])), (ka2, .inl (cI, 144, .inl ca2)), (ka, .inr (6, [.ref ka0, .ref ka1, .ref ka2])), (ka1, .inl (cI, 4, .inl ca1))] := hD
  rcases w_2 with ⟨h_4, h_5, h_6, h_7, h_8⟩ | ⟨hr_1, h_9⟩
  · have h_4 : 0 ≤ a0.toInt := h_4
    have h_5 : a0.toInt ≤ 3 := h_5
    have h_6 : 0 ≤ r_1.toInt := h_6
    have h_7 : r_1.toInt ≤ 36 := h_7
    have h_8 : r_1.toInt = (ca1 a0.toNatClampNeg).toInt := h_8
    have lo_r_1 := k_lo r_1
    have hi_r_1 := k_hi r_1
    refine lv_istore_n (lv' := [(2, .int r_1), (0, .ref k), (1, .int a0)]) hx hb dX10_areThings_8 rfl hl (by decide +kernel) rfl ?_
    clear hl
    intro ls hl
    refine lv_iload_n hx hb dX10_areThings_9 rfl (lv_at hl 0 rfl) ?_
    refine lv_iconst (v := 3) hx hb dX10_areThings_10 (by decide +kernel) ?_
    refine b_icmp_lt hx hb rfl zl_3 (tgt := 26) dX10_areThings_11 (by decide +kernel) (fun c_10 => ?_) (fun c_10 => ?_)
    · refine lv_iconst (v := 0) hx hb dX10_areThings_26 (by decide +kernel) ?_
      exact hRet () [0, 2, 3, 1] (Or.inr (rfl)) hP hD (by decide +kernel) rfl hS rfl dX10_areThings_27
    · refine lv_iload_n hx hb dX10_areThings_14 rfl (lv_at hl 0 rfl) ?_
      refine lv_bipush (v := 24) hx hb dX10_areThings_15 (by decide +kernel) ?_
      refine b_icmp_gt hx hb rfl zl_24 (tgt := 26) dX10_areThings_17 (by decide +kernel) (fun c_11 => ?_) (fun c_11 => ?_)
      · refine lv_iconst (v := 0) hx hb dX10_areThings_26 (by decide +kernel) ?_
        exact hRet () [0, 2, 3, 1] (Or.inr (rfl)) hP hD (by decide +kernel) rfl hS rfl dX10_areThings_27
      · refine lv_iload_n hx hb dX10_areThings_20 rfl (lv_at hl 0 rfl) ?_
        refine lv_iconst (v := 3) hx hb dX10_areThings_21 (by decide +kernel) ?_
        refine lv_irem hx hb dX10_areThings_22 (by decide +kernel) ?_
        refine lv_topi (fun v_12 ev_12 => ?_)
        have tv_12 : v_12.toInt = r_1.toInt % 3 := k_remv (w := 0) ev_12 zl_3 (by omega) (by decide +kernel)
        have lo_v_12 := k_lo v_12
        have hi_v_12 := k_hi v_12
        refine b_if_eq hx hb rfl (tgt := 28) dX10_areThings_23 (by decide +kernel) (fun c_13 => ?_) (fun c_13 => ?_)
        · refine lv_iconst (v := 0) hx hb dX10_areThings_28 (by decide +kernel) ?_
          refine lv_istore_n (lv' := [(3, .int 0), (2, .int r_1), (0, .ref k), (1, .int a0)]) hx hb dX10_areThings_29 rfl hl (by decide +kernel) rfl ?_
          clear hl
          intro ls hl
          have hloop_30 : ∀ (fu_ : Nat) (l30_3 : Int32), 0 ≤ l30_3.toInt → l30_3.toInt % 3 = 0 → l30_3.toInt ≤ 26 → (∀ j : Int32, j.toInt % 3 = 2 → j.toInt < l30_3.toInt → (kNum ca1 ca2 a0 j).toInt ≤ 3) → (27 - l30_3.toInt).toNat < fu_ → ∀ (ls : Array Slot) (H : Heap) (locs : List Loc), lv_has ls 6 [(3, .int l30_3), (2, .int r_1), (0, .ref k), (1, .int a0)] → va_P D vwCl [(k, .inr (10, [.ref k0, .ref k1, .ref k2, .ref k3, .ref k4, .ref k5, .ref k6, .ref k7, .ref k8, .ref k9, .ref ka, .ref kb, .int cc])), (ka2, .inl (cI, 144, .inl ca2)), (ka, .inr (6, [.ref ka0, .ref ka1, .ref ka2])), (ka1, .inl (cI, 4, .inl ca1))] H → va_D A [(k, .inr (10, [.ref k0, .ref k1, .ref k2, .ref k3, .ref k4, .ref k5, .ref k6, .ref k7, .ref k8, .ref k9, .ref ka, .ref kb, .int cc])), (ka2, .inl (cI, 144, .inl ca2)), (ka, .inr (6, [.ref ka0, .ref ka1, .ref ka2])), (ka1, .inl (cI, 4, .inl ca1))] → va_S A s.heap H locs → W p l e ({ frames := 4, cells := 0, slots := 0, locals := 85 } : Room) s m args below meth c H locs 0 0 Q (F0 m 30 ls []) := by
            intro fu_; induction fu_ with
            | zero => intro l30_3 i30_0 i30_1 i30_2 i30_3 hm; exact absurd hm (by omega)
            | succ fu_ ih30 =>
                intro l30_3 i30_0 i30_1 i30_2 i30_3 hm ls H locs hl hP hD hS
                have lo_l30_3 := k_lo l30_3
                have hi_l30_3 := k_hi l30_3
                refine lv_iload_n hx hb dX10_areThings_30 rfl (lv_at hl 0 rfl) ?_
                refine lv_iload_n hx hb dX10_areThings_31 rfl (lv_at hl 1 rfl) ?_
                refine b_icmp_ge hx hb rfl rfl (tgt := 109) dX10_areThings_32 (by decide +kernel) (fun c_14 => ?_) (fun c_14 => ?_)
                · refine lv_iconst (v := 1) hx hb dX10_areThings_109 (by decide +kernel) ?_
                  exact hRet () [0, 2, 3, 1] (Or.inl ⟨rfl, (by omega), (by omega), (kJ3_end i30_3 (by omega))⟩) hP hD (by decide +kernel) rfl hS rfl dX10_areThings_110
                · refine lv_aload_n hx hb dX10_areThings_35 rfl (lv_at hl 2 rfl) ?_
                  refine va_get (D := D) (ci := 10) (v := .ref ka) (C := RX10) (T := TX10) (N := 13) hx hb hT giX10 hown hK hP 0 rfl rfl 10 (by decide +kernel) (hT (Cond.fieldLink RX10 70 "DesertWire" "sheets" "LDesertWire$Sheets;") mw_301) (fun _ h9 => h9) rfl dX10_areThings_36 ?_
                  refine lv_iload_n hx hb dX10_areThings_39 rfl (lv_at hl 3 rfl) ?_
                  refine lv_iload_n hx hb dX10_areThings_40 rfl (lv_at hl 0 rfl) ?_
                  refine kJi (wr := [(k, .inr (10, [.ref k0, .ref k1, .ref k2, .ref k3, .ref k4, .ref k5, .ref k6, .ref k7, .ref k8, .ref k9, .ref ka, .ref kb, .int cc]))]) (va_runV (As := [.int a0, .int l30_3]) (rest := []) ⟨hx, hb, hml, hown, hT⟩ (c_X6_numberAtG l D cI aK aV ka ka0 ka1 ka2 H.size ca1 ca2 a0 l30_3 (by first | omega | decide | assumption | rfl)) (cwV 2 hT (gV_in mw_684 mw_696 mw_682 mw_683 mw_11) rfl rfl rfl (by decide +kernel) ⟨Nat.le_of_ble_eq_true rfl, Nat.le_of_ble_eq_true rfl⟩) (kRecvX (q0 := 2) (ci := 6) hK hP hD hN hXS hS hA rfl rfl [2, 3, 1] rfl (by decide +kernel)) rfl rfl hl.1 rfl (lv_room (Nat.le_of_ble_eq_true rfl)) dX10_areThings_41 ⟨Nat.le_of_ble_eq_true rfl, Nat.le_of_ble_eq_true rfl⟩) hP hD hS hA [2, 3, 1] [0] rfl rfl (by decide +kernel) (by decide +kernel) ?_
                  clear hP hD hS
                  intro r_15 u_17 H locs w_16 hP hD hS
                  replace hP : va_P D vwCl [(k, .inr (10, [.ref k0, .ref k1, .ref k2, .ref k3, .ref k4, .ref k5, .ref k6, .ref k7, .ref k8, .ref k9, .ref ka, .ref kb, .int cc])), (ka, .inr (6, [.ref ka0, .ref ka1, .ref ka2])), (ka1, .inl (cI, 4, .inl ca1)), (ka2, .inl (cI, 144, .inl ca2))] H := hP
                  replace hD : va_D A [(k, .inr (10, [.ref k0, .ref k1, .ref k2, .ref k3, .ref k4, .ref k5, .ref k6, .ref k7, .ref k8, .ref k9, .ref ka, .ref kb, .int cc])), (ka, .inr (6, [.ref ka0, .ref ka1, .ref ka2])), (ka1, .inl (cI, 4, .inl ca1)), (ka2, .inl (cI, 144, .inl ca2))] := hD
                  have h_18 := w_16
                  have h_18 : r_15 = kNum ca1 ca2 a0 l30_3 := h_18
                  have lo_r_15 := k_lo r_15
                  have hi_r_15 := k_hi r_15
                  refine lv_iconst (v := 1) hx hb dX10_areThings_44 (by decide +kernel) ?_
                  refine lv_bipush (v := 40) hx hb dX10_areThings_45 (by decide +kernel) ?_
                  refine kJi (wr := [(k, .inr (10, [.ref k0, .ref k1, .ref k2, .ref k3, .ref k4, .ref k5, .ref k6, .ref k7, .ref k8, .ref k9, .ref ka, .ref kb, .int cc])), (ka, .inr (6, [.ref ka0, .ref ka1, .ref ka2])), (ka1, .inl (cI, 4, .inl ca1)), (ka2, .inl (cI, 144, .inl ca2))]) (va_runS (As := [.int r_15, .int 1, .int 40]) (rest := []) ⟨hx, hb, hml, hown, hT⟩ (c_X10_isWithinG l D cI aK aV H.size r_15 1 40) (cwS 3 hT (gS_in mw_691 mw_886 mw_690 mw_1) rfl rfl rfl (by decide +kernel) ⟨Nat.le_of_ble_eq_true rfl, Nat.le_of_ble_eq_true rfl⟩) (kStatX hK hP hD hN hXS hS hA [] rfl (by decide +kernel)) rfl rfl hl.1 rfl (lv_room (Nat.le_of_ble_eq_true rfl)) dX10_areThings_47 ⟨Nat.le_of_ble_eq_true rfl, Nat.le_of_ble_eq_true rfl⟩) hP hD hS hA [] [0, 1, 2, 3] rfl rfl (by decide +kernel) (by decide +kernel) ?_
                  clear hP hD hS
                  intro r_19 u_21 H locs w_20 hP hD hS
                  replace hP : va_P D vwCl [(k, .inr (10, [.ref k0, .ref k1, .ref k2, .ref k3, .ref k4, .ref k5, .ref k6, .ref k7, .ref k8, .ref k9, .ref ka, .ref kb, .int cc])), (ka, .inr (6, [.ref ka0, .ref ka1, .ref ka2])), (ka1, .inl (cI, 4, .inl ca1)), (ka2, .inl (cI, 144, .inl ca2))] H := hP
                  replace hD : va_D A [(k, .inr (10, [.ref k0, .ref k1, .ref k2, .ref k3, .ref k4, .ref k5, .ref k6, .ref k7, .ref k8, .ref k9, .ref ka, .ref kb, .int cc])), (ka, .inr (6, [.ref ka0, .ref ka1, .ref ka2])), (ka1, .inl (cI, 4, .inl ca1)), (ka2, .inl (cI, 144, .inl ca2))] := hD
                  rcases w_20 with ⟨hr_19, h_22, h_23⟩ | ⟨hr_19, h_24⟩
                  · try simp only [zl_1, zl_40] at h_22
                    have h_22 : 1 ≤ r_15.toInt := h_22
                    try simp only [zl_1, zl_40] at h_23
                    have h_23 : r_15.toInt ≤ 40 := h_23
                    obtain rfl : r_19 = 1 := hr_19.trans (by decide +kernel)
                    refine lv_istore (lv' := [(4, .int 1), (3, .int l30_3), (2, .int r_1), (0, .ref k), (1, .int a0)]) hx hb dX10_areThings_50 hl (by decide +kernel) rfl ?_
                    clear hl
                    intro ls hl
                    refine lv_aload_n hx hb dX10_areThings_52 rfl (lv_at hl 3 rfl) ?_
                    refine va_get (D := D) (ci := 10) (v := .ref ka) (C := RX10) (T := TX10) (N := 13) hx hb hT giX10 hown hK hP 0 rfl rfl 10 (by decide +kernel) (hT (Cond.fieldLink RX10 70 "DesertWire" "sheets" "LDesertWire$Sheets;") mw_301) (fun _ h9 => h9) rfl dX10_areThings_53 ?_
                    refine lv_iload_n hx hb dX10_areThings_56 rfl (lv_at hl 4 rfl) ?_
                    refine lv_iload_n hx hb dX10_areThings_57 rfl (lv_at hl 1 rfl) ?_
                    refine lv_iconst (v := 1) hx hb dX10_areThings_58 (by decide +kernel) ?_
                    refine lv_iadd hx hb dX10_areThings_59 ?_
                    refine lv_topi (fun v_25 ev_25 => ?_)
                    have tv_25 : v_25.toInt = l30_3.toInt + 1 := by rw [ev_25]; exact k_addv rfl zl_1 (by omega) (by omega)
                    refine kJi (wr := [(k, .inr (10, [.ref k0, .ref k1, .ref k2, .ref k3, .ref k4, .ref k5, .ref k6, .ref k7, .ref k8, .ref k9, .ref ka, .ref kb, .int cc]))]) (va_runV (As := [.int a0, .int v_25]) (rest := []) ⟨hx, hb, hml, hown, hT⟩ (c_X6_numberAtG l D cI aK aV ka ka0 ka1 ka2 H.size ca1 ca2 a0 v_25 (by first | omega | decide | assumption | rfl)) (cwV 2 hT (gV_in mw_684 mw_696 mw_682 mw_683 mw_11) rfl rfl rfl (by decide +kernel) ⟨Nat.le_of_ble_eq_true rfl, Nat.le_of_ble_eq_true rfl⟩) (kRecvX (q0 := 1) (ci := 6) hK hP hD hN hXS hS hA rfl rfl [1, 2, 3] rfl (by decide +kernel)) rfl rfl hl.1 rfl (lv_room (Nat.le_of_ble_eq_true rfl)) dX10_areThings_60 ⟨Nat.le_of_ble_eq_true rfl, Nat.le_of_ble_eq_true rfl⟩) hP hD hS hA [1, 2, 3] [0] rfl rfl (by decide +kernel) (by decide +kernel) ?_
                    clear hP hD hS
                    intro r_26 u_28 H locs w_27 hP hD hS
                    replace hP : va_P D vwCl [(k, .inr (10, [.ref k0, .ref k1, .ref k2, .ref k3, .ref k4, .ref k5, .ref k6, .ref k7, .ref k8, .ref k9, .ref ka, .ref kb, .int cc])), (ka, .inr (6, [.ref ka0, .ref ka1, .ref ka2])), (ka1, .inl (cI, 4, .inl ca1)), (ka2, .inl (cI, 144, .inl ca2))] H := hP
                    replace hD : va_D A [(k, .inr (10, [.ref k0, .ref k1, .ref k2, .ref k3, .ref k4, .ref k5, .ref k6, .ref k7, .ref k8, .ref k9, .ref ka, .ref kb, .int cc])), (ka, .inr (6, [.ref ka0, .ref ka1, .ref ka2])), (ka1, .inl (cI, 4, .inl ca1)), (ka2, .inl (cI, 144, .inl ca2))] := hD
                    have h_29 := w_27
                    have h_29 : r_26 = kNum ca1 ca2 a0 v_25 := h_29
                    have lo_r_26 := k_lo r_26
                    have hi_r_26 := k_hi r_26
                    refine lv_iconst (v := 0) hx hb dX10_areThings_63 (by decide +kernel) ?_
                    refine lv_sipush (v := 999) hx hb dX10_areThings_64 (by decide +kernel) ?_
                    refine kJi (wr := [(k, .inr (10, [.ref k0, .ref k1, .ref k2, .ref k3, .ref k4, .ref k5, .ref k6, .ref k7, .ref k8, .ref k9, .ref ka, .ref kb, .int cc])), (ka, .inr (6, [.ref ka0, .ref ka1, .ref ka2])), (ka1, .inl (cI, 4, .inl ca1)), (ka2, .inl (cI, 144, .inl ca2))]) (va_runS (As := [.int r_26, .int 0, .int 999]) (rest := []) ⟨hx, hb, hml, hown, hT⟩ (c_X10_isWithinG l D cI aK aV H.size r_26 0 999) (cwS 3 hT (gS_in mw_691 mw_886 mw_690 mw_1) rfl rfl rfl (by decide +kernel) ⟨Nat.le_of_ble_eq_true rfl, Nat.le_of_ble_eq_true rfl⟩) (kStatX hK hP hD hN hXS hS hA [] rfl (by decide +kernel)) rfl rfl hl.1 rfl (lv_room (Nat.le_of_ble_eq_true rfl)) dX10_areThings_67 ⟨Nat.le_of_ble_eq_true rfl, Nat.le_of_ble_eq_true rfl⟩) hP hD hS hA [] [0, 1, 2, 3] rfl rfl (by decide +kernel) (by decide +kernel) ?_
                    clear hP hD hS
                    intro r_30 u_32 H locs w_31 hP hD hS
                    replace hP : va_P D vwCl [(k, .inr (10, [.ref k0, .ref k1, .ref k2, .ref k3, .ref k4, .ref k5, .ref k6, .ref k7, .ref k8, .ref k9, .ref ka, .ref kb, .int cc])), (ka, .inr (6, [.ref ka0, .ref ka1, .ref ka2])), (ka1, .inl (cI, 4, .inl ca1)), (ka2, .inl (cI, 144, .inl ca2))] H := hP
                    replace hD : va_D A [(k, .inr (10, [.ref k0, .ref k1, .ref k2, .ref k3, .ref k4, .ref k5, .ref k6, .ref k7, .ref k8, .ref k9, .ref ka, .ref kb, .int cc])), (ka, .inr (6, [.ref ka0, .ref ka1, .ref ka2])), (ka1, .inl (cI, 4, .inl ca1)), (ka2, .inl (cI, 144, .inl ca2))] := hD
                    rcases w_31 with ⟨hr_30, h_33, h_34⟩ | ⟨hr_30, h_35⟩
                    · try simp only [zl_0, zl_999] at h_33
                      have h_33 : 0 ≤ r_26.toInt := h_33
                      try simp only [zl_0, zl_999] at h_34
                      have h_34 : r_26.toInt ≤ 999 := h_34
                      obtain rfl : r_30 = 1 := hr_30.trans (by decide +kernel)
                      refine lv_istore (lv' := [(5, .int 1), (4, .int 1), (3, .int l30_3), (2, .int r_1), (0, .ref k), (1, .int a0)]) hx hb dX10_areThings_70 hl (by decide +kernel) rfl ?_
                      clear hl
                      intro ls hl
                      refine lv_iload hx hb dX10_areThings_72 (lv_at hl 1 rfl) ?_
                      refine b_if_eq hx hb zl_1 (tgt := 101) dX10_areThings_74 (by decide +kernel) (fun c_36 => by exfalso; omega) (fun c_36 => ?_)
                      refine lv_iload hx hb dX10_areThings_77 (lv_at hl 0 rfl) ?_
                      refine b_if_eq hx hb zl_1 (tgt := 101) dX10_areThings_79 (by decide +kernel) (fun c_37 => by exfalso; omega) (fun c_37 => ?_)
                      refine lv_aload_n hx hb dX10_areThings_82 rfl (lv_at hl 4 rfl) ?_
                      refine va_get (D := D) (ci := 10) (v := .ref ka) (C := RX10) (T := TX10) (N := 13) hx hb hT giX10 hown hK hP 0 rfl rfl 10 (by decide +kernel) (hT (Cond.fieldLink RX10 70 "DesertWire" "sheets" "LDesertWire$Sheets;") mw_301) (fun _ h9 => h9) rfl dX10_areThings_83 ?_
                      refine lv_iload_n hx hb dX10_areThings_86 rfl (lv_at hl 5 rfl) ?_
                      refine lv_iload_n hx hb dX10_areThings_87 rfl (lv_at hl 2 rfl) ?_
                      refine lv_iconst (v := 2) hx hb dX10_areThings_88 (by decide +kernel) ?_
                      refine lv_iadd hx hb dX10_areThings_89 ?_
                      refine lv_topi (fun v_38 ev_38 => ?_)
                      have tv_38 : v_38.toInt = l30_3.toInt + 2 := by rw [ev_38]; exact k_addv rfl zl_2 (by omega) (by omega)
                      refine kJi (wr := [(k, .inr (10, [.ref k0, .ref k1, .ref k2, .ref k3, .ref k4, .ref k5, .ref k6, .ref k7, .ref k8, .ref k9, .ref ka, .ref kb, .int cc]))]) (va_runV (As := [.int a0, .int v_38]) (rest := []) ⟨hx, hb, hml, hown, hT⟩ (c_X6_numberAtG l D cI aK aV ka ka0 ka1 ka2 H.size ca1 ca2 a0 v_38 (by first | omega | decide | assumption | rfl)) (cwV 2 hT (gV_in mw_684 mw_696 mw_682 mw_683 mw_11) rfl rfl rfl (by decide +kernel) ⟨Nat.le_of_ble_eq_true rfl, Nat.le_of_ble_eq_true rfl⟩) (kRecvX (q0 := 1) (ci := 6) hK hP hD hN hXS hS hA rfl rfl [1, 2, 3] rfl (by decide +kernel)) rfl rfl hl.1 rfl (lv_room (Nat.le_of_ble_eq_true rfl)) dX10_areThings_90 ⟨Nat.le_of_ble_eq_true rfl, Nat.le_of_ble_eq_true rfl⟩) hP hD hS hA [1, 2, 3] [0] rfl rfl (by decide +kernel) (by decide +kernel) ?_
                      clear hP hD hS
                      intro r_39 u_41 H locs w_40 hP hD hS
                      replace hP : va_P D vwCl [(k, .inr (10, [.ref k0, .ref k1, .ref k2, .ref k3, .ref k4, .ref k5, .ref k6, .ref k7, .ref k8, .ref k9, .ref ka, .ref kb, .int cc])), (ka, .inr (6, [.ref ka0, .ref ka1, .ref ka2])), (ka1, .inl (cI, 4, .inl ca1)), (ka2, .inl (cI, 144, .inl ca2))] H := hP
                      replace hD : va_D A [(k, .inr (10, [.ref k0, .ref k1, .ref k2, .ref k3, .ref k4, .ref k5, .ref k6, .ref k7, .ref k8, .ref k9, .ref ka, .ref kb, .int cc])), (ka, .inr (6, [.ref ka0, .ref ka1, .ref ka2])), (ka1, .inl (cI, 4, .inl ca1)), (ka2, .inl (cI, 144, .inl ca2))] := hD
                      have h_42 := w_40
                      have h_42 : r_39 = kNum ca1 ca2 a0 v_38 := h_42
                      have lo_r_39 := k_lo r_39
                      have hi_r_39 := k_hi r_39
                      refine lv_iconst (v := 1) hx hb dX10_areThings_93 (by decide +kernel) ?_
                      refine lv_iconst (v := 3) hx hb dX10_areThings_94 (by decide +kernel) ?_
                      refine kJi (wr := [(k, .inr (10, [.ref k0, .ref k1, .ref k2, .ref k3, .ref k4, .ref k5, .ref k6, .ref k7, .ref k8, .ref k9, .ref ka, .ref kb, .int cc])), (ka, .inr (6, [.ref ka0, .ref ka1, .ref ka2])), (ka1, .inl (cI, 4, .inl ca1)), (ka2, .inl (cI, 144, .inl ca2))]) (va_runS (As := [.int r_39, .int 1, .int 3]) (rest := []) ⟨hx, hb, hml, hown, hT⟩ (c_X10_isWithinG l D cI aK aV H.size r_39 1 3) (cwS 3 hT (gS_in mw_691 mw_886 mw_690 mw_1) rfl rfl rfl (by decide +kernel) ⟨Nat.le_of_ble_eq_true rfl, Nat.le_of_ble_eq_true rfl⟩) (kStatX hK hP hD hN hXS hS hA [] rfl (by decide +kernel)) rfl rfl hl.1 rfl (lv_room (Nat.le_of_ble_eq_true rfl)) dX10_areThings_95 ⟨Nat.le_of_ble_eq_true rfl, Nat.le_of_ble_eq_true rfl⟩) hP hD hS hA [] [0, 1, 2, 3] rfl rfl (by decide +kernel) (by decide +kernel) ?_
                      clear hP hD hS
                      intro r_43 u_45 H locs w_44 hP hD hS
                      replace hP : va_P D vwCl [(k, .inr (10, [.ref k0, .ref k1, .ref k2, .ref k3, .ref k4, .ref k5, .ref k6, .ref k7, .ref k8, .ref k9, .ref ka, .ref kb, .int cc])), (ka, .inr (6, [.ref ka0, .ref ka1, .ref ka2])), (ka1, .inl (cI, 4, .inl ca1)), (ka2, .inl (cI, 144, .inl ca2))] H := hP
                      replace hD : va_D A [(k, .inr (10, [.ref k0, .ref k1, .ref k2, .ref k3, .ref k4, .ref k5, .ref k6, .ref k7, .ref k8, .ref k9, .ref ka, .ref kb, .int cc])), (ka, .inr (6, [.ref ka0, .ref ka1, .ref ka2])), (ka1, .inl (cI, 4, .inl ca1)), (ka2, .inl (cI, 144, .inl ca2))] := hD
                      rcases w_44 with ⟨hr_43, h_46, h_47⟩ | ⟨hr_43, h_48⟩
                      · try simp only [zl_1, zl_3] at h_46
                        have h_46 : 1 ≤ r_39.toInt := h_46
                        try simp only [zl_1, zl_3] at h_47
                        have h_47 : r_39.toInt ≤ 3 := h_47
                        obtain rfl : r_43 = 1 := hr_43.trans (by decide +kernel)
                        refine b_if_ne hx hb zl_1 (tgt := 103) dX10_areThings_98 (by decide +kernel) (fun c_49 => ?_) (fun c_49 => by exfalso; omega)
                        obtain ⟨v_50, ev_50⟩ : ∃ y : Int32, y = l30_3 + 3 := ⟨_, rfl⟩
                        have tv_50 : v_50.toInt = l30_3.toInt + 3 := by rw [ev_50]; exact k_addv rfl zl_3 (by omega) (by omega)
                        refine lv_iinc (v := v_50) (lv' := [(3, .int v_50), (5, .int 1), (4, .int 1), (2, .int r_1), (0, .ref k), (1, .int a0)]) hx hb dX10_areThings_103 hl (k := 2) rfl (by rw [ev_50]; rfl) (by decide +kernel) rfl ?_
                        clear hl
                        intro ls hl
                        refine lv_goto (tgt := 30) hx hb dX10_areThings_106 (by decide +kernel) ?_
                        exact ih30 v_50 (by first | omega | decide | assumption | rfl) (by first | omega | (rw [zl_0]; decide)) (by first | omega | decide | assumption | rfl) (kJ3_step i30_3 (by omega) (by omega) (v := v_38) (by omega) h_42 (by omega)) (by omega) ls _ _ (lv_sub hl [0, 3, 4, 5] rfl) (hP.sub [0, 3, 1, 2] rfl) (hD.sub [0, 3, 1, 2] (by decide +kernel) rfl) hS
                      · try simp only [zl_1, zl_3] at h_48
                        have h_48 : r_39.toInt < 1 ∨ 3 < r_39.toInt := h_48
                        obtain rfl : r_43 = 0 := hr_43.trans (by decide +kernel)
                        refine b_if_ne hx hb zl_0 (tgt := 103) dX10_areThings_98 (by decide +kernel) (fun c_51 => by exfalso; omega) (fun c_51 => ?_)
                        refine lv_iconst (v := 0) hx hb dX10_areThings_101 (by decide +kernel) ?_
                        exact hRet () [0, 1, 2, 3] (Or.inr (rfl)) hP hD (by decide +kernel) rfl hS rfl dX10_areThings_102
                    · try simp only [zl_0, zl_999] at h_35
                      have h_35 : r_26.toInt < 0 ∨ 999 < r_26.toInt := h_35
                      obtain rfl : r_30 = 0 := hr_30.trans (by decide +kernel)
                      refine lv_istore (lv' := [(5, .int 0), (4, .int 1), (3, .int l30_3), (2, .int r_1), (0, .ref k), (1, .int a0)]) hx hb dX10_areThings_70 hl (by decide +kernel) rfl ?_
                      clear hl
                      intro ls hl
                      refine lv_iload hx hb dX10_areThings_72 (lv_at hl 1 rfl) ?_
                      refine b_if_eq hx hb zl_1 (tgt := 101) dX10_areThings_74 (by decide +kernel) (fun c_52 => by exfalso; omega) (fun c_52 => ?_)
                      refine lv_iload hx hb dX10_areThings_77 (lv_at hl 0 rfl) ?_
                      refine b_if_eq hx hb zl_0 (tgt := 101) dX10_areThings_79 (by decide +kernel) (fun c_53 => ?_) (fun c_53 => by exfalso; omega)
                      refine lv_iconst (v := 0) hx hb dX10_areThings_101 (by decide +kernel) ?_
                      exact hRet () [0, 1, 2, 3] (Or.inr (rfl)) hP hD (by decide +kernel) rfl hS rfl dX10_areThings_102
                  · try simp only [zl_1, zl_40] at h_24
                    have h_24 : r_15.toInt < 1 ∨ 40 < r_15.toInt := h_24
                    obtain rfl : r_19 = 0 := hr_19.trans (by decide +kernel)
                    refine lv_istore (lv' := [(4, .int 0), (3, .int l30_3), (2, .int r_1), (0, .ref k), (1, .int a0)]) hx hb dX10_areThings_50 hl (by decide +kernel) rfl ?_
                    clear hl
                    intro ls hl
                    refine lv_aload_n hx hb dX10_areThings_52 rfl (lv_at hl 3 rfl) ?_
                    refine va_get (D := D) (ci := 10) (v := .ref ka) (C := RX10) (T := TX10) (N := 13) hx hb hT giX10 hown hK hP 0 rfl rfl 10 (by decide +kernel) (hT (Cond.fieldLink RX10 70 "DesertWire" "sheets" "LDesertWire$Sheets;") mw_301) (fun _ h9 => h9) rfl dX10_areThings_53 ?_
                    refine lv_iload_n hx hb dX10_areThings_56 rfl (lv_at hl 4 rfl) ?_
                    refine lv_iload_n hx hb dX10_areThings_57 rfl (lv_at hl 1 rfl) ?_
                    refine lv_iconst (v := 1) hx hb dX10_areThings_58 (by decide +kernel) ?_
                    refine lv_iadd hx hb dX10_areThings_59 ?_
                    refine lv_topi (fun v_54 ev_54 => ?_)
                    have tv_54 : v_54.toInt = l30_3.toInt + 1 := by rw [ev_54]; exact k_addv rfl zl_1 (by omega) (by omega)
                    refine kJi (wr := [(k, .inr (10, [.ref k0, .ref k1, .ref k2, .ref k3, .ref k4, .ref k5, .ref k6, .ref k7, .ref k8, .ref k9, .ref ka, .ref kb, .int cc]))]) (va_runV (As := [.int a0, .int v_54]) (rest := []) ⟨hx, hb, hml, hown, hT⟩ (c_X6_numberAtG l D cI aK aV ka ka0 ka1 ka2 H.size ca1 ca2 a0 v_54 (by first | omega | decide | assumption | rfl)) (cwV 2 hT (gV_in mw_684 mw_696 mw_682 mw_683 mw_11) rfl rfl rfl (by decide +kernel) ⟨Nat.le_of_ble_eq_true rfl, Nat.le_of_ble_eq_true rfl⟩) (kRecvX (q0 := 1) (ci := 6) hK hP hD hN hXS hS hA rfl rfl [1, 2, 3] rfl (by decide +kernel)) rfl rfl hl.1 rfl (lv_room (Nat.le_of_ble_eq_true rfl)) dX10_areThings_60 ⟨Nat.le_of_ble_eq_true rfl, Nat.le_of_ble_eq_true rfl⟩) hP hD hS hA [1, 2, 3] [0] rfl rfl (by decide +kernel) (by decide +kernel) ?_
                    clear hP hD hS
                    intro r_55 u_57 H locs w_56 hP hD hS
                    replace hP : va_P D vwCl [(k, .inr (10, [.ref k0, .ref k1, .ref k2, .ref k3, .ref k4, .ref k5, .ref k6, .ref k7, .ref k8, .ref k9, .ref ka, .ref kb, .int cc])), (ka, .inr (6, [.ref ka0, .ref ka1, .ref ka2])), (ka1, .inl (cI, 4, .inl ca1)), (ka2, .inl (cI, 144, .inl ca2))] H := hP
                    replace hD : va_D A [(k, .inr (10, [.ref k0, .ref k1, .ref k2, .ref k3, .ref k4, .ref k5, .ref k6, .ref k7, .ref k8, .ref k9, .ref ka, .ref kb, .int cc])), (ka, .inr (6, [.ref ka0, .ref ka1, .ref ka2])), (ka1, .inl (cI, 4, .inl ca1)), (ka2, .inl (cI, 144, .inl ca2))] := hD
                    have h_58 := w_56
                    have h_58 : r_55 = kNum ca1 ca2 a0 v_54 := h_58
                    have lo_r_55 := k_lo r_55
                    have hi_r_55 := k_hi r_55
                    refine lv_iconst (v := 0) hx hb dX10_areThings_63 (by decide +kernel) ?_
                    refine lv_sipush (v := 999) hx hb dX10_areThings_64 (by decide +kernel) ?_
                    refine kJi (wr := [(k, .inr (10, [.ref k0, .ref k1, .ref k2, .ref k3, .ref k4, .ref k5, .ref k6, .ref k7, .ref k8, .ref k9, .ref ka, .ref kb, .int cc])), (ka, .inr (6, [.ref ka0, .ref ka1, .ref ka2])), (ka1, .inl (cI, 4, .inl ca1)), (ka2, .inl (cI, 144, .inl ca2))]) (va_runS (As := [.int r_55, .int 0, .int 999]) (rest := []) ⟨hx, hb, hml, hown, hT⟩ (c_X10_isWithinG l D cI aK aV H.size r_55 0 999) (cwS 3 hT (gS_in mw_691 mw_886 mw_690 mw_1) rfl rfl rfl (by decide +kernel) ⟨Nat.le_of_ble_eq_true rfl, Nat.le_of_ble_eq_true rfl⟩) (kStatX hK hP hD hN hXS hS hA [] rfl (by decide +kernel)) rfl rfl hl.1 rfl (lv_room (Nat.le_of_ble_eq_true rfl)) dX10_areThings_67 ⟨Nat.le_of_ble_eq_true rfl, Nat.le_of_ble_eq_true rfl⟩) hP hD hS hA [] [0, 1, 2, 3] rfl rfl (by decide +kernel) (by decide +kernel) ?_
                    clear hP hD hS
                    intro r_59 u_61 H locs w_60 hP hD hS
                    replace hP : va_P D vwCl [(k, .inr (10, [.ref k0, .ref k1, .ref k2, .ref k3, .ref k4, .ref k5, .ref k6, .ref k7, .ref k8, .ref k9, .ref ka, .ref kb, .int cc])), (ka, .inr (6, [.ref ka0, .ref ka1, .ref ka2])), (ka1, .inl (cI, 4, .inl ca1)), (ka2, .inl (cI, 144, .inl ca2))] H := hP
                    replace hD : va_D A [(k, .inr (10, [.ref k0, .ref k1, .ref k2, .ref k3, .ref k4, .ref k5, .ref k6, .ref k7, .ref k8, .ref k9, .ref ka, .ref kb, .int cc])), (ka, .inr (6, [.ref ka0, .ref ka1, .ref ka2])), (ka1, .inl (cI, 4, .inl ca1)), (ka2, .inl (cI, 144, .inl ca2))] := hD
                    rcases w_60 with ⟨hr_59, h_62, h_63⟩ | ⟨hr_59, h_64⟩
                    · try simp only [zl_0, zl_999] at h_62
                      have h_62 : 0 ≤ r_55.toInt := h_62
                      try simp only [zl_0, zl_999] at h_63
                      have h_63 : r_55.toInt ≤ 999 := h_63
                      obtain rfl : r_59 = 1 := hr_59.trans (by decide +kernel)
                      refine lv_istore (lv' := [(5, .int 1), (4, .int 0), (3, .int l30_3), (2, .int r_1), (0, .ref k), (1, .int a0)]) hx hb dX10_areThings_70 hl (by decide +kernel) rfl ?_
                      clear hl
                      intro ls hl
                      refine lv_iload hx hb dX10_areThings_72 (lv_at hl 1 rfl) ?_
                      refine b_if_eq hx hb zl_0 (tgt := 101) dX10_areThings_74 (by decide +kernel) (fun c_65 => ?_) (fun c_65 => by exfalso; omega)
                      refine lv_iconst (v := 0) hx hb dX10_areThings_101 (by decide +kernel) ?_
                      exact hRet () [0, 1, 2, 3] (Or.inr (rfl)) hP hD (by decide +kernel) rfl hS rfl dX10_areThings_102
                    · try simp only [zl_0, zl_999] at h_64
                      have h_64 : r_55.toInt < 0 ∨ 999 < r_55.toInt := h_64
                      obtain rfl : r_59 = 0 := hr_59.trans (by decide +kernel)
                      refine lv_istore (lv' := [(5, .int 0), (4, .int 0), (3, .int l30_3), (2, .int r_1), (0, .ref k), (1, .int a0)]) hx hb dX10_areThings_70 hl (by decide +kernel) rfl ?_
                      clear hl
                      intro ls hl
                      refine lv_iload hx hb dX10_areThings_72 (lv_at hl 1 rfl) ?_
                      refine b_if_eq hx hb zl_0 (tgt := 101) dX10_areThings_74 (by decide +kernel) (fun c_66 => ?_) (fun c_66 => by exfalso; omega)
                      refine lv_iconst (v := 0) hx hb dX10_areThings_101 (by decide +kernel) ?_
                      exact hRet () [0, 1, 2, 3] (Or.inr (rfl)) hP hD (by decide +kernel) rfl hS rfl dX10_areThings_102
          exact hloop_30 _ 0 (by first | omega | (simp only [zl_0]; first | done | omega) | decide | assumption | rfl) (by first | omega | (rw [zl_0]; decide)) (by first | omega | (simp only [zl_0]; first | done | omega) | decide | assumption | rfl) (kJ3_zero (by rw [zl_0]; omega)) (Nat.lt_succ_self _) ls _ _ (lv_sub hl [0, 1, 2, 3] rfl) hP hD hS
        · refine lv_iconst (v := 0) hx hb dX10_areThings_26 (by decide +kernel) ?_
          exact hRet () [0, 2, 3, 1] (Or.inr (rfl)) hP hD (by decide +kernel) rfl hS rfl dX10_areThings_27
  · exfalso; omega
theorem bn_cX1_bestFrom_0 : BN cX1_bestFrom 0 0x568100a01540bcc21d3496806120e02802b51584c029a0f0fc080500aa00a0800a6862015c96406120207426014d0c402b904844081c := by
  unfold BN; decide +kernel
theorem dX1_bestFrom_0 : decode cX1_bestFrom 0 = .ok (.iload_n 1, 1) := dR0 (k := 0) (i := 0) bn_cX1_bestFrom_0 dop_27 (by decide +kernel)
theorem dX1_bestFrom_1 : decode cX1_bestFrom 1 = .ok (.iconst 0, 1) := dR0 (k := 0) (i := 1) bn_cX1_bestFrom_0 dop_3 (by decide +kernel)
theorem dX1_bestFrom_2 : decode cX1_bestFrom 2 = .ok (.bipush 8, 2) := dR1s (f := Instr.bipush) (k := 0) (i := 2) bn_cX1_bestFrom_0 dop_16 8 8 (by decide +kernel)
theorem dX1_bestFrom_4 : decode cX1_bestFrom 4 = .ok (.invokestatic 48, 3) := dR2 (f := Instr.invokestatic) (k := 0) (i := 4) bn_cX1_bestFrom_0 dop_184 48 (by decide +kernel)
theorem dX1_bestFrom_7 : decode cX1_bestFrom 7 = .ok (.ifCond .eq 18, 3) := dR2s (f := Instr.ifCond .eq) (k := 0) (i := 7) bn_cX1_bestFrom_0 dop_153 18 18 (by decide +kernel)
theorem dX1_bestFrom_10 : decode cX1_bestFrom 10 = .ok (.iload_n 2, 1) := dR0 (k := 0) (i := 10) bn_cX1_bestFrom_0 dop_28 (by decide +kernel)
theorem dX1_bestFrom_11 : decode cX1_bestFrom 11 = .ok (.iconst 0, 1) := dR0 (k := 0) (i := 11) bn_cX1_bestFrom_0 dop_3 (by decide +kernel)
theorem dX1_bestFrom_12 : decode cX1_bestFrom 12 = .ok (.sipush 600, 3) := dR2s (f := Instr.sipush) (k := 0) (i := 12) bn_cX1_bestFrom_0 dop_17 600 600 (by decide +kernel)
theorem dX1_bestFrom_15 : decode cX1_bestFrom 15 = .ok (.invokestatic 48, 3) := dR2 (f := Instr.invokestatic) (k := 0) (i := 15) bn_cX1_bestFrom_0 dop_184 48 (by decide +kernel)
theorem dX1_bestFrom_18 : decode cX1_bestFrom 18 = .ok (.ifCond .eq 7, 3) := dR2s (f := Instr.ifCond .eq) (k := 0) (i := 18) bn_cX1_bestFrom_0 dop_153 7 7 (by decide +kernel)
theorem dX1_bestFrom_21 : decode cX1_bestFrom 21 = .ok (.iconst 1, 1) := dR0 (k := 0) (i := 21) bn_cX1_bestFrom_0 dop_4 (by decide +kernel)
theorem dX1_bestFrom_22 : decode cX1_bestFrom 22 = .ok (.goto 4, 3) := dR2s (f := Instr.goto) (k := 0) (i := 22) bn_cX1_bestFrom_0 dop_167 4 4 (by decide +kernel)
theorem dX1_bestFrom_25 : decode cX1_bestFrom 25 = .ok (.iconst 0, 1) := dR0 (k := 0) (i := 25) bn_cX1_bestFrom_0 dop_3 (by decide +kernel)
theorem dX1_bestFrom_26 : decode cX1_bestFrom 26 = .ok (.istore_n 3, 1) := dR0 (k := 0) (i := 26) bn_cX1_bestFrom_0 dop_62 (by decide +kernel)
theorem dX1_bestFrom_27 : decode cX1_bestFrom 27 = .ok (.iload_n 3, 1) := dR0 (k := 0) (i := 27) bn_cX1_bestFrom_0 dop_29 (by decide +kernel)
theorem dX1_bestFrom_28 : decode cX1_bestFrom 28 = .ok (.ifCond .eq 18, 3) := dR2s (f := Instr.ifCond .eq) (k := 0) (i := 28) bn_cX1_bestFrom_0 dop_153 18 18 (by decide +kernel)
theorem dX1_bestFrom_31 : decode cX1_bestFrom 31 = .ok (.aload_n 0, 1) := dR0 (k := 0) (i := 31) bn_cX1_bestFrom_0 dop_42 (by decide +kernel)
theorem dX1_bestFrom_32 : decode cX1_bestFrom 32 = .ok (.getfield 9, 3) := dR2 (f := Instr.getfield) (k := 0) (i := 32) bn_cX1_bestFrom_0 dop_180 9 (by decide +kernel)
theorem dX1_bestFrom_35 : decode cX1_bestFrom 35 = .ok (.iload_n 1, 1) := dR0 (k := 0) (i := 35) bn_cX1_bestFrom_0 dop_27 (by decide +kernel)
theorem dX1_bestFrom_36 : decode cX1_bestFrom 36 = .ok (.sipush 601, 3) := dR2s (f := Instr.sipush) (k := 0) (i := 36) bn_cX1_bestFrom_0 dop_17 601 601 (by decide +kernel)
theorem dX1_bestFrom_39 : decode cX1_bestFrom 39 = .ok (.imul, 1) := dR0 (k := 0) (i := 39) bn_cX1_bestFrom_0 dop_104 (by decide +kernel)
theorem dX1_bestFrom_40 : decode cX1_bestFrom 40 = .ok (.iload_n 2, 1) := dR0 (k := 0) (i := 40) bn_cX1_bestFrom_0 dop_28 (by decide +kernel)
theorem dX1_bestFrom_41 : decode cX1_bestFrom 41 = .ok (.iadd, 1) := dR0 (k := 0) (i := 41) bn_cX1_bestFrom_0 dop_96 (by decide +kernel)
theorem dX1_bestFrom_42 : decode cX1_bestFrom 42 = .ok (.iaload, 1) := dR0 (k := 0) (i := 42) bn_cX1_bestFrom_0 dop_46 (by decide +kernel)
theorem dX1_bestFrom_43 : decode cX1_bestFrom 43 = .ok (.goto 4, 3) := dR2s (f := Instr.goto) (k := 0) (i := 43) bn_cX1_bestFrom_0 dop_167 4 4 (by decide +kernel)
theorem dX1_bestFrom_46 : decode cX1_bestFrom 46 = .ok (.iconst 0, 1) := dR0 (k := 0) (i := 46) bn_cX1_bestFrom_0 dop_3 (by decide +kernel)
theorem dX1_bestFrom_47 : decode cX1_bestFrom 47 = .ok (.ireturn, 1) := dR0 (k := 0) (i := 47) bn_cX1_bestFrom_0 dop_172 (by decide +kernel)
set_option maxHeartbeats 4000000 in
set_option maxRecDepth 100000 in
theorem c_X1_bestFromG (l : Launch) (D : va_G) (cI : ClassId) (aK aV : Nat → Nat) (k k0 k1 : Nat) (sz : Nat) (c2 : Int32) (c3 : Int32) (c0 : Nat → Int32) (a0 : Int32) (a1 : Int32) : Met l yX1_bestFrom (gW yX1_bestFrom cX1_bestFrom 4 (some .int)) ({ frames := 1, cells := 0, slots := 0, locals := 22 } : Room) (kPreX D cI aK aV [.ref k, .int a0, .int a1] [(k, .inr (1, [.ref k0, .ref k1, .int c2, .int c3])), (k0, .inl (cI, 5409, .inl c0))] sz) (va_Qi (fun (r : Int32) (u : Unit) => True) (fun u t => kWd D cI (va_A [(k, .inr (1, [.ref k0, .ref k1, .int c2, .int c3])), (k0, .inl (cI, 5409, .inl c0))] sz) [(k, .inr (1, [.ref k0, .ref k1, .int c2, .int c3])), (k0, .inl (cI, 5409, .inl c0))] t) (va_A [(k, .inr (1, [.ref k0, .ref k1, .int c2, .int c3])), (k0, .inl (cI, 5409, .inl c0))] sz)) 0 0 (va_A [(k, .inr (1, [.ref k0, .ref k1, .int c2, .int c3])), (k0, .inl (cI, 5409, .inl c0))] sz) := by
  refine kMetIX (own := RX1) (by decide +kernel) rfl (Nat.le_of_ble_eq_true rfl) ?_
  intro p e s m args below meth c hx hb hT hown hname hml A Q hK hP hD hS hA hN hXS hRet ls hl
  have hl : lv_has ls 4 [(0, .ref k), (1, .int a0), (2, .int a1)] := hl
  have lo_a0 := k_lo a0
  have hi_a0 := k_hi a0
  have lo_a1 := k_lo a1
  have hi_a1 := k_hi a1
  refine lv_iload_n hx hb dX1_bestFrom_0 rfl (lv_at hl 1 rfl) ?_
  refine lv_iconst (v := 0) hx hb dX1_bestFrom_1 (by decide +kernel) ?_
  refine lv_bipush (v := 8) hx hb dX1_bestFrom_2 (by decide +kernel) ?_
  refine kJi (wr := [(k, .inr (1, [.ref k0, .ref k1, .int c2, .int c3])), (k0, .inl (cI, 5409, .inl c0))]) (va_runSN (As := [.int a0, .int 0, .int 8]) (rest := []) ⟨hx, hb, hml, hown, hT⟩ (c_X10_isWithinG l D cI aK aV s.heap.size a0 0 8) ⟨va_cnB 3 hT (gW_in mw_691) rfl rfl rfl (hN _ mw_902) (hT _ mw_1) (by decide +kernel) ⟨Nat.le_of_ble_eq_true rfl, Nat.le_of_ble_eq_true rfl⟩, hT _ mw_690, trivial⟩ (kStatX hK hP hD hN hXS hS hA [] rfl (by decide +kernel)) rfl rfl hl.1 rfl (lv_room (Nat.le_of_ble_eq_true rfl)) dX1_bestFrom_4 ⟨Nat.le_of_ble_eq_true rfl, Nat.le_of_ble_eq_true rfl⟩) hP hD hS hA [] [0, 1] rfl rfl (by decide +kernel) (by decide +kernel) ?_
  clear hP hD hS
  intro r_1 u_3 H locs w_2 hP hD hS
  replace hP : va_P D vwCl [(k, .inr (1, [.ref k0, .ref k1, .int c2, .int c3])), (k0, .inl (cI, 5409, .inl c0))] H := hP
  replace hD : va_D A [(k, .inr (1, [.ref k0, .ref k1, .int c2, .int c3])), (k0, .inl (cI, 5409, .inl c0))] := hD
  rcases w_2 with ⟨hr_1, h_4, h_5⟩ | ⟨hr_1, h_6⟩
  · try simp only [zl_0, zl_8] at h_4
    have h_4 : 0 ≤ a0.toInt := h_4
    try simp only [zl_0, zl_8] at h_5
    have h_5 : a0.toInt ≤ 8 := h_5
    obtain rfl : r_1 = 1 := hr_1.trans (by decide +kernel)
    refine b_if_eq hx hb zl_1 (tgt := 25) dX1_bestFrom_7 (by decide +kernel) (fun c_7 => by exfalso; omega) (fun c_7 => ?_)
    refine lv_iload_n hx hb dX1_bestFrom_10 rfl (lv_at hl 2 rfl) ?_
    refine lv_iconst (v := 0) hx hb dX1_bestFrom_11 (by decide +kernel) ?_
    refine lv_sipush (v := 600) hx hb dX1_bestFrom_12 (by decide +kernel) ?_
    refine kJi (wr := [(k, .inr (1, [.ref k0, .ref k1, .int c2, .int c3])), (k0, .inl (cI, 5409, .inl c0))]) (va_runSN (As := [.int a1, .int 0, .int 600]) (rest := []) ⟨hx, hb, hml, hown, hT⟩ (c_X10_isWithinG l D cI aK aV H.size a1 0 600) ⟨va_cnB 3 hT (gW_in mw_691) rfl rfl rfl (hN _ mw_902) (hT _ mw_1) (by decide +kernel) ⟨Nat.le_of_ble_eq_true rfl, Nat.le_of_ble_eq_true rfl⟩, hT _ mw_690, trivial⟩ (kStatX hK hP hD hN hXS hS hA [] rfl (by decide +kernel)) rfl rfl hl.1 rfl (lv_room (Nat.le_of_ble_eq_true rfl)) dX1_bestFrom_15 ⟨Nat.le_of_ble_eq_true rfl, Nat.le_of_ble_eq_true rfl⟩) hP hD hS hA [] [0, 1] rfl rfl (by decide +kernel) (by decide +kernel) ?_
    clear hP hD hS
    intro r_8 u_10 H locs w_9 hP hD hS
    replace hP : va_P D vwCl [(k, .inr (1, [.ref k0, .ref k1, .int c2, .int c3])), (k0, .inl (cI, 5409, .inl c0))] H := hP
    replace hD : va_D A [(k, .inr (1, [.ref k0, .ref k1, .int c2, .int c3])), (k0, .inl (cI, 5409, .inl c0))] := hD
    rcases w_9 with ⟨hr_8, h_11, h_12⟩ | ⟨hr_8, h_13⟩
    · try simp only [zl_0, zl_600] at h_11
      have h_11 : 0 ≤ a1.toInt := h_11
      try simp only [zl_0, zl_600] at h_12
      have h_12 : a1.toInt ≤ 600 := h_12
      obtain rfl : r_8 = 1 := hr_8.trans (by decide +kernel)
      refine b_if_eq hx hb zl_1 (tgt := 25) dX1_bestFrom_18 (by decide +kernel) (fun c_14 => by exfalso; omega) (fun c_14 => ?_)
      refine lv_iconst (v := 1) hx hb dX1_bestFrom_21 (by decide +kernel) ?_
      refine lv_goto (tgt := 26) hx hb dX1_bestFrom_22 (by decide +kernel) ?_
      refine lv_istore_n (lv' := [(3, .int 1), (0, .ref k), (1, .int a0), (2, .int a1)]) hx hb dX1_bestFrom_26 rfl hl (by decide +kernel) rfl ?_
      clear hl
      intro ls hl
      refine lv_iload_n hx hb dX1_bestFrom_27 rfl (lv_at hl 0 rfl) ?_
      refine b_if_eq hx hb zl_1 (tgt := 46) dX1_bestFrom_28 (by decide +kernel) (fun c_15 => by exfalso; omega) (fun c_15 => ?_)
      refine lv_aload_n hx hb dX1_bestFrom_31 rfl (lv_at hl 1 rfl) ?_
      refine va_get (D := D) (ci := 1) (v := .ref k0) (C := RX1) (T := TX1) (N := 4) hx hb hT giX1 hown hK hP 0 rfl rfl 0 (by decide +kernel) (hT (Cond.fieldLink RX1 9 "DesertWire$Loads" "best" "[I") mw_224) (fun _ h9 => h9) rfl dX1_bestFrom_32 ?_
      refine lv_iload_n hx hb dX1_bestFrom_35 rfl (lv_at hl 2 rfl) ?_
      refine lv_sipush (v := 601) hx hb dX1_bestFrom_36 (by decide +kernel) ?_
      refine lv_imul hx hb dX1_bestFrom_39 ?_
      refine lv_topi (fun v_16 ev_16 => ?_)
      have tv_16 : v_16.toInt = a0.toInt * 601 := by rw [ev_16]; exact k_mulv rfl zl_601 (by omega) (by omega)
      refine lv_iload_n hx hb dX1_bestFrom_40 rfl (lv_at hl 3 rfl) ?_
      refine lv_iadd hx hb dX1_bestFrom_41 ?_
      refine lv_topi (fun v_17 ev_17 => ?_)
      have tv_17 : v_17.toInt = v_16.toInt + a1.toInt := by rw [ev_17]; exact k_addv rfl rfl (by omega) (by omega)
      refine k_iald (v := (c0 v_17.toNatClampNeg)) hx hb hK hP 1 0 rfl rfl (k_in (by omega) (by omega)) rfl dX1_bestFrom_42 ?_
      refine lv_topi (fun v_18 ev_18 => ?_)
      have lo_v_18 := k_lo v_18
      have hi_v_18 := k_hi v_18
      have tv_18 : v_18.toInt = (c0 v_17.toNatClampNeg).toInt := by rw [ev_18]
      refine lv_goto (tgt := 47) hx hb dX1_bestFrom_43 (by decide +kernel) ?_
      exact hRet () [0, 1] trivial hP hD (by decide +kernel) rfl hS rfl dX1_bestFrom_47
    · try simp only [zl_0, zl_600] at h_13
      have h_13 : a1.toInt < 0 ∨ 600 < a1.toInt := h_13
      obtain rfl : r_8 = 0 := hr_8.trans (by decide +kernel)
      refine b_if_eq hx hb zl_0 (tgt := 25) dX1_bestFrom_18 (by decide +kernel) (fun c_19 => ?_) (fun c_19 => by exfalso; omega)
      refine lv_iconst (v := 0) hx hb dX1_bestFrom_25 (by decide +kernel) ?_
      refine lv_istore_n (lv' := [(3, .int 0), (0, .ref k), (1, .int a0), (2, .int a1)]) hx hb dX1_bestFrom_26 rfl hl (by decide +kernel) rfl ?_
      clear hl
      intro ls hl
      refine lv_iload_n hx hb dX1_bestFrom_27 rfl (lv_at hl 0 rfl) ?_
      refine b_if_eq hx hb zl_0 (tgt := 46) dX1_bestFrom_28 (by decide +kernel) (fun c_20 => ?_) (fun c_20 => by exfalso; omega)
      refine lv_iconst (v := 0) hx hb dX1_bestFrom_46 (by decide +kernel) ?_
      exact hRet () [0, 1] trivial hP hD (by decide +kernel) rfl hS rfl dX1_bestFrom_47
  · try simp only [zl_0, zl_8] at h_6
    have h_6 : a0.toInt < 0 ∨ 8 < a0.toInt := h_6
    obtain rfl : r_1 = 0 := hr_1.trans (by decide +kernel)
    refine b_if_eq hx hb zl_0 (tgt := 25) dX1_bestFrom_7 (by decide +kernel) (fun c_21 => ?_) (fun c_21 => by exfalso; omega)
    refine lv_iconst (v := 0) hx hb dX1_bestFrom_25 (by decide +kernel) ?_
    refine lv_istore_n (lv' := [(3, .int 0), (0, .ref k), (1, .int a0), (2, .int a1)]) hx hb dX1_bestFrom_26 rfl hl (by decide +kernel) rfl ?_
    clear hl
    intro ls hl
    refine lv_iload_n hx hb dX1_bestFrom_27 rfl (lv_at hl 0 rfl) ?_
    refine b_if_eq hx hb zl_0 (tgt := 46) dX1_bestFrom_28 (by decide +kernel) (fun c_22 => ?_) (fun c_22 => by exfalso; omega)
    refine lv_iconst (v := 0) hx hb dX1_bestFrom_46 (by decide +kernel) ?_
    exact hRet () [0, 1] trivial hP hD (by decide +kernel) rfl hS rfl dX1_bestFrom_47
theorem bn_cX1_takenOf_0 : BN cX1_takenOf 0 0xad0201402a81787020015a8ac1a0151824221c09805381c := by
  unfold BN; decide +kernel
theorem dX1_takenOf_0 : decode cX1_takenOf 0 = .ok (.iload_n 1, 1) := dR0 (k := 0) (i := 0) bn_cX1_takenOf_0 dop_27 (by decide +kernel)
theorem dX1_takenOf_1 : decode cX1_takenOf 1 = .ok (.ifCond .lt 18, 3) := dR2s (f := Instr.ifCond .lt) (k := 0) (i := 1) bn_cX1_takenOf_0 dop_155 18 18 (by decide +kernel)
theorem dX1_takenOf_4 : decode cX1_takenOf 4 = .ok (.iload_n 1, 1) := dR0 (k := 0) (i := 4) bn_cX1_takenOf_0 dop_27 (by decide +kernel)
theorem dX1_takenOf_5 : decode cX1_takenOf 5 = .ok (.bipush 8, 2) := dR1s (f := Instr.bipush) (k := 0) (i := 5) bn_cX1_takenOf_0 dop_16 8 8 (by decide +kernel)
theorem dX1_takenOf_7 : decode cX1_takenOf 7 = .ok (.if_icmp .ge 12, 3) := dR2s (f := Instr.if_icmp .ge) (k := 0) (i := 7) bn_cX1_takenOf_0 dop_162 12 12 (by decide +kernel)
theorem dX1_takenOf_10 : decode cX1_takenOf 10 = .ok (.aload_n 0, 1) := dR0 (k := 0) (i := 10) bn_cX1_takenOf_0 dop_42 (by decide +kernel)
theorem dX1_takenOf_11 : decode cX1_takenOf 11 = .ok (.getfield 15, 3) := dR2 (f := Instr.getfield) (k := 0) (i := 11) bn_cX1_takenOf_0 dop_180 15 (by decide +kernel)
theorem dX1_takenOf_14 : decode cX1_takenOf 14 = .ok (.iload_n 1, 1) := dR0 (k := 0) (i := 14) bn_cX1_takenOf_0 dop_27 (by decide +kernel)
theorem dX1_takenOf_15 : decode cX1_takenOf 15 = .ok (.iaload, 1) := dR0 (k := 0) (i := 15) bn_cX1_takenOf_0 dop_46 (by decide +kernel)
theorem dX1_takenOf_16 : decode cX1_takenOf 16 = .ok (.goto 4, 3) := dR2s (f := Instr.goto) (k := 0) (i := 16) bn_cX1_takenOf_0 dop_167 4 4 (by decide +kernel)
theorem dX1_takenOf_19 : decode cX1_takenOf 19 = .ok (.iconst 0, 1) := dR0 (k := 0) (i := 19) bn_cX1_takenOf_0 dop_3 (by decide +kernel)
theorem dX1_takenOf_20 : decode cX1_takenOf 20 = .ok (.ireturn, 1) := dR0 (k := 0) (i := 20) bn_cX1_takenOf_0 dop_172 (by decide +kernel)
set_option maxHeartbeats 4000000 in
set_option maxRecDepth 100000 in
theorem c_X1_takenOfG (l : Launch) (D : va_G) (cI : ClassId) (aK aV : Nat → Nat) (k k0 k1 : Nat) (sz : Nat) (c2 : Int32) (c3 : Int32) (c1 : Nat → Int32) (a0 : Int32) : Met l yX1_takenOf (gW yX1_takenOf cX1_takenOf 2 (some .int)) ({ frames := 0, cells := 0, slots := 0, locals := 0 } : Room) (kPreX D cI aK aV [.ref k, .int a0] [(k, .inr (1, [.ref k0, .ref k1, .int c2, .int c3])), (k1, .inl (cI, 8, .inl c1))] sz) (va_Qi (fun (r : Int32) (u : Unit) => True) (fun u t => kWd D cI (va_A [(k, .inr (1, [.ref k0, .ref k1, .int c2, .int c3])), (k1, .inl (cI, 8, .inl c1))] sz) [(k, .inr (1, [.ref k0, .ref k1, .int c2, .int c3])), (k1, .inl (cI, 8, .inl c1))] t) (va_A [(k, .inr (1, [.ref k0, .ref k1, .int c2, .int c3])), (k1, .inl (cI, 8, .inl c1))] sz)) 0 0 (va_A [(k, .inr (1, [.ref k0, .ref k1, .int c2, .int c3])), (k1, .inl (cI, 8, .inl c1))] sz) := by
  refine kMetIX (own := RX1) (by decide +kernel) rfl (Nat.le_of_ble_eq_true rfl) ?_
  intro p e s m args below meth c hx hb hT hown hname hml A Q hK hP hD hS hA hN hXS hRet ls hl
  have hl : lv_has ls 2 [(0, .ref k), (1, .int a0)] := hl
  have lo_a0 := k_lo a0
  have hi_a0 := k_hi a0
  refine lv_iload_n hx hb dX1_takenOf_0 rfl (lv_at hl 1 rfl) ?_
  refine b_if_lt hx hb rfl (tgt := 19) dX1_takenOf_1 (by decide +kernel) (fun c_1 => ?_) (fun c_1 => ?_)
  · refine lv_iconst (v := 0) hx hb dX1_takenOf_19 (by decide +kernel) ?_
    exact hRet () [0, 1] trivial hP hD (by decide +kernel) rfl hS rfl dX1_takenOf_20
  · refine lv_iload_n hx hb dX1_takenOf_4 rfl (lv_at hl 1 rfl) ?_
    refine lv_bipush (v := 8) hx hb dX1_takenOf_5 (by decide +kernel) ?_
    refine b_icmp_ge hx hb rfl zl_8 (tgt := 19) dX1_takenOf_7 (by decide +kernel) (fun c_2 => ?_) (fun c_2 => ?_)
    · refine lv_iconst (v := 0) hx hb dX1_takenOf_19 (by decide +kernel) ?_
      exact hRet () [0, 1] trivial hP hD (by decide +kernel) rfl hS rfl dX1_takenOf_20
    · refine lv_aload_n hx hb dX1_takenOf_10 rfl (lv_at hl 0 rfl) ?_
      refine va_get (D := D) (ci := 1) (v := .ref k1) (C := RX1) (T := TX1) (N := 4) hx hb hT giX1 hown hK hP 0 rfl rfl 1 (by decide +kernel) (hT (Cond.fieldLink RX1 15 "DesertWire$Loads" "taken" "[I") mw_225) (fun _ h9 => h9) rfl dX1_takenOf_11 ?_
      refine lv_iload_n hx hb dX1_takenOf_14 rfl (lv_at hl 1 rfl) ?_
      refine k_iald (v := (c1 a0.toNatClampNeg)) hx hb hK hP 1 0 rfl rfl (k_in (by omega) (by omega)) rfl dX1_takenOf_15 ?_
      refine lv_topi (fun v_3 ev_3 => ?_)
      have lo_v_3 := k_lo v_3
      have hi_v_3 := k_hi v_3
      have tv_3 : v_3.toInt = (c1 a0.toNatClampNeg).toInt := by rw [ev_3]
      refine lv_goto (tgt := 20) hx hb dX1_takenOf_16 (by decide +kernel) ?_
      exact hRet () [0, 1] trivial hP hD (by decide +kernel) rfl hS rfl dX1_takenOf_20
theorem bn_cX1_bestWith_0 : BN cX1_bestWith 0 0xad038599700540081085038dc70015c8242c070b0246e611a8056e653487810160e9840a1c159a4ca1e348142c0102848101617005481d3487810161b00548060b0202c081b8140e371a8056e1d30814382b := by
  unfold BN; decide +kernel
theorem dX1_bestWith_0 : decode cX1_bestWith 0 = .ok (.aload_n 0, 1) := dR0 (k := 0) (i := 0) bn_cX1_bestWith_0 dop_42 (by decide +kernel)
theorem dX1_bestWith_1 : decode cX1_bestWith 1 = .ok (.iload_n 1, 1) := dR0 (k := 0) (i := 1) bn_cX1_bestWith_0 dop_27 (by decide +kernel)
theorem dX1_bestWith_2 : decode cX1_bestWith 2 = .ok (.iconst 1, 1) := dR0 (k := 0) (i := 2) bn_cX1_bestWith_0 dop_4 (by decide +kernel)
theorem dX1_bestWith_3 : decode cX1_bestWith 3 = .ok (.iadd, 1) := dR0 (k := 0) (i := 3) bn_cX1_bestWith_0 dop_96 (by decide +kernel)
theorem dX1_bestWith_4 : decode cX1_bestWith 4 = .ok (.iload_n 2, 1) := dR0 (k := 0) (i := 4) bn_cX1_bestWith_0 dop_28 (by decide +kernel)
theorem dX1_bestWith_5 : decode cX1_bestWith 5 = .ok (.invokevirtual 52, 3) := dR2 (f := Instr.invokevirtual) (k := 0) (i := 5) bn_cX1_bestWith_0 dop_182 52 (by decide +kernel)
theorem dX1_bestWith_8 : decode cX1_bestWith 8 = .ok (.istore 6, 2) := dR1 (f := Instr.istore) (k := 0) (i := 8) bn_cX1_bestWith_0 dop_54 6 (by decide +kernel)
theorem dX1_bestWith_10 : decode cX1_bestWith 10 = .ok (.iconst 1, 1) := dR0 (k := 0) (i := 10) bn_cX1_bestWith_0 dop_4 (by decide +kernel)
theorem dX1_bestWith_11 : decode cX1_bestWith 11 = .ok (.istore 7, 2) := dR1 (f := Instr.istore) (k := 0) (i := 11) bn_cX1_bestWith_0 dop_54 7 (by decide +kernel)
theorem dX1_bestWith_13 : decode cX1_bestWith 13 = .ok (.iload 7, 2) := dR1 (f := Instr.iload) (k := 0) (i := 13) bn_cX1_bestWith_0 dop_21 7 (by decide +kernel)
theorem dX1_bestWith_15 : decode cX1_bestWith 15 = .ok (.iload 5, 2) := dR1 (f := Instr.iload) (k := 0) (i := 15) bn_cX1_bestWith_0 dop_21 5 (by decide +kernel)
theorem dX1_bestWith_17 : decode cX1_bestWith 17 = .ok (.if_icmp .gt 53, 3) := dR2s (f := Instr.if_icmp .gt) (k := 0) (i := 17) bn_cX1_bestWith_0 dop_163 53 53 (by decide +kernel)
theorem dX1_bestWith_20 : decode cX1_bestWith 20 = .ok (.iload 7, 2) := dR1 (f := Instr.iload) (k := 0) (i := 20) bn_cX1_bestWith_0 dop_21 7 (by decide +kernel)
theorem dX1_bestWith_22 : decode cX1_bestWith 22 = .ok (.iload_n 3, 1) := dR0 (k := 0) (i := 22) bn_cX1_bestWith_0 dop_29 (by decide +kernel)
theorem dX1_bestWith_23 : decode cX1_bestWith 23 = .ok (.imul, 1) := dR0 (k := 0) (i := 23) bn_cX1_bestWith_0 dop_104 (by decide +kernel)
theorem dX1_bestWith_24 : decode cX1_bestWith 24 = .ok (.iload_n 2, 1) := dR0 (k := 0) (i := 24) bn_cX1_bestWith_0 dop_28 (by decide +kernel)
theorem dX1_bestWith_25 : decode cX1_bestWith 25 = .ok (.if_icmp .gt 45, 3) := dR2s (f := Instr.if_icmp .gt) (k := 0) (i := 25) bn_cX1_bestWith_0 dop_163 45 45 (by decide +kernel)
theorem dX1_bestWith_28 : decode cX1_bestWith 28 = .ok (.iload 7, 2) := dR1 (f := Instr.iload) (k := 0) (i := 28) bn_cX1_bestWith_0 dop_21 7 (by decide +kernel)
theorem dX1_bestWith_30 : decode cX1_bestWith 30 = .ok (.sipush 1024, 3) := dR2s (f := Instr.sipush) (k := 0) (i := 30) bn_cX1_bestWith_0 dop_17 1024 1024 (by decide +kernel)
theorem dX1_bestWith_33 : decode cX1_bestWith 33 = .ok (.iload 4, 2) := dR1 (f := Instr.iload) (k := 0) (i := 33) bn_cX1_bestWith_0 dop_21 4 (by decide +kernel)
theorem dX1_bestWith_35 : decode cX1_bestWith 35 = .ok (.imul, 1) := dR0 (k := 0) (i := 35) bn_cX1_bestWith_0 dop_104 (by decide +kernel)
theorem dX1_bestWith_36 : decode cX1_bestWith 36 = .ok (.iload_n 3, 1) := dR0 (k := 0) (i := 36) bn_cX1_bestWith_0 dop_29 (by decide +kernel)
theorem dX1_bestWith_37 : decode cX1_bestWith 37 = .ok (.isub, 1) := dR0 (k := 0) (i := 37) bn_cX1_bestWith_0 dop_100 (by decide +kernel)
theorem dX1_bestWith_38 : decode cX1_bestWith 38 = .ok (.imul, 1) := dR0 (k := 0) (i := 38) bn_cX1_bestWith_0 dop_104 (by decide +kernel)
theorem dX1_bestWith_39 : decode cX1_bestWith 39 = .ok (.aload_n 0, 1) := dR0 (k := 0) (i := 39) bn_cX1_bestWith_0 dop_42 (by decide +kernel)
theorem dX1_bestWith_40 : decode cX1_bestWith 40 = .ok (.iload_n 1, 1) := dR0 (k := 0) (i := 40) bn_cX1_bestWith_0 dop_27 (by decide +kernel)
theorem dX1_bestWith_41 : decode cX1_bestWith 41 = .ok (.iconst 1, 1) := dR0 (k := 0) (i := 41) bn_cX1_bestWith_0 dop_4 (by decide +kernel)
theorem dX1_bestWith_42 : decode cX1_bestWith 42 = .ok (.iadd, 1) := dR0 (k := 0) (i := 42) bn_cX1_bestWith_0 dop_96 (by decide +kernel)
theorem dX1_bestWith_43 : decode cX1_bestWith 43 = .ok (.iload_n 2, 1) := dR0 (k := 0) (i := 43) bn_cX1_bestWith_0 dop_28 (by decide +kernel)
theorem dX1_bestWith_44 : decode cX1_bestWith 44 = .ok (.iload 7, 2) := dR1 (f := Instr.iload) (k := 0) (i := 44) bn_cX1_bestWith_0 dop_21 7 (by decide +kernel)
theorem dX1_bestWith_46 : decode cX1_bestWith 46 = .ok (.iload_n 3, 1) := dR0 (k := 0) (i := 46) bn_cX1_bestWith_0 dop_29 (by decide +kernel)
theorem dX1_bestWith_47 : decode cX1_bestWith 47 = .ok (.imul, 1) := dR0 (k := 0) (i := 47) bn_cX1_bestWith_0 dop_104 (by decide +kernel)
theorem dX1_bestWith_48 : decode cX1_bestWith 48 = .ok (.isub, 1) := dR0 (k := 0) (i := 48) bn_cX1_bestWith_0 dop_100 (by decide +kernel)
theorem dX1_bestWith_49 : decode cX1_bestWith 49 = .ok (.invokevirtual 52, 3) := dR2 (f := Instr.invokevirtual) (k := 0) (i := 49) bn_cX1_bestWith_0 dop_182 52 (by decide +kernel)
theorem dX1_bestWith_52 : decode cX1_bestWith 52 = .ok (.iadd, 1) := dR0 (k := 0) (i := 52) bn_cX1_bestWith_0 dop_96 (by decide +kernel)
theorem dX1_bestWith_53 : decode cX1_bestWith 53 = .ok (.istore 8, 2) := dR1 (f := Instr.istore) (k := 0) (i := 53) bn_cX1_bestWith_0 dop_54 8 (by decide +kernel)
theorem dX1_bestWith_55 : decode cX1_bestWith 55 = .ok (.iload 6, 2) := dR1 (f := Instr.iload) (k := 0) (i := 55) bn_cX1_bestWith_0 dop_21 6 (by decide +kernel)
theorem dX1_bestWith_57 : decode cX1_bestWith 57 = .ok (.iload 8, 2) := dR1 (f := Instr.iload) (k := 0) (i := 57) bn_cX1_bestWith_0 dop_21 8 (by decide +kernel)
theorem dX1_bestWith_59 : decode cX1_bestWith 59 = .ok (.invokestatic 55, 3) := dR2 (f := Instr.invokestatic) (k := 0) (i := 59) bn_cX1_bestWith_0 dop_184 55 (by decide +kernel)
theorem dX1_bestWith_62 : decode cX1_bestWith 62 = .ok (.istore 6, 2) := dR1 (f := Instr.istore) (k := 0) (i := 62) bn_cX1_bestWith_0 dop_54 6 (by decide +kernel)
theorem dX1_bestWith_64 : decode cX1_bestWith 64 = .ok (.iinc 7 1, 3) := dRii (f := Instr.iinc) (k := 0) (i := 64) bn_cX1_bestWith_0 dop_132 7 1 1 (by decide +kernel)
theorem dX1_bestWith_67 : decode cX1_bestWith 67 = .ok (.goto (-54), 3) := dR2s (f := Instr.goto) (k := 0) (i := 67) bn_cX1_bestWith_0 dop_167 65482 (-54) (by decide +kernel)
theorem dX1_bestWith_70 : decode cX1_bestWith 70 = .ok (.iload 6, 2) := dR1 (f := Instr.iload) (k := 0) (i := 70) bn_cX1_bestWith_0 dop_21 6 (by decide +kernel)
theorem dX1_bestWith_72 : decode cX1_bestWith 72 = .ok (.ireturn, 1) := dR0 (k := 0) (i := 72) bn_cX1_bestWith_0 dop_172 (by decide +kernel)
set_option maxHeartbeats 4000000 in
set_option maxRecDepth 100000 in
theorem c_X1_bestWithG (l : Launch) (D : va_G) (cI : ClassId) (aK aV : Nat → Nat) (k k0 k1 : Nat) (sz : Nat) (c2 : Int32) (c3 : Int32) (c0 : Nat → Int32) (a0 : Int32) (a1 : Int32) (a2 : Int32) (a3 : Int32) (a4 : Int32) (pre0 : a4.toInt ≤ 3) : Met l yX1_bestWith (gW yX1_bestWith cX1_bestWith 9 (some .int)) ({ frames := 2, cells := 0, slots := 0, locals := 45 } : Room) (kPreX D cI aK aV [.ref k, .int a0, .int a1, .int a2, .int a3, .int a4] [(k, .inr (1, [.ref k0, .ref k1, .int c2, .int c3])), (k0, .inl (cI, 5409, .inl c0))] sz) (va_Qi (fun (r : Int32) (u : Unit) => True) (fun u t => kWd D cI (va_A [(k, .inr (1, [.ref k0, .ref k1, .int c2, .int c3])), (k0, .inl (cI, 5409, .inl c0))] sz) [(k, .inr (1, [.ref k0, .ref k1, .int c2, .int c3])), (k0, .inl (cI, 5409, .inl c0))] t) (va_A [(k, .inr (1, [.ref k0, .ref k1, .int c2, .int c3])), (k0, .inl (cI, 5409, .inl c0))] sz)) 0 0 (va_A [(k, .inr (1, [.ref k0, .ref k1, .int c2, .int c3])), (k0, .inl (cI, 5409, .inl c0))] sz) := by
  refine kMetIX (own := RX1) (by decide +kernel) rfl (Nat.le_of_ble_eq_true rfl) ?_
  intro p e s m args below meth c hx hb hT hown hname hml A Q hK hP hD hS hA hN hXS hRet ls hl
  have hl : lv_has ls 9 [(0, .ref k), (1, .int a0), (2, .int a1), (3, .int a2), (4, .int a3), (5, .int a4)] := hl
  have lo_a0 := k_lo a0
  have hi_a0 := k_hi a0
  have lo_a1 := k_lo a1
  have hi_a1 := k_hi a1
  have lo_a2 := k_lo a2
  have hi_a2 := k_hi a2
  have lo_a3 := k_lo a3
  have hi_a3 := k_hi a3
  have lo_a4 := k_lo a4
  have hi_a4 := k_hi a4
  refine lv_aload_n hx hb dX1_bestWith_0 rfl (lv_at hl 0 rfl) ?_
  refine lv_iload_n hx hb dX1_bestWith_1 rfl (lv_at hl 1 rfl) ?_
  refine lv_iconst (v := 1) hx hb dX1_bestWith_2 (by decide +kernel) ?_
  refine lv_iadd hx hb dX1_bestWith_3 ?_
  refine lv_topi (fun v_1 ev_1 => ?_)
  have lo_v_1 := k_lo v_1
  have hi_v_1 := k_hi v_1
  refine lv_iload_n hx hb dX1_bestWith_4 rfl (lv_at hl 2 rfl) ?_
  refine kJi (wr := []) (va_runV (As := [.int v_1, .int a1]) (rest := []) ⟨hx, hb, hml, hown, hT⟩ (c_X1_bestFromG l D cI aK aV k k0 k1 s.heap.size c2 c3 c0 v_1 a1) (cwV 2 hT (gV_in mw_901 mw_898 mw_900 mw_p2_10 mw_8) rfl rfl rfl (by decide +kernel) ⟨Nat.le_of_ble_eq_true rfl, Nat.le_of_ble_eq_true rfl⟩) (kRecvX (q0 := 0) (ci := 1) hK hP hD hN hXS hS hA rfl rfl [0, 1] rfl (by decide +kernel)) rfl rfl hl.1 rfl (lv_room (Nat.le_of_ble_eq_true rfl)) dX1_bestWith_5 ⟨Nat.le_of_ble_eq_true rfl, Nat.le_of_ble_eq_true rfl⟩) hP hD hS hA [0, 1] [] rfl rfl (by decide +kernel) (by decide +kernel) ?_
  clear hP hD hS
  intro r_2 u_4 H locs w_3 hP hD hS
  replace hP : va_P D vwCl [(k, .inr (1, [.ref k0, .ref k1, .int c2, .int c3])), (k0, .inl (cI, 5409, .inl c0))] H := hP
  replace hD : va_D A [(k, .inr (1, [.ref k0, .ref k1, .int c2, .int c3])), (k0, .inl (cI, 5409, .inl c0))] := hD
  have lo_r_2 := k_lo r_2
  have hi_r_2 := k_hi r_2
  refine lv_istore (lv' := [(6, .int r_2), (0, .ref k), (1, .int a0), (2, .int a1), (3, .int a2), (4, .int a3), (5, .int a4)]) hx hb dX1_bestWith_8 hl (by decide +kernel) rfl ?_
  clear hl
  intro ls hl
  refine lv_iconst (v := 1) hx hb dX1_bestWith_10 (by decide +kernel) ?_
  refine lv_istore (lv' := [(7, .int 1), (6, .int r_2), (0, .ref k), (1, .int a0), (2, .int a1), (3, .int a2), (4, .int a3), (5, .int a4)]) hx hb dX1_bestWith_11 hl (by decide +kernel) rfl ?_
  clear hl
  intro ls hl
  have hloop_13 : ∀ (fu_ : Nat) (l13_6 : Int32) (l13_7 : Int32), r_2.toInt ≤ l13_6.toInt → 1 ≤ l13_7.toInt → l13_7.toInt ≤ 4 → (4 - l13_7.toInt).toNat < fu_ → ∀ (ls : Array Slot) (H : Heap) (locs : List Loc), lv_has ls 9 [(7, .int l13_7), (6, .int l13_6), (0, .ref k), (1, .int a0), (2, .int a1), (3, .int a2), (4, .int a3), (5, .int a4)] → va_P D vwCl [(k, .inr (1, [.ref k0, .ref k1, .int c2, .int c3])), (k0, .inl (cI, 5409, .inl c0))] H → va_D A [(k, .inr (1, [.ref k0, .ref k1, .int c2, .int c3])), (k0, .inl (cI, 5409, .inl c0))] → va_S A s.heap H locs → W p l e ({ frames := 2, cells := 0, slots := 0, locals := 45 } : Room) s m args below meth c H locs 0 0 Q (F0 m 13 ls []) := by
    intro fu_; induction fu_ with
    | zero => intro l13_6 l13_7 i13_0 i13_1 i13_2 hm; exact absurd hm (by omega)
    | succ fu_ ih13 =>
        intro l13_6 l13_7 i13_0 i13_1 i13_2 hm ls H locs hl hP hD hS
        have lo_l13_6 := k_lo l13_6
        have hi_l13_6 := k_hi l13_6
        have lo_l13_7 := k_lo l13_7
        have hi_l13_7 := k_hi l13_7
        refine lv_iload hx hb dX1_bestWith_13 (lv_at hl 0 rfl) ?_
        refine lv_iload hx hb dX1_bestWith_15 (lv_at hl 7 rfl) ?_
        refine b_icmp_gt hx hb rfl rfl (tgt := 70) dX1_bestWith_17 (by decide +kernel) (fun c_5 => ?_) (fun c_5 => ?_)
        · refine lv_iload hx hb dX1_bestWith_70 (lv_at hl 1 rfl) ?_
          exact hRet () [0, 1] trivial hP hD (by decide +kernel) rfl hS rfl dX1_bestWith_72
        · refine lv_iload hx hb dX1_bestWith_20 (lv_at hl 0 rfl) ?_
          refine lv_iload_n hx hb dX1_bestWith_22 rfl (lv_at hl 5 rfl) ?_
          refine lv_imul hx hb dX1_bestWith_23 ?_
          refine lv_topi (fun v_6 ev_6 => ?_)
          have lo_v_6 := k_lo v_6
          have hi_v_6 := k_hi v_6
          refine lv_iload_n hx hb dX1_bestWith_24 rfl (lv_at hl 4 rfl) ?_
          refine b_icmp_gt hx hb rfl rfl (tgt := 70) dX1_bestWith_25 (by decide +kernel) (fun c_7 => ?_) (fun c_7 => ?_)
          · refine lv_iload hx hb dX1_bestWith_70 (lv_at hl 1 rfl) ?_
            exact hRet () [0, 1] trivial hP hD (by decide +kernel) rfl hS rfl dX1_bestWith_72
          · refine lv_iload hx hb dX1_bestWith_28 (lv_at hl 0 rfl) ?_
            refine lv_sipush (v := 1024) hx hb dX1_bestWith_30 (by decide +kernel) ?_
            refine lv_iload hx hb dX1_bestWith_33 (lv_at hl 6 rfl) ?_
            refine lv_imul hx hb dX1_bestWith_35 ?_
            refine lv_topi (fun v_8 ev_8 => ?_)
            have lo_v_8 := k_lo v_8
            have hi_v_8 := k_hi v_8
            refine lv_iload_n hx hb dX1_bestWith_36 rfl (lv_at hl 5 rfl) ?_
            refine lv_isub hx hb dX1_bestWith_37 ?_
            refine lv_topi (fun v_9 ev_9 => ?_)
            have lo_v_9 := k_lo v_9
            have hi_v_9 := k_hi v_9
            refine lv_imul hx hb dX1_bestWith_38 ?_
            refine lv_topi (fun v_10 ev_10 => ?_)
            have lo_v_10 := k_lo v_10
            have hi_v_10 := k_hi v_10
            refine lv_aload_n hx hb dX1_bestWith_39 rfl (lv_at hl 2 rfl) ?_
            refine lv_iload_n hx hb dX1_bestWith_40 rfl (lv_at hl 3 rfl) ?_
            refine lv_iconst (v := 1) hx hb dX1_bestWith_41 (by decide +kernel) ?_
            refine lv_iadd hx hb dX1_bestWith_42 ?_
            refine lv_topi (fun v_11 ev_11 => ?_)
            have lo_v_11 := k_lo v_11
            have hi_v_11 := k_hi v_11
            refine lv_iload_n hx hb dX1_bestWith_43 rfl (lv_at hl 4 rfl) ?_
            refine lv_iload hx hb dX1_bestWith_44 (lv_at hl 0 rfl) ?_
            refine lv_iload_n hx hb dX1_bestWith_46 rfl (lv_at hl 5 rfl) ?_
            refine lv_imul hx hb dX1_bestWith_47 ?_
            refine lv_topi (fun v_12 ev_12 => ?_)
            have lo_v_12 := k_lo v_12
            have hi_v_12 := k_hi v_12
            refine lv_isub hx hb dX1_bestWith_48 ?_
            refine lv_topi (fun v_13 ev_13 => ?_)
            have lo_v_13 := k_lo v_13
            have hi_v_13 := k_hi v_13
            refine kJi (wr := []) (va_runV (As := [.int v_11, .int v_13]) (rest := [.int v_10]) ⟨hx, hb, hml, hown, hT⟩ (c_X1_bestFromG l D cI aK aV k k0 k1 H.size c2 c3 c0 v_11 v_13) (cwV 2 hT (gV_in mw_901 mw_898 mw_900 mw_p2_10 mw_8) rfl rfl rfl (by decide +kernel) ⟨Nat.le_of_ble_eq_true rfl, Nat.le_of_ble_eq_true rfl⟩) (kRecvX (q0 := 0) (ci := 1) hK hP hD hN hXS hS hA rfl rfl [0, 1] rfl (by decide +kernel)) rfl rfl hl.1 rfl (lv_room (Nat.le_of_ble_eq_true rfl)) dX1_bestWith_49 ⟨Nat.le_of_ble_eq_true rfl, Nat.le_of_ble_eq_true rfl⟩) hP hD hS hA [0, 1] [] rfl rfl (by decide +kernel) (by decide +kernel) ?_
            clear hP hD hS
            intro r_14 u_16 H locs w_15 hP hD hS
            replace hP : va_P D vwCl [(k, .inr (1, [.ref k0, .ref k1, .int c2, .int c3])), (k0, .inl (cI, 5409, .inl c0))] H := hP
            replace hD : va_D A [(k, .inr (1, [.ref k0, .ref k1, .int c2, .int c3])), (k0, .inl (cI, 5409, .inl c0))] := hD
            have lo_r_14 := k_lo r_14
            have hi_r_14 := k_hi r_14
            refine lv_iadd hx hb dX1_bestWith_52 ?_
            refine lv_topi (fun v_17 ev_17 => ?_)
            have lo_v_17 := k_lo v_17
            have hi_v_17 := k_hi v_17
            refine lv_istore (lv' := [(8, .int v_17), (7, .int l13_7), (6, .int l13_6), (0, .ref k), (1, .int a0), (2, .int a1), (3, .int a2), (4, .int a3), (5, .int a4)]) hx hb dX1_bestWith_53 hl (by decide +kernel) rfl ?_
            clear hl
            intro ls hl
            refine lv_iload hx hb dX1_bestWith_55 (lv_at hl 2 rfl) ?_
            refine lv_iload hx hb dX1_bestWith_57 (lv_at hl 0 rfl) ?_
            refine va_mmax hx hb (hml.trans hl.1.symm) hown (hT _ mw_903) (hT _ mw_426) (hT _ mw_13) (hT _ mw_427) (Nat.le_of_ble_eq_true rfl) (Nat.le_of_ble_eq_true rfl) (Nat.le_of_ble_eq_true rfl) (Nat.le_of_ble_eq_true rfl) dX1_bestWith_59 ?_
            refine lv_topi (fun v_18 ev_18 => ?_)
            have lo_v_18 := k_lo v_18
            have hi_v_18 := k_hi v_18
            have tv_18 : v_18.toInt = k_max l13_6.toInt v_17.toInt := by rw [ev_18]; exact k_mmax rfl rfl
            have sv_18 := k_max_spec (l13_6.toInt) (v_17.toInt)
            refine lv_istore (lv' := [(6, .int v_18), (8, .int v_17), (7, .int l13_7), (0, .ref k), (1, .int a0), (2, .int a1), (3, .int a2), (4, .int a3), (5, .int a4)]) hx hb dX1_bestWith_62 hl (by decide +kernel) rfl ?_
            clear hl
            intro ls hl
            obtain ⟨v_19, ev_19⟩ : ∃ y : Int32, y = l13_7 + 1 := ⟨_, rfl⟩
            have tv_19 : v_19.toInt = l13_7.toInt + 1 := by rw [ev_19]; exact k_addv rfl zl_1 (by omega) (by omega)
            refine lv_iinc (v := v_19) (lv' := [(7, .int v_19), (6, .int v_18), (8, .int v_17), (0, .ref k), (1, .int a0), (2, .int a1), (3, .int a2), (4, .int a3), (5, .int a4)]) hx hb dX1_bestWith_64 hl (k := 2) rfl (by rw [ev_19]; rfl) (by decide +kernel) rfl ?_
            clear hl
            intro ls hl
            refine lv_goto (tgt := 13) hx hb dX1_bestWith_67 (by decide +kernel) ?_
            exact ih13 v_18 v_19 (by first | omega | decide | assumption | rfl) (by first | omega | decide | assumption | rfl) (by first | omega | decide | assumption | rfl) (by omega) ls _ _ (lv_sub hl [0, 1, 3, 4, 5, 6, 7, 8] rfl) (hP.sub [0, 1] rfl) (hD.sub [0, 1] (by decide +kernel) rfl) hS
  exact hloop_13 _ r_2 1 (by first | omega | (simp only [zl_1]; first | done | omega) | decide | assumption | rfl) (by first | omega | (simp only [zl_1]; first | done | omega) | decide | assumption | rfl) (by first | omega | (simp only [zl_1]; first | done | omega) | decide | assumption | rfl) (Nat.lt_succ_self _) ls _ _ (lv_sub hl [0, 1, 2, 3, 4, 5, 6, 7] rfl) hP hD hS
theorem bn_cX1_isBest_0 : BN cX1_isBest 0 0x15a0402805500504005423500adc3a1c1581c2c071b9846a015b994d2050b0783a61028705669328142c69030580205090795a04030054a1d348142c1e := by
  unfold BN; decide +kernel
theorem dX1_isBest_0 : decode cX1_isBest 0 = .ok (.iload_n 3, 1) := dR0 (k := 0) (i := 0) bn_cX1_isBest_0 dop_29 (by decide +kernel)
theorem dX1_isBest_1 : decode cX1_isBest 1 = .ok (.iload 4, 2) := dR1 (f := Instr.iload) (k := 0) (i := 1) bn_cX1_isBest_0 dop_21 4 (by decide +kernel)
theorem dX1_isBest_3 : decode cX1_isBest 3 = .ok (.imul, 1) := dR0 (k := 0) (i := 3) bn_cX1_isBest_0 dop_104 (by decide +kernel)
theorem dX1_isBest_4 : decode cX1_isBest 4 = .ok (.iload_n 2, 1) := dR0 (k := 0) (i := 4) bn_cX1_isBest_0 dop_28 (by decide +kernel)
theorem dX1_isBest_5 : decode cX1_isBest 5 = .ok (.if_icmp .le 5, 3) := dR2s (f := Instr.if_icmp .le) (k := 0) (i := 5) bn_cX1_isBest_0 dop_164 5 5 (by decide +kernel)
theorem dX1_isBest_8 : decode cX1_isBest 8 = .ok (.iconst 0, 1) := dR0 (k := 0) (i := 8) bn_cX1_isBest_0 dop_3 (by decide +kernel)
theorem dX1_isBest_9 : decode cX1_isBest 9 = .ok (.ireturn, 1) := dR0 (k := 0) (i := 9) bn_cX1_isBest_0 dop_172 (by decide +kernel)
theorem dX1_isBest_10 : decode cX1_isBest 10 = .ok (.iload_n 3, 1) := dR0 (k := 0) (i := 10) bn_cX1_isBest_0 dop_29 (by decide +kernel)
theorem dX1_isBest_11 : decode cX1_isBest 11 = .ok (.sipush 1024, 3) := dR2s (f := Instr.sipush) (k := 0) (i := 11) bn_cX1_isBest_0 dop_17 1024 1024 (by decide +kernel)
theorem dX1_isBest_14 : decode cX1_isBest 14 = .ok (.iload 5, 2) := dR1 (f := Instr.iload) (k := 0) (i := 14) bn_cX1_isBest_0 dop_21 5 (by decide +kernel)
theorem dX1_isBest_16 : decode cX1_isBest 16 = .ok (.imul, 1) := dR0 (k := 0) (i := 16) bn_cX1_isBest_0 dop_104 (by decide +kernel)
theorem dX1_isBest_17 : decode cX1_isBest 17 = .ok (.iload 4, 2) := dR1 (f := Instr.iload) (k := 0) (i := 17) bn_cX1_isBest_0 dop_21 4 (by decide +kernel)
theorem dX1_isBest_19 : decode cX1_isBest 19 = .ok (.isub, 1) := dR0 (k := 0) (i := 19) bn_cX1_isBest_0 dop_100 (by decide +kernel)
theorem dX1_isBest_20 : decode cX1_isBest 20 = .ok (.imul, 1) := dR0 (k := 0) (i := 20) bn_cX1_isBest_0 dop_104 (by decide +kernel)
theorem dX1_isBest_21 : decode cX1_isBest 21 = .ok (.aload_n 0, 1) := dR0 (k := 0) (i := 21) bn_cX1_isBest_0 dop_42 (by decide +kernel)
theorem dX1_isBest_22 : decode cX1_isBest 22 = .ok (.iload_n 1, 1) := dR0 (k := 0) (i := 22) bn_cX1_isBest_0 dop_27 (by decide +kernel)
theorem dX1_isBest_23 : decode cX1_isBest 23 = .ok (.iconst 1, 1) := dR0 (k := 0) (i := 23) bn_cX1_isBest_0 dop_4 (by decide +kernel)
theorem dX1_isBest_24 : decode cX1_isBest 24 = .ok (.iadd, 1) := dR0 (k := 0) (i := 24) bn_cX1_isBest_0 dop_96 (by decide +kernel)
theorem dX1_isBest_25 : decode cX1_isBest 25 = .ok (.iload_n 2, 1) := dR0 (k := 0) (i := 25) bn_cX1_isBest_0 dop_28 (by decide +kernel)
theorem dX1_isBest_26 : decode cX1_isBest 26 = .ok (.iload_n 3, 1) := dR0 (k := 0) (i := 26) bn_cX1_isBest_0 dop_29 (by decide +kernel)
theorem dX1_isBest_27 : decode cX1_isBest 27 = .ok (.iload 4, 2) := dR1 (f := Instr.iload) (k := 0) (i := 27) bn_cX1_isBest_0 dop_21 4 (by decide +kernel)
theorem dX1_isBest_29 : decode cX1_isBest 29 = .ok (.imul, 1) := dR0 (k := 0) (i := 29) bn_cX1_isBest_0 dop_104 (by decide +kernel)
theorem dX1_isBest_30 : decode cX1_isBest 30 = .ok (.isub, 1) := dR0 (k := 0) (i := 30) bn_cX1_isBest_0 dop_100 (by decide +kernel)
theorem dX1_isBest_31 : decode cX1_isBest 31 = .ok (.invokevirtual 52, 3) := dR2 (f := Instr.invokevirtual) (k := 0) (i := 31) bn_cX1_isBest_0 dop_182 52 (by decide +kernel)
theorem dX1_isBest_34 : decode cX1_isBest 34 = .ok (.iadd, 1) := dR0 (k := 0) (i := 34) bn_cX1_isBest_0 dop_96 (by decide +kernel)
theorem dX1_isBest_35 : decode cX1_isBest 35 = .ok (.istore 6, 2) := dR1 (f := Instr.istore) (k := 0) (i := 35) bn_cX1_isBest_0 dop_54 6 (by decide +kernel)
theorem dX1_isBest_37 : decode cX1_isBest 37 = .ok (.iload 6, 2) := dR1 (f := Instr.iload) (k := 0) (i := 37) bn_cX1_isBest_0 dop_21 6 (by decide +kernel)
theorem dX1_isBest_39 : decode cX1_isBest 39 = .ok (.aload_n 0, 1) := dR0 (k := 0) (i := 39) bn_cX1_isBest_0 dop_42 (by decide +kernel)
theorem dX1_isBest_40 : decode cX1_isBest 40 = .ok (.iload_n 1, 1) := dR0 (k := 0) (i := 40) bn_cX1_isBest_0 dop_27 (by decide +kernel)
theorem dX1_isBest_41 : decode cX1_isBest 41 = .ok (.iload_n 2, 1) := dR0 (k := 0) (i := 41) bn_cX1_isBest_0 dop_28 (by decide +kernel)
theorem dX1_isBest_42 : decode cX1_isBest 42 = .ok (.invokevirtual 52, 3) := dR2 (f := Instr.invokevirtual) (k := 0) (i := 42) bn_cX1_isBest_0 dop_182 52 (by decide +kernel)
theorem dX1_isBest_45 : decode cX1_isBest 45 = .ok (.if_icmp .ne 7, 3) := dR2s (f := Instr.if_icmp .ne) (k := 0) (i := 45) bn_cX1_isBest_0 dop_160 7 7 (by decide +kernel)
theorem dX1_isBest_48 : decode cX1_isBest 48 = .ok (.iconst 1, 1) := dR0 (k := 0) (i := 48) bn_cX1_isBest_0 dop_4 (by decide +kernel)
theorem dX1_isBest_49 : decode cX1_isBest 49 = .ok (.goto 4, 3) := dR2s (f := Instr.goto) (k := 0) (i := 49) bn_cX1_isBest_0 dop_167 4 4 (by decide +kernel)
theorem dX1_isBest_52 : decode cX1_isBest 52 = .ok (.iconst 0, 1) := dR0 (k := 0) (i := 52) bn_cX1_isBest_0 dop_3 (by decide +kernel)
theorem dX1_isBest_53 : decode cX1_isBest 53 = .ok (.ireturn, 1) := dR0 (k := 0) (i := 53) bn_cX1_isBest_0 dop_172 (by decide +kernel)
set_option maxHeartbeats 4000000 in
set_option maxRecDepth 100000 in
theorem c_X1_isBestG (l : Launch) (D : va_G) (cI : ClassId) (aK aV : Nat → Nat) (k k0 k1 : Nat) (sz : Nat) (c2 : Int32) (c3 : Int32) (c0 : Nat → Int32) (a0 : Int32) (a1 : Int32) (a2 : Int32) (a3 : Int32) (a4 : Int32) : Met l yX1_isBest (gW yX1_isBest cX1_isBest 7 (some .boolean)) ({ frames := 2, cells := 0, slots := 0, locals := 45 } : Room) (kPreX D cI aK aV [.ref k, .int a0, .int a1, .int a2, .int a3, .int a4] [(k, .inr (1, [.ref k0, .ref k1, .int c2, .int c3])), (k0, .inl (cI, 5409, .inl c0))] sz) (va_Qi (fun (r : Int32) (u : Unit) => True) (fun u t => kWd D cI (va_A [(k, .inr (1, [.ref k0, .ref k1, .int c2, .int c3])), (k0, .inl (cI, 5409, .inl c0))] sz) [(k, .inr (1, [.ref k0, .ref k1, .int c2, .int c3])), (k0, .inl (cI, 5409, .inl c0))] t) (va_A [(k, .inr (1, [.ref k0, .ref k1, .int c2, .int c3])), (k0, .inl (cI, 5409, .inl c0))] sz)) 0 0 (va_A [(k, .inr (1, [.ref k0, .ref k1, .int c2, .int c3])), (k0, .inl (cI, 5409, .inl c0))] sz) := by
  refine kMetIX (own := RX1) (by decide +kernel) rfl (Nat.le_of_ble_eq_true rfl) ?_
  intro p e s m args below meth c hx hb hT hown hname hml A Q hK hP hD hS hA hN hXS hRet ls hl
  have hl : lv_has ls 7 [(0, .ref k), (1, .int a0), (2, .int a1), (3, .int a2), (4, .int a3), (5, .int a4)] := hl
  have lo_a0 := k_lo a0
  have hi_a0 := k_hi a0
  have lo_a1 := k_lo a1
  have hi_a1 := k_hi a1
  have lo_a2 := k_lo a2
  have hi_a2 := k_hi a2
  have lo_a3 := k_lo a3
  have hi_a3 := k_hi a3
  have lo_a4 := k_lo a4
  have hi_a4 := k_hi a4
  refine lv_iload_n hx hb dX1_isBest_0 rfl (lv_at hl 3 rfl) ?_
  refine lv_iload hx hb dX1_isBest_1 (lv_at hl 4 rfl) ?_
  refine lv_imul hx hb dX1_isBest_3 ?_
  refine lv_topi (fun v_1 ev_1 => ?_)
  have lo_v_1 := k_lo v_1
  have hi_v_1 := k_hi v_1
  refine lv_iload_n hx hb dX1_isBest_4 rfl (lv_at hl 2 rfl) ?_
  refine b_icmp_le hx hb rfl rfl (tgt := 10) dX1_isBest_5 (by decide +kernel) (fun c_2 => ?_) (fun c_2 => ?_)
  · refine lv_iload_n hx hb dX1_isBest_10 rfl (lv_at hl 3 rfl) ?_
    refine lv_sipush (v := 1024) hx hb dX1_isBest_11 (by decide +kernel) ?_
    refine lv_iload hx hb dX1_isBest_14 (lv_at hl 5 rfl) ?_
    refine lv_imul hx hb dX1_isBest_16 ?_
    refine lv_topi (fun v_3 ev_3 => ?_)
    have lo_v_3 := k_lo v_3
    have hi_v_3 := k_hi v_3
    refine lv_iload hx hb dX1_isBest_17 (lv_at hl 4 rfl) ?_
    refine lv_isub hx hb dX1_isBest_19 ?_
    refine lv_topi (fun v_4 ev_4 => ?_)
    have lo_v_4 := k_lo v_4
    have hi_v_4 := k_hi v_4
    refine lv_imul hx hb dX1_isBest_20 ?_
    refine lv_topi (fun v_5 ev_5 => ?_)
    have lo_v_5 := k_lo v_5
    have hi_v_5 := k_hi v_5
    refine lv_aload_n hx hb dX1_isBest_21 rfl (lv_at hl 0 rfl) ?_
    refine lv_iload_n hx hb dX1_isBest_22 rfl (lv_at hl 1 rfl) ?_
    refine lv_iconst (v := 1) hx hb dX1_isBest_23 (by decide +kernel) ?_
    refine lv_iadd hx hb dX1_isBest_24 ?_
    refine lv_topi (fun v_6 ev_6 => ?_)
    have lo_v_6 := k_lo v_6
    have hi_v_6 := k_hi v_6
    refine lv_iload_n hx hb dX1_isBest_25 rfl (lv_at hl 2 rfl) ?_
    refine lv_iload_n hx hb dX1_isBest_26 rfl (lv_at hl 3 rfl) ?_
    refine lv_iload hx hb dX1_isBest_27 (lv_at hl 4 rfl) ?_
    refine lv_imul hx hb dX1_isBest_29 ?_
    refine lv_topi (fun v_7 ev_7 => ?_)
    have lo_v_7 := k_lo v_7
    have hi_v_7 := k_hi v_7
    refine lv_isub hx hb dX1_isBest_30 ?_
    refine lv_topi (fun v_8 ev_8 => ?_)
    have lo_v_8 := k_lo v_8
    have hi_v_8 := k_hi v_8
    refine kJi (wr := []) (va_runV (As := [.int v_6, .int v_8]) (rest := [.int v_5]) ⟨hx, hb, hml, hown, hT⟩ (c_X1_bestFromG l D cI aK aV k k0 k1 s.heap.size c2 c3 c0 v_6 v_8) (cwV 2 hT (gV_in mw_901 mw_898 mw_900 mw_p2_10 mw_8) rfl rfl rfl (by decide +kernel) ⟨Nat.le_of_ble_eq_true rfl, Nat.le_of_ble_eq_true rfl⟩) (kRecvX (q0 := 0) (ci := 1) hK hP hD hN hXS hS hA rfl rfl [0, 1] rfl (by decide +kernel)) rfl rfl hl.1 rfl (lv_room (Nat.le_of_ble_eq_true rfl)) dX1_isBest_31 ⟨Nat.le_of_ble_eq_true rfl, Nat.le_of_ble_eq_true rfl⟩) hP hD hS hA [0, 1] [] rfl rfl (by decide +kernel) (by decide +kernel) ?_
    clear hP hD hS
    intro r_9 u_11 H locs w_10 hP hD hS
    replace hP : va_P D vwCl [(k, .inr (1, [.ref k0, .ref k1, .int c2, .int c3])), (k0, .inl (cI, 5409, .inl c0))] H := hP
    replace hD : va_D A [(k, .inr (1, [.ref k0, .ref k1, .int c2, .int c3])), (k0, .inl (cI, 5409, .inl c0))] := hD
    have lo_r_9 := k_lo r_9
    have hi_r_9 := k_hi r_9
    refine lv_iadd hx hb dX1_isBest_34 ?_
    refine lv_topi (fun v_12 ev_12 => ?_)
    have lo_v_12 := k_lo v_12
    have hi_v_12 := k_hi v_12
    refine lv_istore (lv' := [(6, .int v_12), (0, .ref k), (1, .int a0), (2, .int a1), (3, .int a2), (4, .int a3), (5, .int a4)]) hx hb dX1_isBest_35 hl (by decide +kernel) rfl ?_
    clear hl
    intro ls hl
    refine lv_iload hx hb dX1_isBest_37 (lv_at hl 0 rfl) ?_
    refine lv_aload_n hx hb dX1_isBest_39 rfl (lv_at hl 1 rfl) ?_
    refine lv_iload_n hx hb dX1_isBest_40 rfl (lv_at hl 2 rfl) ?_
    refine lv_iload_n hx hb dX1_isBest_41 rfl (lv_at hl 3 rfl) ?_
    refine kJi (wr := []) (va_runV (As := [.int a0, .int a1]) (rest := [.int v_12]) ⟨hx, hb, hml, hown, hT⟩ (c_X1_bestFromG l D cI aK aV k k0 k1 H.size c2 c3 c0 a0 a1) (cwV 2 hT (gV_in mw_901 mw_898 mw_900 mw_p2_10 mw_8) rfl rfl rfl (by decide +kernel) ⟨Nat.le_of_ble_eq_true rfl, Nat.le_of_ble_eq_true rfl⟩) (kRecvX (q0 := 0) (ci := 1) hK hP hD hN hXS hS hA rfl rfl [0, 1] rfl (by decide +kernel)) rfl rfl hl.1 rfl (lv_room (Nat.le_of_ble_eq_true rfl)) dX1_isBest_42 ⟨Nat.le_of_ble_eq_true rfl, Nat.le_of_ble_eq_true rfl⟩) hP hD hS hA [0, 1] [] rfl rfl (by decide +kernel) (by decide +kernel) ?_
    clear hP hD hS
    intro r_13 u_15 H locs w_14 hP hD hS
    replace hP : va_P D vwCl [(k, .inr (1, [.ref k0, .ref k1, .int c2, .int c3])), (k0, .inl (cI, 5409, .inl c0))] H := hP
    replace hD : va_D A [(k, .inr (1, [.ref k0, .ref k1, .int c2, .int c3])), (k0, .inl (cI, 5409, .inl c0))] := hD
    have lo_r_13 := k_lo r_13
    have hi_r_13 := k_hi r_13
    refine b_icmp_ne hx hb rfl rfl (tgt := 52) dX1_isBest_45 (by decide +kernel) (fun c_16 => ?_) (fun c_16 => ?_)
    · refine lv_iconst (v := 0) hx hb dX1_isBest_52 (by decide +kernel) ?_
      exact hRet () [0, 1] trivial hP hD (by decide +kernel) rfl hS rfl dX1_isBest_53
    · refine lv_iconst (v := 1) hx hb dX1_isBest_48 (by decide +kernel) ?_
      refine lv_goto (tgt := 53) hx hb dX1_isBest_49 (by decide +kernel) ?_
      exact hRet () [0, 1] trivial hP hD (by decide +kernel) rfl hS rfl dX1_isBest_53
  · refine lv_iconst (v := 0) hx hb dX1_isBest_8 (by decide +kernel) ?_
    exact hRet () [0, 1] trivial hP hD (by decide +kernel) rfl hS rfl dX1_isBest_9
theorem bn_cX1_choose_0 : BN cX1_choose 0 0xb0282c1300ad4b42b0b8056c61348202c0a0b05c02b52d0ac0c37329a41016050580c16280282c070b04002b515ba200a8800290a0a00a6c76015b8242c080b0282c060b01c2c2b0d8053e0a0b0286e2600adcc2063481c2c070e8b01237130056e61029a40e160387458081b89802b73481c2c070e8b0f4015182422070b20402a30f01c2c071b8102e015b010561300ad8082b030dc0a16 := by
  unfold BN; decide +kernel
theorem dX1_choose_0 : decode cX1_choose 0 = .ok (.iload 4, 2) := dR1 (f := Instr.iload) (k := 0) (i := 0) bn_cX1_choose_0 dop_21 4 (by decide +kernel)
theorem dX1_choose_2 : decode cX1_choose 2 = .ok (.istore 5, 2) := dR1 (f := Instr.istore) (k := 0) (i := 2) bn_cX1_choose_0 dop_54 5 (by decide +kernel)
theorem dX1_choose_4 : decode cX1_choose 4 = .ok (.aload_n 0, 1) := dR0 (k := 0) (i := 4) bn_cX1_choose_0 dop_42 (by decide +kernel)
theorem dX1_choose_5 : decode cX1_choose 5 = .ok (.iconst 0, 1) := dR0 (k := 0) (i := 5) bn_cX1_choose_0 dop_3 (by decide +kernel)
theorem dX1_choose_6 : decode cX1_choose 6 = .ok (.putfield 18, 3) := dR2 (f := Instr.putfield) (k := 0) (i := 6) bn_cX1_choose_0 dop_181 18 (by decide +kernel)
theorem dX1_choose_9 : decode cX1_choose 9 = .ok (.aload_n 0, 1) := dR0 (k := 0) (i := 9) bn_cX1_choose_0 dop_42 (by decide +kernel)
theorem dX1_choose_10 : decode cX1_choose 10 = .ok (.iconst 0, 1) := dR0 (k := 0) (i := 10) bn_cX1_choose_0 dop_3 (by decide +kernel)
theorem dX1_choose_11 : decode cX1_choose 11 = .ok (.putfield 22, 3) := dR2 (f := Instr.putfield) (k := 0) (i := 11) bn_cX1_choose_0 dop_181 22 (by decide +kernel)
theorem dX1_choose_14 : decode cX1_choose 14 = .ok (.iconst 0, 1) := dR0 (k := 0) (i := 14) bn_cX1_choose_0 dop_3 (by decide +kernel)
theorem dX1_choose_15 : decode cX1_choose 15 = .ok (.istore 6, 2) := dR1 (f := Instr.istore) (k := 0) (i := 15) bn_cX1_choose_0 dop_54 6 (by decide +kernel)
theorem dX1_choose_17 : decode cX1_choose 17 = .ok (.iload 6, 2) := dR1 (f := Instr.iload) (k := 0) (i := 17) bn_cX1_choose_0 dop_21 6 (by decide +kernel)
theorem dX1_choose_19 : decode cX1_choose 19 = .ok (.iload_n 3, 1) := dR0 (k := 0) (i := 19) bn_cX1_choose_0 dop_29 (by decide +kernel)
theorem dX1_choose_20 : decode cX1_choose 20 = .ok (.if_icmp .ge 128, 3) := dR2s (f := Instr.if_icmp .ge) (k := 0) (i := 20) bn_cX1_choose_0 dop_162 128 128 (by decide +kernel)
theorem dX1_choose_23 : decode cX1_choose 23 = .ok (.iload 6, 2) := dR1 (f := Instr.iload) (k := 0) (i := 23) bn_cX1_choose_0 dop_21 6 (by decide +kernel)
theorem dX1_choose_25 : decode cX1_choose 25 = .ok (.bipush 8, 2) := dR1s (f := Instr.bipush) (k := 0) (i := 25) bn_cX1_choose_0 dop_16 8 8 (by decide +kernel)
theorem dX1_choose_27 : decode cX1_choose 27 = .ok (.if_icmp .ge 121, 3) := dR2s (f := Instr.if_icmp .ge) (k := 0) (i := 27) bn_cX1_choose_0 dop_162 121 121 (by decide +kernel)
theorem dX1_choose_30 : decode cX1_choose 30 = .ok (.aload_n 1, 1) := dR0 (k := 0) (i := 30) bn_cX1_choose_0 dop_43 (by decide +kernel)
theorem dX1_choose_31 : decode cX1_choose 31 = .ok (.iload_n 2, 1) := dR0 (k := 0) (i := 31) bn_cX1_choose_0 dop_28 (by decide +kernel)
theorem dX1_choose_32 : decode cX1_choose 32 = .ok (.iconst 3, 1) := dR0 (k := 0) (i := 32) bn_cX1_choose_0 dop_6 (by decide +kernel)
theorem dX1_choose_33 : decode cX1_choose 33 = .ok (.iload 6, 2) := dR1 (f := Instr.iload) (k := 0) (i := 33) bn_cX1_choose_0 dop_21 6 (by decide +kernel)
theorem dX1_choose_35 : decode cX1_choose 35 = .ok (.imul, 1) := dR0 (k := 0) (i := 35) bn_cX1_choose_0 dop_104 (by decide +kernel)
theorem dX1_choose_36 : decode cX1_choose 36 = .ok (.invokevirtual 37, 3) := dR2 (f := Instr.invokevirtual) (k := 0) (i := 36) bn_cX1_choose_0 dop_182 37 (by decide +kernel)
theorem dX1_choose_39 : decode cX1_choose 39 = .ok (.istore 7, 2) := dR1 (f := Instr.istore) (k := 0) (i := 39) bn_cX1_choose_0 dop_54 7 (by decide +kernel)
theorem dX1_choose_41 : decode cX1_choose 41 = .ok (.aload_n 1, 1) := dR0 (k := 0) (i := 41) bn_cX1_choose_0 dop_43 (by decide +kernel)
theorem dX1_choose_42 : decode cX1_choose 42 = .ok (.iload_n 2, 1) := dR0 (k := 0) (i := 42) bn_cX1_choose_0 dop_28 (by decide +kernel)
theorem dX1_choose_43 : decode cX1_choose 43 = .ok (.iconst 3, 1) := dR0 (k := 0) (i := 43) bn_cX1_choose_0 dop_6 (by decide +kernel)
theorem dX1_choose_44 : decode cX1_choose 44 = .ok (.iload 6, 2) := dR1 (f := Instr.iload) (k := 0) (i := 44) bn_cX1_choose_0 dop_21 6 (by decide +kernel)
theorem dX1_choose_46 : decode cX1_choose 46 = .ok (.imul, 1) := dR0 (k := 0) (i := 46) bn_cX1_choose_0 dop_104 (by decide +kernel)
theorem dX1_choose_47 : decode cX1_choose 47 = .ok (.iconst 1, 1) := dR0 (k := 0) (i := 47) bn_cX1_choose_0 dop_4 (by decide +kernel)
theorem dX1_choose_48 : decode cX1_choose 48 = .ok (.iadd, 1) := dR0 (k := 0) (i := 48) bn_cX1_choose_0 dop_96 (by decide +kernel)
theorem dX1_choose_49 : decode cX1_choose 49 = .ok (.invokevirtual 37, 3) := dR2 (f := Instr.invokevirtual) (k := 0) (i := 49) bn_cX1_choose_0 dop_182 37 (by decide +kernel)
theorem dX1_choose_52 : decode cX1_choose 52 = .ok (.istore 8, 2) := dR1 (f := Instr.istore) (k := 0) (i := 52) bn_cX1_choose_0 dop_54 8 (by decide +kernel)
theorem dX1_choose_54 : decode cX1_choose 54 = .ok (.aload_n 1, 1) := dR0 (k := 0) (i := 54) bn_cX1_choose_0 dop_43 (by decide +kernel)
theorem dX1_choose_55 : decode cX1_choose 55 = .ok (.iload_n 2, 1) := dR0 (k := 0) (i := 55) bn_cX1_choose_0 dop_28 (by decide +kernel)
theorem dX1_choose_56 : decode cX1_choose 56 = .ok (.iconst 3, 1) := dR0 (k := 0) (i := 56) bn_cX1_choose_0 dop_6 (by decide +kernel)
theorem dX1_choose_57 : decode cX1_choose 57 = .ok (.iload 6, 2) := dR1 (f := Instr.iload) (k := 0) (i := 57) bn_cX1_choose_0 dop_21 6 (by decide +kernel)
theorem dX1_choose_59 : decode cX1_choose 59 = .ok (.imul, 1) := dR0 (k := 0) (i := 59) bn_cX1_choose_0 dop_104 (by decide +kernel)
theorem dX1_choose_60 : decode cX1_choose 60 = .ok (.iconst 2, 1) := dR0 (k := 0) (i := 60) bn_cX1_choose_0 dop_5 (by decide +kernel)
theorem dX1_choose_61 : decode cX1_choose 61 = .ok (.iadd, 1) := dR0 (k := 0) (i := 61) bn_cX1_choose_0 dop_96 (by decide +kernel)
theorem dX1_choose_62 : decode cX1_choose 62 = .ok (.invokevirtual 37, 3) := dR2 (f := Instr.invokevirtual) (k := 0) (i := 62) bn_cX1_choose_0 dop_182 37 (by decide +kernel)
theorem dX1_choose_65 : decode cX1_choose 65 = .ok (.istore 9, 2) := dR1 (f := Instr.istore) (k := 0) (i := 65) bn_cX1_choose_0 dop_54 9 (by decide +kernel)
theorem dX1_choose_67 : decode cX1_choose 67 = .ok (.iload 9, 2) := dR1 (f := Instr.iload) (k := 0) (i := 67) bn_cX1_choose_0 dop_21 9 (by decide +kernel)
theorem dX1_choose_69 : decode cX1_choose 69 = .ok (.ifCond .le 26, 3) := dR2s (f := Instr.ifCond .le) (k := 0) (i := 69) bn_cX1_choose_0 dop_158 26 26 (by decide +kernel)
theorem dX1_choose_72 : decode cX1_choose 72 = .ok (.aload_n 0, 1) := dR0 (k := 0) (i := 72) bn_cX1_choose_0 dop_42 (by decide +kernel)
theorem dX1_choose_73 : decode cX1_choose 73 = .ok (.iload 6, 2) := dR1 (f := Instr.iload) (k := 0) (i := 73) bn_cX1_choose_0 dop_21 6 (by decide +kernel)
theorem dX1_choose_75 : decode cX1_choose 75 = .ok (.iload 5, 2) := dR1 (f := Instr.iload) (k := 0) (i := 75) bn_cX1_choose_0 dop_21 5 (by decide +kernel)
theorem dX1_choose_77 : decode cX1_choose 77 = .ok (.iload 9, 2) := dR1 (f := Instr.iload) (k := 0) (i := 77) bn_cX1_choose_0 dop_21 9 (by decide +kernel)
theorem dX1_choose_79 : decode cX1_choose 79 = .ok (.iload 7, 2) := dR1 (f := Instr.iload) (k := 0) (i := 79) bn_cX1_choose_0 dop_21 7 (by decide +kernel)
theorem dX1_choose_81 : decode cX1_choose 81 = .ok (.iload 8, 2) := dR1 (f := Instr.iload) (k := 0) (i := 81) bn_cX1_choose_0 dop_21 8 (by decide +kernel)
theorem dX1_choose_83 : decode cX1_choose 83 = .ok (.invokevirtual 58, 3) := dR2 (f := Instr.invokevirtual) (k := 0) (i := 83) bn_cX1_choose_0 dop_182 58 (by decide +kernel)
theorem dX1_choose_86 : decode cX1_choose 86 = .ok (.ifCond .ne 9, 3) := dR2s (f := Instr.ifCond .ne) (k := 0) (i := 86) bn_cX1_choose_0 dop_154 9 9 (by decide +kernel)
theorem dX1_choose_89 : decode cX1_choose 89 = .ok (.iinc 9 (-1), 3) := dRii (f := Instr.iinc) (k := 0) (i := 89) bn_cX1_choose_0 dop_132 9 255 (-1) (by decide +kernel)
theorem dX1_choose_92 : decode cX1_choose 92 = .ok (.goto (-25), 3) := dR2s (f := Instr.goto) (k := 0) (i := 92) bn_cX1_choose_0 dop_167 65511 (-25) (by decide +kernel)
theorem dX1_choose_95 : decode cX1_choose 95 = .ok (.aload_n 0, 1) := dR0 (k := 0) (i := 95) bn_cX1_choose_0 dop_42 (by decide +kernel)
theorem dX1_choose_96 : decode cX1_choose 96 = .ok (.getfield 15, 3) := dR2 (f := Instr.getfield) (k := 0) (i := 96) bn_cX1_choose_0 dop_180 15 (by decide +kernel)
theorem dX1_choose_99 : decode cX1_choose 99 = .ok (.iload 6, 2) := dR1 (f := Instr.iload) (k := 0) (i := 99) bn_cX1_choose_0 dop_21 6 (by decide +kernel)
theorem dX1_choose_101 : decode cX1_choose 101 = .ok (.iload 9, 2) := dR1 (f := Instr.iload) (k := 0) (i := 101) bn_cX1_choose_0 dop_21 9 (by decide +kernel)
theorem dX1_choose_103 : decode cX1_choose 103 = .ok (.iastore, 1) := dR0 (k := 0) (i := 103) bn_cX1_choose_0 dop_79 (by decide +kernel)
theorem dX1_choose_104 : decode cX1_choose 104 = .ok (.iload 5, 2) := dR1 (f := Instr.iload) (k := 0) (i := 104) bn_cX1_choose_0 dop_21 5 (by decide +kernel)
theorem dX1_choose_106 : decode cX1_choose 106 = .ok (.iload 9, 2) := dR1 (f := Instr.iload) (k := 0) (i := 106) bn_cX1_choose_0 dop_21 9 (by decide +kernel)
theorem dX1_choose_108 : decode cX1_choose 108 = .ok (.iload 7, 2) := dR1 (f := Instr.iload) (k := 0) (i := 108) bn_cX1_choose_0 dop_21 7 (by decide +kernel)
theorem dX1_choose_110 : decode cX1_choose 110 = .ok (.imul, 1) := dR0 (k := 0) (i := 110) bn_cX1_choose_0 dop_104 (by decide +kernel)
theorem dX1_choose_111 : decode cX1_choose 111 = .ok (.isub, 1) := dR0 (k := 0) (i := 111) bn_cX1_choose_0 dop_100 (by decide +kernel)
theorem dX1_choose_112 : decode cX1_choose 112 = .ok (.istore 5, 2) := dR1 (f := Instr.istore) (k := 0) (i := 112) bn_cX1_choose_0 dop_54 5 (by decide +kernel)
theorem dX1_choose_114 : decode cX1_choose 114 = .ok (.aload_n 0, 1) := dR0 (k := 0) (i := 114) bn_cX1_choose_0 dop_42 (by decide +kernel)
theorem dX1_choose_115 : decode cX1_choose 115 = .ok (.dup, 1) := dR0 (k := 0) (i := 115) bn_cX1_choose_0 dop_89 (by decide +kernel)
theorem dX1_choose_116 : decode cX1_choose 116 = .ok (.getfield 22, 3) := dR2 (f := Instr.getfield) (k := 0) (i := 116) bn_cX1_choose_0 dop_180 22 (by decide +kernel)
theorem dX1_choose_119 : decode cX1_choose 119 = .ok (.iload 9, 2) := dR1 (f := Instr.iload) (k := 0) (i := 119) bn_cX1_choose_0 dop_21 9 (by decide +kernel)
theorem dX1_choose_121 : decode cX1_choose 121 = .ok (.iload 7, 2) := dR1 (f := Instr.iload) (k := 0) (i := 121) bn_cX1_choose_0 dop_21 7 (by decide +kernel)
theorem dX1_choose_123 : decode cX1_choose 123 = .ok (.imul, 1) := dR0 (k := 0) (i := 123) bn_cX1_choose_0 dop_104 (by decide +kernel)
theorem dX1_choose_124 : decode cX1_choose 124 = .ok (.iadd, 1) := dR0 (k := 0) (i := 124) bn_cX1_choose_0 dop_96 (by decide +kernel)
theorem dX1_choose_125 : decode cX1_choose 125 = .ok (.putfield 22, 3) := dR2 (f := Instr.putfield) (k := 0) (i := 125) bn_cX1_choose_0 dop_181 22 (by decide +kernel)
theorem bn_cX1_choose_128 : BN cX1_choose 128 0xb240c01500203a1426015b184d2090b0282c1300ad4b42b := by
  unfold BN; decide +kernel
theorem dX1_choose_128 : decode cX1_choose 128 = .ok (.aload_n 0, 1) := dR0 (k := 128) (i := 0) bn_cX1_choose_128 dop_42 (by decide +kernel)
theorem dX1_choose_129 : decode cX1_choose 129 = .ok (.dup, 1) := dR0 (k := 128) (i := 1) bn_cX1_choose_128 dop_89 (by decide +kernel)
theorem dX1_choose_130 : decode cX1_choose 130 = .ok (.getfield 18, 3) := dR2 (f := Instr.getfield) (k := 128) (i := 2) bn_cX1_choose_128 dop_180 18 (by decide +kernel)
theorem dX1_choose_133 : decode cX1_choose 133 = .ok (.iload 9, 2) := dR1 (f := Instr.iload) (k := 128) (i := 5) bn_cX1_choose_128 dop_21 9 (by decide +kernel)
theorem dX1_choose_135 : decode cX1_choose 135 = .ok (.iload 8, 2) := dR1 (f := Instr.iload) (k := 128) (i := 7) bn_cX1_choose_128 dop_21 8 (by decide +kernel)
theorem dX1_choose_137 : decode cX1_choose 137 = .ok (.imul, 1) := dR0 (k := 128) (i := 9) bn_cX1_choose_128 dop_104 (by decide +kernel)
theorem dX1_choose_138 : decode cX1_choose 138 = .ok (.iadd, 1) := dR0 (k := 128) (i := 10) bn_cX1_choose_128 dop_96 (by decide +kernel)
theorem dX1_choose_139 : decode cX1_choose 139 = .ok (.putfield 18, 3) := dR2 (f := Instr.putfield) (k := 128) (i := 11) bn_cX1_choose_128 dop_181 18 (by decide +kernel)
theorem dX1_choose_142 : decode cX1_choose 142 = .ok (.iinc 6 1, 3) := dRii (f := Instr.iinc) (k := 128) (i := 14) bn_cX1_choose_128 dop_132 6 1 1 (by decide +kernel)
theorem dX1_choose_145 : decode cX1_choose 145 = .ok (.goto (-128), 3) := dR2s (f := Instr.goto) (k := 128) (i := 17) bn_cX1_choose_128 dop_167 65408 (-128) (by decide +kernel)
theorem dX1_choose_148 : decode cX1_choose 148 = .ok (.return_, 1) := dR0 (k := 128) (i := 20) bn_cX1_choose_128 dop_177 (by decide +kernel)
set_option maxHeartbeats 4000000 in
set_option maxRecDepth 100000 in
theorem c_X1_chooseG (l : Launch) (D : va_G) (cI : ClassId) (aK aV : Nat → Nat) (k o k0 k1 o0 o1 o2 : Nat) (sz : Nat) (c2 : Int32) (c3 : Int32) (c0 : Nat → Int32) (c1 : Nat → Int32) (d1 : Nat → Int32) (d2 : Nat → Int32) (a1 : Int32) (a2 : Int32) (a3 : Int32) (pre0 : ∀ k : Nat, k < 4 → 0 ≤ (d1 k).toInt ∧ (d1 k).toInt ≤ 36) : Met l yX1_choose (gW yX1_choose cX1_choose 10 none) ({ frames := 4, cells := 0, slots := 0, locals := 85 } : Room) (kPreX D cI aK aV [.ref k, .ref o, .int a1, .int a2, .int a3] [(k, .inr (1, [.ref k0, .ref k1, .int c2, .int c3])), (k0, .inl (cI, 5409, .inl c0)), (k1, .inl (cI, 8, .inl c1)), (o, .inr (6, [.ref o0, .ref o1, .ref o2])), (o1, .inl (cI, 4, .inl d1)), (o2, .inl (cI, 144, .inl d2))] sz) (va_Qv (fun (u : Int32 × Int32 × (Nat → Int32)) => True) (fun u t => kWd D cI (va_A [(k, .inr (1, [.ref k0, .ref k1, .int c2, .int c3])), (k0, .inl (cI, 5409, .inl c0)), (k1, .inl (cI, 8, .inl c1)), (o, .inr (6, [.ref o0, .ref o1, .ref o2])), (o1, .inl (cI, 4, .inl d1)), (o2, .inl (cI, 144, .inl d2))] sz) [(k, .inr (1, [.ref k0, .ref k1, .int u.1, .int u.2.1])), (k0, .inl (cI, 5409, .inl c0)), (k1, .inl (cI, 8, .inl u.2.2)), (o, .inr (6, [.ref o0, .ref o1, .ref o2])), (o1, .inl (cI, 4, .inl d1)), (o2, .inl (cI, 144, .inl d2))] t) (va_A [(k, .inr (1, [.ref k0, .ref k1, .int c2, .int c3])), (k0, .inl (cI, 5409, .inl c0)), (k1, .inl (cI, 8, .inl c1)), (o, .inr (6, [.ref o0, .ref o1, .ref o2])), (o1, .inl (cI, 4, .inl d1)), (o2, .inl (cI, 144, .inl d2))] sz)) 0 0 (va_A [(k, .inr (1, [.ref k0, .ref k1, .int c2, .int c3])), (k0, .inl (cI, 5409, .inl c0)), (k1, .inl (cI, 8, .inl c1)), (o, .inr (6, [.ref o0, .ref o1, .ref o2])), (o1, .inl (cI, 4, .inl d1)), (o2, .inl (cI, 144, .inl d2))] sz) := by
  refine kMetVX (own := RX1) (by decide +kernel) rfl (Nat.le_of_ble_eq_true rfl) ?_
  intro p e s m args below meth c hx hb hT hown hname hml A Q hK hP hD hS hA hN hXS hRet ls hl
  have hl : lv_has ls 10 [(0, .ref k), (1, .ref o), (2, .int a1), (3, .int a2), (4, .int a3)] := hl
  have lo_a1 := k_lo a1
  have hi_a1 := k_hi a1
  have lo_a2 := k_lo a2
  have hi_a2 := k_hi a2
  have lo_a3 := k_lo a3
  have hi_a3 := k_hi a3
  refine lv_iload hx hb dX1_choose_0 (lv_at hl 4 rfl) ?_
  refine lv_istore (lv' := [(5, .int a3), (0, .ref k), (1, .ref o), (2, .int a1), (3, .int a2), (4, .int a3)]) hx hb dX1_choose_2 hl (by decide +kernel) rfl ?_
  clear hl
  intro ls hl
  refine lv_aload_n hx hb dX1_choose_4 rfl (lv_at hl 1 rfl) ?_
  refine lv_iconst (v := 0) hx hb dX1_choose_5 (by decide +kernel) ?_
  refine va_put (D := D) (ci := 1) (v := .int 0) (ty := .int) (C := RX1) (T := TX1) (N := 4) hx hb hT giX1 tyX1 tyX1_ok nmX1 hown hK hP hD hS 0 rfl rfl 2 (by decide +kernel) (hT (Cond.fieldLink RX1 18 "DesertWire$Loads" "worth" "I") mw_226) (fun _ h9 => h9) rfl (by decide +kernel) rfl rfl (Nat.le_of_ble_eq_true rfl) dX1_choose_6 ?_
  clear hP hD hS
  intro H locs hP hD hS
  replace hP : va_P D vwCl [(k, .inr (1, [.ref k0, .ref k1, .int 0, .int c3])), (k0, .inl (cI, 5409, .inl c0)), (k1, .inl (cI, 8, .inl c1)), (o, .inr (6, [.ref o0, .ref o1, .ref o2])), (o1, .inl (cI, 4, .inl d1)), (o2, .inl (cI, 144, .inl d2))] H := hP
  replace hD : va_D A [(k, .inr (1, [.ref k0, .ref k1, .int 0, .int c3])), (k0, .inl (cI, 5409, .inl c0)), (k1, .inl (cI, 8, .inl c1)), (o, .inr (6, [.ref o0, .ref o1, .ref o2])), (o1, .inl (cI, 4, .inl d1)), (o2, .inl (cI, 144, .inl d2))] := hD
  refine lv_aload_n hx hb dX1_choose_9 rfl (lv_at hl 1 rfl) ?_
  refine lv_iconst (v := 0) hx hb dX1_choose_10 (by decide +kernel) ?_
  refine va_put (D := D) (ci := 1) (v := .int 0) (ty := .int) (C := RX1) (T := TX1) (N := 4) hx hb hT giX1 tyX1 tyX1_ok nmX1 hown hK hP hD hS 0 rfl rfl 3 (by decide +kernel) (hT (Cond.fieldLink RX1 22 "DesertWire$Loads" "weight" "I") mw_228) (fun _ h9 => h9) rfl (by decide +kernel) rfl rfl (Nat.le_of_ble_eq_true rfl) dX1_choose_11 ?_
  clear hP hD hS
  intro H locs hP hD hS
  replace hP : va_P D vwCl [(k, .inr (1, [.ref k0, .ref k1, .int 0, .int 0])), (k0, .inl (cI, 5409, .inl c0)), (k1, .inl (cI, 8, .inl c1)), (o, .inr (6, [.ref o0, .ref o1, .ref o2])), (o1, .inl (cI, 4, .inl d1)), (o2, .inl (cI, 144, .inl d2))] H := hP
  replace hD : va_D A [(k, .inr (1, [.ref k0, .ref k1, .int 0, .int 0])), (k0, .inl (cI, 5409, .inl c0)), (k1, .inl (cI, 8, .inl c1)), (o, .inr (6, [.ref o0, .ref o1, .ref o2])), (o1, .inl (cI, 4, .inl d1)), (o2, .inl (cI, 144, .inl d2))] := hD
  refine lv_iconst (v := 0) hx hb dX1_choose_14 (by decide +kernel) ?_
  refine lv_istore (lv' := [(6, .int 0), (5, .int a3), (0, .ref k), (1, .ref o), (2, .int a1), (3, .int a2), (4, .int a3)]) hx hb dX1_choose_15 hl (by decide +kernel) rfl ?_
  clear hl
  intro ls hl
  have hloop_17 : ∀ (fu_ : Nat) (l17_5 : Int32) (l17_6 : Int32) (f17_k2 : Int32) (f17_k3 : Int32) (g17_k1 : Nat → Int32), 0 ≤ l17_6.toInt → (a2.toInt - l17_6.toInt).toNat < fu_ → ∀ (ls : Array Slot) (H : Heap) (locs : List Loc), lv_has ls 10 [(6, .int l17_6), (5, .int l17_5), (0, .ref k), (1, .ref o), (2, .int a1), (3, .int a2), (4, .int a3)] → va_P D vwCl [(k, .inr (1, [.ref k0, .ref k1, .int f17_k2, .int f17_k3])), (k0, .inl (cI, 5409, .inl c0)), (k1, .inl (cI, 8, .inl g17_k1)), (o, .inr (6, [.ref o0, .ref o1, .ref o2])), (o1, .inl (cI, 4, .inl d1)), (o2, .inl (cI, 144, .inl d2))] H → va_D A [(k, .inr (1, [.ref k0, .ref k1, .int f17_k2, .int f17_k3])), (k0, .inl (cI, 5409, .inl c0)), (k1, .inl (cI, 8, .inl g17_k1)), (o, .inr (6, [.ref o0, .ref o1, .ref o2])), (o1, .inl (cI, 4, .inl d1)), (o2, .inl (cI, 144, .inl d2))] → va_S A s.heap H locs → W p l e ({ frames := 4, cells := 0, slots := 0, locals := 85 } : Room) s m args below meth c H locs 0 0 Q (F0 m 17 ls []) := by
    intro fu_; induction fu_ with
    | zero => intro l17_5 l17_6 f17_k2 f17_k3 g17_k1 i17_0 hm; exact absurd hm (by omega)
    | succ fu_ ih17 =>
        intro l17_5 l17_6 f17_k2 f17_k3 g17_k1 i17_0 hm ls H locs hl hP hD hS
        have lo_l17_5 := k_lo l17_5
        have hi_l17_5 := k_hi l17_5
        have lo_l17_6 := k_lo l17_6
        have hi_l17_6 := k_hi l17_6
        have lo_f17_k2 := k_lo f17_k2
        have hi_f17_k2 := k_hi f17_k2
        have lo_f17_k3 := k_lo f17_k3
        have hi_f17_k3 := k_hi f17_k3
        refine lv_iload hx hb dX1_choose_17 (lv_at hl 0 rfl) ?_
        refine lv_iload_n hx hb dX1_choose_19 rfl (lv_at hl 5 rfl) ?_
        refine b_icmp_ge hx hb rfl rfl (tgt := 148) dX1_choose_20 (by decide +kernel) (fun c_1 => ?_) (fun c_1 => ?_)
        · exact hRet (f17_k2, f17_k3, g17_k1) [0, 1, 2, 3, 4, 5] trivial hP hD (by decide +kernel) rfl hS dX1_choose_148
        · refine lv_iload hx hb dX1_choose_23 (lv_at hl 0 rfl) ?_
          refine lv_bipush (v := 8) hx hb dX1_choose_25 (by decide +kernel) ?_
          refine b_icmp_ge hx hb rfl zl_8 (tgt := 148) dX1_choose_27 (by decide +kernel) (fun c_2 => ?_) (fun c_2 => ?_)
          · exact hRet (f17_k2, f17_k3, g17_k1) [0, 1, 2, 3, 4, 5] trivial hP hD (by decide +kernel) rfl hS dX1_choose_148
          · refine lv_aload_n hx hb dX1_choose_30 rfl (lv_at hl 3 rfl) ?_
            refine lv_iload_n hx hb dX1_choose_31 rfl (lv_at hl 4 rfl) ?_
            refine lv_iconst (v := 3) hx hb dX1_choose_32 (by decide +kernel) ?_
            refine lv_iload hx hb dX1_choose_33 (lv_at hl 0 rfl) ?_
            refine lv_imul hx hb dX1_choose_35 ?_
            refine lv_topi (fun v_3 ev_3 => ?_)
            have tv_3 : v_3.toInt = 3 * l17_6.toInt := by rw [ev_3]; exact k_mulv zl_3 rfl (by omega) (by omega)
            refine kJi (wr := [(k, .inr (1, [.ref k0, .ref k1, .int f17_k2, .int f17_k3])), (k0, .inl (cI, 5409, .inl c0)), (k1, .inl (cI, 8, .inl g17_k1))]) (va_runV (As := [.int a1, .int v_3]) (rest := []) ⟨hx, hb, hml, hown, hT⟩ (c_X6_numberAtG l D cI aK aV o o0 o1 o2 H.size d1 d2 a1 v_3 (by first | omega | decide | assumption | rfl)) (cwV 2 hT (gV_in mw_684 mw_893 mw_682 mw_683 mw_11) rfl rfl rfl (by decide +kernel) ⟨Nat.le_of_ble_eq_true rfl, Nat.le_of_ble_eq_true rfl⟩) (kRecvX (q0 := 3) (ci := 6) hK hP hD hN hXS hS hA rfl rfl [3, 4, 5] rfl (by decide +kernel)) rfl rfl hl.1 rfl (lv_room (Nat.le_of_ble_eq_true rfl)) dX1_choose_36 ⟨Nat.le_of_ble_eq_true rfl, Nat.le_of_ble_eq_true rfl⟩) hP hD hS hA [3, 4, 5] [0, 1, 2] rfl rfl (by decide +kernel) (by decide +kernel) ?_
            clear hP hD hS
            intro r_4 u_6 H locs w_5 hP hD hS
            replace hP : va_P D vwCl [(k, .inr (1, [.ref k0, .ref k1, .int f17_k2, .int f17_k3])), (k0, .inl (cI, 5409, .inl c0)), (k1, .inl (cI, 8, .inl g17_k1)), (o, .inr (6, [.ref o0, .ref o1, .ref o2])), (o1, .inl (cI, 4, .inl d1)), (o2, .inl (cI, 144, .inl d2))] H := hP
            replace hD : va_D A [(k, .inr (1, [.ref k0, .ref k1, .int f17_k2, .int f17_k3])), (k0, .inl (cI, 5409, .inl c0)), (k1, .inl (cI, 8, .inl g17_k1)), (o, .inr (6, [.ref o0, .ref o1, .ref o2])), (o1, .inl (cI, 4, .inl d1)), (o2, .inl (cI, 144, .inl d2))] := hD
            have h_7 := w_5
            have h_7 : r_4 = kNum d1 d2 a1 v_3 := h_7
            have lo_r_4 := k_lo r_4
            have hi_r_4 := k_hi r_4
            refine lv_istore (lv' := [(7, .int r_4), (6, .int l17_6), (5, .int l17_5), (0, .ref k), (1, .ref o), (2, .int a1), (3, .int a2), (4, .int a3)]) hx hb dX1_choose_39 hl (by decide +kernel) rfl ?_
            clear hl
            intro ls hl
            refine lv_aload_n hx hb dX1_choose_41 rfl (lv_at hl 4 rfl) ?_
            refine lv_iload_n hx hb dX1_choose_42 rfl (lv_at hl 5 rfl) ?_
            refine lv_iconst (v := 3) hx hb dX1_choose_43 (by decide +kernel) ?_
            refine lv_iload hx hb dX1_choose_44 (lv_at hl 1 rfl) ?_
            refine lv_imul hx hb dX1_choose_46 ?_
            refine lv_topi (fun v_8 ev_8 => ?_)
            have tv_8 : v_8.toInt = 3 * l17_6.toInt := by rw [ev_8]; exact k_mulv zl_3 rfl (by omega) (by omega)
            refine lv_iconst (v := 1) hx hb dX1_choose_47 (by decide +kernel) ?_
            refine lv_iadd hx hb dX1_choose_48 ?_
            refine lv_topi (fun v_9 ev_9 => ?_)
            have tv_9 : v_9.toInt = v_8.toInt + 1 := by rw [ev_9]; exact k_addv rfl zl_1 (by omega) (by omega)
            refine kJi (wr := [(k, .inr (1, [.ref k0, .ref k1, .int f17_k2, .int f17_k3])), (k0, .inl (cI, 5409, .inl c0)), (k1, .inl (cI, 8, .inl g17_k1))]) (va_runV (As := [.int a1, .int v_9]) (rest := []) ⟨hx, hb, hml, hown, hT⟩ (c_X6_numberAtG l D cI aK aV o o0 o1 o2 H.size d1 d2 a1 v_9 (by first | omega | decide | assumption | rfl)) (cwV 2 hT (gV_in mw_684 mw_893 mw_682 mw_683 mw_11) rfl rfl rfl (by decide +kernel) ⟨Nat.le_of_ble_eq_true rfl, Nat.le_of_ble_eq_true rfl⟩) (kRecvX (q0 := 3) (ci := 6) hK hP hD hN hXS hS hA rfl rfl [3, 4, 5] rfl (by decide +kernel)) rfl rfl hl.1 rfl (lv_room (Nat.le_of_ble_eq_true rfl)) dX1_choose_49 ⟨Nat.le_of_ble_eq_true rfl, Nat.le_of_ble_eq_true rfl⟩) hP hD hS hA [3, 4, 5] [0, 1, 2] rfl rfl (by decide +kernel) (by decide +kernel) ?_
            clear hP hD hS
            intro r_10 u_12 H locs w_11 hP hD hS
            replace hP : va_P D vwCl [(k, .inr (1, [.ref k0, .ref k1, .int f17_k2, .int f17_k3])), (k0, .inl (cI, 5409, .inl c0)), (k1, .inl (cI, 8, .inl g17_k1)), (o, .inr (6, [.ref o0, .ref o1, .ref o2])), (o1, .inl (cI, 4, .inl d1)), (o2, .inl (cI, 144, .inl d2))] H := hP
            replace hD : va_D A [(k, .inr (1, [.ref k0, .ref k1, .int f17_k2, .int f17_k3])), (k0, .inl (cI, 5409, .inl c0)), (k1, .inl (cI, 8, .inl g17_k1)), (o, .inr (6, [.ref o0, .ref o1, .ref o2])), (o1, .inl (cI, 4, .inl d1)), (o2, .inl (cI, 144, .inl d2))] := hD
            have h_13 := w_11
            have h_13 : r_10 = kNum d1 d2 a1 v_9 := h_13
            have lo_r_10 := k_lo r_10
            have hi_r_10 := k_hi r_10
            refine lv_istore (lv' := [(8, .int r_10), (7, .int r_4), (6, .int l17_6), (5, .int l17_5), (0, .ref k), (1, .ref o), (2, .int a1), (3, .int a2), (4, .int a3)]) hx hb dX1_choose_52 hl (by decide +kernel) rfl ?_
            clear hl
            intro ls hl
            refine lv_aload_n hx hb dX1_choose_54 rfl (lv_at hl 5 rfl) ?_
            refine lv_iload_n hx hb dX1_choose_55 rfl (lv_at hl 6 rfl) ?_
            refine lv_iconst (v := 3) hx hb dX1_choose_56 (by decide +kernel) ?_
            refine lv_iload hx hb dX1_choose_57 (lv_at hl 2 rfl) ?_
            refine lv_imul hx hb dX1_choose_59 ?_
            refine lv_topi (fun v_14 ev_14 => ?_)
            have tv_14 : v_14.toInt = 3 * l17_6.toInt := by rw [ev_14]; exact k_mulv zl_3 rfl (by omega) (by omega)
            refine lv_iconst (v := 2) hx hb dX1_choose_60 (by decide +kernel) ?_
            refine lv_iadd hx hb dX1_choose_61 ?_
            refine lv_topi (fun v_15 ev_15 => ?_)
            have tv_15 : v_15.toInt = v_14.toInt + 2 := by rw [ev_15]; exact k_addv rfl zl_2 (by omega) (by omega)
            refine kJi (wr := [(k, .inr (1, [.ref k0, .ref k1, .int f17_k2, .int f17_k3])), (k0, .inl (cI, 5409, .inl c0)), (k1, .inl (cI, 8, .inl g17_k1))]) (va_runV (As := [.int a1, .int v_15]) (rest := []) ⟨hx, hb, hml, hown, hT⟩ (c_X6_numberAtG l D cI aK aV o o0 o1 o2 H.size d1 d2 a1 v_15 (by first | omega | decide | assumption | rfl)) (cwV 2 hT (gV_in mw_684 mw_893 mw_682 mw_683 mw_11) rfl rfl rfl (by decide +kernel) ⟨Nat.le_of_ble_eq_true rfl, Nat.le_of_ble_eq_true rfl⟩) (kRecvX (q0 := 3) (ci := 6) hK hP hD hN hXS hS hA rfl rfl [3, 4, 5] rfl (by decide +kernel)) rfl rfl hl.1 rfl (lv_room (Nat.le_of_ble_eq_true rfl)) dX1_choose_62 ⟨Nat.le_of_ble_eq_true rfl, Nat.le_of_ble_eq_true rfl⟩) hP hD hS hA [3, 4, 5] [0, 1, 2] rfl rfl (by decide +kernel) (by decide +kernel) ?_
            clear hP hD hS
            intro r_16 u_18 H locs w_17 hP hD hS
            replace hP : va_P D vwCl [(k, .inr (1, [.ref k0, .ref k1, .int f17_k2, .int f17_k3])), (k0, .inl (cI, 5409, .inl c0)), (k1, .inl (cI, 8, .inl g17_k1)), (o, .inr (6, [.ref o0, .ref o1, .ref o2])), (o1, .inl (cI, 4, .inl d1)), (o2, .inl (cI, 144, .inl d2))] H := hP
            replace hD : va_D A [(k, .inr (1, [.ref k0, .ref k1, .int f17_k2, .int f17_k3])), (k0, .inl (cI, 5409, .inl c0)), (k1, .inl (cI, 8, .inl g17_k1)), (o, .inr (6, [.ref o0, .ref o1, .ref o2])), (o1, .inl (cI, 4, .inl d1)), (o2, .inl (cI, 144, .inl d2))] := hD
            have h_19 := w_17
            have h_19 : r_16 = kNum d1 d2 a1 v_15 := h_19
            have lo_r_16 := k_lo r_16
            have hi_r_16 := k_hi r_16
            refine lv_istore (lv' := [(9, .int r_16), (8, .int r_10), (7, .int r_4), (6, .int l17_6), (5, .int l17_5), (0, .ref k), (1, .ref o), (2, .int a1), (3, .int a2), (4, .int a3)]) hx hb dX1_choose_65 hl (by decide +kernel) rfl ?_
            clear hl
            intro ls hl
            have hloop_67 : ∀ (fu_ : Nat) (l67_9 : Int32), l67_9.toInt ≤ r_16.toInt → (l67_9.toInt - 0).toNat < fu_ → ∀ (ls : Array Slot) (H : Heap) (locs : List Loc), lv_has ls 10 [(9, .int l67_9), (8, .int r_10), (7, .int r_4), (6, .int l17_6), (5, .int l17_5), (0, .ref k), (1, .ref o), (2, .int a1), (3, .int a2), (4, .int a3)] → va_P D vwCl [(k, .inr (1, [.ref k0, .ref k1, .int f17_k2, .int f17_k3])), (k0, .inl (cI, 5409, .inl c0)), (k1, .inl (cI, 8, .inl g17_k1)), (o, .inr (6, [.ref o0, .ref o1, .ref o2])), (o1, .inl (cI, 4, .inl d1)), (o2, .inl (cI, 144, .inl d2))] H → va_D A [(k, .inr (1, [.ref k0, .ref k1, .int f17_k2, .int f17_k3])), (k0, .inl (cI, 5409, .inl c0)), (k1, .inl (cI, 8, .inl g17_k1)), (o, .inr (6, [.ref o0, .ref o1, .ref o2])), (o1, .inl (cI, 4, .inl d1)), (o2, .inl (cI, 144, .inl d2))] → va_S A s.heap H locs → W p l e ({ frames := 4, cells := 0, slots := 0, locals := 85 } : Room) s m args below meth c H locs 0 0 Q (F0 m 67 ls []) := by
              intro fu_; induction fu_ with
              | zero => intro l67_9 i67_0 hm; exact absurd hm (by omega)
              | succ fu_ ih67 =>
                  intro l67_9 i67_0 hm ls H locs hl hP hD hS
                  have lo_l67_9 := k_lo l67_9
                  have hi_l67_9 := k_hi l67_9
                  refine lv_iload hx hb dX1_choose_67 (lv_at hl 0 rfl) ?_
                  refine b_if_le hx hb rfl (tgt := 95) dX1_choose_69 (by decide +kernel) (fun c_20 => ?_) (fun c_20 => ?_)
                  · refine lv_aload_n hx hb dX1_choose_95 rfl (lv_at hl 5 rfl) ?_
                    refine va_get (D := D) (ci := 1) (v := .ref k1) (C := RX1) (T := TX1) (N := 4) hx hb hT giX1 hown hK hP 0 rfl rfl 1 (by decide +kernel) (hT (Cond.fieldLink RX1 15 "DesertWire$Loads" "taken" "[I") mw_225) (fun _ h9 => h9) rfl dX1_choose_96 ?_
                    refine lv_iload hx hb dX1_choose_99 (lv_at hl 3 rfl) ?_
                    refine lv_iload hx hb dX1_choose_101 (lv_at hl 0 rfl) ?_
                    refine va_iast hx hb hK hP hD hS 2 0 rfl rfl (k_in (by omega) (by omega)) dX1_choose_103 ?_
                    clear hP hD hS
                    intro H locs hP hD hS
                    replace hP : va_P D vwCl [(k, .inr (1, [.ref k0, .ref k1, .int f17_k2, .int f17_k3])), (k0, .inl (cI, 5409, .inl c0)), (k1, .inl (cI, 8, .inl (upd g17_k1 l17_6.toNatClampNeg l67_9))), (o, .inr (6, [.ref o0, .ref o1, .ref o2])), (o1, .inl (cI, 4, .inl d1)), (o2, .inl (cI, 144, .inl d2))] H := hP
                    replace hD : va_D A [(k, .inr (1, [.ref k0, .ref k1, .int f17_k2, .int f17_k3])), (k0, .inl (cI, 5409, .inl c0)), (k1, .inl (cI, 8, .inl (upd g17_k1 l17_6.toNatClampNeg l67_9))), (o, .inr (6, [.ref o0, .ref o1, .ref o2])), (o1, .inl (cI, 4, .inl d1)), (o2, .inl (cI, 144, .inl d2))] := hD
                    obtain ⟨f_21, ef_21⟩ : ∃ g : Nat → Int32, g = upd g17_k1 l17_6.toNatClampNeg l67_9 := ⟨_, rfl⟩
                    rw [← ef_21] at hP hD
                    refine lv_iload hx hb dX1_choose_104 (lv_at hl 4 rfl) ?_
                    refine lv_iload hx hb dX1_choose_106 (lv_at hl 0 rfl) ?_
                    refine lv_iload hx hb dX1_choose_108 (lv_at hl 2 rfl) ?_
                    refine lv_imul hx hb dX1_choose_110 ?_
                    refine lv_topi (fun v_22 ev_22 => ?_)
                    have lo_v_22 := k_lo v_22
                    have hi_v_22 := k_hi v_22
                    refine lv_isub hx hb dX1_choose_111 ?_
                    refine lv_topi (fun v_23 ev_23 => ?_)
                    have lo_v_23 := k_lo v_23
                    have hi_v_23 := k_hi v_23
                    refine lv_istore (lv' := [(5, .int v_23), (9, .int l67_9), (8, .int r_10), (7, .int r_4), (6, .int l17_6), (0, .ref k), (1, .ref o), (2, .int a1), (3, .int a2), (4, .int a3)]) hx hb dX1_choose_112 hl (by decide +kernel) rfl ?_
                    clear hl
                    intro ls hl
                    refine lv_aload_n hx hb dX1_choose_114 rfl (lv_at hl 5 rfl) ?_
                    refine lv_dup hx hb dX1_choose_115 rfl ?_
                    refine va_get (D := D) (ci := 1) (v := .int f17_k3) (C := RX1) (T := TX1) (N := 4) hx hb hT giX1 hown hK hP 0 rfl rfl 3 (by decide +kernel) (hT (Cond.fieldLink RX1 22 "DesertWire$Loads" "weight" "I") mw_228) (fun _ h9 => h9) rfl dX1_choose_116 ?_
                    refine lv_iload hx hb dX1_choose_119 (lv_at hl 1 rfl) ?_
                    refine lv_iload hx hb dX1_choose_121 (lv_at hl 3 rfl) ?_
                    refine lv_imul hx hb dX1_choose_123 ?_
                    refine lv_topi (fun v_24 ev_24 => ?_)
                    have lo_v_24 := k_lo v_24
                    have hi_v_24 := k_hi v_24
                    refine lv_iadd hx hb dX1_choose_124 ?_
                    refine lv_topi (fun v_25 ev_25 => ?_)
                    have lo_v_25 := k_lo v_25
                    have hi_v_25 := k_hi v_25
                    refine va_put (D := D) (ci := 1) (v := .int v_25) (ty := .int) (C := RX1) (T := TX1) (N := 4) hx hb hT giX1 tyX1 tyX1_ok nmX1 hown hK hP hD hS 0 rfl rfl 3 (by decide +kernel) (hT (Cond.fieldLink RX1 22 "DesertWire$Loads" "weight" "I") mw_228) (fun _ h9 => h9) rfl (by decide +kernel) rfl rfl (Nat.le_of_ble_eq_true rfl) dX1_choose_125 ?_
                    clear hP hD hS
                    intro H locs hP hD hS
                    replace hP : va_P D vwCl [(k, .inr (1, [.ref k0, .ref k1, .int f17_k2, .int v_25])), (k0, .inl (cI, 5409, .inl c0)), (k1, .inl (cI, 8, .inl f_21)), (o, .inr (6, [.ref o0, .ref o1, .ref o2])), (o1, .inl (cI, 4, .inl d1)), (o2, .inl (cI, 144, .inl d2))] H := hP
                    replace hD : va_D A [(k, .inr (1, [.ref k0, .ref k1, .int f17_k2, .int v_25])), (k0, .inl (cI, 5409, .inl c0)), (k1, .inl (cI, 8, .inl f_21)), (o, .inr (6, [.ref o0, .ref o1, .ref o2])), (o1, .inl (cI, 4, .inl d1)), (o2, .inl (cI, 144, .inl d2))] := hD
                    refine lv_aload_n hx hb dX1_choose_128 rfl (lv_at hl 5 rfl) ?_
                    refine lv_dup hx hb dX1_choose_129 rfl ?_
                    refine va_get (D := D) (ci := 1) (v := .int f17_k2) (C := RX1) (T := TX1) (N := 4) hx hb hT giX1 hown hK hP 0 rfl rfl 2 (by decide +kernel) (hT (Cond.fieldLink RX1 18 "DesertWire$Loads" "worth" "I") mw_226) (fun _ h9 => h9) rfl dX1_choose_130 ?_
                    refine lv_iload hx hb dX1_choose_133 (lv_at hl 1 rfl) ?_
                    refine lv_iload hx hb dX1_choose_135 (lv_at hl 2 rfl) ?_
                    refine lv_imul hx hb dX1_choose_137 ?_
                    refine lv_topi (fun v_26 ev_26 => ?_)
                    have lo_v_26 := k_lo v_26
                    have hi_v_26 := k_hi v_26
                    refine lv_iadd hx hb dX1_choose_138 ?_
                    refine lv_topi (fun v_27 ev_27 => ?_)
                    have lo_v_27 := k_lo v_27
                    have hi_v_27 := k_hi v_27
                    refine va_put (D := D) (ci := 1) (v := .int v_27) (ty := .int) (C := RX1) (T := TX1) (N := 4) hx hb hT giX1 tyX1 tyX1_ok nmX1 hown hK hP hD hS 0 rfl rfl 2 (by decide +kernel) (hT (Cond.fieldLink RX1 18 "DesertWire$Loads" "worth" "I") mw_226) (fun _ h9 => h9) rfl (by decide +kernel) rfl rfl (Nat.le_of_ble_eq_true rfl) dX1_choose_139 ?_
                    clear hP hD hS
                    intro H locs hP hD hS
                    replace hP : va_P D vwCl [(k, .inr (1, [.ref k0, .ref k1, .int v_27, .int v_25])), (k0, .inl (cI, 5409, .inl c0)), (k1, .inl (cI, 8, .inl f_21)), (o, .inr (6, [.ref o0, .ref o1, .ref o2])), (o1, .inl (cI, 4, .inl d1)), (o2, .inl (cI, 144, .inl d2))] H := hP
                    replace hD : va_D A [(k, .inr (1, [.ref k0, .ref k1, .int v_27, .int v_25])), (k0, .inl (cI, 5409, .inl c0)), (k1, .inl (cI, 8, .inl f_21)), (o, .inr (6, [.ref o0, .ref o1, .ref o2])), (o1, .inl (cI, 4, .inl d1)), (o2, .inl (cI, 144, .inl d2))] := hD
                    obtain ⟨v_28, ev_28⟩ : ∃ y : Int32, y = l17_6 + 1 := ⟨_, rfl⟩
                    have tv_28 : v_28.toInt = l17_6.toInt + 1 := by rw [ev_28]; exact k_addv rfl zl_1 (by omega) (by omega)
                    refine lv_iinc (v := v_28) (lv' := [(6, .int v_28), (5, .int v_23), (9, .int l67_9), (8, .int r_10), (7, .int r_4), (0, .ref k), (1, .ref o), (2, .int a1), (3, .int a2), (4, .int a3)]) hx hb dX1_choose_142 hl (k := 4) rfl (by rw [ev_28]; rfl) (by decide +kernel) rfl ?_
                    clear hl
                    intro ls hl
                    refine lv_goto (tgt := 17) hx hb dX1_choose_145 (by decide +kernel) ?_
                    exact ih17 v_23 v_28 v_27 v_25 f_21 (by first | omega | decide | assumption | rfl) (by omega) ls _ _ (lv_sub hl [0, 1, 5, 6, 7, 8, 9] rfl) (hP.sub [0, 1, 2, 3, 4, 5] rfl) (hD.sub [0, 1, 2, 3, 4, 5] (by decide +kernel) rfl) hS
                  · refine lv_aload_n hx hb dX1_choose_72 rfl (lv_at hl 5 rfl) ?_
                    refine lv_iload hx hb dX1_choose_73 (lv_at hl 3 rfl) ?_
                    refine lv_iload hx hb dX1_choose_75 (lv_at hl 4 rfl) ?_
                    refine lv_iload hx hb dX1_choose_77 (lv_at hl 0 rfl) ?_
                    refine lv_iload hx hb dX1_choose_79 (lv_at hl 2 rfl) ?_
                    refine lv_iload hx hb dX1_choose_81 (lv_at hl 1 rfl) ?_
                    refine kJi (wr := [(k1, .inl (cI, 8, .inl g17_k1)), (o, .inr (6, [.ref o0, .ref o1, .ref o2])), (o1, .inl (cI, 4, .inl d1)), (o2, .inl (cI, 144, .inl d2))]) (va_runV (As := [.int l17_6, .int l17_5, .int l67_9, .int r_4, .int r_10]) (rest := []) ⟨hx, hb, hml, hown, hT⟩ (c_X1_isBestG l D cI aK aV k k0 k1 H.size f17_k2 f17_k3 c0 l17_6 l17_5 l67_9 r_4 r_10) (cwV 5 hT (gV_in mw_911 mw_908 mw_910 mw_p2_12 mw_8) rfl rfl rfl (by decide +kernel) ⟨Nat.le_of_ble_eq_true rfl, Nat.le_of_ble_eq_true rfl⟩) (kRecvX (q0 := 0) (ci := 1) hK hP hD hN hXS hS hA rfl rfl [0, 1] rfl (by decide +kernel)) rfl rfl hl.1 rfl (lv_room (Nat.le_of_ble_eq_true rfl)) dX1_choose_83 ⟨Nat.le_of_ble_eq_true rfl, Nat.le_of_ble_eq_true rfl⟩) hP hD hS hA [0, 1] [2, 3, 4, 5] rfl rfl (by decide +kernel) (by decide +kernel) ?_
                    clear hP hD hS
                    intro r_29 u_31 H locs w_30 hP hD hS
                    replace hP : va_P D vwCl [(k1, .inl (cI, 8, .inl g17_k1)), (o, .inr (6, [.ref o0, .ref o1, .ref o2])), (o1, .inl (cI, 4, .inl d1)), (o2, .inl (cI, 144, .inl d2)), (k, .inr (1, [.ref k0, .ref k1, .int f17_k2, .int f17_k3])), (k0, .inl (cI, 5409, .inl c0))] H := hP
                    replace hD : va_D A [(k1, .inl (cI, 8, .inl g17_k1)), (o, .inr (6, [.ref o0, .ref o1, .ref o2])), (o1, .inl (cI, 4, .inl d1)), (o2, .inl (cI, 144, .inl d2)), (k, .inr (1, [.ref k0, .ref k1, .int f17_k2, .int f17_k3])), (k0, .inl (cI, 5409, .inl c0))] := hD
                    have lo_r_29 := k_lo r_29
                    have hi_r_29 := k_hi r_29
                    refine b_if_ne hx hb rfl (tgt := 95) dX1_choose_86 (by decide +kernel) (fun c_32 => ?_) (fun c_32 => ?_)
                    · refine lv_aload_n hx hb dX1_choose_95 rfl (lv_at hl 5 rfl) ?_
                      refine va_get (D := D) (ci := 1) (v := .ref k1) (C := RX1) (T := TX1) (N := 4) hx hb hT giX1 hown hK hP 4 rfl rfl 1 (by decide +kernel) (hT (Cond.fieldLink RX1 15 "DesertWire$Loads" "taken" "[I") mw_225) (fun _ h9 => h9) rfl dX1_choose_96 ?_
                      refine lv_iload hx hb dX1_choose_99 (lv_at hl 3 rfl) ?_
                      refine lv_iload hx hb dX1_choose_101 (lv_at hl 0 rfl) ?_
                      refine va_iast hx hb hK hP hD hS 0 0 rfl rfl (k_in (by omega) (by omega)) dX1_choose_103 ?_
                      clear hP hD hS
                      intro H locs hP hD hS
                      replace hP : va_P D vwCl [(k1, .inl (cI, 8, .inl (upd g17_k1 l17_6.toNatClampNeg l67_9))), (o, .inr (6, [.ref o0, .ref o1, .ref o2])), (o1, .inl (cI, 4, .inl d1)), (o2, .inl (cI, 144, .inl d2)), (k, .inr (1, [.ref k0, .ref k1, .int f17_k2, .int f17_k3])), (k0, .inl (cI, 5409, .inl c0))] H := hP
                      replace hD : va_D A [(k1, .inl (cI, 8, .inl (upd g17_k1 l17_6.toNatClampNeg l67_9))), (o, .inr (6, [.ref o0, .ref o1, .ref o2])), (o1, .inl (cI, 4, .inl d1)), (o2, .inl (cI, 144, .inl d2)), (k, .inr (1, [.ref k0, .ref k1, .int f17_k2, .int f17_k3])), (k0, .inl (cI, 5409, .inl c0))] := hD
                      obtain ⟨f_33, ef_33⟩ : ∃ g : Nat → Int32, g = upd g17_k1 l17_6.toNatClampNeg l67_9 := ⟨_, rfl⟩
                      rw [← ef_33] at hP hD
                      refine lv_iload hx hb dX1_choose_104 (lv_at hl 4 rfl) ?_
                      refine lv_iload hx hb dX1_choose_106 (lv_at hl 0 rfl) ?_
                      refine lv_iload hx hb dX1_choose_108 (lv_at hl 2 rfl) ?_
                      refine lv_imul hx hb dX1_choose_110 ?_
                      refine lv_topi (fun v_34 ev_34 => ?_)
                      have lo_v_34 := k_lo v_34
                      have hi_v_34 := k_hi v_34
                      refine lv_isub hx hb dX1_choose_111 ?_
                      refine lv_topi (fun v_35 ev_35 => ?_)
                      have lo_v_35 := k_lo v_35
                      have hi_v_35 := k_hi v_35
                      refine lv_istore (lv' := [(5, .int v_35), (9, .int l67_9), (8, .int r_10), (7, .int r_4), (6, .int l17_6), (0, .ref k), (1, .ref o), (2, .int a1), (3, .int a2), (4, .int a3)]) hx hb dX1_choose_112 hl (by decide +kernel) rfl ?_
                      clear hl
                      intro ls hl
                      refine lv_aload_n hx hb dX1_choose_114 rfl (lv_at hl 5 rfl) ?_
                      refine lv_dup hx hb dX1_choose_115 rfl ?_
                      refine va_get (D := D) (ci := 1) (v := .int f17_k3) (C := RX1) (T := TX1) (N := 4) hx hb hT giX1 hown hK hP 4 rfl rfl 3 (by decide +kernel) (hT (Cond.fieldLink RX1 22 "DesertWire$Loads" "weight" "I") mw_228) (fun _ h9 => h9) rfl dX1_choose_116 ?_
                      refine lv_iload hx hb dX1_choose_119 (lv_at hl 1 rfl) ?_
                      refine lv_iload hx hb dX1_choose_121 (lv_at hl 3 rfl) ?_
                      refine lv_imul hx hb dX1_choose_123 ?_
                      refine lv_topi (fun v_36 ev_36 => ?_)
                      have lo_v_36 := k_lo v_36
                      have hi_v_36 := k_hi v_36
                      refine lv_iadd hx hb dX1_choose_124 ?_
                      refine lv_topi (fun v_37 ev_37 => ?_)
                      have lo_v_37 := k_lo v_37
                      have hi_v_37 := k_hi v_37
                      refine va_put (D := D) (ci := 1) (v := .int v_37) (ty := .int) (C := RX1) (T := TX1) (N := 4) hx hb hT giX1 tyX1 tyX1_ok nmX1 hown hK hP hD hS 4 rfl rfl 3 (by decide +kernel) (hT (Cond.fieldLink RX1 22 "DesertWire$Loads" "weight" "I") mw_228) (fun _ h9 => h9) rfl (by decide +kernel) rfl rfl (Nat.le_of_ble_eq_true rfl) dX1_choose_125 ?_
                      clear hP hD hS
                      intro H locs hP hD hS
                      replace hP : va_P D vwCl [(k1, .inl (cI, 8, .inl f_33)), (o, .inr (6, [.ref o0, .ref o1, .ref o2])), (o1, .inl (cI, 4, .inl d1)), (o2, .inl (cI, 144, .inl d2)), (k, .inr (1, [.ref k0, .ref k1, .int f17_k2, .int v_37])), (k0, .inl (cI, 5409, .inl c0))] H := hP
                      replace hD : va_D A [(k1, .inl (cI, 8, .inl f_33)), (o, .inr (6, [.ref o0, .ref o1, .ref o2])), (o1, .inl (cI, 4, .inl d1)), (o2, .inl (cI, 144, .inl d2)), (k, .inr (1, [.ref k0, .ref k1, .int f17_k2, .int v_37])), (k0, .inl (cI, 5409, .inl c0))] := hD
                      refine lv_aload_n hx hb dX1_choose_128 rfl (lv_at hl 5 rfl) ?_
                      refine lv_dup hx hb dX1_choose_129 rfl ?_
                      refine va_get (D := D) (ci := 1) (v := .int f17_k2) (C := RX1) (T := TX1) (N := 4) hx hb hT giX1 hown hK hP 4 rfl rfl 2 (by decide +kernel) (hT (Cond.fieldLink RX1 18 "DesertWire$Loads" "worth" "I") mw_226) (fun _ h9 => h9) rfl dX1_choose_130 ?_
                      refine lv_iload hx hb dX1_choose_133 (lv_at hl 1 rfl) ?_
                      refine lv_iload hx hb dX1_choose_135 (lv_at hl 2 rfl) ?_
                      refine lv_imul hx hb dX1_choose_137 ?_
                      refine lv_topi (fun v_38 ev_38 => ?_)
                      have lo_v_38 := k_lo v_38
                      have hi_v_38 := k_hi v_38
                      refine lv_iadd hx hb dX1_choose_138 ?_
                      refine lv_topi (fun v_39 ev_39 => ?_)
                      have lo_v_39 := k_lo v_39
                      have hi_v_39 := k_hi v_39
                      refine va_put (D := D) (ci := 1) (v := .int v_39) (ty := .int) (C := RX1) (T := TX1) (N := 4) hx hb hT giX1 tyX1 tyX1_ok nmX1 hown hK hP hD hS 4 rfl rfl 2 (by decide +kernel) (hT (Cond.fieldLink RX1 18 "DesertWire$Loads" "worth" "I") mw_226) (fun _ h9 => h9) rfl (by decide +kernel) rfl rfl (Nat.le_of_ble_eq_true rfl) dX1_choose_139 ?_
                      clear hP hD hS
                      intro H locs hP hD hS
                      replace hP : va_P D vwCl [(k1, .inl (cI, 8, .inl f_33)), (o, .inr (6, [.ref o0, .ref o1, .ref o2])), (o1, .inl (cI, 4, .inl d1)), (o2, .inl (cI, 144, .inl d2)), (k, .inr (1, [.ref k0, .ref k1, .int v_39, .int v_37])), (k0, .inl (cI, 5409, .inl c0))] H := hP
                      replace hD : va_D A [(k1, .inl (cI, 8, .inl f_33)), (o, .inr (6, [.ref o0, .ref o1, .ref o2])), (o1, .inl (cI, 4, .inl d1)), (o2, .inl (cI, 144, .inl d2)), (k, .inr (1, [.ref k0, .ref k1, .int v_39, .int v_37])), (k0, .inl (cI, 5409, .inl c0))] := hD
                      obtain ⟨v_40, ev_40⟩ : ∃ y : Int32, y = l17_6 + 1 := ⟨_, rfl⟩
                      have tv_40 : v_40.toInt = l17_6.toInt + 1 := by rw [ev_40]; exact k_addv rfl zl_1 (by omega) (by omega)
                      refine lv_iinc (v := v_40) (lv' := [(6, .int v_40), (5, .int v_35), (9, .int l67_9), (8, .int r_10), (7, .int r_4), (0, .ref k), (1, .ref o), (2, .int a1), (3, .int a2), (4, .int a3)]) hx hb dX1_choose_142 hl (k := 4) rfl (by rw [ev_40]; rfl) (by decide +kernel) rfl ?_
                      clear hl
                      intro ls hl
                      refine lv_goto (tgt := 17) hx hb dX1_choose_145 (by decide +kernel) ?_
                      exact ih17 v_35 v_40 v_39 v_37 f_33 (by first | omega | decide | assumption | rfl) (by omega) ls _ _ (lv_sub hl [0, 1, 5, 6, 7, 8, 9] rfl) (hP.sub [4, 5, 0, 1, 2, 3] rfl) (hD.sub [4, 5, 0, 1, 2, 3] (by decide +kernel) rfl) hS
                    · obtain ⟨v_41, ev_41⟩ : ∃ y : Int32, y = l67_9 + (-1) := ⟨_, rfl⟩
                      have tv_41 : v_41.toInt = l67_9.toInt + (-1) := by rw [ev_41]; exact k_addv rfl zl_m1 (by omega) (by omega)
                      refine lv_iinc (v := v_41) (lv' := [(9, .int v_41), (8, .int r_10), (7, .int r_4), (6, .int l17_6), (5, .int l17_5), (0, .ref k), (1, .ref o), (2, .int a1), (3, .int a2), (4, .int a3)]) hx hb dX1_choose_89 hl (k := 0) rfl (by rw [ev_41]; rfl) (by decide +kernel) rfl ?_
                      clear hl
                      intro ls hl
                      refine lv_goto (tgt := 67) hx hb dX1_choose_92 (by decide +kernel) ?_
                      exact ih67 v_41 (by first | omega | decide | assumption | rfl) (by omega) ls _ _ (lv_sub hl [0, 1, 2, 3, 4, 5, 6, 7, 8, 9] rfl) (hP.sub [4, 5, 0, 1, 2, 3] rfl) (hD.sub [4, 5, 0, 1, 2, 3] (by decide +kernel) rfl) hS
            exact hloop_67 _ r_16 (by first | omega | decide | assumption | rfl) (Nat.lt_succ_self _) ls _ _ (lv_sub hl [0, 1, 2, 3, 4, 5, 6, 7, 8, 9] rfl) hP hD hS
  exact hloop_17 _ a3 0 0 0 c1 (by first | omega | (simp only [zl_0]; first | done | omega) | decide | assumption | rfl) (Nat.lt_succ_self _) ls _ _ (lv_sub hl [0, 1, 2, 3, 4, 5, 6] rfl) hP hD hS
theorem bn_cX1_pack_0 : BN cX1_pack 0 0xb0282c060b0acc20a0b1a4b403090182c0a00ad4562600a8cb403090282c2e00a903c0a0b0286e04048dc4c015b9840c69030580e1d160206e2600adcc205348182c070e8b00e37130056e69030580e1d16188029c030580c37328140a1670c01500203214a004308182c692d00c24050b02802b51586402a32d00c24060b08402a40f0182c061b8100a3710005726d0386802b70e8b01211 := by
  unfold BN; decide +kernel
theorem dX1_pack_0 : decode cX1_pack 0 = .ok (.bipush 8, 2) := dR1s (f := Instr.bipush) (k := 0) (i := 0) bn_cX1_pack_0 dop_16 8 8 (by decide +kernel)
theorem dX1_pack_2 : decode cX1_pack 2 = .ok (.aload_n 1, 1) := dR0 (k := 0) (i := 2) bn_cX1_pack_0 dop_43 (by decide +kernel)
theorem dX1_pack_3 : decode cX1_pack 3 = .ok (.iload_n 2, 1) := dR0 (k := 0) (i := 3) bn_cX1_pack_0 dop_28 (by decide +kernel)
theorem dX1_pack_4 : decode cX1_pack 4 = .ok (.invokevirtual 25, 3) := dR2 (f := Instr.invokevirtual) (k := 0) (i := 4) bn_cX1_pack_0 dop_182 25 (by decide +kernel)
theorem dX1_pack_7 : decode cX1_pack 7 = .ok (.iconst 3, 1) := dR0 (k := 0) (i := 7) bn_cX1_pack_0 dop_6 (by decide +kernel)
theorem dX1_pack_8 : decode cX1_pack 8 = .ok (.idiv, 1) := dR0 (k := 0) (i := 8) bn_cX1_pack_0 dop_108 (by decide +kernel)
theorem dX1_pack_9 : decode cX1_pack 9 = .ok (.invokestatic 31, 3) := dR2 (f := Instr.invokestatic) (k := 0) (i := 9) bn_cX1_pack_0 dop_184 31 (by decide +kernel)
theorem dX1_pack_12 : decode cX1_pack 12 = .ok (.istore 4, 2) := dR1 (f := Instr.istore) (k := 0) (i := 12) bn_cX1_pack_0 dop_54 4 (by decide +kernel)
theorem dX1_pack_14 : decode cX1_pack 14 = .ok (.iconst 0, 1) := dR0 (k := 0) (i := 14) bn_cX1_pack_0 dop_3 (by decide +kernel)
theorem dX1_pack_15 : decode cX1_pack 15 = .ok (.istore 5, 2) := dR1 (f := Instr.istore) (k := 0) (i := 15) bn_cX1_pack_0 dop_54 5 (by decide +kernel)
theorem dX1_pack_17 : decode cX1_pack 17 = .ok (.iload 5, 2) := dR1 (f := Instr.iload) (k := 0) (i := 17) bn_cX1_pack_0 dop_21 5 (by decide +kernel)
theorem dX1_pack_19 : decode cX1_pack 19 = .ok (.iload_n 3, 1) := dR0 (k := 0) (i := 19) bn_cX1_pack_0 dop_29 (by decide +kernel)
theorem dX1_pack_20 : decode cX1_pack 20 = .ok (.if_icmp .gt 32, 3) := dR2s (f := Instr.if_icmp .gt) (k := 0) (i := 20) bn_cX1_pack_0 dop_163 32 32 (by decide +kernel)
theorem dX1_pack_23 : decode cX1_pack 23 = .ok (.iload 5, 2) := dR1 (f := Instr.iload) (k := 0) (i := 23) bn_cX1_pack_0 dop_21 5 (by decide +kernel)
theorem dX1_pack_25 : decode cX1_pack 25 = .ok (.sipush 601, 3) := dR2s (f := Instr.sipush) (k := 0) (i := 25) bn_cX1_pack_0 dop_17 601 601 (by decide +kernel)
theorem dX1_pack_28 : decode cX1_pack 28 = .ok (.if_icmp .ge 24, 3) := dR2s (f := Instr.if_icmp .ge) (k := 0) (i := 28) bn_cX1_pack_0 dop_162 24 24 (by decide +kernel)
theorem dX1_pack_31 : decode cX1_pack 31 = .ok (.aload_n 0, 1) := dR0 (k := 0) (i := 31) bn_cX1_pack_0 dop_42 (by decide +kernel)
theorem dX1_pack_32 : decode cX1_pack 32 = .ok (.getfield 9, 3) := dR2 (f := Instr.getfield) (k := 0) (i := 32) bn_cX1_pack_0 dop_180 9 (by decide +kernel)
theorem dX1_pack_35 : decode cX1_pack 35 = .ok (.iload 4, 2) := dR1 (f := Instr.iload) (k := 0) (i := 35) bn_cX1_pack_0 dop_21 4 (by decide +kernel)
theorem dX1_pack_37 : decode cX1_pack 37 = .ok (.sipush 601, 3) := dR2s (f := Instr.sipush) (k := 0) (i := 37) bn_cX1_pack_0 dop_17 601 601 (by decide +kernel)
theorem dX1_pack_40 : decode cX1_pack 40 = .ok (.imul, 1) := dR0 (k := 0) (i := 40) bn_cX1_pack_0 dop_104 (by decide +kernel)
theorem dX1_pack_41 : decode cX1_pack 41 = .ok (.iload 5, 2) := dR1 (f := Instr.iload) (k := 0) (i := 41) bn_cX1_pack_0 dop_21 5 (by decide +kernel)
theorem dX1_pack_43 : decode cX1_pack 43 = .ok (.iadd, 1) := dR0 (k := 0) (i := 43) bn_cX1_pack_0 dop_96 (by decide +kernel)
theorem dX1_pack_44 : decode cX1_pack 44 = .ok (.iconst 0, 1) := dR0 (k := 0) (i := 44) bn_cX1_pack_0 dop_3 (by decide +kernel)
theorem dX1_pack_45 : decode cX1_pack 45 = .ok (.iastore, 1) := dR0 (k := 0) (i := 45) bn_cX1_pack_0 dop_79 (by decide +kernel)
theorem dX1_pack_46 : decode cX1_pack 46 = .ok (.iinc 5 1, 3) := dRii (f := Instr.iinc) (k := 0) (i := 46) bn_cX1_pack_0 dop_132 5 1 1 (by decide +kernel)
theorem dX1_pack_49 : decode cX1_pack 49 = .ok (.goto (-32), 3) := dR2s (f := Instr.goto) (k := 0) (i := 49) bn_cX1_pack_0 dop_167 65504 (-32) (by decide +kernel)
theorem dX1_pack_52 : decode cX1_pack 52 = .ok (.iload 4, 2) := dR1 (f := Instr.iload) (k := 0) (i := 52) bn_cX1_pack_0 dop_21 4 (by decide +kernel)
theorem dX1_pack_54 : decode cX1_pack 54 = .ok (.iconst 1, 1) := dR0 (k := 0) (i := 54) bn_cX1_pack_0 dop_4 (by decide +kernel)
theorem dX1_pack_55 : decode cX1_pack 55 = .ok (.isub, 1) := dR0 (k := 0) (i := 55) bn_cX1_pack_0 dop_100 (by decide +kernel)
theorem dX1_pack_56 : decode cX1_pack 56 = .ok (.istore 5, 2) := dR1 (f := Instr.istore) (k := 0) (i := 56) bn_cX1_pack_0 dop_54 5 (by decide +kernel)
theorem dX1_pack_58 : decode cX1_pack 58 = .ok (.iload 5, 2) := dR1 (f := Instr.iload) (k := 0) (i := 58) bn_cX1_pack_0 dop_21 5 (by decide +kernel)
theorem dX1_pack_60 : decode cX1_pack 60 = .ok (.ifCond .lt 97, 3) := dR2s (f := Instr.ifCond .lt) (k := 0) (i := 60) bn_cX1_pack_0 dop_155 97 97 (by decide +kernel)
theorem dX1_pack_63 : decode cX1_pack 63 = .ok (.aload_n 1, 1) := dR0 (k := 0) (i := 63) bn_cX1_pack_0 dop_43 (by decide +kernel)
theorem dX1_pack_64 : decode cX1_pack 64 = .ok (.iload_n 2, 1) := dR0 (k := 0) (i := 64) bn_cX1_pack_0 dop_28 (by decide +kernel)
theorem dX1_pack_65 : decode cX1_pack 65 = .ok (.iconst 3, 1) := dR0 (k := 0) (i := 65) bn_cX1_pack_0 dop_6 (by decide +kernel)
theorem dX1_pack_66 : decode cX1_pack 66 = .ok (.iload 5, 2) := dR1 (f := Instr.iload) (k := 0) (i := 66) bn_cX1_pack_0 dop_21 5 (by decide +kernel)
theorem dX1_pack_68 : decode cX1_pack 68 = .ok (.imul, 1) := dR0 (k := 0) (i := 68) bn_cX1_pack_0 dop_104 (by decide +kernel)
theorem dX1_pack_69 : decode cX1_pack 69 = .ok (.invokevirtual 37, 3) := dR2 (f := Instr.invokevirtual) (k := 0) (i := 69) bn_cX1_pack_0 dop_182 37 (by decide +kernel)
theorem dX1_pack_72 : decode cX1_pack 72 = .ok (.istore 6, 2) := dR1 (f := Instr.istore) (k := 0) (i := 72) bn_cX1_pack_0 dop_54 6 (by decide +kernel)
theorem dX1_pack_74 : decode cX1_pack 74 = .ok (.aload_n 1, 1) := dR0 (k := 0) (i := 74) bn_cX1_pack_0 dop_43 (by decide +kernel)
theorem dX1_pack_75 : decode cX1_pack 75 = .ok (.iload_n 2, 1) := dR0 (k := 0) (i := 75) bn_cX1_pack_0 dop_28 (by decide +kernel)
theorem dX1_pack_76 : decode cX1_pack 76 = .ok (.iconst 3, 1) := dR0 (k := 0) (i := 76) bn_cX1_pack_0 dop_6 (by decide +kernel)
theorem dX1_pack_77 : decode cX1_pack 77 = .ok (.iload 5, 2) := dR1 (f := Instr.iload) (k := 0) (i := 77) bn_cX1_pack_0 dop_21 5 (by decide +kernel)
theorem dX1_pack_79 : decode cX1_pack 79 = .ok (.imul, 1) := dR0 (k := 0) (i := 79) bn_cX1_pack_0 dop_104 (by decide +kernel)
theorem dX1_pack_80 : decode cX1_pack 80 = .ok (.iconst 1, 1) := dR0 (k := 0) (i := 80) bn_cX1_pack_0 dop_4 (by decide +kernel)
theorem dX1_pack_81 : decode cX1_pack 81 = .ok (.iadd, 1) := dR0 (k := 0) (i := 81) bn_cX1_pack_0 dop_96 (by decide +kernel)
theorem dX1_pack_82 : decode cX1_pack 82 = .ok (.invokevirtual 37, 3) := dR2 (f := Instr.invokevirtual) (k := 0) (i := 82) bn_cX1_pack_0 dop_182 37 (by decide +kernel)
theorem dX1_pack_85 : decode cX1_pack 85 = .ok (.istore 7, 2) := dR1 (f := Instr.istore) (k := 0) (i := 85) bn_cX1_pack_0 dop_54 7 (by decide +kernel)
theorem dX1_pack_87 : decode cX1_pack 87 = .ok (.aload_n 1, 1) := dR0 (k := 0) (i := 87) bn_cX1_pack_0 dop_43 (by decide +kernel)
theorem dX1_pack_88 : decode cX1_pack 88 = .ok (.iload_n 2, 1) := dR0 (k := 0) (i := 88) bn_cX1_pack_0 dop_28 (by decide +kernel)
theorem dX1_pack_89 : decode cX1_pack 89 = .ok (.iconst 3, 1) := dR0 (k := 0) (i := 89) bn_cX1_pack_0 dop_6 (by decide +kernel)
theorem dX1_pack_90 : decode cX1_pack 90 = .ok (.iload 5, 2) := dR1 (f := Instr.iload) (k := 0) (i := 90) bn_cX1_pack_0 dop_21 5 (by decide +kernel)
theorem dX1_pack_92 : decode cX1_pack 92 = .ok (.imul, 1) := dR0 (k := 0) (i := 92) bn_cX1_pack_0 dop_104 (by decide +kernel)
theorem dX1_pack_93 : decode cX1_pack 93 = .ok (.iconst 2, 1) := dR0 (k := 0) (i := 93) bn_cX1_pack_0 dop_5 (by decide +kernel)
theorem dX1_pack_94 : decode cX1_pack 94 = .ok (.iadd, 1) := dR0 (k := 0) (i := 94) bn_cX1_pack_0 dop_96 (by decide +kernel)
theorem dX1_pack_95 : decode cX1_pack 95 = .ok (.invokevirtual 37, 3) := dR2 (f := Instr.invokevirtual) (k := 0) (i := 95) bn_cX1_pack_0 dop_182 37 (by decide +kernel)
theorem dX1_pack_98 : decode cX1_pack 98 = .ok (.istore 8, 2) := dR1 (f := Instr.istore) (k := 0) (i := 98) bn_cX1_pack_0 dop_54 8 (by decide +kernel)
theorem dX1_pack_100 : decode cX1_pack 100 = .ok (.iconst 0, 1) := dR0 (k := 0) (i := 100) bn_cX1_pack_0 dop_3 (by decide +kernel)
theorem dX1_pack_101 : decode cX1_pack 101 = .ok (.istore 9, 2) := dR1 (f := Instr.istore) (k := 0) (i := 101) bn_cX1_pack_0 dop_54 9 (by decide +kernel)
theorem dX1_pack_103 : decode cX1_pack 103 = .ok (.iload 9, 2) := dR1 (f := Instr.iload) (k := 0) (i := 103) bn_cX1_pack_0 dop_21 9 (by decide +kernel)
theorem dX1_pack_105 : decode cX1_pack 105 = .ok (.iload_n 3, 1) := dR0 (k := 0) (i := 105) bn_cX1_pack_0 dop_29 (by decide +kernel)
theorem dX1_pack_106 : decode cX1_pack 106 = .ok (.if_icmp .gt 45, 3) := dR2s (f := Instr.if_icmp .gt) (k := 0) (i := 106) bn_cX1_pack_0 dop_163 45 45 (by decide +kernel)
theorem dX1_pack_109 : decode cX1_pack 109 = .ok (.iload 9, 2) := dR1 (f := Instr.iload) (k := 0) (i := 109) bn_cX1_pack_0 dop_21 9 (by decide +kernel)
theorem dX1_pack_111 : decode cX1_pack 111 = .ok (.sipush 601, 3) := dR2s (f := Instr.sipush) (k := 0) (i := 111) bn_cX1_pack_0 dop_17 601 601 (by decide +kernel)
theorem dX1_pack_114 : decode cX1_pack 114 = .ok (.if_icmp .ge 37, 3) := dR2s (f := Instr.if_icmp .ge) (k := 0) (i := 114) bn_cX1_pack_0 dop_162 37 37 (by decide +kernel)
theorem dX1_pack_117 : decode cX1_pack 117 = .ok (.aload_n 0, 1) := dR0 (k := 0) (i := 117) bn_cX1_pack_0 dop_42 (by decide +kernel)
theorem dX1_pack_118 : decode cX1_pack 118 = .ok (.getfield 9, 3) := dR2 (f := Instr.getfield) (k := 0) (i := 118) bn_cX1_pack_0 dop_180 9 (by decide +kernel)
theorem dX1_pack_121 : decode cX1_pack 121 = .ok (.iload 5, 2) := dR1 (f := Instr.iload) (k := 0) (i := 121) bn_cX1_pack_0 dop_21 5 (by decide +kernel)
theorem dX1_pack_123 : decode cX1_pack 123 = .ok (.sipush 601, 3) := dR2s (f := Instr.sipush) (k := 0) (i := 123) bn_cX1_pack_0 dop_17 601 601 (by decide +kernel)
theorem dX1_pack_126 : decode cX1_pack 126 = .ok (.imul, 1) := dR0 (k := 0) (i := 126) bn_cX1_pack_0 dop_104 (by decide +kernel)
theorem dX1_pack_127 : decode cX1_pack 127 = .ok (.iload 9, 2) := dR1 (f := Instr.iload) (k := 0) (i := 127) bn_cX1_pack_0 dop_21 9 (by decide +kernel)
theorem bn_cX1_pack_128 : BN cX1_pack 128 0x2c85a015b8780a160e8b056a1802a2000642b5200a8010290a50148056e090b0202c070b0282c060b0acc20a := by
  unfold BN; decide +kernel
theorem dX1_pack_129 : decode cX1_pack 129 = .ok (.iadd, 1) := dR0 (k := 128) (i := 1) bn_cX1_pack_128 dop_96 (by decide +kernel)
theorem dX1_pack_130 : decode cX1_pack 130 = .ok (.aload_n 0, 1) := dR0 (k := 128) (i := 2) bn_cX1_pack_128 dop_42 (by decide +kernel)
theorem dX1_pack_131 : decode cX1_pack 131 = .ok (.iload 5, 2) := dR1 (f := Instr.iload) (k := 128) (i := 3) bn_cX1_pack_128 dop_21 5 (by decide +kernel)
theorem dX1_pack_133 : decode cX1_pack 133 = .ok (.iload 9, 2) := dR1 (f := Instr.iload) (k := 128) (i := 5) bn_cX1_pack_128 dop_21 9 (by decide +kernel)
theorem dX1_pack_135 : decode cX1_pack 135 = .ok (.iload 6, 2) := dR1 (f := Instr.iload) (k := 128) (i := 7) bn_cX1_pack_128 dop_21 6 (by decide +kernel)
theorem dX1_pack_137 : decode cX1_pack 137 = .ok (.iload 7, 2) := dR1 (f := Instr.iload) (k := 128) (i := 9) bn_cX1_pack_128 dop_21 7 (by decide +kernel)
theorem dX1_pack_139 : decode cX1_pack 139 = .ok (.iload 8, 2) := dR1 (f := Instr.iload) (k := 128) (i := 11) bn_cX1_pack_128 dop_21 8 (by decide +kernel)
theorem dX1_pack_141 : decode cX1_pack 141 = .ok (.invokevirtual 40, 3) := dR2 (f := Instr.invokevirtual) (k := 128) (i := 13) bn_cX1_pack_128 dop_182 40 (by decide +kernel)
theorem dX1_pack_144 : decode cX1_pack 144 = .ok (.iastore, 1) := dR0 (k := 128) (i := 16) bn_cX1_pack_128 dop_79 (by decide +kernel)
theorem dX1_pack_145 : decode cX1_pack 145 = .ok (.iinc 9 1, 3) := dRii (f := Instr.iinc) (k := 128) (i := 17) bn_cX1_pack_128 dop_132 9 1 1 (by decide +kernel)
theorem dX1_pack_148 : decode cX1_pack 148 = .ok (.goto (-45), 3) := dR2s (f := Instr.goto) (k := 128) (i := 20) bn_cX1_pack_128 dop_167 65491 (-45) (by decide +kernel)
theorem dX1_pack_151 : decode cX1_pack 151 = .ok (.iinc 5 (-1), 3) := dRii (f := Instr.iinc) (k := 128) (i := 23) bn_cX1_pack_128 dop_132 5 255 (-1) (by decide +kernel)
theorem dX1_pack_154 : decode cX1_pack 154 = .ok (.goto (-96), 3) := dR2s (f := Instr.goto) (k := 128) (i := 26) bn_cX1_pack_128 dop_167 65440 (-96) (by decide +kernel)
theorem dX1_pack_157 : decode cX1_pack 157 = .ok (.aload_n 0, 1) := dR0 (k := 128) (i := 29) bn_cX1_pack_128 dop_42 (by decide +kernel)
theorem dX1_pack_158 : decode cX1_pack 158 = .ok (.aload_n 1, 1) := dR0 (k := 128) (i := 30) bn_cX1_pack_128 dop_43 (by decide +kernel)
theorem dX1_pack_159 : decode cX1_pack 159 = .ok (.iload_n 2, 1) := dR0 (k := 128) (i := 31) bn_cX1_pack_128 dop_28 (by decide +kernel)
theorem dX1_pack_160 : decode cX1_pack 160 = .ok (.iload 4, 2) := dR1 (f := Instr.iload) (k := 128) (i := 32) bn_cX1_pack_128 dop_21 4 (by decide +kernel)
theorem dX1_pack_162 : decode cX1_pack 162 = .ok (.iload_n 3, 1) := dR0 (k := 128) (i := 34) bn_cX1_pack_128 dop_29 (by decide +kernel)
theorem dX1_pack_163 : decode cX1_pack 163 = .ok (.invokevirtual 44, 3) := dR2 (f := Instr.invokevirtual) (k := 128) (i := 35) bn_cX1_pack_128 dop_182 44 (by decide +kernel)
theorem dX1_pack_166 : decode cX1_pack 166 = .ok (.return_, 1) := dR0 (k := 128) (i := 38) bn_cX1_pack_128 dop_177 (by decide +kernel)
set_option maxHeartbeats 4000000 in
set_option maxRecDepth 100000 in
theorem c_X1_packG (l : Launch) (D : va_G) (cI : ClassId) (aK aV : Nat → Nat) (k o k0 k1 o0 o1 o2 : Nat) (sz : Nat) (c2 : Int32) (c3 : Int32) (c0 : Nat → Int32) (c1 : Nat → Int32) (d1 : Nat → Int32) (d2 : Nat → Int32) (a1 : Int32) (a2 : Int32) (pre0 : ∀ k : Nat, k < 4 → 0 ≤ (d1 k).toInt ∧ (d1 k).toInt ≤ 36) (pre1 : ∀ i : Int32, i.toInt % 3 = 2 → (kNum d1 d2 a1 i).toInt ≤ 3) : Met l yX1_pack (gW yX1_pack cX1_pack 10 none) ({ frames := 5, cells := 0, slots := 0, locals := 114 } : Room) (kPreX D cI aK aV [.ref k, .ref o, .int a1, .int a2] [(k, .inr (1, [.ref k0, .ref k1, .int c2, .int c3])), (k0, .inl (cI, 5409, .inl c0)), (k1, .inl (cI, 8, .inl c1)), (o, .inr (6, [.ref o0, .ref o1, .ref o2])), (o1, .inl (cI, 4, .inl d1)), (o2, .inl (cI, 144, .inl d2))] sz) (va_Qv (fun (u : Int32 × Int32 × (Nat → Int32) × (Nat → Int32)) => True) (fun u t => kWd D cI (va_A [(k, .inr (1, [.ref k0, .ref k1, .int c2, .int c3])), (k0, .inl (cI, 5409, .inl c0)), (k1, .inl (cI, 8, .inl c1)), (o, .inr (6, [.ref o0, .ref o1, .ref o2])), (o1, .inl (cI, 4, .inl d1)), (o2, .inl (cI, 144, .inl d2))] sz) [(k, .inr (1, [.ref k0, .ref k1, .int u.1, .int u.2.1])), (k0, .inl (cI, 5409, .inl u.2.2.1)), (k1, .inl (cI, 8, .inl u.2.2.2)), (o, .inr (6, [.ref o0, .ref o1, .ref o2])), (o1, .inl (cI, 4, .inl d1)), (o2, .inl (cI, 144, .inl d2))] t) (va_A [(k, .inr (1, [.ref k0, .ref k1, .int c2, .int c3])), (k0, .inl (cI, 5409, .inl c0)), (k1, .inl (cI, 8, .inl c1)), (o, .inr (6, [.ref o0, .ref o1, .ref o2])), (o1, .inl (cI, 4, .inl d1)), (o2, .inl (cI, 144, .inl d2))] sz)) 0 0 (va_A [(k, .inr (1, [.ref k0, .ref k1, .int c2, .int c3])), (k0, .inl (cI, 5409, .inl c0)), (k1, .inl (cI, 8, .inl c1)), (o, .inr (6, [.ref o0, .ref o1, .ref o2])), (o1, .inl (cI, 4, .inl d1)), (o2, .inl (cI, 144, .inl d2))] sz) := by
  refine kMetVX (own := RX1) (by decide +kernel) rfl (Nat.le_of_ble_eq_true rfl) ?_
  intro p e s m args below meth c hx hb hT hown hname hml A Q hK hP hD hS hA hN hXS hRet ls hl
  have hl : lv_has ls 10 [(0, .ref k), (1, .ref o), (2, .int a1), (3, .int a2)] := hl
  have lo_a1 := k_lo a1
  have hi_a1 := k_hi a1
  have lo_a2 := k_lo a2
  have hi_a2 := k_hi a2
  refine lv_bipush (v := 8) hx hb dX1_pack_0 (by decide +kernel) ?_
  refine lv_aload_n hx hb dX1_pack_2 rfl (lv_at hl 1 rfl) ?_
  refine lv_iload_n hx hb dX1_pack_3 rfl (lv_at hl 2 rfl) ?_
  refine kJi (wr := [(k, .inr (1, [.ref k0, .ref k1, .int c2, .int c3])), (k0, .inl (cI, 5409, .inl c0)), (k1, .inl (cI, 8, .inl c1)), (o2, .inl (cI, 144, .inl d2))]) (va_runV (As := [.int a1]) (rest := [.int 8]) ⟨hx, hb, hml, hown, hT⟩ (c_X6_lengthOfG l D cI aK aV o o0 o1 o2 s.heap.size d1 a1 (by first | omega | decide | assumption | rfl)) (cwV 1 hT (gV_in mw_675 mw_891 mw_673 mw_674 mw_11) rfl rfl rfl (by decide +kernel) ⟨Nat.le_of_ble_eq_true rfl, Nat.le_of_ble_eq_true rfl⟩) (kRecvX (q0 := 3) (ci := 6) hK hP hD hN hXS hS hA rfl rfl [3, 4] rfl (by decide +kernel)) rfl rfl hl.1 rfl (lv_room (Nat.le_of_ble_eq_true rfl)) dX1_pack_4 ⟨Nat.le_of_ble_eq_true rfl, Nat.le_of_ble_eq_true rfl⟩) hP hD hS hA [3, 4] [0, 1, 2, 5] rfl rfl (by decide +kernel) (by decide +kernel) ?_
  clear hP hD hS
  intro r_1 u_3 H locs w_2 hP hD hS
  replace hP : va_P D vwCl [(k, .inr (1, [.ref k0, .ref k1, .int c2, .int c3])), (k0, .inl (cI, 5409, .inl c0)), (k1, .inl (cI, 8, .inl c1)), (o2, .inl (cI, 144, .inl d2)), (o, .inr (6, [.ref o0, .ref o1, .ref o2])), (o1, .inl (cI, 4, .inl d1))] H := hP
  replace hD : va_D A [(k, .inr (1, [.ref k0, .ref k1, .int c2, .int c3])), (k0, .inl (cI, 5409, .inl c0)), (k1, .inl (cI, 8, .inl c1)), (o2, .inl (cI, 144, .inl d2)), (o, .inr (6, [.ref o0, .ref o1, .ref o2])), (o1, .inl (cI, 4, .inl d1))] := hD
  rcases w_2 with ⟨h_4, h_5, h_6, h_7, h_8⟩ | ⟨hr_1, h_9⟩
  · have h_4 : 0 ≤ a1.toInt := h_4
    have h_5 : a1.toInt ≤ 3 := h_5
    have h_6 : 0 ≤ r_1.toInt := h_6
    have h_7 : r_1.toInt ≤ 36 := h_7
    have h_8 : r_1.toInt = (d1 a1.toNatClampNeg).toInt := h_8
    have lo_r_1 := k_lo r_1
    have hi_r_1 := k_hi r_1
    refine lv_iconst (v := 3) hx hb dX1_pack_7 (by decide +kernel) ?_
    refine lv_idiv hx hb dX1_pack_8 (by decide +kernel) ?_
    refine lv_topi (fun v_10 ev_10 => ?_)
    have tv_10 : v_10.toInt = r_1.toInt / 3 := k_divv (w := 0) ev_10 zl_3 (by omega) (by decide +kernel)
    have lo_v_10 := k_lo v_10
    have hi_v_10 := k_hi v_10
    refine va_mmin hx hb (hml.trans hl.1.symm) hown (hT _ mw_892) (hT _ mw_538) (hT _ mw_13) (hT _ mw_539) (Nat.le_of_ble_eq_true rfl) (Nat.le_of_ble_eq_true rfl) (Nat.le_of_ble_eq_true rfl) (Nat.le_of_ble_eq_true rfl) dX1_pack_9 ?_
    refine lv_topi (fun v_11 ev_11 => ?_)
    have lo_v_11 := k_lo v_11
    have hi_v_11 := k_hi v_11
    have tv_11 : v_11.toInt = k_min 8 v_10.toInt := by rw [ev_11]; exact k_mmin zl_8 rfl
    try rw [tv_10] at tv_11
    have sv_11 := k_min_spec (8) (v_10.toInt)
    try rw [tv_10] at sv_11
    have nv_11 : 0 ≤ v_11.toInt := by omega
    refine lv_istore (lv' := [(4, .int v_11), (0, .ref k), (1, .ref o), (2, .int a1), (3, .int a2)]) hx hb dX1_pack_12 hl (by decide +kernel) rfl ?_
    clear hl
    intro ls hl
    refine lv_iconst (v := 0) hx hb dX1_pack_14 (by decide +kernel) ?_
    refine lv_istore (lv' := [(5, .int 0), (4, .int v_11), (0, .ref k), (1, .ref o), (2, .int a1), (3, .int a2)]) hx hb dX1_pack_15 hl (by decide +kernel) rfl ?_
    clear hl
    intro ls hl
    have hloop_17 : ∀ (fu_ : Nat) (l17_5 : Int32) (g17_k0 : Nat → Int32), 0 ≤ l17_5.toInt → (a2.toInt + 1 - l17_5.toInt).toNat < fu_ → ∀ (ls : Array Slot) (H : Heap) (locs : List Loc), lv_has ls 10 [(5, .int l17_5), (4, .int v_11), (0, .ref k), (1, .ref o), (2, .int a1), (3, .int a2)] → va_P D vwCl [(k, .inr (1, [.ref k0, .ref k1, .int c2, .int c3])), (k0, .inl (cI, 5409, .inl g17_k0)), (k1, .inl (cI, 8, .inl c1)), (o2, .inl (cI, 144, .inl d2)), (o, .inr (6, [.ref o0, .ref o1, .ref o2])), (o1, .inl (cI, 4, .inl d1))] H → va_D A [(k, .inr (1, [.ref k0, .ref k1, .int c2, .int c3])), (k0, .inl (cI, 5409, .inl g17_k0)), (k1, .inl (cI, 8, .inl c1)), (o2, .inl (cI, 144, .inl d2)), (o, .inr (6, [.ref o0, .ref o1, .ref o2])), (o1, .inl (cI, 4, .inl d1))] → va_S A s.heap H locs → W p l e ({ frames := 5, cells := 0, slots := 0, locals := 114 } : Room) s m args below meth c H locs 0 0 Q (F0 m 17 ls []) := by
      intro fu_; induction fu_ with
      | zero => intro l17_5 g17_k0 i17_0 hm; exact absurd hm (by omega)
      | succ fu_ ih17 =>
          intro l17_5 g17_k0 i17_0 hm ls H locs hl hP hD hS
          have lo_l17_5 := k_lo l17_5
          have hi_l17_5 := k_hi l17_5
          refine lv_iload hx hb dX1_pack_17 (lv_at hl 0 rfl) ?_
          refine lv_iload_n hx hb dX1_pack_19 rfl (lv_at hl 5 rfl) ?_
          refine b_icmp_gt hx hb rfl rfl (tgt := 52) dX1_pack_20 (by decide +kernel) (fun c_12 => ?_) (fun c_12 => ?_)
          · refine lv_iload hx hb dX1_pack_52 (lv_at hl 1 rfl) ?_
            refine lv_iconst (v := 1) hx hb dX1_pack_54 (by decide +kernel) ?_
            refine lv_isub hx hb dX1_pack_55 ?_
            refine lv_topi (fun v_13 ev_13 => ?_)
            have tv_13 : v_13.toInt = v_11.toInt - 1 := by rw [ev_13]; exact k_subv rfl zl_1 (by omega) (by omega)
            refine lv_istore (lv' := [(5, .int v_13), (4, .int v_11), (0, .ref k), (1, .ref o), (2, .int a1), (3, .int a2)]) hx hb dX1_pack_56 hl (by decide +kernel) rfl ?_
            clear hl
            intro ls hl
            have hloop_58 : ∀ (fu_ : Nat) (l58_5 : Int32) (g58_k0 : Nat → Int32), l58_5.toInt ≤ v_13.toInt → (l58_5.toInt + 1 - 0).toNat < fu_ → ∀ (ls : Array Slot) (H : Heap) (locs : List Loc), lv_has ls 10 [(5, .int l58_5), (4, .int v_11), (0, .ref k), (1, .ref o), (2, .int a1), (3, .int a2)] → va_P D vwCl [(k, .inr (1, [.ref k0, .ref k1, .int c2, .int c3])), (k0, .inl (cI, 5409, .inl g58_k0)), (k1, .inl (cI, 8, .inl c1)), (o2, .inl (cI, 144, .inl d2)), (o, .inr (6, [.ref o0, .ref o1, .ref o2])), (o1, .inl (cI, 4, .inl d1))] H → va_D A [(k, .inr (1, [.ref k0, .ref k1, .int c2, .int c3])), (k0, .inl (cI, 5409, .inl g58_k0)), (k1, .inl (cI, 8, .inl c1)), (o2, .inl (cI, 144, .inl d2)), (o, .inr (6, [.ref o0, .ref o1, .ref o2])), (o1, .inl (cI, 4, .inl d1))] → va_S A s.heap H locs → W p l e ({ frames := 5, cells := 0, slots := 0, locals := 114 } : Room) s m args below meth c H locs 0 0 Q (F0 m 58 ls []) := by
              intro fu_; induction fu_ with
              | zero => intro l58_5 g58_k0 i58_0 hm; exact absurd hm (by omega)
              | succ fu_ ih58 =>
                  intro l58_5 g58_k0 i58_0 hm ls H locs hl hP hD hS
                  have lo_l58_5 := k_lo l58_5
                  have hi_l58_5 := k_hi l58_5
                  refine lv_iload hx hb dX1_pack_58 (lv_at hl 0 rfl) ?_
                  refine b_if_lt hx hb rfl (tgt := 157) dX1_pack_60 (by decide +kernel) (fun c_14 => ?_) (fun c_14 => ?_)
                  · refine lv_aload_n hx hb dX1_pack_157 rfl (lv_at hl 2 rfl) ?_
                    refine lv_aload_n hx hb dX1_pack_158 rfl (lv_at hl 3 rfl) ?_
                    refine lv_iload_n hx hb dX1_pack_159 rfl (lv_at hl 4 rfl) ?_
                    refine lv_iload hx hb dX1_pack_160 (lv_at hl 1 rfl) ?_
                    refine lv_iload_n hx hb dX1_pack_162 rfl (lv_at hl 5 rfl) ?_
                    refine kJv (wr := []) (va_runV (As := [.ref o, .int a1, .int v_11, .int a2]) (rest := []) ⟨hx, hb, hml, hown, hT⟩ (c_X1_chooseG l D cI aK aV k o k0 k1 o0 o1 o2 H.size c2 c3 g58_k0 c1 d1 d2 a1 v_11 a2 (by first | omega | decide | assumption | rfl)) (cwV 4 hT (gV_in mw_907 mw_904 mw_906 mw_p2_11 mw_8) rfl rfl rfl (by decide +kernel) ⟨Nat.le_of_ble_eq_true rfl, Nat.le_of_ble_eq_true rfl⟩) (kRecvX (q0 := 0) (ci := 1) hK hP hD hN hXS hS hA rfl rfl [0, 1, 2, 4, 5, 3] rfl (by decide +kernel)) rfl rfl hl.1 rfl (lv_room (Nat.le_of_ble_eq_true rfl)) dX1_pack_163 ⟨Nat.le_of_ble_eq_true rfl, Nat.le_of_ble_eq_true rfl⟩) hP hD hS hA [0, 1, 2, 4, 5, 3] [] rfl rfl (by decide +kernel) (by decide +kernel) ?_
                    clear hP hD hS
                    intro u_20 H locs w_16 hP hD hS
                    obtain ⟨sc2_17, sc3_18, sc1_19⟩ := u_20
                    replace hP : va_P D vwCl [(k, .inr (1, [.ref k0, .ref k1, .int sc2_17, .int sc3_18])), (k0, .inl (cI, 5409, .inl g58_k0)), (k1, .inl (cI, 8, .inl sc1_19)), (o, .inr (6, [.ref o0, .ref o1, .ref o2])), (o1, .inl (cI, 4, .inl d1)), (o2, .inl (cI, 144, .inl d2))] H := hP
                    replace hD : va_D A [(k, .inr (1, [.ref k0, .ref k1, .int sc2_17, .int sc3_18])), (k0, .inl (cI, 5409, .inl g58_k0)), (k1, .inl (cI, 8, .inl sc1_19)), (o, .inr (6, [.ref o0, .ref o1, .ref o2])), (o1, .inl (cI, 4, .inl d1)), (o2, .inl (cI, 144, .inl d2))] := hD
                    exact hRet (sc2_17, sc3_18, g58_k0, sc1_19) [0, 1, 2, 3, 4, 5] trivial hP hD (by decide +kernel) rfl hS dX1_pack_166
                  · refine lv_aload_n hx hb dX1_pack_63 rfl (lv_at hl 3 rfl) ?_
                    refine lv_iload_n hx hb dX1_pack_64 rfl (lv_at hl 4 rfl) ?_
                    refine lv_iconst (v := 3) hx hb dX1_pack_65 (by decide +kernel) ?_
                    refine lv_iload hx hb dX1_pack_66 (lv_at hl 0 rfl) ?_
                    refine lv_imul hx hb dX1_pack_68 ?_
                    refine lv_topi (fun v_21 ev_21 => ?_)
                    have tv_21 : v_21.toInt = 3 * l58_5.toInt := by rw [ev_21]; exact k_mulv zl_3 rfl (by omega) (by omega)
                    refine kJi (wr := [(k, .inr (1, [.ref k0, .ref k1, .int c2, .int c3])), (k0, .inl (cI, 5409, .inl g58_k0)), (k1, .inl (cI, 8, .inl c1))]) (va_runV (As := [.int a1, .int v_21]) (rest := []) ⟨hx, hb, hml, hown, hT⟩ (c_X6_numberAtG l D cI aK aV o o0 o1 o2 H.size d1 d2 a1 v_21 (by first | omega | decide | assumption | rfl)) (cwV 2 hT (gV_in mw_684 mw_893 mw_682 mw_683 mw_11) rfl rfl rfl (by decide +kernel) ⟨Nat.le_of_ble_eq_true rfl, Nat.le_of_ble_eq_true rfl⟩) (kRecvX (q0 := 4) (ci := 6) hK hP hD hN hXS hS hA rfl rfl [4, 5, 3] rfl (by decide +kernel)) rfl rfl hl.1 rfl (lv_room (Nat.le_of_ble_eq_true rfl)) dX1_pack_69 ⟨Nat.le_of_ble_eq_true rfl, Nat.le_of_ble_eq_true rfl⟩) hP hD hS hA [4, 5, 3] [0, 1, 2] rfl rfl (by decide +kernel) (by decide +kernel) ?_
                    clear hP hD hS
                    intro r_22 u_24 H locs w_23 hP hD hS
                    replace hP : va_P D vwCl [(k, .inr (1, [.ref k0, .ref k1, .int c2, .int c3])), (k0, .inl (cI, 5409, .inl g58_k0)), (k1, .inl (cI, 8, .inl c1)), (o, .inr (6, [.ref o0, .ref o1, .ref o2])), (o1, .inl (cI, 4, .inl d1)), (o2, .inl (cI, 144, .inl d2))] H := hP
                    replace hD : va_D A [(k, .inr (1, [.ref k0, .ref k1, .int c2, .int c3])), (k0, .inl (cI, 5409, .inl g58_k0)), (k1, .inl (cI, 8, .inl c1)), (o, .inr (6, [.ref o0, .ref o1, .ref o2])), (o1, .inl (cI, 4, .inl d1)), (o2, .inl (cI, 144, .inl d2))] := hD
                    have h_25 := w_23
                    have h_25 : r_22 = kNum d1 d2 a1 v_21 := h_25
                    have lo_r_22 := k_lo r_22
                    have hi_r_22 := k_hi r_22
                    refine lv_istore (lv' := [(6, .int r_22), (5, .int l58_5), (4, .int v_11), (0, .ref k), (1, .ref o), (2, .int a1), (3, .int a2)]) hx hb dX1_pack_72 hl (by decide +kernel) rfl ?_
                    clear hl
                    intro ls hl
                    refine lv_aload_n hx hb dX1_pack_74 rfl (lv_at hl 4 rfl) ?_
                    refine lv_iload_n hx hb dX1_pack_75 rfl (lv_at hl 5 rfl) ?_
                    refine lv_iconst (v := 3) hx hb dX1_pack_76 (by decide +kernel) ?_
                    refine lv_iload hx hb dX1_pack_77 (lv_at hl 1 rfl) ?_
                    refine lv_imul hx hb dX1_pack_79 ?_
                    refine lv_topi (fun v_26 ev_26 => ?_)
                    have tv_26 : v_26.toInt = 3 * l58_5.toInt := by rw [ev_26]; exact k_mulv zl_3 rfl (by omega) (by omega)
                    refine lv_iconst (v := 1) hx hb dX1_pack_80 (by decide +kernel) ?_
                    refine lv_iadd hx hb dX1_pack_81 ?_
                    refine lv_topi (fun v_27 ev_27 => ?_)
                    have tv_27 : v_27.toInt = v_26.toInt + 1 := by rw [ev_27]; exact k_addv rfl zl_1 (by omega) (by omega)
                    refine kJi (wr := [(k, .inr (1, [.ref k0, .ref k1, .int c2, .int c3])), (k0, .inl (cI, 5409, .inl g58_k0)), (k1, .inl (cI, 8, .inl c1))]) (va_runV (As := [.int a1, .int v_27]) (rest := []) ⟨hx, hb, hml, hown, hT⟩ (c_X6_numberAtG l D cI aK aV o o0 o1 o2 H.size d1 d2 a1 v_27 (by first | omega | decide | assumption | rfl)) (cwV 2 hT (gV_in mw_684 mw_893 mw_682 mw_683 mw_11) rfl rfl rfl (by decide +kernel) ⟨Nat.le_of_ble_eq_true rfl, Nat.le_of_ble_eq_true rfl⟩) (kRecvX (q0 := 3) (ci := 6) hK hP hD hN hXS hS hA rfl rfl [3, 4, 5] rfl (by decide +kernel)) rfl rfl hl.1 rfl (lv_room (Nat.le_of_ble_eq_true rfl)) dX1_pack_82 ⟨Nat.le_of_ble_eq_true rfl, Nat.le_of_ble_eq_true rfl⟩) hP hD hS hA [3, 4, 5] [0, 1, 2] rfl rfl (by decide +kernel) (by decide +kernel) ?_
                    clear hP hD hS
                    intro r_28 u_30 H locs w_29 hP hD hS
                    replace hP : va_P D vwCl [(k, .inr (1, [.ref k0, .ref k1, .int c2, .int c3])), (k0, .inl (cI, 5409, .inl g58_k0)), (k1, .inl (cI, 8, .inl c1)), (o, .inr (6, [.ref o0, .ref o1, .ref o2])), (o1, .inl (cI, 4, .inl d1)), (o2, .inl (cI, 144, .inl d2))] H := hP
                    replace hD : va_D A [(k, .inr (1, [.ref k0, .ref k1, .int c2, .int c3])), (k0, .inl (cI, 5409, .inl g58_k0)), (k1, .inl (cI, 8, .inl c1)), (o, .inr (6, [.ref o0, .ref o1, .ref o2])), (o1, .inl (cI, 4, .inl d1)), (o2, .inl (cI, 144, .inl d2))] := hD
                    have h_31 := w_29
                    have h_31 : r_28 = kNum d1 d2 a1 v_27 := h_31
                    have lo_r_28 := k_lo r_28
                    have hi_r_28 := k_hi r_28
                    refine lv_istore (lv' := [(7, .int r_28), (6, .int r_22), (5, .int l58_5), (4, .int v_11), (0, .ref k), (1, .ref o), (2, .int a1), (3, .int a2)]) hx hb dX1_pack_85 hl (by decide +kernel) rfl ?_
                    clear hl
                    intro ls hl
                    refine lv_aload_n hx hb dX1_pack_87 rfl (lv_at hl 5 rfl) ?_
                    refine lv_iload_n hx hb dX1_pack_88 rfl (lv_at hl 6 rfl) ?_
                    refine lv_iconst (v := 3) hx hb dX1_pack_89 (by decide +kernel) ?_
                    refine lv_iload hx hb dX1_pack_90 (lv_at hl 2 rfl) ?_
                    refine lv_imul hx hb dX1_pack_92 ?_
                    refine lv_topi (fun v_32 ev_32 => ?_)
                    have tv_32 : v_32.toInt = 3 * l58_5.toInt := by rw [ev_32]; exact k_mulv zl_3 rfl (by omega) (by omega)
                    refine lv_iconst (v := 2) hx hb dX1_pack_93 (by decide +kernel) ?_
                    refine lv_iadd hx hb dX1_pack_94 ?_
                    refine lv_topi (fun v_33 ev_33 => ?_)
                    have tv_33 : v_33.toInt = v_32.toInt + 2 := by rw [ev_33]; exact k_addv rfl zl_2 (by omega) (by omega)
                    refine kJi (wr := [(k, .inr (1, [.ref k0, .ref k1, .int c2, .int c3])), (k0, .inl (cI, 5409, .inl g58_k0)), (k1, .inl (cI, 8, .inl c1))]) (va_runV (As := [.int a1, .int v_33]) (rest := []) ⟨hx, hb, hml, hown, hT⟩ (c_X6_numberAtT l D cI aK aV o o0 o1 o2 H.size d1 d2 a1 v_33 (by first | omega | decide | assumption | rfl) (by first | omega | decide | assumption | rfl) (by first | omega | decide | assumption | rfl)) (cwV 2 hT (gV_in mw_684 mw_893 mw_682 mw_683 mw_11) rfl rfl rfl (by decide +kernel) ⟨Nat.le_of_ble_eq_true rfl, Nat.le_of_ble_eq_true rfl⟩) (kRecvX (q0 := 3) (ci := 6) hK hP hD hN hXS hS hA rfl rfl [3, 4, 5] rfl (by decide +kernel)) rfl rfl hl.1 rfl (lv_room (Nat.le_of_ble_eq_true rfl)) dX1_pack_95 ⟨Nat.le_of_ble_eq_true rfl, Nat.le_of_ble_eq_true rfl⟩) hP hD hS hA [3, 4, 5] [0, 1, 2] rfl rfl (by decide +kernel) (by decide +kernel) ?_
                    clear hP hD hS
                    intro r_34 u_36 H locs w_35 hP hD hS
                    replace hP : va_P D vwCl [(k, .inr (1, [.ref k0, .ref k1, .int c2, .int c3])), (k0, .inl (cI, 5409, .inl g58_k0)), (k1, .inl (cI, 8, .inl c1)), (o, .inr (6, [.ref o0, .ref o1, .ref o2])), (o1, .inl (cI, 4, .inl d1)), (o2, .inl (cI, 144, .inl d2))] H := hP
                    replace hD : va_D A [(k, .inr (1, [.ref k0, .ref k1, .int c2, .int c3])), (k0, .inl (cI, 5409, .inl g58_k0)), (k1, .inl (cI, 8, .inl c1)), (o, .inr (6, [.ref o0, .ref o1, .ref o2])), (o1, .inl (cI, 4, .inl d1)), (o2, .inl (cI, 144, .inl d2))] := hD
                    have h_37 := w_35
                    have h_37 : r_34.toInt ≤ 3 := h_37
                    have lo_r_34 := k_lo r_34
                    have hi_r_34 := k_hi r_34
                    refine lv_istore (lv' := [(8, .int r_34), (7, .int r_28), (6, .int r_22), (5, .int l58_5), (4, .int v_11), (0, .ref k), (1, .ref o), (2, .int a1), (3, .int a2)]) hx hb dX1_pack_98 hl (by decide +kernel) rfl ?_
                    clear hl
                    intro ls hl
                    refine lv_iconst (v := 0) hx hb dX1_pack_100 (by decide +kernel) ?_
                    refine lv_istore (lv' := [(9, .int 0), (8, .int r_34), (7, .int r_28), (6, .int r_22), (5, .int l58_5), (4, .int v_11), (0, .ref k), (1, .ref o), (2, .int a1), (3, .int a2)]) hx hb dX1_pack_101 hl (by decide +kernel) rfl ?_
                    clear hl
                    intro ls hl
                    have hloop_103 : ∀ (fu_ : Nat) (l103_9 : Int32) (g103_k0 : Nat → Int32), 0 ≤ l103_9.toInt → (a2.toInt + 1 - l103_9.toInt).toNat < fu_ → ∀ (ls : Array Slot) (H : Heap) (locs : List Loc), lv_has ls 10 [(9, .int l103_9), (8, .int r_34), (7, .int r_28), (6, .int r_22), (5, .int l58_5), (4, .int v_11), (0, .ref k), (1, .ref o), (2, .int a1), (3, .int a2)] → va_P D vwCl [(k, .inr (1, [.ref k0, .ref k1, .int c2, .int c3])), (k0, .inl (cI, 5409, .inl g103_k0)), (k1, .inl (cI, 8, .inl c1)), (o, .inr (6, [.ref o0, .ref o1, .ref o2])), (o1, .inl (cI, 4, .inl d1)), (o2, .inl (cI, 144, .inl d2))] H → va_D A [(k, .inr (1, [.ref k0, .ref k1, .int c2, .int c3])), (k0, .inl (cI, 5409, .inl g103_k0)), (k1, .inl (cI, 8, .inl c1)), (o, .inr (6, [.ref o0, .ref o1, .ref o2])), (o1, .inl (cI, 4, .inl d1)), (o2, .inl (cI, 144, .inl d2))] → va_S A s.heap H locs → W p l e ({ frames := 5, cells := 0, slots := 0, locals := 114 } : Room) s m args below meth c H locs 0 0 Q (F0 m 103 ls []) := by
                      intro fu_; induction fu_ with
                      | zero => intro l103_9 g103_k0 i103_0 hm; exact absurd hm (by omega)
                      | succ fu_ ih103 =>
                          intro l103_9 g103_k0 i103_0 hm ls H locs hl hP hD hS
                          have lo_l103_9 := k_lo l103_9
                          have hi_l103_9 := k_hi l103_9
                          refine lv_iload hx hb dX1_pack_103 (lv_at hl 0 rfl) ?_
                          refine lv_iload_n hx hb dX1_pack_105 rfl (lv_at hl 9 rfl) ?_
                          refine b_icmp_gt hx hb rfl rfl (tgt := 151) dX1_pack_106 (by decide +kernel) (fun c_38 => ?_) (fun c_38 => ?_)
                          · obtain ⟨v_39, ev_39⟩ : ∃ y : Int32, y = l58_5 + (-1) := ⟨_, rfl⟩
                            have tv_39 : v_39.toInt = l58_5.toInt + (-1) := by rw [ev_39]; exact k_addv rfl zl_m1 (by omega) (by omega)
                            refine lv_iinc (v := v_39) (lv' := [(5, .int v_39), (9, .int l103_9), (8, .int r_34), (7, .int r_28), (6, .int r_22), (4, .int v_11), (0, .ref k), (1, .ref o), (2, .int a1), (3, .int a2)]) hx hb dX1_pack_151 hl (k := 4) rfl (by rw [ev_39]; rfl) (by decide +kernel) rfl ?_
                            clear hl
                            intro ls hl
                            refine lv_goto (tgt := 58) hx hb dX1_pack_154 (by decide +kernel) ?_
                            exact ih58 v_39 g103_k0 (by first | omega | decide | assumption | rfl) (by omega) ls _ _ (lv_sub hl [0, 5, 6, 7, 8, 9] rfl) (hP.sub [0, 1, 2, 5, 3, 4] rfl) (hD.sub [0, 1, 2, 5, 3, 4] (by decide +kernel) rfl) hS
                          · refine lv_iload hx hb dX1_pack_109 (lv_at hl 0 rfl) ?_
                            refine lv_sipush (v := 601) hx hb dX1_pack_111 (by decide +kernel) ?_
                            refine b_icmp_ge hx hb rfl zl_601 (tgt := 151) dX1_pack_114 (by decide +kernel) (fun c_40 => ?_) (fun c_40 => ?_)
                            · obtain ⟨v_41, ev_41⟩ : ∃ y : Int32, y = l58_5 + (-1) := ⟨_, rfl⟩
                              have tv_41 : v_41.toInt = l58_5.toInt + (-1) := by rw [ev_41]; exact k_addv rfl zl_m1 (by omega) (by omega)
                              refine lv_iinc (v := v_41) (lv' := [(5, .int v_41), (9, .int l103_9), (8, .int r_34), (7, .int r_28), (6, .int r_22), (4, .int v_11), (0, .ref k), (1, .ref o), (2, .int a1), (3, .int a2)]) hx hb dX1_pack_151 hl (k := 4) rfl (by rw [ev_41]; rfl) (by decide +kernel) rfl ?_
                              clear hl
                              intro ls hl
                              refine lv_goto (tgt := 58) hx hb dX1_pack_154 (by decide +kernel) ?_
                              exact ih58 v_41 g103_k0 (by first | omega | decide | assumption | rfl) (by omega) ls _ _ (lv_sub hl [0, 5, 6, 7, 8, 9] rfl) (hP.sub [0, 1, 2, 5, 3, 4] rfl) (hD.sub [0, 1, 2, 5, 3, 4] (by decide +kernel) rfl) hS
                            · refine lv_aload_n hx hb dX1_pack_117 rfl (lv_at hl 6 rfl) ?_
                              refine va_get (D := D) (ci := 1) (v := .ref k0) (C := RX1) (T := TX1) (N := 4) hx hb hT giX1 hown hK hP 0 rfl rfl 0 (by decide +kernel) (hT (Cond.fieldLink RX1 9 "DesertWire$Loads" "best" "[I") mw_224) (fun _ h9 => h9) rfl dX1_pack_118 ?_
                              refine lv_iload hx hb dX1_pack_121 (lv_at hl 4 rfl) ?_
                              refine lv_sipush (v := 601) hx hb dX1_pack_123 (by decide +kernel) ?_
                              refine lv_imul hx hb dX1_pack_126 ?_
                              refine lv_topi (fun v_42 ev_42 => ?_)
                              have tv_42 : v_42.toInt = l58_5.toInt * 601 := by rw [ev_42]; exact k_mulv rfl zl_601 (by omega) (by omega)
                              refine lv_iload hx hb dX1_pack_127 (lv_at hl 0 rfl) ?_
                              refine lv_iadd hx hb dX1_pack_129 ?_
                              refine lv_topi (fun v_43 ev_43 => ?_)
                              have tv_43 : v_43.toInt = v_42.toInt + l103_9.toInt := by rw [ev_43]; exact k_addv rfl rfl (by omega) (by omega)
                              refine lv_aload_n hx hb dX1_pack_130 rfl (lv_at hl 6 rfl) ?_
                              refine lv_iload hx hb dX1_pack_131 (lv_at hl 4 rfl) ?_
                              refine lv_iload hx hb dX1_pack_133 (lv_at hl 0 rfl) ?_
                              refine lv_iload hx hb dX1_pack_135 (lv_at hl 3 rfl) ?_
                              refine lv_iload hx hb dX1_pack_137 (lv_at hl 2 rfl) ?_
                              refine lv_iload hx hb dX1_pack_139 (lv_at hl 1 rfl) ?_
                              refine kJi (wr := [(k1, .inl (cI, 8, .inl c1)), (o, .inr (6, [.ref o0, .ref o1, .ref o2])), (o1, .inl (cI, 4, .inl d1)), (o2, .inl (cI, 144, .inl d2))]) (va_runV (As := [.int l58_5, .int l103_9, .int r_22, .int r_28, .int r_34]) (rest := [.int v_43, .ref k0]) ⟨hx, hb, hml, hown, hT⟩ (c_X1_bestWithG l D cI aK aV k k0 k1 H.size c2 c3 g103_k0 l58_5 l103_9 r_22 r_28 r_34 (by first | omega | decide | assumption | rfl)) (cwV 5 hT (gV_in mw_897 mw_894 mw_896 mw_p2_9 mw_8) rfl rfl rfl (by decide +kernel) ⟨Nat.le_of_ble_eq_true rfl, Nat.le_of_ble_eq_true rfl⟩) (kRecvX (q0 := 0) (ci := 1) hK hP hD hN hXS hS hA rfl rfl [0, 1] rfl (by decide +kernel)) rfl rfl hl.1 rfl (lv_room (Nat.le_of_ble_eq_true rfl)) dX1_pack_141 ⟨Nat.le_of_ble_eq_true rfl, Nat.le_of_ble_eq_true rfl⟩) hP hD hS hA [0, 1] [2, 3, 4, 5] rfl rfl (by decide +kernel) (by decide +kernel) ?_
                              clear hP hD hS
                              intro r_44 u_46 H locs w_45 hP hD hS
                              replace hP : va_P D vwCl [(k1, .inl (cI, 8, .inl c1)), (o, .inr (6, [.ref o0, .ref o1, .ref o2])), (o1, .inl (cI, 4, .inl d1)), (o2, .inl (cI, 144, .inl d2)), (k, .inr (1, [.ref k0, .ref k1, .int c2, .int c3])), (k0, .inl (cI, 5409, .inl g103_k0))] H := hP
                              replace hD : va_D A [(k1, .inl (cI, 8, .inl c1)), (o, .inr (6, [.ref o0, .ref o1, .ref o2])), (o1, .inl (cI, 4, .inl d1)), (o2, .inl (cI, 144, .inl d2)), (k, .inr (1, [.ref k0, .ref k1, .int c2, .int c3])), (k0, .inl (cI, 5409, .inl g103_k0))] := hD
                              have lo_r_44 := k_lo r_44
                              have hi_r_44 := k_hi r_44
                              refine va_iast hx hb hK hP hD hS 5 0 rfl rfl (k_in (by omega) (by omega)) dX1_pack_144 ?_
                              clear hP hD hS
                              intro H locs hP hD hS
                              replace hP : va_P D vwCl [(k1, .inl (cI, 8, .inl c1)), (o, .inr (6, [.ref o0, .ref o1, .ref o2])), (o1, .inl (cI, 4, .inl d1)), (o2, .inl (cI, 144, .inl d2)), (k, .inr (1, [.ref k0, .ref k1, .int c2, .int c3])), (k0, .inl (cI, 5409, .inl (upd g103_k0 v_43.toNatClampNeg r_44)))] H := hP
                              replace hD : va_D A [(k1, .inl (cI, 8, .inl c1)), (o, .inr (6, [.ref o0, .ref o1, .ref o2])), (o1, .inl (cI, 4, .inl d1)), (o2, .inl (cI, 144, .inl d2)), (k, .inr (1, [.ref k0, .ref k1, .int c2, .int c3])), (k0, .inl (cI, 5409, .inl (upd g103_k0 v_43.toNatClampNeg r_44)))] := hD
                              obtain ⟨f_47, ef_47⟩ : ∃ g : Nat → Int32, g = upd g103_k0 v_43.toNatClampNeg r_44 := ⟨_, rfl⟩
                              rw [← ef_47] at hP hD
                              obtain ⟨v_48, ev_48⟩ : ∃ y : Int32, y = l103_9 + 1 := ⟨_, rfl⟩
                              have tv_48 : v_48.toInt = l103_9.toInt + 1 := by rw [ev_48]; exact k_addv rfl zl_1 (by omega) (by omega)
                              refine lv_iinc (v := v_48) (lv' := [(9, .int v_48), (8, .int r_34), (7, .int r_28), (6, .int r_22), (5, .int l58_5), (4, .int v_11), (0, .ref k), (1, .ref o), (2, .int a1), (3, .int a2)]) hx hb dX1_pack_145 hl (k := 0) rfl (by rw [ev_48]; rfl) (by decide +kernel) rfl ?_
                              clear hl
                              intro ls hl
                              refine lv_goto (tgt := 103) hx hb dX1_pack_148 (by decide +kernel) ?_
                              exact ih103 v_48 f_47 (by first | omega | decide | assumption | rfl) (by omega) ls _ _ (lv_sub hl [0, 1, 2, 3, 4, 5, 6, 7, 8, 9] rfl) (hP.sub [4, 5, 0, 1, 2, 3] rfl) (hD.sub [4, 5, 0, 1, 2, 3] (by decide +kernel) rfl) hS
                    exact hloop_103 _ 0 g58_k0 (by first | omega | (simp only [zl_0]; first | done | omega) | decide | assumption | rfl) (Nat.lt_succ_self _) ls _ _ (lv_sub hl [0, 1, 2, 3, 4, 5, 6, 7, 8, 9] rfl) hP hD hS
            exact hloop_58 _ v_13 g17_k0 (by first | omega | decide | assumption | rfl) (Nat.lt_succ_self _) ls _ _ (lv_sub hl [0, 1, 2, 3, 4, 5] rfl) hP hD hS
          · refine lv_iload hx hb dX1_pack_23 (lv_at hl 0 rfl) ?_
            refine lv_sipush (v := 601) hx hb dX1_pack_25 (by decide +kernel) ?_
            refine b_icmp_ge hx hb rfl zl_601 (tgt := 52) dX1_pack_28 (by decide +kernel) (fun c_49 => ?_) (fun c_49 => ?_)
            · refine lv_iload hx hb dX1_pack_52 (lv_at hl 1 rfl) ?_
              refine lv_iconst (v := 1) hx hb dX1_pack_54 (by decide +kernel) ?_
              refine lv_isub hx hb dX1_pack_55 ?_
              refine lv_topi (fun v_50 ev_50 => ?_)
              have tv_50 : v_50.toInt = v_11.toInt - 1 := by rw [ev_50]; exact k_subv rfl zl_1 (by omega) (by omega)
              refine lv_istore (lv' := [(5, .int v_50), (4, .int v_11), (0, .ref k), (1, .ref o), (2, .int a1), (3, .int a2)]) hx hb dX1_pack_56 hl (by decide +kernel) rfl ?_
              clear hl
              intro ls hl
              have hloop_58 : ∀ (fu_ : Nat) (l58_5 : Int32) (g58_k0 : Nat → Int32), l58_5.toInt ≤ v_50.toInt → (l58_5.toInt + 1 - 0).toNat < fu_ → ∀ (ls : Array Slot) (H : Heap) (locs : List Loc), lv_has ls 10 [(5, .int l58_5), (4, .int v_11), (0, .ref k), (1, .ref o), (2, .int a1), (3, .int a2)] → va_P D vwCl [(k, .inr (1, [.ref k0, .ref k1, .int c2, .int c3])), (k0, .inl (cI, 5409, .inl g58_k0)), (k1, .inl (cI, 8, .inl c1)), (o2, .inl (cI, 144, .inl d2)), (o, .inr (6, [.ref o0, .ref o1, .ref o2])), (o1, .inl (cI, 4, .inl d1))] H → va_D A [(k, .inr (1, [.ref k0, .ref k1, .int c2, .int c3])), (k0, .inl (cI, 5409, .inl g58_k0)), (k1, .inl (cI, 8, .inl c1)), (o2, .inl (cI, 144, .inl d2)), (o, .inr (6, [.ref o0, .ref o1, .ref o2])), (o1, .inl (cI, 4, .inl d1))] → va_S A s.heap H locs → W p l e ({ frames := 5, cells := 0, slots := 0, locals := 114 } : Room) s m args below meth c H locs 0 0 Q (F0 m 58 ls []) := by
                intro fu_; induction fu_ with
                | zero => intro l58_5 g58_k0 i58_0 hm; exact absurd hm (by omega)
                | succ fu_ ih58 =>
                    intro l58_5 g58_k0 i58_0 hm ls H locs hl hP hD hS
                    have lo_l58_5 := k_lo l58_5
                    have hi_l58_5 := k_hi l58_5
                    refine lv_iload hx hb dX1_pack_58 (lv_at hl 0 rfl) ?_
                    refine b_if_lt hx hb rfl (tgt := 157) dX1_pack_60 (by decide +kernel) (fun c_51 => ?_) (fun c_51 => ?_)
                    · refine lv_aload_n hx hb dX1_pack_157 rfl (lv_at hl 2 rfl) ?_
                      refine lv_aload_n hx hb dX1_pack_158 rfl (lv_at hl 3 rfl) ?_
                      refine lv_iload_n hx hb dX1_pack_159 rfl (lv_at hl 4 rfl) ?_
                      refine lv_iload hx hb dX1_pack_160 (lv_at hl 1 rfl) ?_
                      refine lv_iload_n hx hb dX1_pack_162 rfl (lv_at hl 5 rfl) ?_
                      refine kJv (wr := []) (va_runV (As := [.ref o, .int a1, .int v_11, .int a2]) (rest := []) ⟨hx, hb, hml, hown, hT⟩ (c_X1_chooseG l D cI aK aV k o k0 k1 o0 o1 o2 H.size c2 c3 g58_k0 c1 d1 d2 a1 v_11 a2 (by first | omega | decide | assumption | rfl)) (cwV 4 hT (gV_in mw_907 mw_904 mw_906 mw_p2_11 mw_8) rfl rfl rfl (by decide +kernel) ⟨Nat.le_of_ble_eq_true rfl, Nat.le_of_ble_eq_true rfl⟩) (kRecvX (q0 := 0) (ci := 1) hK hP hD hN hXS hS hA rfl rfl [0, 1, 2, 4, 5, 3] rfl (by decide +kernel)) rfl rfl hl.1 rfl (lv_room (Nat.le_of_ble_eq_true rfl)) dX1_pack_163 ⟨Nat.le_of_ble_eq_true rfl, Nat.le_of_ble_eq_true rfl⟩) hP hD hS hA [0, 1, 2, 4, 5, 3] [] rfl rfl (by decide +kernel) (by decide +kernel) ?_
                      clear hP hD hS
                      intro u_57 H locs w_53 hP hD hS
                      obtain ⟨sc2_54, sc3_55, sc1_56⟩ := u_57
                      replace hP : va_P D vwCl [(k, .inr (1, [.ref k0, .ref k1, .int sc2_54, .int sc3_55])), (k0, .inl (cI, 5409, .inl g58_k0)), (k1, .inl (cI, 8, .inl sc1_56)), (o, .inr (6, [.ref o0, .ref o1, .ref o2])), (o1, .inl (cI, 4, .inl d1)), (o2, .inl (cI, 144, .inl d2))] H := hP
                      replace hD : va_D A [(k, .inr (1, [.ref k0, .ref k1, .int sc2_54, .int sc3_55])), (k0, .inl (cI, 5409, .inl g58_k0)), (k1, .inl (cI, 8, .inl sc1_56)), (o, .inr (6, [.ref o0, .ref o1, .ref o2])), (o1, .inl (cI, 4, .inl d1)), (o2, .inl (cI, 144, .inl d2))] := hD
                      exact hRet (sc2_54, sc3_55, g58_k0, sc1_56) [0, 1, 2, 3, 4, 5] trivial hP hD (by decide +kernel) rfl hS dX1_pack_166
                    · refine lv_aload_n hx hb dX1_pack_63 rfl (lv_at hl 3 rfl) ?_
                      refine lv_iload_n hx hb dX1_pack_64 rfl (lv_at hl 4 rfl) ?_
                      refine lv_iconst (v := 3) hx hb dX1_pack_65 (by decide +kernel) ?_
                      refine lv_iload hx hb dX1_pack_66 (lv_at hl 0 rfl) ?_
                      refine lv_imul hx hb dX1_pack_68 ?_
                      refine lv_topi (fun v_58 ev_58 => ?_)
                      have tv_58 : v_58.toInt = 3 * l58_5.toInt := by rw [ev_58]; exact k_mulv zl_3 rfl (by omega) (by omega)
                      refine kJi (wr := [(k, .inr (1, [.ref k0, .ref k1, .int c2, .int c3])), (k0, .inl (cI, 5409, .inl g58_k0)), (k1, .inl (cI, 8, .inl c1))]) (va_runV (As := [.int a1, .int v_58]) (rest := []) ⟨hx, hb, hml, hown, hT⟩ (c_X6_numberAtG l D cI aK aV o o0 o1 o2 H.size d1 d2 a1 v_58 (by first | omega | decide | assumption | rfl)) (cwV 2 hT (gV_in mw_684 mw_893 mw_682 mw_683 mw_11) rfl rfl rfl (by decide +kernel) ⟨Nat.le_of_ble_eq_true rfl, Nat.le_of_ble_eq_true rfl⟩) (kRecvX (q0 := 4) (ci := 6) hK hP hD hN hXS hS hA rfl rfl [4, 5, 3] rfl (by decide +kernel)) rfl rfl hl.1 rfl (lv_room (Nat.le_of_ble_eq_true rfl)) dX1_pack_69 ⟨Nat.le_of_ble_eq_true rfl, Nat.le_of_ble_eq_true rfl⟩) hP hD hS hA [4, 5, 3] [0, 1, 2] rfl rfl (by decide +kernel) (by decide +kernel) ?_
                      clear hP hD hS
                      intro r_59 u_61 H locs w_60 hP hD hS
                      replace hP : va_P D vwCl [(k, .inr (1, [.ref k0, .ref k1, .int c2, .int c3])), (k0, .inl (cI, 5409, .inl g58_k0)), (k1, .inl (cI, 8, .inl c1)), (o, .inr (6, [.ref o0, .ref o1, .ref o2])), (o1, .inl (cI, 4, .inl d1)), (o2, .inl (cI, 144, .inl d2))] H := hP
                      replace hD : va_D A [(k, .inr (1, [.ref k0, .ref k1, .int c2, .int c3])), (k0, .inl (cI, 5409, .inl g58_k0)), (k1, .inl (cI, 8, .inl c1)), (o, .inr (6, [.ref o0, .ref o1, .ref o2])), (o1, .inl (cI, 4, .inl d1)), (o2, .inl (cI, 144, .inl d2))] := hD
                      have h_62 := w_60
                      have h_62 : r_59 = kNum d1 d2 a1 v_58 := h_62
                      have lo_r_59 := k_lo r_59
                      have hi_r_59 := k_hi r_59
                      refine lv_istore (lv' := [(6, .int r_59), (5, .int l58_5), (4, .int v_11), (0, .ref k), (1, .ref o), (2, .int a1), (3, .int a2)]) hx hb dX1_pack_72 hl (by decide +kernel) rfl ?_
                      clear hl
                      intro ls hl
                      refine lv_aload_n hx hb dX1_pack_74 rfl (lv_at hl 4 rfl) ?_
                      refine lv_iload_n hx hb dX1_pack_75 rfl (lv_at hl 5 rfl) ?_
                      refine lv_iconst (v := 3) hx hb dX1_pack_76 (by decide +kernel) ?_
                      refine lv_iload hx hb dX1_pack_77 (lv_at hl 1 rfl) ?_
                      refine lv_imul hx hb dX1_pack_79 ?_
                      refine lv_topi (fun v_63 ev_63 => ?_)
                      have tv_63 : v_63.toInt = 3 * l58_5.toInt := by rw [ev_63]; exact k_mulv zl_3 rfl (by omega) (by omega)
                      refine lv_iconst (v := 1) hx hb dX1_pack_80 (by decide +kernel) ?_
                      refine lv_iadd hx hb dX1_pack_81 ?_
                      refine lv_topi (fun v_64 ev_64 => ?_)
                      have tv_64 : v_64.toInt = v_63.toInt + 1 := by rw [ev_64]; exact k_addv rfl zl_1 (by omega) (by omega)
                      refine kJi (wr := [(k, .inr (1, [.ref k0, .ref k1, .int c2, .int c3])), (k0, .inl (cI, 5409, .inl g58_k0)), (k1, .inl (cI, 8, .inl c1))]) (va_runV (As := [.int a1, .int v_64]) (rest := []) ⟨hx, hb, hml, hown, hT⟩ (c_X6_numberAtG l D cI aK aV o o0 o1 o2 H.size d1 d2 a1 v_64 (by first | omega | decide | assumption | rfl)) (cwV 2 hT (gV_in mw_684 mw_893 mw_682 mw_683 mw_11) rfl rfl rfl (by decide +kernel) ⟨Nat.le_of_ble_eq_true rfl, Nat.le_of_ble_eq_true rfl⟩) (kRecvX (q0 := 3) (ci := 6) hK hP hD hN hXS hS hA rfl rfl [3, 4, 5] rfl (by decide +kernel)) rfl rfl hl.1 rfl (lv_room (Nat.le_of_ble_eq_true rfl)) dX1_pack_82 ⟨Nat.le_of_ble_eq_true rfl, Nat.le_of_ble_eq_true rfl⟩) hP hD hS hA [3, 4, 5] [0, 1, 2] rfl rfl (by decide +kernel) (by decide +kernel) ?_
                      clear hP hD hS
                      intro r_65 u_67 H locs w_66 hP hD hS
                      replace hP : va_P D vwCl [(k, .inr (1, [.ref k0, .ref k1, .int c2, .int c3])), (k0, .inl (cI, 5409, .inl g58_k0)), (k1, .inl (cI, 8, .inl c1)), (o, .inr (6, [.ref o0, .ref o1, .ref o2])), (o1, .inl (cI, 4, .inl d1)), (o2, .inl (cI, 144, .inl d2))] H := hP
                      replace hD : va_D A [(k, .inr (1, [.ref k0, .ref k1, .int c2, .int c3])), (k0, .inl (cI, 5409, .inl g58_k0)), (k1, .inl (cI, 8, .inl c1)), (o, .inr (6, [.ref o0, .ref o1, .ref o2])), (o1, .inl (cI, 4, .inl d1)), (o2, .inl (cI, 144, .inl d2))] := hD
                      have h_68 := w_66
                      have h_68 : r_65 = kNum d1 d2 a1 v_64 := h_68
                      have lo_r_65 := k_lo r_65
                      have hi_r_65 := k_hi r_65
                      refine lv_istore (lv' := [(7, .int r_65), (6, .int r_59), (5, .int l58_5), (4, .int v_11), (0, .ref k), (1, .ref o), (2, .int a1), (3, .int a2)]) hx hb dX1_pack_85 hl (by decide +kernel) rfl ?_
                      clear hl
                      intro ls hl
                      refine lv_aload_n hx hb dX1_pack_87 rfl (lv_at hl 5 rfl) ?_
                      refine lv_iload_n hx hb dX1_pack_88 rfl (lv_at hl 6 rfl) ?_
                      refine lv_iconst (v := 3) hx hb dX1_pack_89 (by decide +kernel) ?_
                      refine lv_iload hx hb dX1_pack_90 (lv_at hl 2 rfl) ?_
                      refine lv_imul hx hb dX1_pack_92 ?_
                      refine lv_topi (fun v_69 ev_69 => ?_)
                      have tv_69 : v_69.toInt = 3 * l58_5.toInt := by rw [ev_69]; exact k_mulv zl_3 rfl (by omega) (by omega)
                      refine lv_iconst (v := 2) hx hb dX1_pack_93 (by decide +kernel) ?_
                      refine lv_iadd hx hb dX1_pack_94 ?_
                      refine lv_topi (fun v_70 ev_70 => ?_)
                      have tv_70 : v_70.toInt = v_69.toInt + 2 := by rw [ev_70]; exact k_addv rfl zl_2 (by omega) (by omega)
                      refine kJi (wr := [(k, .inr (1, [.ref k0, .ref k1, .int c2, .int c3])), (k0, .inl (cI, 5409, .inl g58_k0)), (k1, .inl (cI, 8, .inl c1))]) (va_runV (As := [.int a1, .int v_70]) (rest := []) ⟨hx, hb, hml, hown, hT⟩ (c_X6_numberAtT l D cI aK aV o o0 o1 o2 H.size d1 d2 a1 v_70 (by first | omega | decide | assumption | rfl) (by first | omega | decide | assumption | rfl) (by first | omega | decide | assumption | rfl)) (cwV 2 hT (gV_in mw_684 mw_893 mw_682 mw_683 mw_11) rfl rfl rfl (by decide +kernel) ⟨Nat.le_of_ble_eq_true rfl, Nat.le_of_ble_eq_true rfl⟩) (kRecvX (q0 := 3) (ci := 6) hK hP hD hN hXS hS hA rfl rfl [3, 4, 5] rfl (by decide +kernel)) rfl rfl hl.1 rfl (lv_room (Nat.le_of_ble_eq_true rfl)) dX1_pack_95 ⟨Nat.le_of_ble_eq_true rfl, Nat.le_of_ble_eq_true rfl⟩) hP hD hS hA [3, 4, 5] [0, 1, 2] rfl rfl (by decide +kernel) (by decide +kernel) ?_
                      clear hP hD hS
                      intro r_71 u_73 H locs w_72 hP hD hS
                      replace hP : va_P D vwCl [(k, .inr (1, [.ref k0, .ref k1, .int c2, .int c3])), (k0, .inl (cI, 5409, .inl g58_k0)), (k1, .inl (cI, 8, .inl c1)), (o, .inr (6, [.ref o0, .ref o1, .ref o2])), (o1, .inl (cI, 4, .inl d1)), (o2, .inl (cI, 144, .inl d2))] H := hP
                      replace hD : va_D A [(k, .inr (1, [.ref k0, .ref k1, .int c2, .int c3])), (k0, .inl (cI, 5409, .inl g58_k0)), (k1, .inl (cI, 8, .inl c1)), (o, .inr (6, [.ref o0, .ref o1, .ref o2])), (o1, .inl (cI, 4, .inl d1)), (o2, .inl (cI, 144, .inl d2))] := hD
                      have h_74 := w_72
                      have h_74 : r_71.toInt ≤ 3 := h_74
                      have lo_r_71 := k_lo r_71
                      have hi_r_71 := k_hi r_71
                      refine lv_istore (lv' := [(8, .int r_71), (7, .int r_65), (6, .int r_59), (5, .int l58_5), (4, .int v_11), (0, .ref k), (1, .ref o), (2, .int a1), (3, .int a2)]) hx hb dX1_pack_98 hl (by decide +kernel) rfl ?_
                      clear hl
                      intro ls hl
                      refine lv_iconst (v := 0) hx hb dX1_pack_100 (by decide +kernel) ?_
                      refine lv_istore (lv' := [(9, .int 0), (8, .int r_71), (7, .int r_65), (6, .int r_59), (5, .int l58_5), (4, .int v_11), (0, .ref k), (1, .ref o), (2, .int a1), (3, .int a2)]) hx hb dX1_pack_101 hl (by decide +kernel) rfl ?_
                      clear hl
                      intro ls hl
                      have hloop_103 : ∀ (fu_ : Nat) (l103_9 : Int32) (g103_k0 : Nat → Int32), 0 ≤ l103_9.toInt → (a2.toInt + 1 - l103_9.toInt).toNat < fu_ → ∀ (ls : Array Slot) (H : Heap) (locs : List Loc), lv_has ls 10 [(9, .int l103_9), (8, .int r_71), (7, .int r_65), (6, .int r_59), (5, .int l58_5), (4, .int v_11), (0, .ref k), (1, .ref o), (2, .int a1), (3, .int a2)] → va_P D vwCl [(k, .inr (1, [.ref k0, .ref k1, .int c2, .int c3])), (k0, .inl (cI, 5409, .inl g103_k0)), (k1, .inl (cI, 8, .inl c1)), (o, .inr (6, [.ref o0, .ref o1, .ref o2])), (o1, .inl (cI, 4, .inl d1)), (o2, .inl (cI, 144, .inl d2))] H → va_D A [(k, .inr (1, [.ref k0, .ref k1, .int c2, .int c3])), (k0, .inl (cI, 5409, .inl g103_k0)), (k1, .inl (cI, 8, .inl c1)), (o, .inr (6, [.ref o0, .ref o1, .ref o2])), (o1, .inl (cI, 4, .inl d1)), (o2, .inl (cI, 144, .inl d2))] → va_S A s.heap H locs → W p l e ({ frames := 5, cells := 0, slots := 0, locals := 114 } : Room) s m args below meth c H locs 0 0 Q (F0 m 103 ls []) := by
                        intro fu_; induction fu_ with
                        | zero => intro l103_9 g103_k0 i103_0 hm; exact absurd hm (by omega)
                        | succ fu_ ih103 =>
                            intro l103_9 g103_k0 i103_0 hm ls H locs hl hP hD hS
                            have lo_l103_9 := k_lo l103_9
                            have hi_l103_9 := k_hi l103_9
                            refine lv_iload hx hb dX1_pack_103 (lv_at hl 0 rfl) ?_
                            refine lv_iload_n hx hb dX1_pack_105 rfl (lv_at hl 9 rfl) ?_
                            refine b_icmp_gt hx hb rfl rfl (tgt := 151) dX1_pack_106 (by decide +kernel) (fun c_75 => ?_) (fun c_75 => ?_)
                            · obtain ⟨v_76, ev_76⟩ : ∃ y : Int32, y = l58_5 + (-1) := ⟨_, rfl⟩
                              have tv_76 : v_76.toInt = l58_5.toInt + (-1) := by rw [ev_76]; exact k_addv rfl zl_m1 (by omega) (by omega)
                              refine lv_iinc (v := v_76) (lv' := [(5, .int v_76), (9, .int l103_9), (8, .int r_71), (7, .int r_65), (6, .int r_59), (4, .int v_11), (0, .ref k), (1, .ref o), (2, .int a1), (3, .int a2)]) hx hb dX1_pack_151 hl (k := 4) rfl (by rw [ev_76]; rfl) (by decide +kernel) rfl ?_
                              clear hl
                              intro ls hl
                              refine lv_goto (tgt := 58) hx hb dX1_pack_154 (by decide +kernel) ?_
                              exact ih58 v_76 g103_k0 (by first | omega | decide | assumption | rfl) (by omega) ls _ _ (lv_sub hl [0, 5, 6, 7, 8, 9] rfl) (hP.sub [0, 1, 2, 5, 3, 4] rfl) (hD.sub [0, 1, 2, 5, 3, 4] (by decide +kernel) rfl) hS
                            · refine lv_iload hx hb dX1_pack_109 (lv_at hl 0 rfl) ?_
                              refine lv_sipush (v := 601) hx hb dX1_pack_111 (by decide +kernel) ?_
                              refine b_icmp_ge hx hb rfl zl_601 (tgt := 151) dX1_pack_114 (by decide +kernel) (fun c_77 => ?_) (fun c_77 => ?_)
                              · obtain ⟨v_78, ev_78⟩ : ∃ y : Int32, y = l58_5 + (-1) := ⟨_, rfl⟩
                                have tv_78 : v_78.toInt = l58_5.toInt + (-1) := by rw [ev_78]; exact k_addv rfl zl_m1 (by omega) (by omega)
                                refine lv_iinc (v := v_78) (lv' := [(5, .int v_78), (9, .int l103_9), (8, .int r_71), (7, .int r_65), (6, .int r_59), (4, .int v_11), (0, .ref k), (1, .ref o), (2, .int a1), (3, .int a2)]) hx hb dX1_pack_151 hl (k := 4) rfl (by rw [ev_78]; rfl) (by decide +kernel) rfl ?_
                                clear hl
                                intro ls hl
                                refine lv_goto (tgt := 58) hx hb dX1_pack_154 (by decide +kernel) ?_
                                exact ih58 v_78 g103_k0 (by first | omega | decide | assumption | rfl) (by omega) ls _ _ (lv_sub hl [0, 5, 6, 7, 8, 9] rfl) (hP.sub [0, 1, 2, 5, 3, 4] rfl) (hD.sub [0, 1, 2, 5, 3, 4] (by decide +kernel) rfl) hS
                              · refine lv_aload_n hx hb dX1_pack_117 rfl (lv_at hl 6 rfl) ?_
                                refine va_get (D := D) (ci := 1) (v := .ref k0) (C := RX1) (T := TX1) (N := 4) hx hb hT giX1 hown hK hP 0 rfl rfl 0 (by decide +kernel) (hT (Cond.fieldLink RX1 9 "DesertWire$Loads" "best" "[I") mw_224) (fun _ h9 => h9) rfl dX1_pack_118 ?_
                                refine lv_iload hx hb dX1_pack_121 (lv_at hl 4 rfl) ?_
                                refine lv_sipush (v := 601) hx hb dX1_pack_123 (by decide +kernel) ?_
                                refine lv_imul hx hb dX1_pack_126 ?_
                                refine lv_topi (fun v_79 ev_79 => ?_)
                                have tv_79 : v_79.toInt = l58_5.toInt * 601 := by rw [ev_79]; exact k_mulv rfl zl_601 (by omega) (by omega)
                                refine lv_iload hx hb dX1_pack_127 (lv_at hl 0 rfl) ?_
                                refine lv_iadd hx hb dX1_pack_129 ?_
                                refine lv_topi (fun v_80 ev_80 => ?_)
                                have tv_80 : v_80.toInt = v_79.toInt + l103_9.toInt := by rw [ev_80]; exact k_addv rfl rfl (by omega) (by omega)
                                refine lv_aload_n hx hb dX1_pack_130 rfl (lv_at hl 6 rfl) ?_
                                refine lv_iload hx hb dX1_pack_131 (lv_at hl 4 rfl) ?_
                                refine lv_iload hx hb dX1_pack_133 (lv_at hl 0 rfl) ?_
                                refine lv_iload hx hb dX1_pack_135 (lv_at hl 3 rfl) ?_
                                refine lv_iload hx hb dX1_pack_137 (lv_at hl 2 rfl) ?_
                                refine lv_iload hx hb dX1_pack_139 (lv_at hl 1 rfl) ?_
                                refine kJi (wr := [(k1, .inl (cI, 8, .inl c1)), (o, .inr (6, [.ref o0, .ref o1, .ref o2])), (o1, .inl (cI, 4, .inl d1)), (o2, .inl (cI, 144, .inl d2))]) (va_runV (As := [.int l58_5, .int l103_9, .int r_59, .int r_65, .int r_71]) (rest := [.int v_80, .ref k0]) ⟨hx, hb, hml, hown, hT⟩ (c_X1_bestWithG l D cI aK aV k k0 k1 H.size c2 c3 g103_k0 l58_5 l103_9 r_59 r_65 r_71 (by first | omega | decide | assumption | rfl)) (cwV 5 hT (gV_in mw_897 mw_894 mw_896 mw_p2_9 mw_8) rfl rfl rfl (by decide +kernel) ⟨Nat.le_of_ble_eq_true rfl, Nat.le_of_ble_eq_true rfl⟩) (kRecvX (q0 := 0) (ci := 1) hK hP hD hN hXS hS hA rfl rfl [0, 1] rfl (by decide +kernel)) rfl rfl hl.1 rfl (lv_room (Nat.le_of_ble_eq_true rfl)) dX1_pack_141 ⟨Nat.le_of_ble_eq_true rfl, Nat.le_of_ble_eq_true rfl⟩) hP hD hS hA [0, 1] [2, 3, 4, 5] rfl rfl (by decide +kernel) (by decide +kernel) ?_
                                clear hP hD hS
                                intro r_81 u_83 H locs w_82 hP hD hS
                                replace hP : va_P D vwCl [(k1, .inl (cI, 8, .inl c1)), (o, .inr (6, [.ref o0, .ref o1, .ref o2])), (o1, .inl (cI, 4, .inl d1)), (o2, .inl (cI, 144, .inl d2)), (k, .inr (1, [.ref k0, .ref k1, .int c2, .int c3])), (k0, .inl (cI, 5409, .inl g103_k0))] H := hP
                                replace hD : va_D A [(k1, .inl (cI, 8, .inl c1)), (o, .inr (6, [.ref o0, .ref o1, .ref o2])), (o1, .inl (cI, 4, .inl d1)), (o2, .inl (cI, 144, .inl d2)), (k, .inr (1, [.ref k0, .ref k1, .int c2, .int c3])), (k0, .inl (cI, 5409, .inl g103_k0))] := hD
                                have lo_r_81 := k_lo r_81
                                have hi_r_81 := k_hi r_81
                                refine va_iast hx hb hK hP hD hS 5 0 rfl rfl (k_in (by omega) (by omega)) dX1_pack_144 ?_
                                clear hP hD hS
                                intro H locs hP hD hS
                                replace hP : va_P D vwCl [(k1, .inl (cI, 8, .inl c1)), (o, .inr (6, [.ref o0, .ref o1, .ref o2])), (o1, .inl (cI, 4, .inl d1)), (o2, .inl (cI, 144, .inl d2)), (k, .inr (1, [.ref k0, .ref k1, .int c2, .int c3])), (k0, .inl (cI, 5409, .inl (upd g103_k0 v_80.toNatClampNeg r_81)))] H := hP
                                replace hD : va_D A [(k1, .inl (cI, 8, .inl c1)), (o, .inr (6, [.ref o0, .ref o1, .ref o2])), (o1, .inl (cI, 4, .inl d1)), (o2, .inl (cI, 144, .inl d2)), (k, .inr (1, [.ref k0, .ref k1, .int c2, .int c3])), (k0, .inl (cI, 5409, .inl (upd g103_k0 v_80.toNatClampNeg r_81)))] := hD
                                obtain ⟨f_84, ef_84⟩ : ∃ g : Nat → Int32, g = upd g103_k0 v_80.toNatClampNeg r_81 := ⟨_, rfl⟩
                                rw [← ef_84] at hP hD
                                obtain ⟨v_85, ev_85⟩ : ∃ y : Int32, y = l103_9 + 1 := ⟨_, rfl⟩
                                have tv_85 : v_85.toInt = l103_9.toInt + 1 := by rw [ev_85]; exact k_addv rfl zl_1 (by omega) (by omega)
                                refine lv_iinc (v := v_85) (lv' := [(9, .int v_85), (8, .int r_71), (7, .int r_65), (6, .int r_59), (5, .int l58_5), (4, .int v_11), (0, .ref k), (1, .ref o), (2, .int a1), (3, .int a2)]) hx hb dX1_pack_145 hl (k := 0) rfl (by rw [ev_85]; rfl) (by decide +kernel) rfl ?_
                                clear hl
                                intro ls hl
                                refine lv_goto (tgt := 103) hx hb dX1_pack_148 (by decide +kernel) ?_
                                exact ih103 v_85 f_84 (by first | omega | decide | assumption | rfl) (by omega) ls _ _ (lv_sub hl [0, 1, 2, 3, 4, 5, 6, 7, 8, 9] rfl) (hP.sub [4, 5, 0, 1, 2, 3] rfl) (hD.sub [4, 5, 0, 1, 2, 3] (by decide +kernel) rfl) hS
                      exact hloop_103 _ 0 g58_k0 (by first | omega | (simp only [zl_0]; first | done | omega) | decide | assumption | rfl) (Nat.lt_succ_self _) ls _ _ (lv_sub hl [0, 1, 2, 3, 4, 5, 6, 7, 8, 9] rfl) hP hD hS
              exact hloop_58 _ v_50 g17_k0 (by first | omega | decide | assumption | rfl) (Nat.lt_succ_self _) ls _ _ (lv_sub hl [0, 1, 2, 3, 4, 5] rfl) hP hD hS
            · refine lv_aload_n hx hb dX1_pack_31 rfl (lv_at hl 2 rfl) ?_
              refine va_get (D := D) (ci := 1) (v := .ref k0) (C := RX1) (T := TX1) (N := 4) hx hb hT giX1 hown hK hP 0 rfl rfl 0 (by decide +kernel) (hT (Cond.fieldLink RX1 9 "DesertWire$Loads" "best" "[I") mw_224) (fun _ h9 => h9) rfl dX1_pack_32 ?_
              refine lv_iload hx hb dX1_pack_35 (lv_at hl 1 rfl) ?_
              refine lv_sipush (v := 601) hx hb dX1_pack_37 (by decide +kernel) ?_
              refine lv_imul hx hb dX1_pack_40 ?_
              refine lv_topi (fun v_86 ev_86 => ?_)
              have tv_86 : v_86.toInt = v_11.toInt * 601 := by rw [ev_86]; exact k_mulv rfl zl_601 (by omega) (by omega)
              refine lv_iload hx hb dX1_pack_41 (lv_at hl 0 rfl) ?_
              refine lv_iadd hx hb dX1_pack_43 ?_
              refine lv_topi (fun v_87 ev_87 => ?_)
              have tv_87 : v_87.toInt = v_86.toInt + l17_5.toInt := by rw [ev_87]; exact k_addv rfl rfl (by omega) (by omega)
              refine lv_iconst (v := 0) hx hb dX1_pack_44 (by decide +kernel) ?_
              refine va_iast hx hb hK hP hD hS 1 0 rfl rfl (k_in (by omega) (by omega)) dX1_pack_45 ?_
              clear hP hD hS
              intro H locs hP hD hS
              replace hP : va_P D vwCl [(k, .inr (1, [.ref k0, .ref k1, .int c2, .int c3])), (k0, .inl (cI, 5409, .inl (upd g17_k0 v_87.toNatClampNeg 0))), (k1, .inl (cI, 8, .inl c1)), (o2, .inl (cI, 144, .inl d2)), (o, .inr (6, [.ref o0, .ref o1, .ref o2])), (o1, .inl (cI, 4, .inl d1))] H := hP
              replace hD : va_D A [(k, .inr (1, [.ref k0, .ref k1, .int c2, .int c3])), (k0, .inl (cI, 5409, .inl (upd g17_k0 v_87.toNatClampNeg 0))), (k1, .inl (cI, 8, .inl c1)), (o2, .inl (cI, 144, .inl d2)), (o, .inr (6, [.ref o0, .ref o1, .ref o2])), (o1, .inl (cI, 4, .inl d1))] := hD
              obtain ⟨f_88, ef_88⟩ : ∃ g : Nat → Int32, g = upd g17_k0 v_87.toNatClampNeg 0 := ⟨_, rfl⟩
              rw [← ef_88] at hP hD
              obtain ⟨v_89, ev_89⟩ : ∃ y : Int32, y = l17_5 + 1 := ⟨_, rfl⟩
              have tv_89 : v_89.toInt = l17_5.toInt + 1 := by rw [ev_89]; exact k_addv rfl zl_1 (by omega) (by omega)
              refine lv_iinc (v := v_89) (lv' := [(5, .int v_89), (4, .int v_11), (0, .ref k), (1, .ref o), (2, .int a1), (3, .int a2)]) hx hb dX1_pack_46 hl (k := 0) rfl (by rw [ev_89]; rfl) (by decide +kernel) rfl ?_
              clear hl
              intro ls hl
              refine lv_goto (tgt := 17) hx hb dX1_pack_49 (by decide +kernel) ?_
              exact ih17 v_89 f_88 (by first | omega | decide | assumption | rfl) (by omega) ls _ _ (lv_sub hl [0, 1, 2, 3, 4, 5] rfl) (hP.sub [0, 1, 2, 3, 4, 5] rfl) (hD.sub [0, 1, 2, 3, 4, 5] (by decide +kernel) rfl) hS
    exact hloop_17 _ 0 c0 (by first | omega | (simp only [zl_0]; first | done | omega) | decide | assumption | rfl) (Nat.lt_succ_self _) ls _ _ (lv_sub hl [0, 1, 2, 3, 4, 5] rfl) hP hD hS
  · have h_9 : a1.toInt < 0 ∨ 3 < a1.toInt := h_9
    obtain rfl : r_1 = 0 := hr_1.trans (by decide +kernel)
    refine lv_iconst (v := 3) hx hb dX1_pack_7 (by decide +kernel) ?_
    refine k_idiv (v := 0) hx hb dX1_pack_8 (by decide +kernel) (by decide +kernel) ?_
    refine va_mmin hx hb (hml.trans hl.1.symm) hown (hT _ mw_892) (hT _ mw_538) (hT _ mw_13) (hT _ mw_539) (Nat.le_of_ble_eq_true rfl) (Nat.le_of_ble_eq_true rfl) (Nat.le_of_ble_eq_true rfl) (Nat.le_of_ble_eq_true rfl) dX1_pack_9 ?_
    rw [show (if (0 : Int32) < 8 then (0 : Int32) else 8 : Int32) = 0 from by decide]
    refine lv_istore (lv' := [(4, .int 0), (0, .ref k), (1, .ref o), (2, .int a1), (3, .int a2)]) hx hb dX1_pack_12 hl (by decide +kernel) rfl ?_
    clear hl
    intro ls hl
    refine lv_iconst (v := 0) hx hb dX1_pack_14 (by decide +kernel) ?_
    refine lv_istore (lv' := [(5, .int 0), (4, .int 0), (0, .ref k), (1, .ref o), (2, .int a1), (3, .int a2)]) hx hb dX1_pack_15 hl (by decide +kernel) rfl ?_
    clear hl
    intro ls hl
    have hloop_17 : ∀ (fu_ : Nat) (l17_5 : Int32) (g17_k0 : Nat → Int32), 0 ≤ l17_5.toInt → (a2.toInt + 1 - l17_5.toInt).toNat < fu_ → ∀ (ls : Array Slot) (H : Heap) (locs : List Loc), lv_has ls 10 [(5, .int l17_5), (4, .int 0), (0, .ref k), (1, .ref o), (2, .int a1), (3, .int a2)] → va_P D vwCl [(k, .inr (1, [.ref k0, .ref k1, .int c2, .int c3])), (k0, .inl (cI, 5409, .inl g17_k0)), (k1, .inl (cI, 8, .inl c1)), (o2, .inl (cI, 144, .inl d2)), (o, .inr (6, [.ref o0, .ref o1, .ref o2])), (o1, .inl (cI, 4, .inl d1))] H → va_D A [(k, .inr (1, [.ref k0, .ref k1, .int c2, .int c3])), (k0, .inl (cI, 5409, .inl g17_k0)), (k1, .inl (cI, 8, .inl c1)), (o2, .inl (cI, 144, .inl d2)), (o, .inr (6, [.ref o0, .ref o1, .ref o2])), (o1, .inl (cI, 4, .inl d1))] → va_S A s.heap H locs → W p l e ({ frames := 5, cells := 0, slots := 0, locals := 114 } : Room) s m args below meth c H locs 0 0 Q (F0 m 17 ls []) := by
      intro fu_; induction fu_ with
      | zero => intro l17_5 g17_k0 i17_0 hm; exact absurd hm (by omega)
      | succ fu_ ih17 =>
          intro l17_5 g17_k0 i17_0 hm ls H locs hl hP hD hS
          have lo_l17_5 := k_lo l17_5
          have hi_l17_5 := k_hi l17_5
          refine lv_iload hx hb dX1_pack_17 (lv_at hl 0 rfl) ?_
          refine lv_iload_n hx hb dX1_pack_19 rfl (lv_at hl 5 rfl) ?_
          refine b_icmp_gt hx hb rfl rfl (tgt := 52) dX1_pack_20 (by decide +kernel) (fun c_90 => ?_) (fun c_90 => ?_)
          · refine lv_iload hx hb dX1_pack_52 (lv_at hl 1 rfl) ?_
            refine lv_iconst (v := 1) hx hb dX1_pack_54 (by decide +kernel) ?_
            refine k_isub (v := (-1)) hx hb dX1_pack_55 (by decide +kernel) ?_
            refine lv_istore (lv' := [(5, .int (-1)), (4, .int 0), (0, .ref k), (1, .ref o), (2, .int a1), (3, .int a2)]) hx hb dX1_pack_56 hl (by decide +kernel) rfl ?_
            clear hl
            intro ls hl
            have hloop_58 : ∀ (fu_ : Nat) (l58_5 : Int32) (g58_k0 : Nat → Int32), l58_5.toInt ≤ (-1) → (l58_5.toInt + 1 - 0).toNat < fu_ → ∀ (ls : Array Slot) (H : Heap) (locs : List Loc), lv_has ls 10 [(5, .int l58_5), (4, .int 0), (0, .ref k), (1, .ref o), (2, .int a1), (3, .int a2)] → va_P D vwCl [(k, .inr (1, [.ref k0, .ref k1, .int c2, .int c3])), (k0, .inl (cI, 5409, .inl g58_k0)), (k1, .inl (cI, 8, .inl c1)), (o2, .inl (cI, 144, .inl d2)), (o, .inr (6, [.ref o0, .ref o1, .ref o2])), (o1, .inl (cI, 4, .inl d1))] H → va_D A [(k, .inr (1, [.ref k0, .ref k1, .int c2, .int c3])), (k0, .inl (cI, 5409, .inl g58_k0)), (k1, .inl (cI, 8, .inl c1)), (o2, .inl (cI, 144, .inl d2)), (o, .inr (6, [.ref o0, .ref o1, .ref o2])), (o1, .inl (cI, 4, .inl d1))] → va_S A s.heap H locs → W p l e ({ frames := 5, cells := 0, slots := 0, locals := 114 } : Room) s m args below meth c H locs 0 0 Q (F0 m 58 ls []) := by
              intro fu_; induction fu_ with
              | zero => intro l58_5 g58_k0 i58_0 hm; exact absurd hm (by omega)
              | succ fu_ ih58 =>
                  intro l58_5 g58_k0 i58_0 hm ls H locs hl hP hD hS
                  have lo_l58_5 := k_lo l58_5
                  have hi_l58_5 := k_hi l58_5
                  refine lv_iload hx hb dX1_pack_58 (lv_at hl 0 rfl) ?_
                  refine b_if_lt hx hb rfl (tgt := 157) dX1_pack_60 (by decide +kernel) (fun c_91 => ?_) (fun c_91 => by exfalso; omega)
                  refine lv_aload_n hx hb dX1_pack_157 rfl (lv_at hl 2 rfl) ?_
                  refine lv_aload_n hx hb dX1_pack_158 rfl (lv_at hl 3 rfl) ?_
                  refine lv_iload_n hx hb dX1_pack_159 rfl (lv_at hl 4 rfl) ?_
                  refine lv_iload hx hb dX1_pack_160 (lv_at hl 1 rfl) ?_
                  refine lv_iload_n hx hb dX1_pack_162 rfl (lv_at hl 5 rfl) ?_
                  refine kJv (wr := []) (va_runV (As := [.ref o, .int a1, .int 0, .int a2]) (rest := []) ⟨hx, hb, hml, hown, hT⟩ (c_X1_chooseG l D cI aK aV k o k0 k1 o0 o1 o2 H.size c2 c3 g58_k0 c1 d1 d2 a1 0 a2 (by first | omega | (simp only [zl_0]; first | done | omega) | decide | assumption | rfl)) (cwV 4 hT (gV_in mw_907 mw_904 mw_906 mw_p2_11 mw_8) rfl rfl rfl (by decide +kernel) ⟨Nat.le_of_ble_eq_true rfl, Nat.le_of_ble_eq_true rfl⟩) (kRecvX (q0 := 0) (ci := 1) hK hP hD hN hXS hS hA rfl rfl [0, 1, 2, 4, 5, 3] rfl (by decide +kernel)) rfl rfl hl.1 rfl (lv_room (Nat.le_of_ble_eq_true rfl)) dX1_pack_163 ⟨Nat.le_of_ble_eq_true rfl, Nat.le_of_ble_eq_true rfl⟩) hP hD hS hA [0, 1, 2, 4, 5, 3] [] rfl rfl (by decide +kernel) (by decide +kernel) ?_
                  clear hP hD hS
                  intro u_97 H locs w_93 hP hD hS
                  obtain ⟨sc2_94, sc3_95, sc1_96⟩ := u_97
                  replace hP : va_P D vwCl [(k, .inr (1, [.ref k0, .ref k1, .int sc2_94, .int sc3_95])), (k0, .inl (cI, 5409, .inl g58_k0)), (k1, .inl (cI, 8, .inl sc1_96)), (o, .inr (6, [.ref o0, .ref o1, .ref o2])), (o1, .inl (cI, 4, .inl d1)), (o2, .inl (cI, 144, .inl d2))] H := hP
                  replace hD : va_D A [(k, .inr (1, [.ref k0, .ref k1, .int sc2_94, .int sc3_95])), (k0, .inl (cI, 5409, .inl g58_k0)), (k1, .inl (cI, 8, .inl sc1_96)), (o, .inr (6, [.ref o0, .ref o1, .ref o2])), (o1, .inl (cI, 4, .inl d1)), (o2, .inl (cI, 144, .inl d2))] := hD
                  exact hRet (sc2_94, sc3_95, g58_k0, sc1_96) [0, 1, 2, 3, 4, 5] trivial hP hD (by decide +kernel) rfl hS dX1_pack_166
            exact hloop_58 _ (-1) g17_k0 (by first | omega | (simp only [zl_m1]; first | done | omega) | decide | assumption | rfl) (Nat.lt_succ_self _) ls _ _ (lv_sub hl [0, 1, 2, 3, 4, 5] rfl) hP hD hS
          · refine lv_iload hx hb dX1_pack_23 (lv_at hl 0 rfl) ?_
            refine lv_sipush (v := 601) hx hb dX1_pack_25 (by decide +kernel) ?_
            refine b_icmp_ge hx hb rfl zl_601 (tgt := 52) dX1_pack_28 (by decide +kernel) (fun c_98 => ?_) (fun c_98 => ?_)
            · refine lv_iload hx hb dX1_pack_52 (lv_at hl 1 rfl) ?_
              refine lv_iconst (v := 1) hx hb dX1_pack_54 (by decide +kernel) ?_
              refine k_isub (v := (-1)) hx hb dX1_pack_55 (by decide +kernel) ?_
              refine lv_istore (lv' := [(5, .int (-1)), (4, .int 0), (0, .ref k), (1, .ref o), (2, .int a1), (3, .int a2)]) hx hb dX1_pack_56 hl (by decide +kernel) rfl ?_
              clear hl
              intro ls hl
              have hloop_58 : ∀ (fu_ : Nat) (l58_5 : Int32) (g58_k0 : Nat → Int32), l58_5.toInt ≤ (-1) → (l58_5.toInt + 1 - 0).toNat < fu_ → ∀ (ls : Array Slot) (H : Heap) (locs : List Loc), lv_has ls 10 [(5, .int l58_5), (4, .int 0), (0, .ref k), (1, .ref o), (2, .int a1), (3, .int a2)] → va_P D vwCl [(k, .inr (1, [.ref k0, .ref k1, .int c2, .int c3])), (k0, .inl (cI, 5409, .inl g58_k0)), (k1, .inl (cI, 8, .inl c1)), (o2, .inl (cI, 144, .inl d2)), (o, .inr (6, [.ref o0, .ref o1, .ref o2])), (o1, .inl (cI, 4, .inl d1))] H → va_D A [(k, .inr (1, [.ref k0, .ref k1, .int c2, .int c3])), (k0, .inl (cI, 5409, .inl g58_k0)), (k1, .inl (cI, 8, .inl c1)), (o2, .inl (cI, 144, .inl d2)), (o, .inr (6, [.ref o0, .ref o1, .ref o2])), (o1, .inl (cI, 4, .inl d1))] → va_S A s.heap H locs → W p l e ({ frames := 5, cells := 0, slots := 0, locals := 114 } : Room) s m args below meth c H locs 0 0 Q (F0 m 58 ls []) := by
                intro fu_; induction fu_ with
                | zero => intro l58_5 g58_k0 i58_0 hm; exact absurd hm (by omega)
                | succ fu_ ih58 =>
                    intro l58_5 g58_k0 i58_0 hm ls H locs hl hP hD hS
                    have lo_l58_5 := k_lo l58_5
                    have hi_l58_5 := k_hi l58_5
                    refine lv_iload hx hb dX1_pack_58 (lv_at hl 0 rfl) ?_
                    refine b_if_lt hx hb rfl (tgt := 157) dX1_pack_60 (by decide +kernel) (fun c_99 => ?_) (fun c_99 => by exfalso; omega)
                    refine lv_aload_n hx hb dX1_pack_157 rfl (lv_at hl 2 rfl) ?_
                    refine lv_aload_n hx hb dX1_pack_158 rfl (lv_at hl 3 rfl) ?_
                    refine lv_iload_n hx hb dX1_pack_159 rfl (lv_at hl 4 rfl) ?_
                    refine lv_iload hx hb dX1_pack_160 (lv_at hl 1 rfl) ?_
                    refine lv_iload_n hx hb dX1_pack_162 rfl (lv_at hl 5 rfl) ?_
                    refine kJv (wr := []) (va_runV (As := [.ref o, .int a1, .int 0, .int a2]) (rest := []) ⟨hx, hb, hml, hown, hT⟩ (c_X1_chooseG l D cI aK aV k o k0 k1 o0 o1 o2 H.size c2 c3 g58_k0 c1 d1 d2 a1 0 a2 (by first | omega | (simp only [zl_0]; first | done | omega) | decide | assumption | rfl)) (cwV 4 hT (gV_in mw_907 mw_904 mw_906 mw_p2_11 mw_8) rfl rfl rfl (by decide +kernel) ⟨Nat.le_of_ble_eq_true rfl, Nat.le_of_ble_eq_true rfl⟩) (kRecvX (q0 := 0) (ci := 1) hK hP hD hN hXS hS hA rfl rfl [0, 1, 2, 4, 5, 3] rfl (by decide +kernel)) rfl rfl hl.1 rfl (lv_room (Nat.le_of_ble_eq_true rfl)) dX1_pack_163 ⟨Nat.le_of_ble_eq_true rfl, Nat.le_of_ble_eq_true rfl⟩) hP hD hS hA [0, 1, 2, 4, 5, 3] [] rfl rfl (by decide +kernel) (by decide +kernel) ?_
                    clear hP hD hS
                    intro u_105 H locs w_101 hP hD hS
                    obtain ⟨sc2_102, sc3_103, sc1_104⟩ := u_105
                    replace hP : va_P D vwCl [(k, .inr (1, [.ref k0, .ref k1, .int sc2_102, .int sc3_103])), (k0, .inl (cI, 5409, .inl g58_k0)), (k1, .inl (cI, 8, .inl sc1_104)), (o, .inr (6, [.ref o0, .ref o1, .ref o2])), (o1, .inl (cI, 4, .inl d1)), (o2, .inl (cI, 144, .inl d2))] H := hP
                    replace hD : va_D A [(k, .inr (1, [.ref k0, .ref k1, .int sc2_102, .int sc3_103])), (k0, .inl (cI, 5409, .inl g58_k0)), (k1, .inl (cI, 8, .inl sc1_104)), (o, .inr (6, [.ref o0, .ref o1, .ref o2])), (o1, .inl (cI, 4, .inl d1)), (o2, .inl (cI, 144, .inl d2))] := hD
                    exact hRet (sc2_102, sc3_103, g58_k0, sc1_104) [0, 1, 2, 3, 4, 5] trivial hP hD (by decide +kernel) rfl hS dX1_pack_166
              exact hloop_58 _ (-1) g17_k0 (by first | omega | (simp only [zl_m1]; first | done | omega) | decide | assumption | rfl) (Nat.lt_succ_self _) ls _ _ (lv_sub hl [0, 1, 2, 3, 4, 5] rfl) hP hD hS
            · refine lv_aload_n hx hb dX1_pack_31 rfl (lv_at hl 2 rfl) ?_
              refine va_get (D := D) (ci := 1) (v := .ref k0) (C := RX1) (T := TX1) (N := 4) hx hb hT giX1 hown hK hP 0 rfl rfl 0 (by decide +kernel) (hT (Cond.fieldLink RX1 9 "DesertWire$Loads" "best" "[I") mw_224) (fun _ h9 => h9) rfl dX1_pack_32 ?_
              refine lv_iload hx hb dX1_pack_35 (lv_at hl 1 rfl) ?_
              refine lv_sipush (v := 601) hx hb dX1_pack_37 (by decide +kernel) ?_
              refine k_imul (v := 0) hx hb dX1_pack_40 (by decide +kernel) ?_
              refine lv_iload hx hb dX1_pack_41 (lv_at hl 0 rfl) ?_
              refine lv_iadd hx hb dX1_pack_43 ?_
              refine lv_topi (fun v_106 ev_106 => ?_)
              have tv_106 : v_106.toInt = 0 + l17_5.toInt := by rw [ev_106]; exact k_addv zl_0 rfl (by omega) (by omega)
              refine lv_iconst (v := 0) hx hb dX1_pack_44 (by decide +kernel) ?_
              refine va_iast hx hb hK hP hD hS 1 0 rfl rfl (k_in (by omega) (by omega)) dX1_pack_45 ?_
              clear hP hD hS
              intro H locs hP hD hS
              replace hP : va_P D vwCl [(k, .inr (1, [.ref k0, .ref k1, .int c2, .int c3])), (k0, .inl (cI, 5409, .inl (upd g17_k0 v_106.toNatClampNeg 0))), (k1, .inl (cI, 8, .inl c1)), (o2, .inl (cI, 144, .inl d2)), (o, .inr (6, [.ref o0, .ref o1, .ref o2])), (o1, .inl (cI, 4, .inl d1))] H := hP
              replace hD : va_D A [(k, .inr (1, [.ref k0, .ref k1, .int c2, .int c3])), (k0, .inl (cI, 5409, .inl (upd g17_k0 v_106.toNatClampNeg 0))), (k1, .inl (cI, 8, .inl c1)), (o2, .inl (cI, 144, .inl d2)), (o, .inr (6, [.ref o0, .ref o1, .ref o2])), (o1, .inl (cI, 4, .inl d1))] := hD
              obtain ⟨f_107, ef_107⟩ : ∃ g : Nat → Int32, g = upd g17_k0 v_106.toNatClampNeg 0 := ⟨_, rfl⟩
              rw [← ef_107] at hP hD
              obtain ⟨v_108, ev_108⟩ : ∃ y : Int32, y = l17_5 + 1 := ⟨_, rfl⟩
              have tv_108 : v_108.toInt = l17_5.toInt + 1 := by rw [ev_108]; exact k_addv rfl zl_1 (by omega) (by omega)
              refine lv_iinc (v := v_108) (lv' := [(5, .int v_108), (4, .int 0), (0, .ref k), (1, .ref o), (2, .int a1), (3, .int a2)]) hx hb dX1_pack_46 hl (k := 0) rfl (by rw [ev_108]; rfl) (by decide +kernel) rfl ?_
              clear hl
              intro ls hl
              refine lv_goto (tgt := 17) hx hb dX1_pack_49 (by decide +kernel) ?_
              exact ih17 v_108 f_107 (by first | omega | decide | assumption | rfl) (by omega) ls _ _ (lv_sub hl [0, 1, 2, 3, 4, 5] rfl) (hP.sub [0, 1, 2, 3, 4, 5] rfl) (hD.sub [0, 1, 2, 3, 4, 5] (by decide +kernel) rfl) hS
    exact hloop_17 _ 0 c0 (by first | omega | (simp only [zl_0]; first | done | omega) | decide | assumption | rfl) (Nat.lt_succ_self _) ls _ _ (lv_sub hl [0, 1, 2, 3, 4, 5] rfl) hP hD hS
theorem bn_cX10_load_0 : BN cX10_load 0 0x700542ff088783801540c804b5190056a2b0700542030f0b804b734b4402b70387184015a83402b515834221d238056a2b190056a2b5694c02b7038ac1401510142c1e028dcda075a0056e1d238056a2b5694c02b7048ac14014d8ac04b70e8ad5a5300adc0c2b0500534b100adc3a4700ad456ad298056e051582802a37f8443c0a00a695c015c87422014d34002b70e30802b5068056a2b := by
  unfold BN; decide +kernel
theorem dX10_load_0 : decode cX10_load 0 = .ok (.aload_n 0, 1) := dR0 (k := 0) (i := 0) bn_cX10_load_0 dop_42 (by decide +kernel)
theorem dX10_load_1 : decode cX10_load 1 = .ok (.getfield 12, 3) := dR2 (f := Instr.getfield) (k := 0) (i := 1) bn_cX10_load_0 dop_180 12 (by decide +kernel)
theorem dX10_load_4 : decode cX10_load 4 = .ok (.getfield 193, 3) := dR2 (f := Instr.getfield) (k := 0) (i := 4) bn_cX10_load_0 dop_180 193 (by decide +kernel)
theorem dX10_load_7 : decode cX10_load 7 = .ok (.iload_n 1, 1) := dR0 (k := 0) (i := 7) bn_cX10_load_0 dop_27 (by decide +kernel)
theorem dX10_load_8 : decode cX10_load 8 = .ok (.invokevirtual 207, 3) := dR2 (f := Instr.invokevirtual) (k := 0) (i := 8) bn_cX10_load_0 dop_182 207 (by decide +kernel)
theorem dX10_load_11 : decode cX10_load 11 = .ok (.ifCond .eq 16, 3) := dR2s (f := Instr.ifCond .eq) (k := 0) (i := 11) bn_cX10_load_0 dop_153 16 16 (by decide +kernel)
theorem dX10_load_14 : decode cX10_load 14 = .ok (.iload_n 2, 1) := dR0 (k := 0) (i := 14) bn_cX10_load_0 dop_28 (by decide +kernel)
theorem dX10_load_15 : decode cX10_load 15 = .ok (.invokestatic 173, 3) := dR2 (f := Instr.invokestatic) (k := 0) (i := 15) bn_cX10_load_0 dop_184 173 (by decide +kernel)
theorem dX10_load_18 : decode cX10_load 18 = .ok (.ifCond .eq 9, 3) := dR2s (f := Instr.ifCond .eq) (k := 0) (i := 18) bn_cX10_load_0 dop_153 9 9 (by decide +kernel)
theorem dX10_load_21 : decode cX10_load 21 = .ok (.iload_n 3, 1) := dR0 (k := 0) (i := 21) bn_cX10_load_0 dop_29 (by decide +kernel)
theorem dX10_load_22 : decode cX10_load 22 = .ok (.bipush (-2), 2) := dR1s (f := Instr.bipush) (k := 0) (i := 22) bn_cX10_load_0 dop_16 254 (-2) (by decide +kernel)
theorem dX10_load_24 : decode cX10_load 24 = .ok (.if_icmp .ge 9, 3) := dR2s (f := Instr.if_icmp .ge) (k := 0) (i := 24) bn_cX10_load_0 dop_162 9 9 (by decide +kernel)
theorem dX10_load_27 : decode cX10_load 27 = .ok (.aload_n 0, 1) := dR0 (k := 0) (i := 27) bn_cX10_load_0 dop_42 (by decide +kernel)
theorem dX10_load_28 : decode cX10_load 28 = .ok (.iconst 1, 1) := dR0 (k := 0) (i := 28) bn_cX10_load_0 dop_4 (by decide +kernel)
theorem dX10_load_29 : decode cX10_load 29 = .ok (.invokevirtual 82, 3) := dR2 (f := Instr.invokevirtual) (k := 0) (i := 29) bn_cX10_load_0 dop_182 82 (by decide +kernel)
theorem dX10_load_32 : decode cX10_load 32 = .ok (.ireturn, 1) := dR0 (k := 0) (i := 32) bn_cX10_load_0 dop_172 (by decide +kernel)
theorem dX10_load_33 : decode cX10_load 33 = .ok (.aload_n 0, 1) := dR0 (k := 0) (i := 33) bn_cX10_load_0 dop_42 (by decide +kernel)
theorem dX10_load_34 : decode cX10_load 34 = .ok (.getfield 70, 3) := dR2 (f := Instr.getfield) (k := 0) (i := 34) bn_cX10_load_0 dop_180 70 (by decide +kernel)
theorem dX10_load_37 : decode cX10_load 37 = .ok (.iload_n 2, 1) := dR0 (k := 0) (i := 37) bn_cX10_load_0 dop_28 (by decide +kernel)
theorem dX10_load_38 : decode cX10_load 38 = .ok (.invokevirtual 176, 3) := dR2 (f := Instr.invokevirtual) (k := 0) (i := 38) bn_cX10_load_0 dop_182 176 (by decide +kernel)
theorem dX10_load_41 : decode cX10_load 41 = .ok (.ifCond .eq 9, 3) := dR2s (f := Instr.ifCond .eq) (k := 0) (i := 41) bn_cX10_load_0 dop_153 9 9 (by decide +kernel)
theorem dX10_load_44 : decode cX10_load 44 = .ok (.aload_n 0, 1) := dR0 (k := 0) (i := 44) bn_cX10_load_0 dop_42 (by decide +kernel)
theorem dX10_load_45 : decode cX10_load 45 = .ok (.iconst 2, 1) := dR0 (k := 0) (i := 45) bn_cX10_load_0 dop_5 (by decide +kernel)
theorem dX10_load_46 : decode cX10_load 46 = .ok (.invokevirtual 82, 3) := dR2 (f := Instr.invokevirtual) (k := 0) (i := 46) bn_cX10_load_0 dop_182 82 (by decide +kernel)
theorem dX10_load_49 : decode cX10_load 49 = .ok (.ireturn, 1) := dR0 (k := 0) (i := 49) bn_cX10_load_0 dop_172 (by decide +kernel)
theorem dX10_load_50 : decode cX10_load 50 = .ok (.aload_n 0, 1) := dR0 (k := 0) (i := 50) bn_cX10_load_0 dop_42 (by decide +kernel)
theorem dX10_load_51 : decode cX10_load 51 = .ok (.iload_n 2, 1) := dR0 (k := 0) (i := 51) bn_cX10_load_0 dop_28 (by decide +kernel)
theorem dX10_load_52 : decode cX10_load 52 = .ok (.invokevirtual 298, 3) := dR2 (f := Instr.invokevirtual) (k := 0) (i := 52) bn_cX10_load_0 dop_182 298 (by decide +kernel)
theorem dX10_load_55 : decode cX10_load 55 = .ok (.ifCond .ne 9, 3) := dR2s (f := Instr.ifCond .ne) (k := 0) (i := 55) bn_cX10_load_0 dop_154 9 9 (by decide +kernel)
theorem dX10_load_58 : decode cX10_load 58 = .ok (.aload_n 0, 1) := dR0 (k := 0) (i := 58) bn_cX10_load_0 dop_42 (by decide +kernel)
theorem dX10_load_59 : decode cX10_load 59 = .ok (.iconst 5, 1) := dR0 (k := 0) (i := 59) bn_cX10_load_0 dop_8 (by decide +kernel)
theorem dX10_load_60 : decode cX10_load 60 = .ok (.invokevirtual 82, 3) := dR2 (f := Instr.invokevirtual) (k := 0) (i := 60) bn_cX10_load_0 dop_182 82 (by decide +kernel)
theorem dX10_load_63 : decode cX10_load 63 = .ok (.ireturn, 1) := dR0 (k := 0) (i := 63) bn_cX10_load_0 dop_172 (by decide +kernel)
theorem dX10_load_64 : decode cX10_load 64 = .ok (.aload_n 0, 1) := dR0 (k := 0) (i := 64) bn_cX10_load_0 dop_42 (by decide +kernel)
theorem dX10_load_65 : decode cX10_load 65 = .ok (.getfield 70, 3) := dR2 (f := Instr.getfield) (k := 0) (i := 65) bn_cX10_load_0 dop_180 70 (by decide +kernel)
theorem dX10_load_68 : decode cX10_load 68 = .ok (.iload_n 2, 1) := dR0 (k := 0) (i := 68) bn_cX10_load_0 dop_28 (by decide +kernel)
theorem dX10_load_69 : decode cX10_load 69 = .ok (.invokevirtual 179, 3) := dR2 (f := Instr.invokevirtual) (k := 0) (i := 69) bn_cX10_load_0 dop_182 179 (by decide +kernel)
theorem dX10_load_72 : decode cX10_load 72 = .ok (.iconst 3, 1) := dR0 (k := 0) (i := 72) bn_cX10_load_0 dop_6 (by decide +kernel)
theorem dX10_load_73 : decode cX10_load 73 = .ok (.idiv, 1) := dR0 (k := 0) (i := 73) bn_cX10_load_0 dop_108 (by decide +kernel)
theorem dX10_load_74 : decode cX10_load 74 = .ok (.istore 4, 2) := dR1 (f := Instr.istore) (k := 0) (i := 74) bn_cX10_load_0 dop_54 4 (by decide +kernel)
theorem dX10_load_76 : decode cX10_load 76 = .ok (.iload_n 3, 1) := dR0 (k := 0) (i := 76) bn_cX10_load_0 dop_29 (by decide +kernel)
theorem dX10_load_77 : decode cX10_load 77 = .ok (.iload 4, 2) := dR1 (f := Instr.iload) (k := 0) (i := 77) bn_cX10_load_0 dop_21 4 (by decide +kernel)
theorem dX10_load_79 : decode cX10_load 79 = .ok (.if_icmp .lt 9, 3) := dR2s (f := Instr.if_icmp .lt) (k := 0) (i := 79) bn_cX10_load_0 dop_161 9 9 (by decide +kernel)
theorem dX10_load_82 : decode cX10_load 82 = .ok (.aload_n 0, 1) := dR0 (k := 0) (i := 82) bn_cX10_load_0 dop_42 (by decide +kernel)
theorem dX10_load_83 : decode cX10_load 83 = .ok (.iconst 3, 1) := dR0 (k := 0) (i := 83) bn_cX10_load_0 dop_6 (by decide +kernel)
theorem dX10_load_84 : decode cX10_load 84 = .ok (.invokevirtual 82, 3) := dR2 (f := Instr.invokevirtual) (k := 0) (i := 84) bn_cX10_load_0 dop_182 82 (by decide +kernel)
theorem dX10_load_87 : decode cX10_load 87 = .ok (.ireturn, 1) := dR0 (k := 0) (i := 87) bn_cX10_load_0 dop_172 (by decide +kernel)
theorem dX10_load_88 : decode cX10_load 88 = .ok (.aload_n 0, 1) := dR0 (k := 0) (i := 88) bn_cX10_load_0 dop_42 (by decide +kernel)
theorem dX10_load_89 : decode cX10_load 89 = .ok (.getfield 49, 3) := dR2 (f := Instr.getfield) (k := 0) (i := 89) bn_cX10_load_0 dop_180 49 (by decide +kernel)
theorem dX10_load_92 : decode cX10_load 92 = .ok (.aload_n 0, 1) := dR0 (k := 0) (i := 92) bn_cX10_load_0 dop_42 (by decide +kernel)
theorem dX10_load_93 : decode cX10_load 93 = .ok (.getfield 70, 3) := dR2 (f := Instr.getfield) (k := 0) (i := 93) bn_cX10_load_0 dop_180 70 (by decide +kernel)
theorem dX10_load_96 : decode cX10_load 96 = .ok (.iload_n 2, 1) := dR0 (k := 0) (i := 96) bn_cX10_load_0 dop_28 (by decide +kernel)
theorem dX10_load_97 : decode cX10_load 97 = .ok (.bipush 12, 2) := dR1s (f := Instr.bipush) (k := 0) (i := 97) bn_cX10_load_0 dop_16 12 12 (by decide +kernel)
theorem dX10_load_99 : decode cX10_load 99 = .ok (.aload_n 0, 1) := dR0 (k := 0) (i := 99) bn_cX10_load_0 dop_42 (by decide +kernel)
theorem dX10_load_100 : decode cX10_load 100 = .ok (.getfield 12, 3) := dR2 (f := Instr.getfield) (k := 0) (i := 100) bn_cX10_load_0 dop_180 12 (by decide +kernel)
theorem dX10_load_103 : decode cX10_load 103 = .ok (.getfield 193, 3) := dR2 (f := Instr.getfield) (k := 0) (i := 103) bn_cX10_load_0 dop_180 193 (by decide +kernel)
theorem dX10_load_106 : decode cX10_load 106 = .ok (.iload_n 1, 1) := dR0 (k := 0) (i := 106) bn_cX10_load_0 dop_27 (by decide +kernel)
theorem dX10_load_107 : decode cX10_load 107 = .ok (.iconst 3, 1) := dR0 (k := 0) (i := 107) bn_cX10_load_0 dop_6 (by decide +kernel)
theorem dX10_load_108 : decode cX10_load 108 = .ok (.invokevirtual 208, 3) := dR2 (f := Instr.invokevirtual) (k := 0) (i := 108) bn_cX10_load_0 dop_182 208 (by decide +kernel)
theorem dX10_load_111 : decode cX10_load 111 = .ok (.imul, 1) := dR0 (k := 0) (i := 111) bn_cX10_load_0 dop_104 (by decide +kernel)
theorem dX10_load_112 : decode cX10_load 112 = .ok (.invokevirtual 301, 3) := dR2 (f := Instr.invokevirtual) (k := 0) (i := 112) bn_cX10_load_0 dop_182 301 (by decide +kernel)
theorem dX10_load_115 : decode cX10_load 115 = .ok (.iload_n 3, 1) := dR0 (k := 0) (i := 115) bn_cX10_load_0 dop_29 (by decide +kernel)
theorem dX10_load_116 : decode cX10_load 116 = .ok (.iconst (-1), 1) := dR0 (k := 0) (i := 116) bn_cX10_load_0 dop_2 (by decide +kernel)
theorem dX10_load_117 : decode cX10_load 117 = .ok (.if_icmp .ne 13, 3) := dR2s (f := Instr.if_icmp .ne) (k := 0) (i := 117) bn_cX10_load_0 dop_160 13 13 (by decide +kernel)
theorem dX10_load_120 : decode cX10_load 120 = .ok (.aload_n 0, 1) := dR0 (k := 0) (i := 120) bn_cX10_load_0 dop_42 (by decide +kernel)
theorem dX10_load_121 : decode cX10_load 121 = .ok (.getfield 49, 3) := dR2 (f := Instr.getfield) (k := 0) (i := 121) bn_cX10_load_0 dop_180 49 (by decide +kernel)
theorem dX10_load_124 : decode cX10_load 124 = .ok (.getfield 305, 3) := dR2 (f := Instr.getfield) (k := 0) (i := 124) bn_cX10_load_0 dop_180 305 (by decide +kernel)
theorem dX10_load_127 : decode cX10_load 127 = .ok (.goto 27, 3) := dR2s (f := Instr.goto) (k := 0) (i := 127) bn_cX10_load_0 dop_167 27 27 (by decide +kernel)
theorem bn_cX10_load_128 : BN cX10_load 128 0x2b470025b87864015a8ac1801540d404b5190056a2b0700542ff088783801 := by
  unfold BN; decide +kernel
theorem dX10_load_130 : decode cX10_load 130 = .ok (.iload_n 3, 1) := dR0 (k := 128) (i := 2) bn_cX10_load_128 dop_29 (by decide +kernel)
theorem dX10_load_131 : decode cX10_load 131 = .ok (.bipush (-2), 2) := dR1s (f := Instr.bipush) (k := 128) (i := 3) bn_cX10_load_128 dop_16 254 (-2) (by decide +kernel)
theorem dX10_load_133 : decode cX10_load 133 = .ok (.if_icmp .ne 13, 3) := dR2s (f := Instr.if_icmp .ne) (k := 128) (i := 5) bn_cX10_load_128 dop_160 13 13 (by decide +kernel)
theorem dX10_load_136 : decode cX10_load 136 = .ok (.aload_n 0, 1) := dR0 (k := 128) (i := 8) bn_cX10_load_128 dop_42 (by decide +kernel)
theorem dX10_load_137 : decode cX10_load 137 = .ok (.getfield 49, 3) := dR2 (f := Instr.getfield) (k := 128) (i := 9) bn_cX10_load_128 dop_180 49 (by decide +kernel)
theorem dX10_load_140 : decode cX10_load 140 = .ok (.getfield 308, 3) := dR2 (f := Instr.getfield) (k := 128) (i := 12) bn_cX10_load_128 dop_180 308 (by decide +kernel)
theorem dX10_load_143 : decode cX10_load 143 = .ok (.goto 11, 3) := dR2s (f := Instr.goto) (k := 128) (i := 15) bn_cX10_load_128 dop_167 11 11 (by decide +kernel)
theorem dX10_load_146 : decode cX10_load 146 = .ok (.aload_n 0, 1) := dR0 (k := 128) (i := 18) bn_cX10_load_128 dop_42 (by decide +kernel)
theorem dX10_load_147 : decode cX10_load 147 = .ok (.getfield 49, 3) := dR2 (f := Instr.getfield) (k := 128) (i := 19) bn_cX10_load_128 dop_180 49 (by decide +kernel)
theorem dX10_load_150 : decode cX10_load 150 = .ok (.iload_n 3, 1) := dR0 (k := 128) (i := 22) bn_cX10_load_128 dop_29 (by decide +kernel)
theorem dX10_load_151 : decode cX10_load 151 = .ok (.invokevirtual 311, 3) := dR2 (f := Instr.invokevirtual) (k := 128) (i := 23) bn_cX10_load_128 dop_182 311 (by decide +kernel)
theorem dX10_load_154 : decode cX10_load 154 = .ok (.ireturn, 1) := dR0 (k := 128) (i := 26) bn_cX10_load_128 dop_172 (by decide +kernel)
set_option maxHeartbeats 4000000 in
set_option maxRecDepth 100000 in
theorem c_X10_loadG (l : Launch) (D : va_G) (cI : ClassId) (aK aV : Nat → Nat) (k k0 k1 k2 k3 k4 k5 k6 k7 k8 k9 ka kb k00 k01 k02 k03 k04 k05 k70 k71 ka0 ka1 ka2 k050 : Nat) (sz : Nat) (cc : Int32) (c06 : Int32) (c07 : Int32) (c08 : Int32) (c72 : Int32) (c73 : Int32) (cb : Nat → Int32) (c051 : Int32) (c70 : Nat → Int32) (c71 : Nat → Int32) (ca0 : Nat → Int32) (ca1 : Nat → Int32) (ca2 : Nat → Int32) (c050 : Nat → Int32) (a0 : Int32) (a1 : Int32) (a2 : Int32) (pre0 : ∀ k : Nat, k < 4 → 0 ≤ (ca1 k).toInt ∧ (ca1 k).toInt ≤ 36) : Met l yX10_load (gW yX10_load cX10_load 5 (some .int)) ({ frames := 6, cells := 0, slots := 0, locals := 143 } : Room) (kPreX D cI aK aV [.ref k, .int a0, .int a1, .int a2] [(k, .inr (10, [.ref k0, .ref k1, .ref k2, .ref k3, .ref k4, .ref k5, .ref k6, .ref k7, .ref k8, .ref k9, .ref ka, .ref kb, .int cc])), (k0, .inr (9, [.ref k00, .ref k01, .ref k02, .ref k03, .ref k04, .ref k05, .int c06, .int c07, .int c08])), (k7, .inr (1, [.ref k70, .ref k71, .int c72, .int c73])), (ka, .inr (6, [.ref ka0, .ref ka1, .ref ka2])), (kb, .inl (cI, 6, .inl cb)), (k05, .inr (3, [.ref k050, .int c051])), (k70, .inl (cI, 5409, .inl c70)), (k71, .inl (cI, 8, .inl c71)), (ka0, .inl (cI, 4, .inl ca0)), (ka1, .inl (cI, 4, .inl ca1)), (ka2, .inl (cI, 144, .inl ca2)), (k050, .inl (cI, 36, .inl c050))] sz) (va_Qi (fun (r : Int32) (u : Int32 × Int32 × (Nat → Int32) × (Nat → Int32) × (Nat → Int32)) => True) (fun u t => kWd D cI (va_A [(k, .inr (10, [.ref k0, .ref k1, .ref k2, .ref k3, .ref k4, .ref k5, .ref k6, .ref k7, .ref k8, .ref k9, .ref ka, .ref kb, .int cc])), (k0, .inr (9, [.ref k00, .ref k01, .ref k02, .ref k03, .ref k04, .ref k05, .int c06, .int c07, .int c08])), (k7, .inr (1, [.ref k70, .ref k71, .int c72, .int c73])), (ka, .inr (6, [.ref ka0, .ref ka1, .ref ka2])), (kb, .inl (cI, 6, .inl cb)), (k05, .inr (3, [.ref k050, .int c051])), (k70, .inl (cI, 5409, .inl c70)), (k71, .inl (cI, 8, .inl c71)), (ka0, .inl (cI, 4, .inl ca0)), (ka1, .inl (cI, 4, .inl ca1)), (ka2, .inl (cI, 144, .inl ca2)), (k050, .inl (cI, 36, .inl c050))] sz) [(k, .inr (10, [.ref k0, .ref k1, .ref k2, .ref k3, .ref k4, .ref k5, .ref k6, .ref k7, .ref k8, .ref k9, .ref ka, .ref kb, .int cc])), (k0, .inr (9, [.ref k00, .ref k01, .ref k02, .ref k03, .ref k04, .ref k05, .int c06, .int c07, .int c08])), (k7, .inr (1, [.ref k70, .ref k71, .int u.1, .int u.2.1])), (ka, .inr (6, [.ref ka0, .ref ka1, .ref ka2])), (kb, .inl (cI, 6, .inl u.2.2.1)), (k05, .inr (3, [.ref k050, .int c051])), (k70, .inl (cI, 5409, .inl u.2.2.2.1)), (k71, .inl (cI, 8, .inl u.2.2.2.2)), (ka0, .inl (cI, 4, .inl ca0)), (ka1, .inl (cI, 4, .inl ca1)), (ka2, .inl (cI, 144, .inl ca2)), (k050, .inl (cI, 36, .inl c050))] t) (va_A [(k, .inr (10, [.ref k0, .ref k1, .ref k2, .ref k3, .ref k4, .ref k5, .ref k6, .ref k7, .ref k8, .ref k9, .ref ka, .ref kb, .int cc])), (k0, .inr (9, [.ref k00, .ref k01, .ref k02, .ref k03, .ref k04, .ref k05, .int c06, .int c07, .int c08])), (k7, .inr (1, [.ref k70, .ref k71, .int c72, .int c73])), (ka, .inr (6, [.ref ka0, .ref ka1, .ref ka2])), (kb, .inl (cI, 6, .inl cb)), (k05, .inr (3, [.ref k050, .int c051])), (k70, .inl (cI, 5409, .inl c70)), (k71, .inl (cI, 8, .inl c71)), (ka0, .inl (cI, 4, .inl ca0)), (ka1, .inl (cI, 4, .inl ca1)), (ka2, .inl (cI, 144, .inl ca2)), (k050, .inl (cI, 36, .inl c050))] sz)) 0 0 (va_A [(k, .inr (10, [.ref k0, .ref k1, .ref k2, .ref k3, .ref k4, .ref k5, .ref k6, .ref k7, .ref k8, .ref k9, .ref ka, .ref kb, .int cc])), (k0, .inr (9, [.ref k00, .ref k01, .ref k02, .ref k03, .ref k04, .ref k05, .int c06, .int c07, .int c08])), (k7, .inr (1, [.ref k70, .ref k71, .int c72, .int c73])), (ka, .inr (6, [.ref ka0, .ref ka1, .ref ka2])), (kb, .inl (cI, 6, .inl cb)), (k05, .inr (3, [.ref k050, .int c051])), (k70, .inl (cI, 5409, .inl c70)), (k71, .inl (cI, 8, .inl c71)), (ka0, .inl (cI, 4, .inl ca0)), (ka1, .inl (cI, 4, .inl ca1)), (ka2, .inl (cI, 144, .inl ca2)), (k050, .inl (cI, 36, .inl c050))] sz) := by
  refine kMetIX (own := RX10) (by decide +kernel) rfl (Nat.le_of_ble_eq_true rfl) ?_
  intro p e s m args below meth c hx hb hT hown hname hml A Q hK hP hD hS hA hN hXS hRet ls hl
  have hl : lv_has ls 5 [(0, .ref k), (1, .int a0), (2, .int a1), (3, .int a2)] := hl
  have lo_a0 := k_lo a0
  have hi_a0 := k_hi a0
  have lo_a1 := k_lo a1
  have hi_a1 := k_hi a1
  have lo_a2 := k_lo a2
  have hi_a2 := k_hi a2
  have lo_c051 := k_lo c051
  have hi_c051 := k_hi c051
  refine lv_aload_n hx hb dX10_load_0 rfl (lv_at hl 0 rfl) ?_
  refine va_get (D := D) (ci := 10) (v := .ref k0) (C := RX10) (T := TX10) (N := 13) hx hb hT giX10 hown hK hP 0 rfl rfl 0 (by decide +kernel) (hT (Cond.fieldLink RX10 12 "DesertWire" "now" "LDesertWire$World;") mw_291) (fun _ h9 => h9) rfl dX10_load_1 ?_
  refine va_get (D := D) (ci := 9) (v := .ref k05) (C := RX9) (T := TX9) (N := 9) hx hb hT giX9 hown hK hP 1 rfl rfl 5 (by decide +kernel) (hT (Cond.fieldLink RX10 193 "DesertWire$World" "parties" "LDesertWire$Parties;") mw_102) (fun _ h9 => h9) rfl dX10_load_4 ?_
  refine lv_iload_n hx hb dX10_load_7 rfl (lv_at hl 1 rfl) ?_
  refine kJi (wr := [(k, .inr (10, [.ref k0, .ref k1, .ref k2, .ref k3, .ref k4, .ref k5, .ref k6, .ref k7, .ref k8, .ref k9, .ref ka, .ref kb, .int cc])), (k0, .inr (9, [.ref k00, .ref k01, .ref k02, .ref k03, .ref k04, .ref k05, .int c06, .int c07, .int c08])), (k7, .inr (1, [.ref k70, .ref k71, .int c72, .int c73])), (ka, .inr (6, [.ref ka0, .ref ka1, .ref ka2])), (kb, .inl (cI, 6, .inl cb)), (k70, .inl (cI, 5409, .inl c70)), (k71, .inl (cI, 8, .inl c71)), (ka0, .inl (cI, 4, .inl ca0)), (ka1, .inl (cI, 4, .inl ca1)), (ka2, .inl (cI, 144, .inl ca2)), (k050, .inl (cI, 36, .inl c050))]) (va_runV (As := [.int a0]) (rest := []) ⟨hx, hb, hml, hown, hT⟩ (c_X3_hasG l D cI aK aV k05 k050 s.heap.size c051 a0) (cwV 1 hT (gV_in mw_717 mw_722 mw_715 mw_716 mw_4) rfl rfl rfl (by decide +kernel) ⟨Nat.le_of_ble_eq_true rfl, Nat.le_of_ble_eq_true rfl⟩) (kRecvX (q0 := 5) (ci := 3) hK hP hD hN hXS hS hA rfl rfl [5] rfl (by decide +kernel)) rfl rfl hl.1 rfl (lv_room (Nat.le_of_ble_eq_true rfl)) dX10_load_8 ⟨Nat.le_of_ble_eq_true rfl, Nat.le_of_ble_eq_true rfl⟩) hP hD hS hA [5] [0, 1, 2, 3, 4, 6, 7, 8, 9, 10, 11] rfl rfl (by decide +kernel) (by decide +kernel) ?_
  clear hP hD hS
  intro r_1 u_3 H locs w_2 hP hD hS
  replace hP : va_P D vwCl [(k, .inr (10, [.ref k0, .ref k1, .ref k2, .ref k3, .ref k4, .ref k5, .ref k6, .ref k7, .ref k8, .ref k9, .ref ka, .ref kb, .int cc])), (k0, .inr (9, [.ref k00, .ref k01, .ref k02, .ref k03, .ref k04, .ref k05, .int c06, .int c07, .int c08])), (k7, .inr (1, [.ref k70, .ref k71, .int c72, .int c73])), (ka, .inr (6, [.ref ka0, .ref ka1, .ref ka2])), (kb, .inl (cI, 6, .inl cb)), (k70, .inl (cI, 5409, .inl c70)), (k71, .inl (cI, 8, .inl c71)), (ka0, .inl (cI, 4, .inl ca0)), (ka1, .inl (cI, 4, .inl ca1)), (ka2, .inl (cI, 144, .inl ca2)), (k050, .inl (cI, 36, .inl c050)), (k05, .inr (3, [.ref k050, .int c051]))] H := hP
  replace hD : va_D A [(k, .inr (10, [.ref k0, .ref k1, .ref k2, .ref k3, .ref k4, .ref k5, .ref k6, .ref k7, .ref k8, .ref k9, .ref ka, .ref kb, .int cc])), (k0, .inr (9, [.ref k00, .ref k01, .ref k02, .ref k03, .ref k04, .ref k05, .int c06, .int c07, .int c08])), (k7, .inr (1, [.ref k70, .ref k71, .int c72, .int c73])), (ka, .inr (6, [.ref ka0, .ref ka1, .ref ka2])), (kb, .inl (cI, 6, .inl cb)), (k70, .inl (cI, 5409, .inl c70)), (k71, .inl (cI, 8, .inl c71)), (ka0, .inl (cI, 4, .inl ca0)), (ka1, .inl (cI, 4, .inl ca1)), (ka2, .inl (cI, 144, .inl ca2)), (k050, .inl (cI, 36, .inl c050)), (k05, .inr (3, [.ref k050, .int c051]))] := hD
  rcases w_2 with ⟨hr_1, h_4, h_5, h_6⟩ | ⟨hr_1, h_7⟩
  · have h_4 : 0 ≤ a0.toInt := h_4
    have h_5 : a0.toInt < c051.toInt := h_5
    have h_6 : a0.toInt < 4 := h_6
    obtain rfl : r_1 = 1 := hr_1.trans (by decide +kernel)
    refine b_if_eq hx hb zl_1 (tgt := 27) dX10_load_11 (by decide +kernel) (fun c_8 => by exfalso; omega) (fun c_8 => ?_)
    refine lv_iload_n hx hb dX10_load_14 rfl (lv_at hl 2 rfl) ?_
    refine kJi (wr := [(k, .inr (10, [.ref k0, .ref k1, .ref k2, .ref k3, .ref k4, .ref k5, .ref k6, .ref k7, .ref k8, .ref k9, .ref ka, .ref kb, .int cc])), (k0, .inr (9, [.ref k00, .ref k01, .ref k02, .ref k03, .ref k04, .ref k05, .int c06, .int c07, .int c08])), (k7, .inr (1, [.ref k70, .ref k71, .int c72, .int c73])), (ka, .inr (6, [.ref ka0, .ref ka1, .ref ka2])), (kb, .inl (cI, 6, .inl cb)), (k70, .inl (cI, 5409, .inl c70)), (k71, .inl (cI, 8, .inl c71)), (ka0, .inl (cI, 4, .inl ca0)), (ka1, .inl (cI, 4, .inl ca1)), (ka2, .inl (cI, 144, .inl ca2)), (k050, .inl (cI, 36, .inl c050)), (k05, .inr (3, [.ref k050, .int c051]))]) (va_runS (As := [.int a1]) (rest := []) ⟨hx, hb, hml, hown, hT⟩ (c_X10_isSheetG l D cI aK aV H.size a1) (cwS 1 hT (gS_in mw_662 mw_660 mw_661 mw_1) rfl rfl rfl (by decide +kernel) ⟨Nat.le_of_ble_eq_true rfl, Nat.le_of_ble_eq_true rfl⟩) (kStatX hK hP hD hN hXS hS hA [] rfl (by decide +kernel)) rfl rfl hl.1 rfl (lv_room (Nat.le_of_ble_eq_true rfl)) dX10_load_15 ⟨Nat.le_of_ble_eq_true rfl, Nat.le_of_ble_eq_true rfl⟩) hP hD hS hA [] [0, 1, 2, 3, 4, 5, 6, 7, 8, 9, 10, 11] rfl rfl (by decide +kernel) (by decide +kernel) ?_
    clear hP hD hS
    intro r_9 u_11 H locs w_10 hP hD hS
    replace hP : va_P D vwCl [(k, .inr (10, [.ref k0, .ref k1, .ref k2, .ref k3, .ref k4, .ref k5, .ref k6, .ref k7, .ref k8, .ref k9, .ref ka, .ref kb, .int cc])), (k0, .inr (9, [.ref k00, .ref k01, .ref k02, .ref k03, .ref k04, .ref k05, .int c06, .int c07, .int c08])), (k7, .inr (1, [.ref k70, .ref k71, .int c72, .int c73])), (ka, .inr (6, [.ref ka0, .ref ka1, .ref ka2])), (kb, .inl (cI, 6, .inl cb)), (k70, .inl (cI, 5409, .inl c70)), (k71, .inl (cI, 8, .inl c71)), (ka0, .inl (cI, 4, .inl ca0)), (ka1, .inl (cI, 4, .inl ca1)), (ka2, .inl (cI, 144, .inl ca2)), (k050, .inl (cI, 36, .inl c050)), (k05, .inr (3, [.ref k050, .int c051]))] H := hP
    replace hD : va_D A [(k, .inr (10, [.ref k0, .ref k1, .ref k2, .ref k3, .ref k4, .ref k5, .ref k6, .ref k7, .ref k8, .ref k9, .ref ka, .ref kb, .int cc])), (k0, .inr (9, [.ref k00, .ref k01, .ref k02, .ref k03, .ref k04, .ref k05, .int c06, .int c07, .int c08])), (k7, .inr (1, [.ref k70, .ref k71, .int c72, .int c73])), (ka, .inr (6, [.ref ka0, .ref ka1, .ref ka2])), (kb, .inl (cI, 6, .inl cb)), (k70, .inl (cI, 5409, .inl c70)), (k71, .inl (cI, 8, .inl c71)), (ka0, .inl (cI, 4, .inl ca0)), (ka1, .inl (cI, 4, .inl ca1)), (ka2, .inl (cI, 144, .inl ca2)), (k050, .inl (cI, 36, .inl c050)), (k05, .inr (3, [.ref k050, .int c051]))] := hD
    rcases w_10 with ⟨hr_9, h_12, h_13⟩ | ⟨hr_9, h_14⟩
    · have h_12 : 0 ≤ a1.toInt := h_12
      have h_13 : a1.toInt ≤ 3 := h_13
      obtain rfl : r_9 = 1 := hr_9.trans (by decide +kernel)
      refine b_if_eq hx hb zl_1 (tgt := 27) dX10_load_18 (by decide +kernel) (fun c_15 => by exfalso; omega) (fun c_15 => ?_)
      refine lv_iload_n hx hb dX10_load_21 rfl (lv_at hl 3 rfl) ?_
      refine lv_bipush (v := (-2)) hx hb dX10_load_22 (by decide +kernel) ?_
      refine b_icmp_ge hx hb rfl zl_m2 (tgt := 33) dX10_load_24 (by decide +kernel) (fun c_16 => ?_) (fun c_16 => ?_)
      · refine lv_aload_n hx hb dX10_load_33 rfl (lv_at hl 0 rfl) ?_
        refine va_get (D := D) (ci := 10) (v := .ref ka) (C := RX10) (T := TX10) (N := 13) hx hb hT giX10 hown hK hP 0 rfl rfl 10 (by decide +kernel) (hT (Cond.fieldLink RX10 70 "DesertWire" "sheets" "LDesertWire$Sheets;") mw_301) (fun _ h9 => h9) rfl dX10_load_34 ?_
        refine lv_iload_n hx hb dX10_load_37 rfl (lv_at hl 2 rfl) ?_
        refine kJi (wr := [(k, .inr (10, [.ref k0, .ref k1, .ref k2, .ref k3, .ref k4, .ref k5, .ref k6, .ref k7, .ref k8, .ref k9, .ref ka, .ref kb, .int cc])), (k0, .inr (9, [.ref k00, .ref k01, .ref k02, .ref k03, .ref k04, .ref k05, .int c06, .int c07, .int c08])), (k7, .inr (1, [.ref k70, .ref k71, .int c72, .int c73])), (kb, .inl (cI, 6, .inl cb)), (k70, .inl (cI, 5409, .inl c70)), (k71, .inl (cI, 8, .inl c71)), (ka1, .inl (cI, 4, .inl ca1)), (ka2, .inl (cI, 144, .inl ca2)), (k050, .inl (cI, 36, .inl c050)), (k05, .inr (3, [.ref k050, .int c051]))]) (va_runV (As := [.int a1]) (rest := []) ⟨hx, hb, hml, hown, hT⟩ (c_X6_isMissingG l D cI aK aV ka ka0 ka1 ka2 H.size ca0 a1) (cwV 1 hT (gV_in mw_666 mw_663 mw_664 mw_665 mw_11) rfl rfl rfl (by decide +kernel) ⟨Nat.le_of_ble_eq_true rfl, Nat.le_of_ble_eq_true rfl⟩) (kRecvX (q0 := 3) (ci := 6) hK hP hD hN hXS hS hA rfl rfl [3, 7] rfl (by decide +kernel)) rfl rfl hl.1 rfl (lv_room (Nat.le_of_ble_eq_true rfl)) dX10_load_38 ⟨Nat.le_of_ble_eq_true rfl, Nat.le_of_ble_eq_true rfl⟩) hP hD hS hA [3, 7] [0, 1, 2, 4, 5, 6, 8, 9, 10, 11] rfl rfl (by decide +kernel) (by decide +kernel) ?_
        clear hP hD hS
        intro r_17 u_19 H locs w_18 hP hD hS
        replace hP : va_P D vwCl [(k, .inr (10, [.ref k0, .ref k1, .ref k2, .ref k3, .ref k4, .ref k5, .ref k6, .ref k7, .ref k8, .ref k9, .ref ka, .ref kb, .int cc])), (k0, .inr (9, [.ref k00, .ref k01, .ref k02, .ref k03, .ref k04, .ref k05, .int c06, .int c07, .int c08])), (k7, .inr (1, [.ref k70, .ref k71, .int c72, .int c73])), (kb, .inl (cI, 6, .inl cb)), (k70, .inl (cI, 5409, .inl c70)), (k71, .inl (cI, 8, .inl c71)), (ka1, .inl (cI, 4, .inl ca1)), (ka2, .inl (cI, 144, .inl ca2)), (k050, .inl (cI, 36, .inl c050)), (k05, .inr (3, [.ref k050, .int c051])), (ka, .inr (6, [.ref ka0, .ref ka1, .ref ka2])), (ka0, .inl (cI, 4, .inl ca0))] H := hP
        replace hD : va_D A [(k, .inr (10, [.ref k0, .ref k1, .ref k2, .ref k3, .ref k4, .ref k5, .ref k6, .ref k7, .ref k8, .ref k9, .ref ka, .ref kb, .int cc])), (k0, .inr (9, [.ref k00, .ref k01, .ref k02, .ref k03, .ref k04, .ref k05, .int c06, .int c07, .int c08])), (k7, .inr (1, [.ref k70, .ref k71, .int c72, .int c73])), (kb, .inl (cI, 6, .inl cb)), (k70, .inl (cI, 5409, .inl c70)), (k71, .inl (cI, 8, .inl c71)), (ka1, .inl (cI, 4, .inl ca1)), (ka2, .inl (cI, 144, .inl ca2)), (k050, .inl (cI, 36, .inl c050)), (k05, .inr (3, [.ref k050, .int c051])), (ka, .inr (6, [.ref ka0, .ref ka1, .ref ka2])), (ka0, .inl (cI, 4, .inl ca0))] := hD
        rcases w_18 with ⟨hr_17, h_20, h_21, h_22⟩ | ⟨hr_17, h_23, h_24, h_25⟩ | ⟨hr_17, h_26⟩
        · have h_20 : 0 ≤ a1.toInt := h_20
          have h_21 : a1.toInt ≤ 3 := h_21
          have h_22 : (ca0 a1.toNatClampNeg).toInt = 0 := h_22
          obtain rfl : r_17 = 1 := hr_17.trans (by decide +kernel)
          refine b_if_eq hx hb zl_1 (tgt := 50) dX10_load_41 (by decide +kernel) (fun c_27 => by exfalso; omega) (fun c_27 => ?_)
          refine lv_aload_n hx hb dX10_load_44 rfl (lv_at hl 0 rfl) ?_
          refine lv_iconst (v := 2) hx hb dX10_load_45 (by decide +kernel) ?_
          refine kJi (wr := [(k0, .inr (9, [.ref k00, .ref k01, .ref k02, .ref k03, .ref k04, .ref k05, .int c06, .int c07, .int c08])), (k7, .inr (1, [.ref k70, .ref k71, .int c72, .int c73])), (k70, .inl (cI, 5409, .inl c70)), (k71, .inl (cI, 8, .inl c71)), (ka1, .inl (cI, 4, .inl ca1)), (ka2, .inl (cI, 144, .inl ca2)), (k050, .inl (cI, 36, .inl c050)), (k05, .inr (3, [.ref k050, .int c051])), (ka, .inr (6, [.ref ka0, .ref ka1, .ref ka2])), (ka0, .inl (cI, 4, .inl ca0))]) (va_runV (As := [.int 2]) (rest := []) ⟨hx, hb, hml, hown, hT⟩ (c_X10_findingG l D cI aK aV k k0 k1 k2 k3 k4 k5 k6 k7 k8 k9 ka kb H.size cc cb 2) (cwV 1 hT (gV_in mw_338 mw_335 mw_337 mw_p1_0 mw_1) rfl rfl rfl (by decide +kernel) ⟨Nat.le_of_ble_eq_true rfl, Nat.le_of_ble_eq_true rfl⟩) (kRecvX (q0 := 0) (ci := 10) hK hP hD hN hXS hS hA rfl rfl [0, 3] rfl (by decide +kernel)) rfl rfl hl.1 rfl (lv_room (Nat.le_of_ble_eq_true rfl)) dX10_load_46 ⟨Nat.le_of_ble_eq_true rfl, Nat.le_of_ble_eq_true rfl⟩) hP hD hS hA [0, 3] [1, 2, 4, 5, 6, 7, 8, 9, 10, 11] rfl rfl (by decide +kernel) (by decide +kernel) ?_
          clear hP hD hS
          intro r_28 scb_30 H locs w_29 hP hD hS
          replace hP : va_P D vwCl [(k0, .inr (9, [.ref k00, .ref k01, .ref k02, .ref k03, .ref k04, .ref k05, .int c06, .int c07, .int c08])), (k7, .inr (1, [.ref k70, .ref k71, .int c72, .int c73])), (k70, .inl (cI, 5409, .inl c70)), (k71, .inl (cI, 8, .inl c71)), (ka1, .inl (cI, 4, .inl ca1)), (ka2, .inl (cI, 144, .inl ca2)), (k050, .inl (cI, 36, .inl c050)), (k05, .inr (3, [.ref k050, .int c051])), (ka, .inr (6, [.ref ka0, .ref ka1, .ref ka2])), (ka0, .inl (cI, 4, .inl ca0)), (k, .inr (10, [.ref k0, .ref k1, .ref k2, .ref k3, .ref k4, .ref k5, .ref k6, .ref k7, .ref k8, .ref k9, .ref ka, .ref kb, .int cc])), (kb, .inl (cI, 6, .inl scb_30))] H := hP
          replace hD : va_D A [(k0, .inr (9, [.ref k00, .ref k01, .ref k02, .ref k03, .ref k04, .ref k05, .int c06, .int c07, .int c08])), (k7, .inr (1, [.ref k70, .ref k71, .int c72, .int c73])), (k70, .inl (cI, 5409, .inl c70)), (k71, .inl (cI, 8, .inl c71)), (ka1, .inl (cI, 4, .inl ca1)), (ka2, .inl (cI, 144, .inl ca2)), (k050, .inl (cI, 36, .inl c050)), (k05, .inr (3, [.ref k050, .int c051])), (ka, .inr (6, [.ref ka0, .ref ka1, .ref ka2])), (ka0, .inl (cI, 4, .inl ca0)), (k, .inr (10, [.ref k0, .ref k1, .ref k2, .ref k3, .ref k4, .ref k5, .ref k6, .ref k7, .ref k8, .ref k9, .ref ka, .ref kb, .int cc])), (kb, .inl (cI, 6, .inl scb_30))] := hD
          have hr_28 := w_29
          obtain rfl : r_28 = (-1000002) := hr_28.trans (by decide +kernel)
          exact hRet (c72, c73, scb_30, c70, c71) [10, 0, 1, 8, 11, 7, 2, 3, 9, 4, 5, 6] trivial hP hD (by decide +kernel) rfl hS rfl dX10_load_49
        · have h_23 : 0 ≤ a1.toInt := h_23
          have h_24 : a1.toInt ≤ 3 := h_24
          have h_25 : (ca0 a1.toNatClampNeg).toInt ≠ 0 := h_25
          obtain rfl : r_17 = 0 := hr_17.trans (by decide +kernel)
          refine b_if_eq hx hb zl_0 (tgt := 50) dX10_load_41 (by decide +kernel) (fun c_31 => ?_) (fun c_31 => by exfalso; omega)
          refine lv_aload_n hx hb dX10_load_50 rfl (lv_at hl 0 rfl) ?_
          refine lv_iload_n hx hb dX10_load_51 rfl (lv_at hl 2 rfl) ?_
          refine kJi (wr := [(k0, .inr (9, [.ref k00, .ref k01, .ref k02, .ref k03, .ref k04, .ref k05, .int c06, .int c07, .int c08])), (k7, .inr (1, [.ref k70, .ref k71, .int c72, .int c73])), (kb, .inl (cI, 6, .inl cb)), (k70, .inl (cI, 5409, .inl c70)), (k71, .inl (cI, 8, .inl c71)), (k050, .inl (cI, 36, .inl c050)), (k05, .inr (3, [.ref k050, .int c051])), (ka0, .inl (cI, 4, .inl ca0))]) (va_runV (As := [.int a1]) (rest := []) ⟨hx, hb, hml, hown, hT⟩ (c_X10_areThingsG l D cI aK aV k k0 k1 k2 k3 k4 k5 k6 k7 k8 k9 ka kb ka0 ka1 ka2 H.size cc ca1 ca2 a1 (by first | omega | decide | assumption | rfl) (by first | omega | decide | assumption | rfl) (by first | omega | decide | assumption | rfl)) (cwV 1 hT (gV_in mw_885 mw_882 mw_884 mw_p2_8 mw_1) rfl rfl rfl (by decide +kernel) ⟨Nat.le_of_ble_eq_true rfl, Nat.le_of_ble_eq_true rfl⟩) (kRecvX (q0 := 0) (ci := 10) hK hP hD hN hXS hS hA rfl rfl [0, 10, 6, 7] rfl (by decide +kernel)) rfl rfl hl.1 rfl (lv_room (Nat.le_of_ble_eq_true rfl)) dX10_load_52 ⟨Nat.le_of_ble_eq_true rfl, Nat.le_of_ble_eq_true rfl⟩) hP hD hS hA [0, 10, 6, 7] [1, 2, 3, 4, 5, 8, 9, 11] rfl rfl (by decide +kernel) (by decide +kernel) ?_
          clear hP hD hS
          intro r_32 u_34 H locs w_33 hP hD hS
          replace hP : va_P D vwCl [(k0, .inr (9, [.ref k00, .ref k01, .ref k02, .ref k03, .ref k04, .ref k05, .int c06, .int c07, .int c08])), (k7, .inr (1, [.ref k70, .ref k71, .int c72, .int c73])), (kb, .inl (cI, 6, .inl cb)), (k70, .inl (cI, 5409, .inl c70)), (k71, .inl (cI, 8, .inl c71)), (k050, .inl (cI, 36, .inl c050)), (k05, .inr (3, [.ref k050, .int c051])), (ka0, .inl (cI, 4, .inl ca0)), (k, .inr (10, [.ref k0, .ref k1, .ref k2, .ref k3, .ref k4, .ref k5, .ref k6, .ref k7, .ref k8, .ref k9, .ref ka, .ref kb, .int cc])), (ka, .inr (6, [.ref ka0, .ref ka1, .ref ka2])), (ka1, .inl (cI, 4, .inl ca1)), (ka2, .inl (cI, 144, .inl ca2))] H := hP
          replace hD : va_D A [(k0, .inr (9, [.ref k00, .ref k01, .ref k02, .ref k03, .ref k04, .ref k05, .int c06, .int c07, .int c08])), (k7, .inr (1, [.ref k70, .ref k71, .int c72, .int c73])), (kb, .inl (cI, 6, .inl cb)), (k70, .inl (cI, 5409, .inl c70)), (k71, .inl (cI, 8, .inl c71)), (k050, .inl (cI, 36, .inl c050)), (k05, .inr (3, [.ref k050, .int c051])), (ka0, .inl (cI, 4, .inl ca0)), (k, .inr (10, [.ref k0, .ref k1, .ref k2, .ref k3, .ref k4, .ref k5, .ref k6, .ref k7, .ref k8, .ref k9, .ref ka, .ref kb, .int cc])), (ka, .inr (6, [.ref ka0, .ref ka1, .ref ka2])), (ka1, .inl (cI, 4, .inl ca1)), (ka2, .inl (cI, 144, .inl ca2))] := hD
          rcases w_33 with ⟨hr_32, h_35, h_36, h_37⟩ | hr_32
          · have h_35 : 3 ≤ (ca1 a1.toNatClampNeg).toInt := h_35
            have h_36 : (ca1 a1.toNatClampNeg).toInt ≤ 24 := h_36
            have h_37 : ∀ i : Int32, i.toInt % 3 = 2 → (kNum ca1 ca2 a1 i).toInt ≤ 3 := h_37
            obtain rfl : r_32 = 1 := hr_32.trans (by decide +kernel)
            refine b_if_ne hx hb zl_1 (tgt := 64) dX10_load_55 (by decide +kernel) (fun c_38 => ?_) (fun c_38 => by exfalso; omega)
            refine lv_aload_n hx hb dX10_load_64 rfl (lv_at hl 0 rfl) ?_
            refine va_get (D := D) (ci := 10) (v := .ref ka) (C := RX10) (T := TX10) (N := 13) hx hb hT giX10 hown hK hP 8 rfl rfl 10 (by decide +kernel) (hT (Cond.fieldLink RX10 70 "DesertWire" "sheets" "LDesertWire$Sheets;") mw_301) (fun _ h9 => h9) rfl dX10_load_65 ?_
            refine lv_iload_n hx hb dX10_load_68 rfl (lv_at hl 2 rfl) ?_
            refine kJi (wr := [(k0, .inr (9, [.ref k00, .ref k01, .ref k02, .ref k03, .ref k04, .ref k05, .int c06, .int c07, .int c08])), (k7, .inr (1, [.ref k70, .ref k71, .int c72, .int c73])), (kb, .inl (cI, 6, .inl cb)), (k70, .inl (cI, 5409, .inl c70)), (k71, .inl (cI, 8, .inl c71)), (k050, .inl (cI, 36, .inl c050)), (k05, .inr (3, [.ref k050, .int c051])), (ka0, .inl (cI, 4, .inl ca0)), (k, .inr (10, [.ref k0, .ref k1, .ref k2, .ref k3, .ref k4, .ref k5, .ref k6, .ref k7, .ref k8, .ref k9, .ref ka, .ref kb, .int cc])), (ka2, .inl (cI, 144, .inl ca2))]) (va_runV (As := [.int a1]) (rest := []) ⟨hx, hb, hml, hown, hT⟩ (c_X6_lengthOfG l D cI aK aV ka ka0 ka1 ka2 H.size ca1 a1 (by first | omega | decide | assumption | rfl)) (cwV 1 hT (gV_in mw_675 mw_672 mw_673 mw_674 mw_11) rfl rfl rfl (by decide +kernel) ⟨Nat.le_of_ble_eq_true rfl, Nat.le_of_ble_eq_true rfl⟩) (kRecvX (q0 := 9) (ci := 6) hK hP hD hN hXS hS hA rfl rfl [9, 10] rfl (by decide +kernel)) rfl rfl hl.1 rfl (lv_room (Nat.le_of_ble_eq_true rfl)) dX10_load_69 ⟨Nat.le_of_ble_eq_true rfl, Nat.le_of_ble_eq_true rfl⟩) hP hD hS hA [9, 10] [0, 1, 2, 3, 4, 5, 6, 7, 8, 11] rfl rfl (by decide +kernel) (by decide +kernel) ?_
            clear hP hD hS
            intro r_39 u_41 H locs w_40 hP hD hS
            replace hP : va_P D vwCl [(k0, .inr (9, [.ref k00, .ref k01, .ref k02, .ref k03, .ref k04, .ref k05, .int c06, .int c07, .int c08])), (k7, .inr (1, [.ref k70, .ref k71, .int c72, .int c73])), (kb, .inl (cI, 6, .inl cb)), (k70, .inl (cI, 5409, .inl c70)), (k71, .inl (cI, 8, .inl c71)), (k050, .inl (cI, 36, .inl c050)), (k05, .inr (3, [.ref k050, .int c051])), (ka0, .inl (cI, 4, .inl ca0)), (k, .inr (10, [.ref k0, .ref k1, .ref k2, .ref k3, .ref k4, .ref k5, .ref k6, .ref k7, .ref k8, .ref k9, .ref ka, .ref kb, .int cc])), (ka2, .inl (cI, 144, .inl ca2)), (ka, .inr (6, [.ref ka0, .ref ka1, .ref ka2])), (ka1, .inl (cI, 4, .inl ca1))] H := hP
            replace hD : va_D A [(k0, .inr (9, [.ref k00, .ref k01, .ref k02, .ref k03, .ref k04, .ref k05, .int c06, .int c07, .int c08])), (k7, .inr (1, [.ref k70, .ref k71, .int c72, .int c73])), (kb, .inl (cI, 6, .inl cb)), (k70, .inl (cI, 5409, .inl c70)), (k71, .inl (cI, 8, .inl c71)), (k050, .inl (cI, 36, .inl c050)), (k05, .inr (3, [.ref k050, .int c051])), (ka0, .inl (cI, 4, .inl ca0)), (k, .inr (10, [.ref k0, .ref k1, .ref k2, .ref k3, .ref k4, .ref k5, .ref k6, .ref k7, .ref k8, .ref k9, .ref ka, .ref kb, .int cc])), (ka2, .inl (cI, 144, .inl ca2)), (ka, .inr (6, [.ref ka0, .ref ka1, .ref ka2])), (ka1, .inl (cI, 4, .inl ca1))] := hD
            rcases w_40 with ⟨h_42, h_43, h_44, h_45, h_46⟩ | ⟨hr_39, h_47⟩
            · have h_42 : 0 ≤ a1.toInt := h_42
              have h_43 : a1.toInt ≤ 3 := h_43
              have h_44 : 0 ≤ r_39.toInt := h_44
              have h_45 : r_39.toInt ≤ 36 := h_45
              have h_46 : r_39.toInt = (ca1 a1.toNatClampNeg).toInt := h_46
              have lo_r_39 := k_lo r_39
              have hi_r_39 := k_hi r_39
              refine lv_iconst (v := 3) hx hb dX10_load_72 (by decide +kernel) ?_
              refine lv_idiv hx hb dX10_load_73 (by decide +kernel) ?_
              refine lv_topi (fun v_48 ev_48 => ?_)
              have tv_48 : v_48.toInt = r_39.toInt / 3 := k_divv (w := 0) ev_48 zl_3 (by omega) (by decide +kernel)
              have lo_v_48 := k_lo v_48
              have hi_v_48 := k_hi v_48
              refine lv_istore (lv' := [(4, .int v_48), (0, .ref k), (1, .int a0), (2, .int a1), (3, .int a2)]) hx hb dX10_load_74 hl (by decide +kernel) rfl ?_
              clear hl
              intro ls hl
              refine lv_iload_n hx hb dX10_load_76 rfl (lv_at hl 4 rfl) ?_
              refine lv_iload hx hb dX10_load_77 (lv_at hl 0 rfl) ?_
              refine b_icmp_lt hx hb rfl rfl (tgt := 88) dX10_load_79 (by decide +kernel) (fun c_49 => ?_) (fun c_49 => ?_)
              · refine lv_aload_n hx hb dX10_load_88 rfl (lv_at hl 1 rfl) ?_
                refine va_get (D := D) (ci := 10) (v := .ref k7) (C := RX10) (T := TX10) (N := 13) hx hb hT giX10 hown hK hP 8 rfl rfl 7 (by decide +kernel) (hT (Cond.fieldLink RX10 49 "DesertWire" "loads" "LDesertWire$Loads;") mw_298) (fun _ h9 => h9) rfl dX10_load_89 ?_
                refine lv_aload_n hx hb dX10_load_92 rfl (lv_at hl 1 rfl) ?_
                refine va_get (D := D) (ci := 10) (v := .ref ka) (C := RX10) (T := TX10) (N := 13) hx hb hT giX10 hown hK hP 8 rfl rfl 10 (by decide +kernel) (hT (Cond.fieldLink RX10 70 "DesertWire" "sheets" "LDesertWire$Sheets;") mw_301) (fun _ h9 => h9) rfl dX10_load_93 ?_
                refine lv_iload_n hx hb dX10_load_96 rfl (lv_at hl 3 rfl) ?_
                refine lv_bipush (v := 12) hx hb dX10_load_97 (by decide +kernel) ?_
                refine lv_aload_n hx hb dX10_load_99 rfl (lv_at hl 1 rfl) ?_
                refine va_get (D := D) (ci := 10) (v := .ref k0) (C := RX10) (T := TX10) (N := 13) hx hb hT giX10 hown hK hP 8 rfl rfl 0 (by decide +kernel) (hT (Cond.fieldLink RX10 12 "DesertWire" "now" "LDesertWire$World;") mw_291) (fun _ h9 => h9) rfl dX10_load_100 ?_
                refine va_get (D := D) (ci := 9) (v := .ref k05) (C := RX9) (T := TX9) (N := 9) hx hb hT giX9 hown hK hP 0 rfl rfl 5 (by decide +kernel) (hT (Cond.fieldLink RX10 193 "DesertWire$World" "parties" "LDesertWire$Parties;") mw_102) (fun _ h9 => h9) rfl dX10_load_103 ?_
                refine lv_iload_n hx hb dX10_load_106 rfl (lv_at hl 2 rfl) ?_
                refine lv_iconst (v := 3) hx hb dX10_load_107 (by decide +kernel) ?_
                refine kJi (wr := [(k0, .inr (9, [.ref k00, .ref k01, .ref k02, .ref k03, .ref k04, .ref k05, .int c06, .int c07, .int c08])), (k7, .inr (1, [.ref k70, .ref k71, .int c72, .int c73])), (kb, .inl (cI, 6, .inl cb)), (k70, .inl (cI, 5409, .inl c70)), (k71, .inl (cI, 8, .inl c71)), (ka0, .inl (cI, 4, .inl ca0)), (k, .inr (10, [.ref k0, .ref k1, .ref k2, .ref k3, .ref k4, .ref k5, .ref k6, .ref k7, .ref k8, .ref k9, .ref ka, .ref kb, .int cc])), (ka2, .inl (cI, 144, .inl ca2)), (ka, .inr (6, [.ref ka0, .ref ka1, .ref ka2])), (ka1, .inl (cI, 4, .inl ca1))]) (va_runV (As := [.int a0, .int 3]) (rest := [.int 12, .int a1, .ref ka, .ref k7]) ⟨hx, hb, hml, hown, hT⟩ (c_X3_getG l D cI aK aV k05 k050 H.size c051 c050 a0 3) (cwV 2 hT (gV_in mw_726 mw_723 mw_724 mw_725 mw_4) rfl rfl rfl (by decide +kernel) ⟨Nat.le_of_ble_eq_true rfl, Nat.le_of_ble_eq_true rfl⟩) (kRecvX (q0 := 6) (ci := 3) hK hP hD hN hXS hS hA rfl rfl [6, 5] rfl (by decide +kernel)) rfl rfl hl.1 rfl (lv_room (Nat.le_of_ble_eq_true rfl)) dX10_load_108 ⟨Nat.le_of_ble_eq_true rfl, Nat.le_of_ble_eq_true rfl⟩) hP hD hS hA [6, 5] [0, 1, 2, 3, 4, 7, 8, 9, 10, 11] rfl rfl (by decide +kernel) (by decide +kernel) ?_
                clear hP hD hS
                intro r_50 u_52 H locs w_51 hP hD hS
                replace hP : va_P D vwCl [(k0, .inr (9, [.ref k00, .ref k01, .ref k02, .ref k03, .ref k04, .ref k05, .int c06, .int c07, .int c08])), (k7, .inr (1, [.ref k70, .ref k71, .int c72, .int c73])), (kb, .inl (cI, 6, .inl cb)), (k70, .inl (cI, 5409, .inl c70)), (k71, .inl (cI, 8, .inl c71)), (ka0, .inl (cI, 4, .inl ca0)), (k, .inr (10, [.ref k0, .ref k1, .ref k2, .ref k3, .ref k4, .ref k5, .ref k6, .ref k7, .ref k8, .ref k9, .ref ka, .ref kb, .int cc])), (ka2, .inl (cI, 144, .inl ca2)), (ka, .inr (6, [.ref ka0, .ref ka1, .ref ka2])), (ka1, .inl (cI, 4, .inl ca1)), (k05, .inr (3, [.ref k050, .int c051])), (k050, .inl (cI, 36, .inl c050))] H := hP
                replace hD : va_D A [(k0, .inr (9, [.ref k00, .ref k01, .ref k02, .ref k03, .ref k04, .ref k05, .int c06, .int c07, .int c08])), (k7, .inr (1, [.ref k70, .ref k71, .int c72, .int c73])), (kb, .inl (cI, 6, .inl cb)), (k70, .inl (cI, 5409, .inl c70)), (k71, .inl (cI, 8, .inl c71)), (ka0, .inl (cI, 4, .inl ca0)), (k, .inr (10, [.ref k0, .ref k1, .ref k2, .ref k3, .ref k4, .ref k5, .ref k6, .ref k7, .ref k8, .ref k9, .ref ka, .ref kb, .int cc])), (ka2, .inl (cI, 144, .inl ca2)), (ka, .inr (6, [.ref ka0, .ref ka1, .ref ka2])), (ka1, .inl (cI, 4, .inl ca1)), (k05, .inr (3, [.ref k050, .int c051])), (k050, .inl (cI, 36, .inl c050))] := hD
                have lo_r_50 := k_lo r_50
                have hi_r_50 := k_hi r_50
                refine lv_imul hx hb dX10_load_111 ?_
                refine lv_topi (fun v_53 ev_53 => ?_)
                have lo_v_53 := k_lo v_53
                have hi_v_53 := k_hi v_53
                refine kJv (wr := [(k0, .inr (9, [.ref k00, .ref k01, .ref k02, .ref k03, .ref k04, .ref k05, .int c06, .int c07, .int c08])), (kb, .inl (cI, 6, .inl cb)), (ka0, .inl (cI, 4, .inl ca0)), (k, .inr (10, [.ref k0, .ref k1, .ref k2, .ref k3, .ref k4, .ref k5, .ref k6, .ref k7, .ref k8, .ref k9, .ref ka, .ref kb, .int cc])), (k05, .inr (3, [.ref k050, .int c051])), (k050, .inl (cI, 36, .inl c050))]) (va_runV (As := [.ref ka, .int a1, .int v_53]) (rest := []) ⟨hx, hb, hml, hown, hT⟩ (c_X1_packG l D cI aK aV k7 ka k70 k71 ka0 ka1 ka2 H.size c72 c73 c70 c71 ca1 ca2 a1 v_53 (by first | omega | decide | assumption | rfl) (by first | omega | decide | assumption | rfl)) (cwV 3 hT (gV_in mw_890 mw_887 mw_888 mw_889 mw_8) rfl rfl rfl (by decide +kernel) ⟨Nat.le_of_ble_eq_true rfl, Nat.le_of_ble_eq_true rfl⟩) (kRecvX (q0 := 1) (ci := 1) hK hP hD hN hXS hS hA rfl rfl [1, 3, 4, 8, 9, 7] rfl (by decide +kernel)) rfl rfl hl.1 rfl (lv_room (Nat.le_of_ble_eq_true rfl)) dX10_load_112 ⟨Nat.le_of_ble_eq_true rfl, Nat.le_of_ble_eq_true rfl⟩) hP hD hS hA [1, 3, 4, 8, 9, 7] [0, 2, 5, 6, 10, 11] rfl rfl (by decide +kernel) (by decide +kernel) ?_
                clear hP hD hS
                intro u_60 H locs w_55 hP hD hS
                obtain ⟨sc2_56, sc3_57, sc0_58, sc1_59⟩ := u_60
                replace hP : va_P D vwCl [(k0, .inr (9, [.ref k00, .ref k01, .ref k02, .ref k03, .ref k04, .ref k05, .int c06, .int c07, .int c08])), (kb, .inl (cI, 6, .inl cb)), (ka0, .inl (cI, 4, .inl ca0)), (k, .inr (10, [.ref k0, .ref k1, .ref k2, .ref k3, .ref k4, .ref k5, .ref k6, .ref k7, .ref k8, .ref k9, .ref ka, .ref kb, .int cc])), (k05, .inr (3, [.ref k050, .int c051])), (k050, .inl (cI, 36, .inl c050)), (k7, .inr (1, [.ref k70, .ref k71, .int sc2_56, .int sc3_57])), (k70, .inl (cI, 5409, .inl sc0_58)), (k71, .inl (cI, 8, .inl sc1_59)), (ka, .inr (6, [.ref ka0, .ref ka1, .ref ka2])), (ka1, .inl (cI, 4, .inl ca1)), (ka2, .inl (cI, 144, .inl ca2))] H := hP
                replace hD : va_D A [(k0, .inr (9, [.ref k00, .ref k01, .ref k02, .ref k03, .ref k04, .ref k05, .int c06, .int c07, .int c08])), (kb, .inl (cI, 6, .inl cb)), (ka0, .inl (cI, 4, .inl ca0)), (k, .inr (10, [.ref k0, .ref k1, .ref k2, .ref k3, .ref k4, .ref k5, .ref k6, .ref k7, .ref k8, .ref k9, .ref ka, .ref kb, .int cc])), (k05, .inr (3, [.ref k050, .int c051])), (k050, .inl (cI, 36, .inl c050)), (k7, .inr (1, [.ref k70, .ref k71, .int sc2_56, .int sc3_57])), (k70, .inl (cI, 5409, .inl sc0_58)), (k71, .inl (cI, 8, .inl sc1_59)), (ka, .inr (6, [.ref ka0, .ref ka1, .ref ka2])), (ka1, .inl (cI, 4, .inl ca1)), (ka2, .inl (cI, 144, .inl ca2))] := hD
                have lo_sc2_56 := k_lo sc2_56
                have hi_sc2_56 := k_hi sc2_56
                have lo_sc3_57 := k_lo sc3_57
                have hi_sc3_57 := k_hi sc3_57
                refine lv_iload_n hx hb dX10_load_115 rfl (lv_at hl 4 rfl) ?_
                refine lv_iconst (v := (-1)) hx hb dX10_load_116 (by decide +kernel) ?_
                refine b_icmp_ne hx hb rfl zl_m1 (tgt := 130) dX10_load_117 (by decide +kernel) (fun c_61 => ?_) (fun c_61 => ?_)
                · refine lv_iload_n hx hb dX10_load_130 rfl (lv_at hl 4 rfl) ?_
                  refine lv_bipush (v := (-2)) hx hb dX10_load_131 (by decide +kernel) ?_
                  refine b_icmp_ne hx hb rfl zl_m2 (tgt := 146) dX10_load_133 (by decide +kernel) (fun c_62 => ?_) (fun c_62 => ?_)
                  · refine lv_aload_n hx hb dX10_load_146 rfl (lv_at hl 1 rfl) ?_
                    refine va_get (D := D) (ci := 10) (v := .ref k7) (C := RX10) (T := TX10) (N := 13) hx hb hT giX10 hown hK hP 3 rfl rfl 7 (by decide +kernel) (hT (Cond.fieldLink RX10 49 "DesertWire" "loads" "LDesertWire$Loads;") mw_298) (fun _ h9 => h9) rfl dX10_load_147 ?_
                    refine lv_iload_n hx hb dX10_load_150 rfl (lv_at hl 4 rfl) ?_
                    refine kJi (wr := [(k0, .inr (9, [.ref k00, .ref k01, .ref k02, .ref k03, .ref k04, .ref k05, .int c06, .int c07, .int c08])), (kb, .inl (cI, 6, .inl cb)), (ka0, .inl (cI, 4, .inl ca0)), (k, .inr (10, [.ref k0, .ref k1, .ref k2, .ref k3, .ref k4, .ref k5, .ref k6, .ref k7, .ref k8, .ref k9, .ref ka, .ref kb, .int cc])), (k05, .inr (3, [.ref k050, .int c051])), (k050, .inl (cI, 36, .inl c050)), (k70, .inl (cI, 5409, .inl sc0_58)), (ka, .inr (6, [.ref ka0, .ref ka1, .ref ka2])), (ka1, .inl (cI, 4, .inl ca1)), (ka2, .inl (cI, 144, .inl ca2))]) (va_runV (As := [.int a2]) (rest := []) ⟨hx, hb, hml, hown, hT⟩ (c_X1_takenOfG l D cI aK aV k7 k70 k71 H.size sc2_56 sc3_57 sc1_59 a2) (cwV 1 hT (gV_in mw_915 mw_912 mw_913 mw_914 mw_8) rfl rfl rfl (by decide +kernel) ⟨Nat.le_of_ble_eq_true rfl, Nat.le_of_ble_eq_true rfl⟩) (kRecvX (q0 := 6) (ci := 1) hK hP hD hN hXS hS hA rfl rfl [6, 8] rfl (by decide +kernel)) rfl rfl hl.1 rfl (lv_room (Nat.le_of_ble_eq_true rfl)) dX10_load_151 ⟨Nat.le_of_ble_eq_true rfl, Nat.le_of_ble_eq_true rfl⟩) hP hD hS hA [6, 8] [0, 1, 2, 3, 4, 5, 7, 9, 10, 11] rfl rfl (by decide +kernel) (by decide +kernel) ?_
                    clear hP hD hS
                    intro r_63 u_65 H locs w_64 hP hD hS
                    replace hP : va_P D vwCl [(k0, .inr (9, [.ref k00, .ref k01, .ref k02, .ref k03, .ref k04, .ref k05, .int c06, .int c07, .int c08])), (kb, .inl (cI, 6, .inl cb)), (ka0, .inl (cI, 4, .inl ca0)), (k, .inr (10, [.ref k0, .ref k1, .ref k2, .ref k3, .ref k4, .ref k5, .ref k6, .ref k7, .ref k8, .ref k9, .ref ka, .ref kb, .int cc])), (k05, .inr (3, [.ref k050, .int c051])), (k050, .inl (cI, 36, .inl c050)), (k70, .inl (cI, 5409, .inl sc0_58)), (ka, .inr (6, [.ref ka0, .ref ka1, .ref ka2])), (ka1, .inl (cI, 4, .inl ca1)), (ka2, .inl (cI, 144, .inl ca2)), (k7, .inr (1, [.ref k70, .ref k71, .int sc2_56, .int sc3_57])), (k71, .inl (cI, 8, .inl sc1_59))] H := hP
                    replace hD : va_D A [(k0, .inr (9, [.ref k00, .ref k01, .ref k02, .ref k03, .ref k04, .ref k05, .int c06, .int c07, .int c08])), (kb, .inl (cI, 6, .inl cb)), (ka0, .inl (cI, 4, .inl ca0)), (k, .inr (10, [.ref k0, .ref k1, .ref k2, .ref k3, .ref k4, .ref k5, .ref k6, .ref k7, .ref k8, .ref k9, .ref ka, .ref kb, .int cc])), (k05, .inr (3, [.ref k050, .int c051])), (k050, .inl (cI, 36, .inl c050)), (k70, .inl (cI, 5409, .inl sc0_58)), (ka, .inr (6, [.ref ka0, .ref ka1, .ref ka2])), (ka1, .inl (cI, 4, .inl ca1)), (ka2, .inl (cI, 144, .inl ca2)), (k7, .inr (1, [.ref k70, .ref k71, .int sc2_56, .int sc3_57])), (k71, .inl (cI, 8, .inl sc1_59))] := hD
                    have lo_r_63 := k_lo r_63
                    have hi_r_63 := k_hi r_63
                    exact hRet (sc2_56, sc3_57, cb, sc0_58, sc1_59) [3, 0, 10, 7, 1, 4, 6, 11, 2, 8, 9, 5] trivial hP hD (by decide +kernel) rfl hS rfl dX10_load_154
                  · refine lv_aload_n hx hb dX10_load_136 rfl (lv_at hl 1 rfl) ?_
                    refine va_get (D := D) (ci := 10) (v := .ref k7) (C := RX10) (T := TX10) (N := 13) hx hb hT giX10 hown hK hP 3 rfl rfl 7 (by decide +kernel) (hT (Cond.fieldLink RX10 49 "DesertWire" "loads" "LDesertWire$Loads;") mw_298) (fun _ h9 => h9) rfl dX10_load_137 ?_
                    refine va_get (D := D) (ci := 1) (v := .int sc3_57) (C := RX1) (T := TX1) (N := 4) hx hb hT giX1 hown hK hP 6 rfl rfl 3 (by decide +kernel) (hT (Cond.fieldLink RX10 308 "DesertWire$Loads" "weight" "I") mw_229) (fun _ h9 => h9) rfl dX10_load_140 ?_
                    refine lv_goto (tgt := 154) hx hb dX10_load_143 (by decide +kernel) ?_
                    exact hRet (sc2_56, sc3_57, cb, sc0_58, sc1_59) [3, 0, 6, 9, 1, 4, 7, 8, 2, 10, 11, 5] trivial hP hD (by decide +kernel) rfl hS rfl dX10_load_154
                · refine lv_aload_n hx hb dX10_load_120 rfl (lv_at hl 1 rfl) ?_
                  refine va_get (D := D) (ci := 10) (v := .ref k7) (C := RX10) (T := TX10) (N := 13) hx hb hT giX10 hown hK hP 3 rfl rfl 7 (by decide +kernel) (hT (Cond.fieldLink RX10 49 "DesertWire" "loads" "LDesertWire$Loads;") mw_298) (fun _ h9 => h9) rfl dX10_load_121 ?_
                  refine va_get (D := D) (ci := 1) (v := .int sc2_56) (C := RX1) (T := TX1) (N := 4) hx hb hT giX1 hown hK hP 6 rfl rfl 2 (by decide +kernel) (hT (Cond.fieldLink RX10 305 "DesertWire$Loads" "worth" "I") mw_227) (fun _ h9 => h9) rfl dX10_load_124 ?_
                  refine lv_goto (tgt := 154) hx hb dX10_load_127 (by decide +kernel) ?_
                  exact hRet (sc2_56, sc3_57, cb, sc0_58, sc1_59) [3, 0, 6, 9, 1, 4, 7, 8, 2, 10, 11, 5] trivial hP hD (by decide +kernel) rfl hS rfl dX10_load_154
              · refine lv_aload_n hx hb dX10_load_82 rfl (lv_at hl 1 rfl) ?_
                refine lv_iconst (v := 3) hx hb dX10_load_83 (by decide +kernel) ?_
                refine kJi (wr := [(k0, .inr (9, [.ref k00, .ref k01, .ref k02, .ref k03, .ref k04, .ref k05, .int c06, .int c07, .int c08])), (k7, .inr (1, [.ref k70, .ref k71, .int c72, .int c73])), (k70, .inl (cI, 5409, .inl c70)), (k71, .inl (cI, 8, .inl c71)), (k050, .inl (cI, 36, .inl c050)), (k05, .inr (3, [.ref k050, .int c051])), (ka0, .inl (cI, 4, .inl ca0)), (ka2, .inl (cI, 144, .inl ca2)), (ka, .inr (6, [.ref ka0, .ref ka1, .ref ka2])), (ka1, .inl (cI, 4, .inl ca1))]) (va_runV (As := [.int 3]) (rest := []) ⟨hx, hb, hml, hown, hT⟩ (c_X10_findingG l D cI aK aV k k0 k1 k2 k3 k4 k5 k6 k7 k8 k9 ka kb H.size cc cb 3) (cwV 1 hT (gV_in mw_338 mw_335 mw_337 mw_p1_0 mw_1) rfl rfl rfl (by decide +kernel) ⟨Nat.le_of_ble_eq_true rfl, Nat.le_of_ble_eq_true rfl⟩) (kRecvX (q0 := 8) (ci := 10) hK hP hD hN hXS hS hA rfl rfl [8, 2] rfl (by decide +kernel)) rfl rfl hl.1 rfl (lv_room (Nat.le_of_ble_eq_true rfl)) dX10_load_84 ⟨Nat.le_of_ble_eq_true rfl, Nat.le_of_ble_eq_true rfl⟩) hP hD hS hA [8, 2] [0, 1, 3, 4, 5, 6, 7, 9, 10, 11] rfl rfl (by decide +kernel) (by decide +kernel) ?_
                clear hP hD hS
                intro r_66 scb_68 H locs w_67 hP hD hS
                replace hP : va_P D vwCl [(k0, .inr (9, [.ref k00, .ref k01, .ref k02, .ref k03, .ref k04, .ref k05, .int c06, .int c07, .int c08])), (k7, .inr (1, [.ref k70, .ref k71, .int c72, .int c73])), (k70, .inl (cI, 5409, .inl c70)), (k71, .inl (cI, 8, .inl c71)), (k050, .inl (cI, 36, .inl c050)), (k05, .inr (3, [.ref k050, .int c051])), (ka0, .inl (cI, 4, .inl ca0)), (ka2, .inl (cI, 144, .inl ca2)), (ka, .inr (6, [.ref ka0, .ref ka1, .ref ka2])), (ka1, .inl (cI, 4, .inl ca1)), (k, .inr (10, [.ref k0, .ref k1, .ref k2, .ref k3, .ref k4, .ref k5, .ref k6, .ref k7, .ref k8, .ref k9, .ref ka, .ref kb, .int cc])), (kb, .inl (cI, 6, .inl scb_68))] H := hP
                replace hD : va_D A [(k0, .inr (9, [.ref k00, .ref k01, .ref k02, .ref k03, .ref k04, .ref k05, .int c06, .int c07, .int c08])), (k7, .inr (1, [.ref k70, .ref k71, .int c72, .int c73])), (k70, .inl (cI, 5409, .inl c70)), (k71, .inl (cI, 8, .inl c71)), (k050, .inl (cI, 36, .inl c050)), (k05, .inr (3, [.ref k050, .int c051])), (ka0, .inl (cI, 4, .inl ca0)), (ka2, .inl (cI, 144, .inl ca2)), (ka, .inr (6, [.ref ka0, .ref ka1, .ref ka2])), (ka1, .inl (cI, 4, .inl ca1)), (k, .inr (10, [.ref k0, .ref k1, .ref k2, .ref k3, .ref k4, .ref k5, .ref k6, .ref k7, .ref k8, .ref k9, .ref ka, .ref kb, .int cc])), (kb, .inl (cI, 6, .inl scb_68))] := hD
                have hr_66 := w_67
                obtain rfl : r_66 = (-1000003) := hr_66.trans (by decide +kernel)
                exact hRet (c72, c73, scb_68, c70, c71) [10, 0, 1, 8, 11, 5, 2, 3, 6, 9, 7, 4] trivial hP hD (by decide +kernel) rfl hS rfl dX10_load_87
            · exfalso; omega
          · obtain rfl : r_32 = 0 := hr_32.trans (by decide +kernel)
            refine b_if_ne hx hb zl_0 (tgt := 64) dX10_load_55 (by decide +kernel) (fun c_69 => by exfalso; omega) (fun c_69 => ?_)
            refine lv_aload_n hx hb dX10_load_58 rfl (lv_at hl 0 rfl) ?_
            refine lv_iconst (v := 5) hx hb dX10_load_59 (by decide +kernel) ?_
            refine kJi (wr := [(k0, .inr (9, [.ref k00, .ref k01, .ref k02, .ref k03, .ref k04, .ref k05, .int c06, .int c07, .int c08])), (k7, .inr (1, [.ref k70, .ref k71, .int c72, .int c73])), (k70, .inl (cI, 5409, .inl c70)), (k71, .inl (cI, 8, .inl c71)), (k050, .inl (cI, 36, .inl c050)), (k05, .inr (3, [.ref k050, .int c051])), (ka0, .inl (cI, 4, .inl ca0)), (ka, .inr (6, [.ref ka0, .ref ka1, .ref ka2])), (ka1, .inl (cI, 4, .inl ca1)), (ka2, .inl (cI, 144, .inl ca2))]) (va_runV (As := [.int 5]) (rest := []) ⟨hx, hb, hml, hown, hT⟩ (c_X10_findingG l D cI aK aV k k0 k1 k2 k3 k4 k5 k6 k7 k8 k9 ka kb H.size cc cb 5) (cwV 1 hT (gV_in mw_338 mw_335 mw_337 mw_p1_0 mw_1) rfl rfl rfl (by decide +kernel) ⟨Nat.le_of_ble_eq_true rfl, Nat.le_of_ble_eq_true rfl⟩) (kRecvX (q0 := 8) (ci := 10) hK hP hD hN hXS hS hA rfl rfl [8, 2] rfl (by decide +kernel)) rfl rfl hl.1 rfl (lv_room (Nat.le_of_ble_eq_true rfl)) dX10_load_60 ⟨Nat.le_of_ble_eq_true rfl, Nat.le_of_ble_eq_true rfl⟩) hP hD hS hA [8, 2] [0, 1, 3, 4, 5, 6, 7, 9, 10, 11] rfl rfl (by decide +kernel) (by decide +kernel) ?_
            clear hP hD hS
            intro r_70 scb_72 H locs w_71 hP hD hS
            replace hP : va_P D vwCl [(k0, .inr (9, [.ref k00, .ref k01, .ref k02, .ref k03, .ref k04, .ref k05, .int c06, .int c07, .int c08])), (k7, .inr (1, [.ref k70, .ref k71, .int c72, .int c73])), (k70, .inl (cI, 5409, .inl c70)), (k71, .inl (cI, 8, .inl c71)), (k050, .inl (cI, 36, .inl c050)), (k05, .inr (3, [.ref k050, .int c051])), (ka0, .inl (cI, 4, .inl ca0)), (ka, .inr (6, [.ref ka0, .ref ka1, .ref ka2])), (ka1, .inl (cI, 4, .inl ca1)), (ka2, .inl (cI, 144, .inl ca2)), (k, .inr (10, [.ref k0, .ref k1, .ref k2, .ref k3, .ref k4, .ref k5, .ref k6, .ref k7, .ref k8, .ref k9, .ref ka, .ref kb, .int cc])), (kb, .inl (cI, 6, .inl scb_72))] H := hP
            replace hD : va_D A [(k0, .inr (9, [.ref k00, .ref k01, .ref k02, .ref k03, .ref k04, .ref k05, .int c06, .int c07, .int c08])), (k7, .inr (1, [.ref k70, .ref k71, .int c72, .int c73])), (k70, .inl (cI, 5409, .inl c70)), (k71, .inl (cI, 8, .inl c71)), (k050, .inl (cI, 36, .inl c050)), (k05, .inr (3, [.ref k050, .int c051])), (ka0, .inl (cI, 4, .inl ca0)), (ka, .inr (6, [.ref ka0, .ref ka1, .ref ka2])), (ka1, .inl (cI, 4, .inl ca1)), (ka2, .inl (cI, 144, .inl ca2)), (k, .inr (10, [.ref k0, .ref k1, .ref k2, .ref k3, .ref k4, .ref k5, .ref k6, .ref k7, .ref k8, .ref k9, .ref ka, .ref kb, .int cc])), (kb, .inl (cI, 6, .inl scb_72))] := hD
            have hr_70 := w_71
            obtain rfl : r_70 = (-1000005) := hr_70.trans (by decide +kernel)
            exact hRet (c72, c73, scb_72, c70, c71) [10, 0, 1, 7, 11, 5, 2, 3, 6, 8, 9, 4] trivial hP hD (by decide +kernel) rfl hS rfl dX10_load_63
        · exfalso; omega
      · refine lv_aload_n hx hb dX10_load_27 rfl (lv_at hl 0 rfl) ?_
        refine lv_iconst (v := 1) hx hb dX10_load_28 (by decide +kernel) ?_
        refine kJi (wr := [(k0, .inr (9, [.ref k00, .ref k01, .ref k02, .ref k03, .ref k04, .ref k05, .int c06, .int c07, .int c08])), (k7, .inr (1, [.ref k70, .ref k71, .int c72, .int c73])), (ka, .inr (6, [.ref ka0, .ref ka1, .ref ka2])), (k70, .inl (cI, 5409, .inl c70)), (k71, .inl (cI, 8, .inl c71)), (ka0, .inl (cI, 4, .inl ca0)), (ka1, .inl (cI, 4, .inl ca1)), (ka2, .inl (cI, 144, .inl ca2)), (k050, .inl (cI, 36, .inl c050)), (k05, .inr (3, [.ref k050, .int c051]))]) (va_runV (As := [.int 1]) (rest := []) ⟨hx, hb, hml, hown, hT⟩ (c_X10_findingG l D cI aK aV k k0 k1 k2 k3 k4 k5 k6 k7 k8 k9 ka kb H.size cc cb 1) (cwV 1 hT (gV_in mw_338 mw_335 mw_337 mw_p1_0 mw_1) rfl rfl rfl (by decide +kernel) ⟨Nat.le_of_ble_eq_true rfl, Nat.le_of_ble_eq_true rfl⟩) (kRecvX (q0 := 0) (ci := 10) hK hP hD hN hXS hS hA rfl rfl [0, 4] rfl (by decide +kernel)) rfl rfl hl.1 rfl (lv_room (Nat.le_of_ble_eq_true rfl)) dX10_load_29 ⟨Nat.le_of_ble_eq_true rfl, Nat.le_of_ble_eq_true rfl⟩) hP hD hS hA [0, 4] [1, 2, 3, 5, 6, 7, 8, 9, 10, 11] rfl rfl (by decide +kernel) (by decide +kernel) ?_
        clear hP hD hS
        intro r_73 scb_75 H locs w_74 hP hD hS
        replace hP : va_P D vwCl [(k0, .inr (9, [.ref k00, .ref k01, .ref k02, .ref k03, .ref k04, .ref k05, .int c06, .int c07, .int c08])), (k7, .inr (1, [.ref k70, .ref k71, .int c72, .int c73])), (ka, .inr (6, [.ref ka0, .ref ka1, .ref ka2])), (k70, .inl (cI, 5409, .inl c70)), (k71, .inl (cI, 8, .inl c71)), (ka0, .inl (cI, 4, .inl ca0)), (ka1, .inl (cI, 4, .inl ca1)), (ka2, .inl (cI, 144, .inl ca2)), (k050, .inl (cI, 36, .inl c050)), (k05, .inr (3, [.ref k050, .int c051])), (k, .inr (10, [.ref k0, .ref k1, .ref k2, .ref k3, .ref k4, .ref k5, .ref k6, .ref k7, .ref k8, .ref k9, .ref ka, .ref kb, .int cc])), (kb, .inl (cI, 6, .inl scb_75))] H := hP
        replace hD : va_D A [(k0, .inr (9, [.ref k00, .ref k01, .ref k02, .ref k03, .ref k04, .ref k05, .int c06, .int c07, .int c08])), (k7, .inr (1, [.ref k70, .ref k71, .int c72, .int c73])), (ka, .inr (6, [.ref ka0, .ref ka1, .ref ka2])), (k70, .inl (cI, 5409, .inl c70)), (k71, .inl (cI, 8, .inl c71)), (ka0, .inl (cI, 4, .inl ca0)), (ka1, .inl (cI, 4, .inl ca1)), (ka2, .inl (cI, 144, .inl ca2)), (k050, .inl (cI, 36, .inl c050)), (k05, .inr (3, [.ref k050, .int c051])), (k, .inr (10, [.ref k0, .ref k1, .ref k2, .ref k3, .ref k4, .ref k5, .ref k6, .ref k7, .ref k8, .ref k9, .ref ka, .ref kb, .int cc])), (kb, .inl (cI, 6, .inl scb_75))] := hD
        have hr_73 := w_74
        obtain rfl : r_73 = (-1000001) := hr_73.trans (by decide +kernel)
        exact hRet (c72, c73, scb_75, c70, c71) [10, 0, 1, 2, 11, 9, 3, 4, 5, 6, 7, 8] trivial hP hD (by decide +kernel) rfl hS rfl dX10_load_32
    · have h_14 : a1.toInt < 0 ∨ 3 < a1.toInt := h_14
      obtain rfl : r_9 = 0 := hr_9.trans (by decide +kernel)
      refine b_if_eq hx hb zl_0 (tgt := 27) dX10_load_18 (by decide +kernel) (fun c_76 => ?_) (fun c_76 => by exfalso; omega)
      refine lv_aload_n hx hb dX10_load_27 rfl (lv_at hl 0 rfl) ?_
      refine lv_iconst (v := 1) hx hb dX10_load_28 (by decide +kernel) ?_
      refine kJi (wr := [(k0, .inr (9, [.ref k00, .ref k01, .ref k02, .ref k03, .ref k04, .ref k05, .int c06, .int c07, .int c08])), (k7, .inr (1, [.ref k70, .ref k71, .int c72, .int c73])), (ka, .inr (6, [.ref ka0, .ref ka1, .ref ka2])), (k70, .inl (cI, 5409, .inl c70)), (k71, .inl (cI, 8, .inl c71)), (ka0, .inl (cI, 4, .inl ca0)), (ka1, .inl (cI, 4, .inl ca1)), (ka2, .inl (cI, 144, .inl ca2)), (k050, .inl (cI, 36, .inl c050)), (k05, .inr (3, [.ref k050, .int c051]))]) (va_runV (As := [.int 1]) (rest := []) ⟨hx, hb, hml, hown, hT⟩ (c_X10_findingG l D cI aK aV k k0 k1 k2 k3 k4 k5 k6 k7 k8 k9 ka kb H.size cc cb 1) (cwV 1 hT (gV_in mw_338 mw_335 mw_337 mw_p1_0 mw_1) rfl rfl rfl (by decide +kernel) ⟨Nat.le_of_ble_eq_true rfl, Nat.le_of_ble_eq_true rfl⟩) (kRecvX (q0 := 0) (ci := 10) hK hP hD hN hXS hS hA rfl rfl [0, 4] rfl (by decide +kernel)) rfl rfl hl.1 rfl (lv_room (Nat.le_of_ble_eq_true rfl)) dX10_load_29 ⟨Nat.le_of_ble_eq_true rfl, Nat.le_of_ble_eq_true rfl⟩) hP hD hS hA [0, 4] [1, 2, 3, 5, 6, 7, 8, 9, 10, 11] rfl rfl (by decide +kernel) (by decide +kernel) ?_
      clear hP hD hS
      intro r_77 scb_79 H locs w_78 hP hD hS
      replace hP : va_P D vwCl [(k0, .inr (9, [.ref k00, .ref k01, .ref k02, .ref k03, .ref k04, .ref k05, .int c06, .int c07, .int c08])), (k7, .inr (1, [.ref k70, .ref k71, .int c72, .int c73])), (ka, .inr (6, [.ref ka0, .ref ka1, .ref ka2])), (k70, .inl (cI, 5409, .inl c70)), (k71, .inl (cI, 8, .inl c71)), (ka0, .inl (cI, 4, .inl ca0)), (ka1, .inl (cI, 4, .inl ca1)), (ka2, .inl (cI, 144, .inl ca2)), (k050, .inl (cI, 36, .inl c050)), (k05, .inr (3, [.ref k050, .int c051])), (k, .inr (10, [.ref k0, .ref k1, .ref k2, .ref k3, .ref k4, .ref k5, .ref k6, .ref k7, .ref k8, .ref k9, .ref ka, .ref kb, .int cc])), (kb, .inl (cI, 6, .inl scb_79))] H := hP
      replace hD : va_D A [(k0, .inr (9, [.ref k00, .ref k01, .ref k02, .ref k03, .ref k04, .ref k05, .int c06, .int c07, .int c08])), (k7, .inr (1, [.ref k70, .ref k71, .int c72, .int c73])), (ka, .inr (6, [.ref ka0, .ref ka1, .ref ka2])), (k70, .inl (cI, 5409, .inl c70)), (k71, .inl (cI, 8, .inl c71)), (ka0, .inl (cI, 4, .inl ca0)), (ka1, .inl (cI, 4, .inl ca1)), (ka2, .inl (cI, 144, .inl ca2)), (k050, .inl (cI, 36, .inl c050)), (k05, .inr (3, [.ref k050, .int c051])), (k, .inr (10, [.ref k0, .ref k1, .ref k2, .ref k3, .ref k4, .ref k5, .ref k6, .ref k7, .ref k8, .ref k9, .ref ka, .ref kb, .int cc])), (kb, .inl (cI, 6, .inl scb_79))] := hD
      have hr_77 := w_78
      obtain rfl : r_77 = (-1000001) := hr_77.trans (by decide +kernel)
      exact hRet (c72, c73, scb_79, c70, c71) [10, 0, 1, 2, 11, 9, 3, 4, 5, 6, 7, 8] trivial hP hD (by decide +kernel) rfl hS rfl dX10_load_32
  · have h_7 : a0.toInt < 0 ∨ c051.toInt ≤ a0.toInt ∨ 4 ≤ a0.toInt := h_7
    obtain rfl : r_1 = 0 := hr_1.trans (by decide +kernel)
    refine b_if_eq hx hb zl_0 (tgt := 27) dX10_load_11 (by decide +kernel) (fun c_80 => ?_) (fun c_80 => by exfalso; omega)
    refine lv_aload_n hx hb dX10_load_27 rfl (lv_at hl 0 rfl) ?_
    refine lv_iconst (v := 1) hx hb dX10_load_28 (by decide +kernel) ?_
    refine kJi (wr := [(k0, .inr (9, [.ref k00, .ref k01, .ref k02, .ref k03, .ref k04, .ref k05, .int c06, .int c07, .int c08])), (k7, .inr (1, [.ref k70, .ref k71, .int c72, .int c73])), (ka, .inr (6, [.ref ka0, .ref ka1, .ref ka2])), (k70, .inl (cI, 5409, .inl c70)), (k71, .inl (cI, 8, .inl c71)), (ka0, .inl (cI, 4, .inl ca0)), (ka1, .inl (cI, 4, .inl ca1)), (ka2, .inl (cI, 144, .inl ca2)), (k050, .inl (cI, 36, .inl c050)), (k05, .inr (3, [.ref k050, .int c051]))]) (va_runV (As := [.int 1]) (rest := []) ⟨hx, hb, hml, hown, hT⟩ (c_X10_findingG l D cI aK aV k k0 k1 k2 k3 k4 k5 k6 k7 k8 k9 ka kb H.size cc cb 1) (cwV 1 hT (gV_in mw_338 mw_335 mw_337 mw_p1_0 mw_1) rfl rfl rfl (by decide +kernel) ⟨Nat.le_of_ble_eq_true rfl, Nat.le_of_ble_eq_true rfl⟩) (kRecvX (q0 := 0) (ci := 10) hK hP hD hN hXS hS hA rfl rfl [0, 4] rfl (by decide +kernel)) rfl rfl hl.1 rfl (lv_room (Nat.le_of_ble_eq_true rfl)) dX10_load_29 ⟨Nat.le_of_ble_eq_true rfl, Nat.le_of_ble_eq_true rfl⟩) hP hD hS hA [0, 4] [1, 2, 3, 5, 6, 7, 8, 9, 10, 11] rfl rfl (by decide +kernel) (by decide +kernel) ?_
    clear hP hD hS
    intro r_81 scb_83 H locs w_82 hP hD hS
    replace hP : va_P D vwCl [(k0, .inr (9, [.ref k00, .ref k01, .ref k02, .ref k03, .ref k04, .ref k05, .int c06, .int c07, .int c08])), (k7, .inr (1, [.ref k70, .ref k71, .int c72, .int c73])), (ka, .inr (6, [.ref ka0, .ref ka1, .ref ka2])), (k70, .inl (cI, 5409, .inl c70)), (k71, .inl (cI, 8, .inl c71)), (ka0, .inl (cI, 4, .inl ca0)), (ka1, .inl (cI, 4, .inl ca1)), (ka2, .inl (cI, 144, .inl ca2)), (k050, .inl (cI, 36, .inl c050)), (k05, .inr (3, [.ref k050, .int c051])), (k, .inr (10, [.ref k0, .ref k1, .ref k2, .ref k3, .ref k4, .ref k5, .ref k6, .ref k7, .ref k8, .ref k9, .ref ka, .ref kb, .int cc])), (kb, .inl (cI, 6, .inl scb_83))] H := hP
    replace hD : va_D A [(k0, .inr (9, [.ref k00, .ref k01, .ref k02, .ref k03, .ref k04, .ref k05, .int c06, .int c07, .int c08])), (k7, .inr (1, [.ref k70, .ref k71, .int c72, .int c73])), (ka, .inr (6, [.ref ka0, .ref ka1, .ref ka2])), (k70, .inl (cI, 5409, .inl c70)), (k71, .inl (cI, 8, .inl c71)), (ka0, .inl (cI, 4, .inl ca0)), (ka1, .inl (cI, 4, .inl ca1)), (ka2, .inl (cI, 144, .inl ca2)), (k050, .inl (cI, 36, .inl c050)), (k05, .inr (3, [.ref k050, .int c051])), (k, .inr (10, [.ref k0, .ref k1, .ref k2, .ref k3, .ref k4, .ref k5, .ref k6, .ref k7, .ref k8, .ref k9, .ref ka, .ref kb, .int cc])), (kb, .inl (cI, 6, .inl scb_83))] := hD
    have hr_81 := w_82
    obtain rfl : r_81 = (-1000001) := hr_81.trans (by decide +kernel)
    exact hRet (c72, c73, scb_83, c70, c71) [10, 0, 1, 2, 11, 9, 3, 4, 5, 6, 7, 8] trivial hP hD (by decide +kernel) rfl hS rfl dX10_load_32
