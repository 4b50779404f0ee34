theorem bn_cX10_soils_0 : BN cX10_soils 0 0x56aec02b70e87056ad298056e0915828029b5b8056e06018708e015a8ad5a5300adc0e2b050054a650e8a422b400adc384700ad456ad298056e0615828029a588056e1c238056a2b5694c02b7028ac14014d96802b90e82c029a57005721c := by
  unfold BN; decide +kernel
theorem dX10_soils_0 : decode cX10_soils 0 = .ok (.iload_n 1, 1) := dR0 (k := 0) (i := 0) bn_cX10_soils_0 dop_27 (by decide +kernel)
theorem dX10_soils_1 : decode cX10_soils 1 = .ok (.invokestatic 173, 3) := dR2 (f := Instr.invokestatic) (k := 0) (i := 1) bn_cX10_soils_0 dop_184 173 (by decide +kernel)
theorem dX10_soils_4 : decode cX10_soils 4 = .ok (.ifCond .eq 10, 3) := dR2s (f := Instr.ifCond .eq) (k := 0) (i := 4) bn_cX10_soils_0 dop_153 10 10 (by decide +kernel)
theorem dX10_soils_7 : decode cX10_soils 7 = .ok (.iload_n 2, 1) := dR0 (k := 0) (i := 7) bn_cX10_soils_0 dop_28 (by decide +kernel)
theorem dX10_soils_8 : decode cX10_soils 8 = .ok (.invokestatic 89, 3) := dR2 (f := Instr.invokestatic) (k := 0) (i := 8) bn_cX10_soils_0 dop_184 89 (by decide +kernel)
theorem dX10_soils_11 : decode cX10_soils 11 = .ok (.ifCond .ne 9, 3) := dR2s (f := Instr.ifCond .ne) (k := 0) (i := 11) bn_cX10_soils_0 dop_154 9 9 (by decide +kernel)
theorem dX10_soils_14 : decode cX10_soils 14 = .ok (.aload_n 0, 1) := dR0 (k := 0) (i := 14) bn_cX10_soils_0 dop_42 (by decide +kernel)
theorem dX10_soils_15 : decode cX10_soils 15 = .ok (.iconst 1, 1) := dR0 (k := 0) (i := 15) bn_cX10_soils_0 dop_4 (by decide +kernel)
theorem dX10_soils_16 : decode cX10_soils 16 = .ok (.invokevirtual 82, 3) := dR2 (f := Instr.invokevirtual) (k := 0) (i := 16) bn_cX10_soils_0 dop_182 82 (by decide +kernel)
theorem dX10_soils_19 : decode cX10_soils 19 = .ok (.ireturn, 1) := dR0 (k := 0) (i := 19) bn_cX10_soils_0 dop_172 (by decide +kernel)
theorem dX10_soils_20 : decode cX10_soils 20 = .ok (.aload_n 0, 1) := dR0 (k := 0) (i := 20) bn_cX10_soils_0 dop_42 (by decide +kernel)
theorem dX10_soils_21 : decode cX10_soils 21 = .ok (.getfield 70, 3) := dR2 (f := Instr.getfield) (k := 0) (i := 21) bn_cX10_soils_0 dop_180 70 (by decide +kernel)
theorem dX10_soils_24 : decode cX10_soils 24 = .ok (.iload_n 1, 1) := dR0 (k := 0) (i := 24) bn_cX10_soils_0 dop_27 (by decide +kernel)
theorem dX10_soils_25 : decode cX10_soils 25 = .ok (.invokevirtual 176, 3) := dR2 (f := Instr.invokevirtual) (k := 0) (i := 25) bn_cX10_soils_0 dop_182 176 (by decide +kernel)
theorem dX10_soils_28 : decode cX10_soils 28 = .ok (.ifCond .eq 9, 3) := dR2s (f := Instr.ifCond .eq) (k := 0) (i := 28) bn_cX10_soils_0 dop_153 9 9 (by decide +kernel)
theorem dX10_soils_31 : decode cX10_soils 31 = .ok (.aload_n 0, 1) := dR0 (k := 0) (i := 31) bn_cX10_soils_0 dop_42 (by decide +kernel)
theorem dX10_soils_32 : decode cX10_soils 32 = .ok (.iconst 2, 1) := dR0 (k := 0) (i := 32) bn_cX10_soils_0 dop_5 (by decide +kernel)
theorem dX10_soils_33 : decode cX10_soils 33 = .ok (.invokevirtual 82, 3) := dR2 (f := Instr.invokevirtual) (k := 0) (i := 33) bn_cX10_soils_0 dop_182 82 (by decide +kernel)
theorem dX10_soils_36 : decode cX10_soils 36 = .ok (.ireturn, 1) := dR0 (k := 0) (i := 36) bn_cX10_soils_0 dop_172 (by decide +kernel)
theorem dX10_soils_37 : decode cX10_soils 37 = .ok (.aload_n 0, 1) := dR0 (k := 0) (i := 37) bn_cX10_soils_0 dop_42 (by decide +kernel)
theorem dX10_soils_38 : decode cX10_soils 38 = .ok (.getfield 70, 3) := dR2 (f := Instr.getfield) (k := 0) (i := 38) bn_cX10_soils_0 dop_180 70 (by decide +kernel)
theorem dX10_soils_41 : decode cX10_soils 41 = .ok (.iload_n 1, 1) := dR0 (k := 0) (i := 41) bn_cX10_soils_0 dop_27 (by decide +kernel)
theorem dX10_soils_42 : decode cX10_soils 42 = .ok (.invokevirtual 179, 3) := dR2 (f := Instr.invokevirtual) (k := 0) (i := 42) bn_cX10_soils_0 dop_182 179 (by decide +kernel)
theorem dX10_soils_45 : decode cX10_soils 45 = .ok (.bipush 40, 2) := dR1s (f := Instr.bipush) (k := 0) (i := 45) bn_cX10_soils_0 dop_16 40 40 (by decide +kernel)
theorem dX10_soils_47 : decode cX10_soils 47 = .ok (.iload_n 2, 1) := dR0 (k := 0) (i := 47) bn_cX10_soils_0 dop_28 (by decide +kernel)
theorem dX10_soils_48 : decode cX10_soils 48 = .ok (.isub, 1) := dR0 (k := 0) (i := 48) bn_cX10_soils_0 dop_100 (by decide +kernel)
theorem dX10_soils_49 : decode cX10_soils 49 = .ok (.if_icmp .le 9, 3) := dR2s (f := Instr.if_icmp .le) (k := 0) (i := 49) bn_cX10_soils_0 dop_164 9 9 (by decide +kernel)
theorem dX10_soils_52 : decode cX10_soils 52 = .ok (.aload_n 0, 1) := dR0 (k := 0) (i := 52) bn_cX10_soils_0 dop_42 (by decide +kernel)
theorem dX10_soils_53 : decode cX10_soils 53 = .ok (.iconst 3, 1) := dR0 (k := 0) (i := 53) bn_cX10_soils_0 dop_6 (by decide +kernel)
theorem dX10_soils_54 : decode cX10_soils 54 = .ok (.invokevirtual 82, 3) := dR2 (f := Instr.invokevirtual) (k := 0) (i := 54) bn_cX10_soils_0 dop_182 82 (by decide +kernel)
theorem dX10_soils_57 : decode cX10_soils 57 = .ok (.ireturn, 1) := dR0 (k := 0) (i := 57) bn_cX10_soils_0 dop_172 (by decide +kernel)
theorem dX10_soils_58 : decode cX10_soils 58 = .ok (.aload_n 0, 1) := dR0 (k := 0) (i := 58) bn_cX10_soils_0 dop_42 (by decide +kernel)
theorem dX10_soils_59 : decode cX10_soils 59 = .ok (.getfield 70, 3) := dR2 (f := Instr.getfield) (k := 0) (i := 59) bn_cX10_soils_0 dop_180 70 (by decide +kernel)
theorem dX10_soils_62 : decode cX10_soils 62 = .ok (.iload_n 1, 1) := dR0 (k := 0) (i := 62) bn_cX10_soils_0 dop_27 (by decide +kernel)
theorem dX10_soils_63 : decode cX10_soils 63 = .ok (.iconst (-1), 1) := dR0 (k := 0) (i := 63) bn_cX10_soils_0 dop_2 (by decide +kernel)
theorem dX10_soils_64 : decode cX10_soils 64 = .ok (.iconst 2, 1) := dR0 (k := 0) (i := 64) bn_cX10_soils_0 dop_5 (by decide +kernel)
theorem dX10_soils_65 : decode cX10_soils 65 = .ok (.invokevirtual 182, 3) := dR2 (f := Instr.invokevirtual) (k := 0) (i := 65) bn_cX10_soils_0 dop_182 182 (by decide +kernel)
theorem dX10_soils_68 : decode cX10_soils 68 = .ok (.ifCond .ne 9, 3) := dR2s (f := Instr.ifCond .ne) (k := 0) (i := 68) bn_cX10_soils_0 dop_154 9 9 (by decide +kernel)
theorem dX10_soils_71 : decode cX10_soils 71 = .ok (.aload_n 0, 1) := dR0 (k := 0) (i := 71) bn_cX10_soils_0 dop_42 (by decide +kernel)
theorem dX10_soils_72 : decode cX10_soils 72 = .ok (.iconst 5, 1) := dR0 (k := 0) (i := 72) bn_cX10_soils_0 dop_8 (by decide +kernel)
theorem dX10_soils_73 : decode cX10_soils 73 = .ok (.invokevirtual 82, 3) := dR2 (f := Instr.invokevirtual) (k := 0) (i := 73) bn_cX10_soils_0 dop_182 82 (by decide +kernel)
theorem dX10_soils_76 : decode cX10_soils 76 = .ok (.ireturn, 1) := dR0 (k := 0) (i := 76) bn_cX10_soils_0 dop_172 (by decide +kernel)
theorem dX10_soils_77 : decode cX10_soils 77 = .ok (.aload_n 0, 1) := dR0 (k := 0) (i := 77) bn_cX10_soils_0 dop_42 (by decide +kernel)
theorem dX10_soils_78 : decode cX10_soils 78 = .ok (.iload_n 1, 1) := dR0 (k := 0) (i := 78) bn_cX10_soils_0 dop_27 (by decide +kernel)
theorem dX10_soils_79 : decode cX10_soils 79 = .ok (.iload_n 2, 1) := dR0 (k := 0) (i := 79) bn_cX10_soils_0 dop_28 (by decide +kernel)
theorem dX10_soils_80 : decode cX10_soils 80 = .ok (.invokevirtual 186, 3) := dR2 (f := Instr.invokevirtual) (k := 0) (i := 80) bn_cX10_soils_0 dop_182 186 (by decide +kernel)
theorem dX10_soils_83 : decode cX10_soils 83 = .ok (.ireturn, 1) := dR0 (k := 0) (i := 83) bn_cX10_soils_0 dop_172 (by decide +kernel)
set_option maxHeartbeats 4000000 in
set_option maxRecDepth 100000 in
theorem c_X10_soilsG (l : Launch) (D : va_G) (cI : ClassId) (aK aV : Nat → Nat) (k k0 k1 k2 k3 k4 k5 k6 k7 k8 k9 ka kb k00 k01 k02 k03 k04 k05 ka0 ka1 ka2 : Nat) (sz : Nat) (cc : Int32) (c06 : Int32) (c07 : Int32) (c08 : Int32) (cb : Nat → Int32) (c01 : Nat → Int32) (ca0 : Nat → Int32) (ca1 : Nat → Int32) (ca2 : Nat → Int32) (a0 : Int32) (a1 : Int32) (pre0 : ∀ k : Nat, k < 4 → 0 ≤ (ca1 k).toInt ∧ (ca1 k).toInt ≤ 36) : Met l yX10_soils (gW yX10_soils cX10_soils 3 (some .int)) ({ frames := 5, cells := 0, slots := 0, locals := 110 } : Room) (kPreX D cI aK aV [.ref k, .int a0, .int a1] [(k, .inr (10, [.ref k0, .ref k1, .ref k2, .ref k3, .ref k4, .ref k5, .ref k6, .ref k7, .ref k8, .ref k9, .ref ka, .ref kb, .int cc])), (k0, .inr (9, [.ref k00, .ref k01, .ref k02, .ref k03, .ref k04, .ref k05, .int c06, .int c07, .int c08])), (ka, .inr (6, [.ref ka0, .ref ka1, .ref ka2])), (kb, .inl (cI, 6, .inl cb)), (k01, .inl (cI, 40, .inl c01)), (ka0, .inl (cI, 4, .inl ca0)), (ka1, .inl (cI, 4, .inl ca1)), (ka2, .inl (cI, 144, .inl ca2))] sz) (va_Qi (fun (r : Int32) (u : (Nat → Int32) × (Nat → Int32)) => r = soilR ca0 ca1 ca2 a0 a1 ∧ u.2 = soilS 0 c01 ca0 ca1 ca2 a0 a1) (fun u t => kWd D cI (va_A [(k, .inr (10, [.ref k0, .ref k1, .ref k2, .ref k3, .ref k4, .ref k5, .ref k6, .ref k7, .ref k8, .ref k9, .ref ka, .ref kb, .int cc])), (k0, .inr (9, [.ref k00, .ref k01, .ref k02, .ref k03, .ref k04, .ref k05, .int c06, .int c07, .int c08])), (ka, .inr (6, [.ref ka0, .ref ka1, .ref ka2])), (kb, .inl (cI, 6, .inl cb)), (k01, .inl (cI, 40, .inl c01)), (ka0, .inl (cI, 4, .inl ca0)), (ka1, .inl (cI, 4, .inl ca1)), (ka2, .inl (cI, 144, .inl ca2))] sz) [(k, .inr (10, [.ref k0, .ref k1, .ref k2, .ref k3, .ref k4, .ref k5, .ref k6, .ref k7, .ref k8, .ref k9, .ref ka, .ref kb, .int cc])), (k0, .inr (9, [.ref k00, .ref k01, .ref k02, .ref k03, .ref k04, .ref k05, .int c06, .int c07, .int c08])), (ka, .inr (6, [.ref ka0, .ref ka1, .ref ka2])), (kb, .inl (cI, 6, .inl u.1)), (k01, .inl (cI, 40, .inl u.2)), (ka0, .inl (cI, 4, .inl ca0)), (ka1, .inl (cI, 4, .inl ca1)), (ka2, .inl (cI, 144, .inl ca2))] t) (va_A [(k, .inr (10, [.ref k0, .ref k1, .ref k2, .ref k3, .ref k4, .ref k5, .ref k6, .ref k7, .ref k8, .ref k9, .ref ka, .ref kb, .int cc])), (k0, .inr (9, [.ref k00, .ref k01, .ref k02, .ref k03, .ref k04, .ref k05, .int c06, .int c07, .int c08])), (ka, .inr (6, [.ref ka0, .ref ka1, .ref ka2])), (kb, .inl (cI, 6, .inl cb)), (k01, .inl (cI, 40, .inl c01)), (ka0, .inl (cI, 4, .inl ca0)), (ka1, .inl (cI, 4, .inl ca1)), (ka2, .inl (cI, 144, .inl ca2))] sz)) 0 0 (va_A [(k, .inr (10, [.ref k0, .ref k1, .ref k2, .ref k3, .ref k4, .ref k5, .ref k6, .ref k7, .ref k8, .ref k9, .ref ka, .ref kb, .int cc])), (k0, .inr (9, [.ref k00, .ref k01, .ref k02, .ref k03, .ref k04, .ref k05, .int c06, .int c07, .int c08])), (ka, .inr (6, [.ref ka0, .ref ka1, .ref ka2])), (kb, .inl (cI, 6, .inl cb)), (k01, .inl (cI, 40, .inl c01)), (ka0, .inl (cI, 4, .inl ca0)), (ka1, .inl (cI, 4, .inl ca1)), (ka2, .inl (cI, 144, .inl ca2))] sz) := by
  refine kMetIX (own := RX10) (by decide +kernel) rfl (Nat.le_of_ble_eq_true rfl) ?_
  intro p e s m args below meth c hx hb hT hown hname hml A Q hK hP hD hS hA hN hXS hRet ls hl
  have hl : lv_has ls 3 [(0, .ref k), (1, .int a0), (2, .int a1)] := hl
  have lo_a0 := k_lo a0
  have hi_a0 := k_hi a0
  have lo_a1 := k_lo a1
  have hi_a1 := k_hi a1
  have hln_a0 : 0 ≤ a0.toInt → a0.toInt ≤ 3 → 0 ≤ (ca1 a0.toNatClampNeg).toInt ∧ (ca1 a0.toNatClampNeg).toInt ≤ 36 := fun z0 z1 => pre0 a0.toNatClampNeg (by rw [k_clamp]; omega)
  refine lv_iload_n hx hb dX10_soils_0 rfl (lv_at hl 1 rfl) ?_
  refine kJi (wr := [(k, .inr (10, [.ref k0, .ref k1, .ref k2, .ref k3, .ref k4, .ref k5, .ref k6, .ref k7, .ref k8, .ref k9, .ref ka, .ref kb, .int cc])), (k0, .inr (9, [.ref k00, .ref k01, .ref k02, .ref k03, .ref k04, .ref k05, .int c06, .int c07, .int c08])), (ka, .inr (6, [.ref ka0, .ref ka1, .ref ka2])), (kb, .inl (cI, 6, .inl cb)), (k01, .inl (cI, 40, .inl c01)), (ka0, .inl (cI, 4, .inl ca0)), (ka1, .inl (cI, 4, .inl ca1)), (ka2, .inl (cI, 144, .inl ca2))]) (va_runS (As := [.int a0]) (rest := []) ⟨hx, hb, hml, hown, hT⟩ (c_X10_isSheetG l D cI aK aV s.heap.size a0) (cwS 1 hT (gS_in mw_662 mw_660 mw_661 mw_1) rfl rfl rfl (by decide +kernel) ⟨Nat.le_of_ble_eq_true rfl, Nat.le_of_ble_eq_true rfl⟩) (kStatX hK hP hD hN hXS hS hA [] rfl (by decide +kernel)) rfl rfl hl.1 rfl (lv_room (Nat.le_of_ble_eq_true rfl)) dX10_soils_1 ⟨Nat.le_of_ble_eq_true rfl, Nat.le_of_ble_eq_true rfl⟩) hP hD hS hA [] [0, 1, 2, 3, 4, 5, 6, 7] rfl rfl (by decide +kernel) (by decide +kernel) ?_
  clear hP hD hS
  intro r_1 u_3 H locs w_2 hP hD hS
  replace hP : va_P D vwCl [(k, .inr (10, [.ref k0, .ref k1, .ref k2, .ref k3, .ref k4, .ref k5, .ref k6, .ref k7, .ref k8, .ref k9, .ref ka, .ref kb, .int cc])), (k0, .inr (9, [.ref k00, .ref k01, .ref k02, .ref k03, .ref k04, .ref k05, .int c06, .int c07, .int c08])), (ka, .inr (6, [.ref ka0, .ref ka1, .ref ka2])), (kb, .inl (cI, 6, .inl cb)), (k01, .inl (cI, 40, .inl c01)), (ka0, .inl (cI, 4, .inl ca0)), (ka1, .inl (cI, 4, .inl ca1)), (ka2, .inl (cI, 144, .inl ca2))] H := hP
  replace hD : va_D A [(k, .inr (10, [.ref k0, .ref k1, .ref k2, .ref k3, .ref k4, .ref k5, .ref k6, .ref k7, .ref k8, .ref k9, .ref ka, .ref kb, .int cc])), (k0, .inr (9, [.ref k00, .ref k01, .ref k02, .ref k03, .ref k04, .ref k05, .int c06, .int c07, .int c08])), (ka, .inr (6, [.ref ka0, .ref ka1, .ref ka2])), (kb, .inl (cI, 6, .inl cb)), (k01, .inl (cI, 40, .inl c01)), (ka0, .inl (cI, 4, .inl ca0)), (ka1, .inl (cI, 4, .inl ca1)), (ka2, .inl (cI, 144, .inl ca2))] := hD
  rcases w_2 with ⟨hr_1, h_4, h_5⟩ | ⟨hr_1, h_6⟩
  · have h_4 : 0 ≤ a0.toInt := h_4
    have h_5 : a0.toInt ≤ 3 := h_5
    obtain rfl : r_1 = 1 := hr_1.trans (by decide +kernel)
    refine b_if_eq hx hb zl_1 (tgt := 14) dX10_soils_4 (by decide +kernel) (fun c_7 => by exfalso; omega) (fun c_7 => ?_)
    refine lv_iload_n hx hb dX10_soils_7 rfl (lv_at hl 2 rfl) ?_
    refine kJi (wr := [(k, .inr (10, [.ref k0, .ref k1, .ref k2, .ref k3, .ref k4, .ref k5, .ref k6, .ref k7, .ref k8, .ref k9, .ref ka, .ref kb, .int cc])), (k0, .inr (9, [.ref k00, .ref k01, .ref k02, .ref k03, .ref k04, .ref k05, .int c06, .int c07, .int c08])), (ka, .inr (6, [.ref ka0, .ref ka1, .ref ka2])), (kb, .inl (cI, 6, .inl cb)), (k01, .inl (cI, 40, .inl c01)), (ka0, .inl (cI, 4, .inl ca0)), (ka1, .inl (cI, 4, .inl ca1)), (ka2, .inl (cI, 144, .inl ca2))]) (va_runS (As := [.int a1]) (rest := []) ⟨hx, hb, hml, hown, hT⟩ (c_X10_isMileG l D cI aK aV H.size a1) (cwS 1 hT (gS_in mw_346 mw_344 mw_345 mw_1) rfl rfl rfl (by decide +kernel) ⟨Nat.le_of_ble_eq_true rfl, Nat.le_of_ble_eq_true rfl⟩) (kStatX hK hP hD hN hXS hS hA [] rfl (by decide +kernel)) rfl rfl hl.1 rfl (lv_room (Nat.le_of_ble_eq_true rfl)) dX10_soils_8 ⟨Nat.le_of_ble_eq_true rfl, Nat.le_of_ble_eq_true rfl⟩) hP hD hS hA [] [0, 1, 2, 3, 4, 5, 6, 7] rfl rfl (by decide +kernel) (by decide +kernel) ?_
    clear hP hD hS
    intro r_8 u_10 H locs w_9 hP hD hS
    replace hP : va_P D vwCl [(k, .inr (10, [.ref k0, .ref k1, .ref k2, .ref k3, .ref k4, .ref k5, .ref k6, .ref k7, .ref k8, .ref k9, .ref ka, .ref kb, .int cc])), (k0, .inr (9, [.ref k00, .ref k01, .ref k02, .ref k03, .ref k04, .ref k05, .int c06, .int c07, .int c08])), (ka, .inr (6, [.ref ka0, .ref ka1, .ref ka2])), (kb, .inl (cI, 6, .inl cb)), (k01, .inl (cI, 40, .inl c01)), (ka0, .inl (cI, 4, .inl ca0)), (ka1, .inl (cI, 4, .inl ca1)), (ka2, .inl (cI, 144, .inl ca2))] H := hP
    replace hD : va_D A [(k, .inr (10, [.ref k0, .ref k1, .ref k2, .ref k3, .ref k4, .ref k5, .ref k6, .ref k7, .ref k8, .ref k9, .ref ka, .ref kb, .int cc])), (k0, .inr (9, [.ref k00, .ref k01, .ref k02, .ref k03, .ref k04, .ref k05, .int c06, .int c07, .int c08])), (ka, .inr (6, [.ref ka0, .ref ka1, .ref ka2])), (kb, .inl (cI, 6, .inl cb)), (k01, .inl (cI, 40, .inl c01)), (ka0, .inl (cI, 4, .inl ca0)), (ka1, .inl (cI, 4, .inl ca1)), (ka2, .inl (cI, 144, .inl ca2))] := hD
    rcases w_9 with ⟨hr_8, h_11, h_12⟩ | ⟨hr_8, h_13⟩
    · have h_11 : 0 ≤ a1.toInt := h_11
      have h_12 : a1.toInt ≤ 39 := h_12
      obtain rfl : r_8 = 1 := hr_8.trans (by decide +kernel)
      refine b_if_ne hx hb zl_1 (tgt := 20) dX10_soils_11 (by decide +kernel) (fun c_14 => ?_) (fun c_14 => by exfalso; omega)
      refine lv_aload_n hx hb dX10_soils_20 rfl (lv_at hl 0 rfl) ?_
      refine va_get (D := D) (ci := 10) (v := .ref ka) (C := RX10) (T := TX10) (N := 13) hx hb hT giX10 hown hK hP 0 rfl rfl 10 (by decide +kernel) (hT (Cond.fieldLink RX10 70 "DesertWire" "sheets" "LDesertWire$Sheets;") mw_301) (fun _ h9 => h9) rfl dX10_soils_21 ?_
      refine lv_iload_n hx hb dX10_soils_24 rfl (lv_at hl 1 rfl) ?_
      refine kJi (wr := [(k, .inr (10, [.ref k0, .ref k1, .ref k2, .ref k3, .ref k4, .ref k5, .ref k6, .ref k7, .ref k8, .ref k9, .ref ka, .ref kb, .int cc])), (k0, .inr (9, [.ref k00, .ref k01, .ref k02, .ref k03, .ref k04, .ref k05, .int c06, .int c07, .int c08])), (kb, .inl (cI, 6, .inl cb)), (k01, .inl (cI, 40, .inl c01)), (ka1, .inl (cI, 4, .inl ca1)), (ka2, .inl (cI, 144, .inl ca2))]) (va_runV (As := [.int a0]) (rest := []) ⟨hx, hb, hml, hown, hT⟩ (c_X6_isMissingG l D cI aK aV ka ka0 ka1 ka2 H.size ca0 a0) (cwV 1 hT (gV_in mw_666 mw_663 mw_664 mw_665 mw_11) rfl rfl rfl (by decide +kernel) ⟨Nat.le_of_ble_eq_true rfl, Nat.le_of_ble_eq_true rfl⟩) (kRecvX (q0 := 2) (ci := 6) hK hP hD hN hXS hS hA rfl rfl [2, 5] rfl (by decide +kernel)) rfl rfl hl.1 rfl (lv_room (Nat.le_of_ble_eq_true rfl)) dX10_soils_25 ⟨Nat.le_of_ble_eq_true rfl, Nat.le_of_ble_eq_true rfl⟩) hP hD hS hA [2, 5] [0, 1, 3, 4, 6, 7] rfl rfl (by decide +kernel) (by decide +kernel) ?_
      clear hP hD hS
      intro r_15 u_17 H locs w_16 hP hD hS
      replace hP : va_P D vwCl [(k, .inr (10, [.ref k0, .ref k1, .ref k2, .ref k3, .ref k4, .ref k5, .ref k6, .ref k7, .ref k8, .ref k9, .ref ka, .ref kb, .int cc])), (k0, .inr (9, [.ref k00, .ref k01, .ref k02, .ref k03, .ref k04, .ref k05, .int c06, .int c07, .int c08])), (kb, .inl (cI, 6, .inl cb)), (k01, .inl (cI, 40, .inl c01)), (ka1, .inl (cI, 4, .inl ca1)), (ka2, .inl (cI, 144, .inl ca2)), (ka, .inr (6, [.ref ka0, .ref ka1, .ref ka2])), (ka0, .inl (cI, 4, .inl ca0))] H := hP
      replace hD : va_D A [(k, .inr (10, [.ref k0, .ref k1, .ref k2, .ref k3, .ref k4, .ref k5, .ref k6, .ref k7, .ref k8, .ref k9, .ref ka, .ref kb, .int cc])), (k0, .inr (9, [.ref k00, .ref k01, .ref k02, .ref k03, .ref k04, .ref k05, .int c06, .int c07, .int c08])), (kb, .inl (cI, 6, .inl cb)), (k01, .inl (cI, 40, .inl c01)), (ka1, .inl (cI, 4, .inl ca1)), (ka2, .inl (cI, 144, .inl ca2)), (ka, .inr (6, [.ref ka0, .ref ka1, .ref ka2])), (ka0, .inl (cI, 4, .inl ca0))] := hD
      rcases w_16 with ⟨hr_15, h_18, h_19, h_20⟩ | ⟨hr_15, h_21, h_22, h_23⟩ | ⟨hr_15, h_24⟩
      · have h_18 : 0 ≤ a0.toInt := h_18
        have h_19 : a0.toInt ≤ 3 := h_19
        have h_20 : (ca0 a0.toNatClampNeg).toInt = 0 := h_20
        obtain rfl : r_15 = 1 := hr_15.trans (by decide +kernel)
        refine b_if_eq hx hb zl_1 (tgt := 37) dX10_soils_28 (by decide +kernel) (fun c_25 => by exfalso; omega) (fun c_25 => ?_)
        refine lv_aload_n hx hb dX10_soils_31 rfl (lv_at hl 0 rfl) ?_
        refine lv_iconst (v := 2) hx hb dX10_soils_32 (by decide +kernel) ?_
        refine kJi (wr := [(k0, .inr (9, [.ref k00, .ref k01, .ref k02, .ref k03, .ref k04, .ref k05, .int c06, .int c07, .int c08])), (k01, .inl (cI, 40, .inl c01)), (ka1, .inl (cI, 4, .inl ca1)), (ka2, .inl (cI, 144, .inl ca2)), (ka, .inr (6, [.ref ka0, .ref ka1, .ref ka2])), (ka0, .inl (cI, 4, .inl ca0))]) (va_runV (As := [.int 2]) (rest := []) ⟨hx, hb, hml, hown, hT⟩ (c_X10_findingG l D cI aK aV k k0 k1 k2 k3 k4 k5 k6 k7 k8 k9 ka kb H.size cc cb 2) (cwV 1 hT (gV_in mw_338 mw_335 mw_337 mw_p1_0 mw_1) rfl rfl rfl (by decide +kernel) ⟨Nat.le_of_ble_eq_true rfl, Nat.le_of_ble_eq_true rfl⟩) (kRecvX (q0 := 0) (ci := 10) hK hP hD hN hXS hS hA rfl rfl [0, 2] rfl (by decide +kernel)) rfl rfl hl.1 rfl (lv_room (Nat.le_of_ble_eq_true rfl)) dX10_soils_33 ⟨Nat.le_of_ble_eq_true rfl, Nat.le_of_ble_eq_true rfl⟩) hP hD hS hA [0, 2] [1, 3, 4, 5, 6, 7] rfl rfl (by decide +kernel) (by decide +kernel) ?_
        clear hP hD hS
        intro r_26 scb_28 H locs w_27 hP hD hS
        replace hP : va_P D vwCl [(k0, .inr (9, [.ref k00, .ref k01, .ref k02, .ref k03, .ref k04, .ref k05, .int c06, .int c07, .int c08])), (k01, .inl (cI, 40, .inl c01)), (ka1, .inl (cI, 4, .inl ca1)), (ka2, .inl (cI, 144, .inl ca2)), (ka, .inr (6, [.ref ka0, .ref ka1, .ref ka2])), (ka0, .inl (cI, 4, .inl ca0)), (k, .inr (10, [.ref k0, .ref k1, .ref k2, .ref k3, .ref k4, .ref k5, .ref k6, .ref k7, .ref k8, .ref k9, .ref ka, .ref kb, .int cc])), (kb, .inl (cI, 6, .inl scb_28))] H := hP
        replace hD : va_D A [(k0, .inr (9, [.ref k00, .ref k01, .ref k02, .ref k03, .ref k04, .ref k05, .int c06, .int c07, .int c08])), (k01, .inl (cI, 40, .inl c01)), (ka1, .inl (cI, 4, .inl ca1)), (ka2, .inl (cI, 144, .inl ca2)), (ka, .inr (6, [.ref ka0, .ref ka1, .ref ka2])), (ka0, .inl (cI, 4, .inl ca0)), (k, .inr (10, [.ref k0, .ref k1, .ref k2, .ref k3, .ref k4, .ref k5, .ref k6, .ref k7, .ref k8, .ref k9, .ref ka, .ref kb, .int cc])), (kb, .inl (cI, 6, .inl scb_28))] := hD
        have hr_26 := w_27
        obtain rfl : r_26 = (-1000002) := hr_26.trans (by decide +kernel)
        exact hRet (scb_28, c01) [6, 0, 4, 7, 1, 5, 2, 3] ⟨(by (try dsimp only); unfold soilR; (repeat (first | rw [if_pos (by omega)] | rw [if_neg (by omega)] | rw [if_pos (by assumption)] | rw [if_neg (fun z => absurd (zl_0.symm.trans z) (by decide +kernel))]))), (by (try dsimp only); unfold soilS; (repeat (first | rw [if_pos (by omega)] | rw [if_neg (by omega)] | rw [if_pos (by assumption)] | rw [if_neg (fun z => absurd (zl_0.symm.trans z) (by decide +kernel))])))⟩ hP hD (by decide +kernel) rfl hS rfl dX10_soils_36
      · have h_21 : 0 ≤ a0.toInt := h_21
        have h_22 : a0.toInt ≤ 3 := h_22
        have h_23 : (ca0 a0.toNatClampNeg).toInt ≠ 0 := h_23
        obtain rfl : r_15 = 0 := hr_15.trans (by decide +kernel)
        refine b_if_eq hx hb zl_0 (tgt := 37) dX10_soils_28 (by decide +kernel) (fun c_29 => ?_) (fun c_29 => by exfalso; omega)
        refine lv_aload_n hx hb dX10_soils_37 rfl (lv_at hl 0 rfl) ?_
        refine va_get (D := D) (ci := 10) (v := .ref ka) (C := RX10) (T := TX10) (N := 13) hx hb hT giX10 hown hK hP 0 rfl rfl 10 (by decide +kernel) (hT (Cond.fieldLink RX10 70 "DesertWire" "sheets" "LDesertWire$Sheets;") mw_301) (fun _ h9 => h9) rfl dX10_soils_38 ?_
        refine lv_iload_n hx hb dX10_soils_41 rfl (lv_at hl 1 rfl) ?_
        refine kJi (wr := [(k, .inr (10, [.ref k0, .ref k1, .ref k2, .ref k3, .ref k4, .ref k5, .ref k6, .ref k7, .ref k8, .ref k9, .ref ka, .ref kb, .int cc])), (k0, .inr (9, [.ref k00, .ref k01, .ref k02, .ref k03, .ref k04, .ref k05, .int c06, .int c07, .int c08])), (kb, .inl (cI, 6, .inl cb)), (k01, .inl (cI, 40, .inl c01)), (ka2, .inl (cI, 144, .inl ca2)), (ka0, .inl (cI, 4, .inl ca0))]) (va_runV (As := [.int a0]) (rest := []) ⟨hx, hb, hml, hown, hT⟩ (c_X6_lengthOfG l D cI aK aV ka ka0 ka1 ka2 H.size ca1 a0 (by first | omega | decide | assumption | rfl)) (cwV 1 hT (gV_in mw_675 mw_672 mw_673 mw_674 mw_11) rfl rfl rfl (by decide +kernel) ⟨Nat.le_of_ble_eq_true rfl, Nat.le_of_ble_eq_true rfl⟩) (kRecvX (q0 := 6) (ci := 6) hK hP hD hN hXS hS hA rfl rfl [6, 4] rfl (by decide +kernel)) rfl rfl hl.1 rfl (lv_room (Nat.le_of_ble_eq_true rfl)) dX10_soils_42 ⟨Nat.le_of_ble_eq_true rfl, Nat.le_of_ble_eq_true rfl⟩) hP hD hS hA [6, 4] [0, 1, 2, 3, 5, 7] rfl rfl (by decide +kernel) (by decide +kernel) ?_
        clear hP hD hS
        intro r_30 u_32 H locs w_31 hP hD hS
        replace hP : va_P D vwCl [(k, .inr (10, [.ref k0, .ref k1, .ref k2, .ref k3, .ref k4, .ref k5, .ref k6, .ref k7, .ref k8, .ref k9, .ref ka, .ref kb, .int cc])), (k0, .inr (9, [.ref k00, .ref k01, .ref k02, .ref k03, .ref k04, .ref k05, .int c06, .int c07, .int c08])), (kb, .inl (cI, 6, .inl cb)), (k01, .inl (cI, 40, .inl c01)), (ka2, .inl (cI, 144, .inl ca2)), (ka0, .inl (cI, 4, .inl ca0)), (ka, .inr (6, [.ref ka0, .ref ka1, .ref ka2])), (ka1, .inl (cI, 4, .inl ca1))] H := hP
        replace hD : va_D A [(k, .inr (10, [.ref k0, .ref k1, .ref k2, .ref k3, .ref k4, .ref k5, .ref k6, .ref k7, .ref k8, .ref k9, .ref ka, .ref kb, .int cc])), (k0, .inr (9, [.ref k00, .ref k01, .ref k02, .ref k03, .ref k04, .ref k05, .int c06, .int c07, .int c08])), (kb, .inl (cI, 6, .inl cb)), (k01, .inl (cI, 40, .inl c01)), (ka2, .inl (cI, 144, .inl ca2)), (ka0, .inl (cI, 4, .inl ca0)), (ka, .inr (6, [.ref ka0, .ref ka1, .ref ka2])), (ka1, .inl (cI, 4, .inl ca1))] := hD
        rcases w_31 with ⟨h_33, h_34, h_35, h_36, h_37⟩ | ⟨hr_30, h_38⟩
        · have h_33 : 0 ≤ a0.toInt := h_33
          have h_34 : a0.toInt ≤ 3 := h_34
          have h_35 : 0 ≤ r_30.toInt := h_35
          have h_36 : r_30.toInt ≤ 36 := h_36
          have h_37 : r_30.toInt = (ca1 a0.toNatClampNeg).toInt := h_37
          have lo_r_30 := k_lo r_30
          have hi_r_30 := k_hi r_30
          refine lv_bipush (v := 40) hx hb dX10_soils_45 (by decide +kernel) ?_
          refine lv_iload_n hx hb dX10_soils_47 rfl (lv_at hl 2 rfl) ?_
          refine lv_isub hx hb dX10_soils_48 ?_
          refine lv_topi (fun v_39 ev_39 => ?_)
          have tv_39 : v_39.toInt = 40 - a1.toInt := by rw [ev_39]; exact k_subv zl_40 rfl (by omega) (by omega)
          refine b_icmp_le hx hb rfl rfl (tgt := 58) dX10_soils_49 (by decide +kernel) (fun c_40 => ?_) (fun c_40 => ?_)
          · refine lv_aload_n hx hb dX10_soils_58 rfl (lv_at hl 0 rfl) ?_
            refine va_get (D := D) (ci := 10) (v := .ref ka) (C := RX10) (T := TX10) (N := 13) hx hb hT giX10 hown hK hP 0 rfl rfl 10 (by decide +kernel) (hT (Cond.fieldLink RX10 70 "DesertWire" "sheets" "LDesertWire$Sheets;") mw_301) (fun _ h9 => h9) rfl dX10_soils_59 ?_
            refine lv_iload_n hx hb dX10_soils_62 rfl (lv_at hl 1 rfl) ?_
            refine lv_iconst (v := (-1)) hx hb dX10_soils_63 (by decide +kernel) ?_
            refine lv_iconst (v := 2) hx hb dX10_soils_64 (by decide +kernel) ?_
            refine kJi (wr := [(k, .inr (10, [.ref k0, .ref k1, .ref k2, .ref k3, .ref k4, .ref k5, .ref k6, .ref k7, .ref k8, .ref k9, .ref ka, .ref kb, .int cc])), (k0, .inr (9, [.ref k00, .ref k01, .ref k02, .ref k03, .ref k04, .ref k05, .int c06, .int c07, .int c08])), (kb, .inl (cI, 6, .inl cb)), (k01, .inl (cI, 40, .inl c01)), (ka0, .inl (cI, 4, .inl ca0))]) (va_runV (As := [.int a0, .int (-1), .int 2]) (rest := []) ⟨hx, hb, hml, hown, hT⟩ (c_X6_allWithinG l D cI aK aV ka ka0 ka1 ka2 H.size ca1 ca2 a0 (-1) 2 (by first | omega | (simp only [zl_m1, zl_2]; first | done | omega) | decide | assumption | rfl) (by first | omega | (simp only [zl_m1, zl_2]; first | done | omega) | decide | assumption | rfl) (by first | omega | (simp only [zl_m1, zl_2]; first | done | omega) | decide | assumption | rfl)) (cwV 3 hT (gV_in mw_679 mw_676 mw_677 mw_678 mw_11) rfl rfl rfl (by decide +kernel) ⟨Nat.le_of_ble_eq_true rfl, Nat.le_of_ble_eq_true rfl⟩) (kRecvX (q0 := 6) (ci := 6) hK hP hD hN hXS hS hA rfl rfl [6, 7, 4] rfl (by decide +kernel)) rfl rfl hl.1 rfl (lv_room (Nat.le_of_ble_eq_true rfl)) dX10_soils_65 ⟨Nat.le_of_ble_eq_true rfl, Nat.le_of_ble_eq_true rfl⟩) hP hD hS hA [6, 7, 4] [0, 1, 2, 3, 5] rfl rfl (by decide +kernel) (by decide +kernel) ?_
            clear hP hD hS
            intro r_41 u_43 H locs w_42 hP hD hS
            replace hP : va_P D vwCl [(k, .inr (10, [.ref k0, .ref k1, .ref k2, .ref k3, .ref k4, .ref k5, .ref k6, .ref k7, .ref k8, .ref k9, .ref ka, .ref kb, .int cc])), (k0, .inr (9, [.ref k00, .ref k01, .ref k02, .ref k03, .ref k04, .ref k05, .int c06, .int c07, .int c08])), (kb, .inl (cI, 6, .inl cb)), (k01, .inl (cI, 40, .inl c01)), (ka0, .inl (cI, 4, .inl ca0)), (ka, .inr (6, [.ref ka0, .ref ka1, .ref ka2])), (ka1, .inl (cI, 4, .inl ca1)), (ka2, .inl (cI, 144, .inl ca2))] H := hP
            replace hD : va_D A [(k, .inr (10, [.ref k0, .ref k1, .ref k2, .ref k3, .ref k4, .ref k5, .ref k6, .ref k7, .ref k8, .ref k9, .ref ka, .ref kb, .int cc])), (k0, .inr (9, [.ref k00, .ref k01, .ref k02, .ref k03, .ref k04, .ref k05, .int c06, .int c07, .int c08])), (kb, .inl (cI, 6, .inl cb)), (k01, .inl (cI, 40, .inl c01)), (ka0, .inl (cI, 4, .inl ca0)), (ka, .inr (6, [.ref ka0, .ref ka1, .ref ka2])), (ka1, .inl (cI, 4, .inl ca1)), (ka2, .inl (cI, 144, .inl ca2))] := hD
            rcases w_42 with ⟨hr_41, h_44⟩ | ⟨hr_41, h_45⟩
            · try simp only [zl_m1, zl_2] at h_44
              have h_44 : allB (shv ca2 a0) (-1) 2 (ca1 a0.toNatClampNeg).toInt.toNat = true := h_44
              have h_44 : allB (shv ca2 a0) (-1) 2 (ca1 a0.toNatClampNeg).toInt.toNat = true := h_44
              obtain rfl : r_41 = 1 := hr_41.trans (by decide +kernel)
              refine b_if_ne hx hb zl_1 (tgt := 77) dX10_soils_68 (by decide +kernel) (fun c_46 => ?_) (fun c_46 => by exfalso; omega)
              refine lv_aload_n hx hb dX10_soils_77 rfl (lv_at hl 0 rfl) ?_
              refine lv_iload_n hx hb dX10_soils_78 rfl (lv_at hl 1 rfl) ?_
              refine lv_iload_n hx hb dX10_soils_79 rfl (lv_at hl 2 rfl) ?_
              refine kJi (wr := [(kb, .inl (cI, 6, .inl cb)), (ka0, .inl (cI, 4, .inl ca0))]) (va_runV (As := [.int a0, .int a1]) (rest := []) ⟨hx, hb, hml, hown, hT⟩ (c_X10_tellSoilsG l D cI aK aV k k0 k1 k2 k3 k4 k5 k6 k7 k8 k9 ka kb k00 k01 k02 k03 k04 k05 ka0 ka1 ka2 H.size cc c06 c07 c08 c01 ca1 ca2 a0 a1 (by first | omega | decide | assumption | rfl) (by first | omega | decide | assumption | rfl) (by first | omega | decide | assumption | rfl) (by first | omega | decide | assumption | rfl) (by first | omega | decide | assumption | rfl) (by first | omega | decide | assumption | rfl)) (cwV 2 hT (gV_in mw_695 mw_692 mw_694 mw_p2_0 mw_1) rfl rfl rfl (by decide +kernel) ⟨Nat.le_of_ble_eq_true rfl, Nat.le_of_ble_eq_true rfl⟩) (kRecvX (q0 := 0) (ci := 10) hK hP hD hN hXS hS hA rfl rfl [0, 1, 5, 3, 6, 7] rfl (by decide +kernel)) rfl rfl hl.1 rfl (lv_room (Nat.le_of_ble_eq_true rfl)) dX10_soils_80 ⟨Nat.le_of_ble_eq_true rfl, Nat.le_of_ble_eq_true rfl⟩) hP hD hS hA [0, 1, 5, 3, 6, 7] [2, 4] rfl rfl (by decide +kernel) (by decide +kernel) ?_
              clear hP hD hS
              intro r_47 sc01_49 H locs w_48 hP hD hS
              replace hP : va_P D vwCl [(kb, .inl (cI, 6, .inl cb)), (ka0, .inl (cI, 4, .inl ca0)), (k, .inr (10, [.ref k0, .ref k1, .ref k2, .ref k3, .ref k4, .ref k5, .ref k6, .ref k7, .ref k8, .ref k9, .ref ka, .ref kb, .int cc])), (k0, .inr (9, [.ref k00, .ref k01, .ref k02, .ref k03, .ref k04, .ref k05, .int c06, .int c07, .int c08])), (ka, .inr (6, [.ref ka0, .ref ka1, .ref ka2])), (k01, .inl (cI, 40, .inl sc01_49)), (ka1, .inl (cI, 4, .inl ca1)), (ka2, .inl (cI, 144, .inl ca2))] H := hP
              replace hD : va_D A [(kb, .inl (cI, 6, .inl cb)), (ka0, .inl (cI, 4, .inl ca0)), (k, .inr (10, [.ref k0, .ref k1, .ref k2, .ref k3, .ref k4, .ref k5, .ref k6, .ref k7, .ref k8, .ref k9, .ref ka, .ref kb, .int cc])), (k0, .inr (9, [.ref k00, .ref k01, .ref k02, .ref k03, .ref k04, .ref k05, .int c06, .int c07, .int c08])), (ka, .inr (6, [.ref ka0, .ref ka1, .ref ka2])), (k01, .inl (cI, 40, .inl sc01_49)), (ka1, .inl (cI, 4, .inl ca1)), (ka2, .inl (cI, 144, .inl ca2))] := hD
              obtain ⟨h_50, h_51⟩ := w_48
              have h_50 : r_47 = cntB (shv ca2 a0) (ca1 a0.toNatClampNeg).toInt.toNat := h_50
              have h_50 : r_47 = cntB (shv ca2 a0) (ca1 a0.toNatClampNeg).toInt.toNat := h_50
              have h_51 : sc01_49 = soW c01 (0 + a1.toInt.toNat) (shv ca2 a0) (ca1 a0.toNatClampNeg).toInt.toNat := h_51
              have h_51 : sc01_49 = soW c01 (0 + a1.toInt.toNat) (shv ca2 a0) (ca1 a0.toNatClampNeg).toInt.toNat := h_51
              have lo_r_47 := k_lo r_47
              have hi_r_47 := k_hi r_47
              exact hRet (cb, sc01_49) [2, 3, 4, 0, 5, 1, 6, 7] ⟨(by (try dsimp only); unfold soilR; (repeat (first | rw [if_pos (by omega)] | rw [if_neg (by omega)] | rw [if_pos (by assumption)] | rw [if_neg (fun z => absurd (zl_0.symm.trans z) (by decide +kernel))])); first | done | exact h_50), (by (try dsimp only); unfold soilS; (repeat (first | rw [if_pos (by omega)] | rw [if_neg (by omega)] | rw [if_pos (by assumption)] | rw [if_neg (fun z => absurd (zl_0.symm.trans z) (by decide +kernel))])); first | done | exact h_51)⟩ hP hD (by decide +kernel) rfl hS rfl dX10_soils_83
            · try simp only [zl_m1, zl_2] at h_45
              have h_45 : allB (shv ca2 a0) (-1) 2 (ca1 a0.toNatClampNeg).toInt.toNat = false := h_45
              have h_45 : allB (shv ca2 a0) (-1) 2 (ca1 a0.toNatClampNeg).toInt.toNat = false := h_45
              obtain rfl : r_41 = 0 := hr_41.trans (by decide +kernel)
              refine b_if_ne hx hb zl_0 (tgt := 77) dX10_soils_68 (by decide +kernel) (fun c_52 => by exfalso; omega) (fun c_52 => ?_)
              refine lv_aload_n hx hb dX10_soils_71 rfl (lv_at hl 0 rfl) ?_
              refine lv_iconst (v := 5) hx hb dX10_soils_72 (by decide +kernel) ?_
              refine kJi (wr := [(k0, .inr (9, [.ref k00, .ref k01, .ref k02, .ref k03, .ref k04, .ref k05, .int c06, .int c07, .int c08])), (k01, .inl (cI, 40, .inl c01)), (ka0, .inl (cI, 4, .inl ca0)), (ka, .inr (6, [.ref ka0, .ref ka1, .ref ka2])), (ka1, .inl (cI, 4, .inl ca1)), (ka2, .inl (cI, 144, .inl ca2))]) (va_runV (As := [.int 5]) (rest := []) ⟨hx, hb, hml, hown, hT⟩ (c_X10_findingG l D cI aK aV k k0 k1 k2 k3 k4 k5 k6 k7 k8 k9 ka kb H.size cc cb 5) (cwV 1 hT (gV_in mw_338 mw_335 mw_337 mw_p1_0 mw_1) rfl rfl rfl (by decide +kernel) ⟨Nat.le_of_ble_eq_true rfl, Nat.le_of_ble_eq_true rfl⟩) (kRecvX (q0 := 0) (ci := 10) hK hP hD hN hXS hS hA rfl rfl [0, 2] rfl (by decide +kernel)) rfl rfl hl.1 rfl (lv_room (Nat.le_of_ble_eq_true rfl)) dX10_soils_73 ⟨Nat.le_of_ble_eq_true rfl, Nat.le_of_ble_eq_true rfl⟩) hP hD hS hA [0, 2] [1, 3, 4, 5, 6, 7] rfl rfl (by decide +kernel) (by decide +kernel) ?_
              clear hP hD hS
              intro r_53 scb_55 H locs w_54 hP hD hS
              replace hP : va_P D vwCl [(k0, .inr (9, [.ref k00, .ref k01, .ref k02, .ref k03, .ref k04, .ref k05, .int c06, .int c07, .int c08])), (k01, .inl (cI, 40, .inl c01)), (ka0, .inl (cI, 4, .inl ca0)), (ka, .inr (6, [.ref ka0, .ref ka1, .ref ka2])), (ka1, .inl (cI, 4, .inl ca1)), (ka2, .inl (cI, 144, .inl ca2)), (k, .inr (10, [.ref k0, .ref k1, .ref k2, .ref k3, .ref k4, .ref k5, .ref k6, .ref k7, .ref k8, .ref k9, .ref ka, .ref kb, .int cc])), (kb, .inl (cI, 6, .inl scb_55))] H := hP
              replace hD : va_D A [(k0, .inr (9, [.ref k00, .ref k01, .ref k02, .ref k03, .ref k04, .ref k05, .int c06, .int c07, .int c08])), (k01, .inl (cI, 40, .inl c01)), (ka0, .inl (cI, 4, .inl ca0)), (ka, .inr (6, [.ref ka0, .ref ka1, .ref ka2])), (ka1, .inl (cI, 4, .inl ca1)), (ka2, .inl (cI, 144, .inl ca2)), (k, .inr (10, [.ref k0, .ref k1, .ref k2, .ref k3, .ref k4, .ref k5, .ref k6, .ref k7, .ref k8, .ref k9, .ref ka, .ref kb, .int cc])), (kb, .inl (cI, 6, .inl scb_55))] := hD
              have hr_53 := w_54
              obtain rfl : r_53 = (-1000005) := hr_53.trans (by decide +kernel)
              exact hRet (scb_55, c01) [6, 0, 3, 7, 1, 2, 4, 5] ⟨(by (try dsimp only); unfold soilR; (repeat (first | rw [if_pos (by omega)] | rw [if_neg (by omega)] | rw [if_pos (by assumption)] | rw [if_neg (fun z => absurd (h_45.symm.trans z) (by decide +kernel))]))), (by (try dsimp only); unfold soilS; (repeat (first | rw [if_pos (by omega)] | rw [if_neg (by omega)] | rw [if_pos (by assumption)] | rw [if_neg (fun z => absurd (h_45.symm.trans z) (by decide +kernel))])))⟩ hP hD (by decide +kernel) rfl hS rfl dX10_soils_76
          · refine lv_aload_n hx hb dX10_soils_52 rfl (lv_at hl 0 rfl) ?_
            refine lv_iconst (v := 3) hx hb dX10_soils_53 (by decide +kernel) ?_
            refine kJi (wr := [(k0, .inr (9, [.ref k00, .ref k01, .ref k02, .ref k03, .ref k04, .ref k05, .int c06, .int c07, .int c08])), (k01, .inl (cI, 40, .inl c01)), (ka2, .inl (cI, 144, .inl ca2)), (ka0, .inl (cI, 4, .inl ca0)), (ka, .inr (6, [.ref ka0, .ref ka1, .ref ka2])), (ka1, .inl (cI, 4, .inl ca1))]) (va_runV (As := [.int 3]) (rest := []) ⟨hx, hb, hml, hown, hT⟩ (c_X10_findingG l D cI aK aV k k0 k1 k2 k3 k4 k5 k6 k7 k8 k9 ka kb H.size cc cb 3) (cwV 1 hT (gV_in mw_338 mw_335 mw_337 mw_p1_0 mw_1) rfl rfl rfl (by decide +kernel) ⟨Nat.le_of_ble_eq_true rfl, Nat.le_of_ble_eq_true rfl⟩) (kRecvX (q0 := 0) (ci := 10) hK hP hD hN hXS hS hA rfl rfl [0, 2] rfl (by decide +kernel)) rfl rfl hl.1 rfl (lv_room (Nat.le_of_ble_eq_true rfl)) dX10_soils_54 ⟨Nat.le_of_ble_eq_true rfl, Nat.le_of_ble_eq_true rfl⟩) hP hD hS hA [0, 2] [1, 3, 4, 5, 6, 7] rfl rfl (by decide +kernel) (by decide +kernel) ?_
            clear hP hD hS
            intro r_56 scb_58 H locs w_57 hP hD hS
            replace hP : va_P D vwCl [(k0, .inr (9, [.ref k00, .ref k01, .ref k02, .ref k03, .ref k04, .ref k05, .int c06, .int c07, .int c08])), (k01, .inl (cI, 40, .inl c01)), (ka2, .inl (cI, 144, .inl ca2)), (ka0, .inl (cI, 4, .inl ca0)), (ka, .inr (6, [.ref ka0, .ref ka1, .ref ka2])), (ka1, .inl (cI, 4, .inl ca1)), (k, .inr (10, [.ref k0, .ref k1, .ref k2, .ref k3, .ref k4, .ref k5, .ref k6, .ref k7, .ref k8, .ref k9, .ref ka, .ref kb, .int cc])), (kb, .inl (cI, 6, .inl scb_58))] H := hP
            replace hD : va_D A [(k0, .inr (9, [.ref k00, .ref k01, .ref k02, .ref k03, .ref k04, .ref k05, .int c06, .int c07, .int c08])), (k01, .inl (cI, 40, .inl c01)), (ka2, .inl (cI, 144, .inl ca2)), (ka0, .inl (cI, 4, .inl ca0)), (ka, .inr (6, [.ref ka0, .ref ka1, .ref ka2])), (ka1, .inl (cI, 4, .inl ca1)), (k, .inr (10, [.ref k0, .ref k1, .ref k2, .ref k3, .ref k4, .ref k5, .ref k6, .ref k7, .ref k8, .ref k9, .ref ka, .ref kb, .int cc])), (kb, .inl (cI, 6, .inl scb_58))] := hD
            have hr_56 := w_57
            obtain rfl : r_56 = (-1000003) := hr_56.trans (by decide +kernel)
            exact hRet (scb_58, c01) [6, 0, 4, 7, 1, 3, 5, 2] ⟨(by (try dsimp only); unfold soilR; (repeat (first | rw [if_pos (by omega)] | rw [if_neg (by omega)] | rw [if_pos (by assumption)] | rw [if_neg (fun z => absurd (zl_0.symm.trans z) (by decide +kernel))]))), (by (try dsimp only); unfold soilS; (repeat (first | rw [if_pos (by omega)] | rw [if_neg (by omega)] | rw [if_pos (by assumption)] | rw [if_neg (fun z => absurd (zl_0.symm.trans z) (by decide +kernel))])))⟩ hP hD (by decide +kernel) rfl hS rfl dX10_soils_57
        · exfalso; omega
      · exfalso; omega
    · have h_13 : a1.toInt < 0 ∨ 39 < a1.toInt := h_13
      obtain rfl : r_8 = 0 := hr_8.trans (by decide +kernel)
      refine b_if_ne hx hb zl_0 (tgt := 20) dX10_soils_11 (by decide +kernel) (fun c_59 => by exfalso; omega) (fun c_59 => ?_)
      refine lv_aload_n hx hb dX10_soils_14 rfl (lv_at hl 0 rfl) ?_
      refine lv_iconst (v := 1) hx hb dX10_soils_15 (by decide +kernel) ?_
      refine kJi (wr := [(k0, .inr (9, [.ref k00, .ref k01, .ref k02, .ref k03, .ref k04, .ref k05, .int c06, .int c07, .int c08])), (ka, .inr (6, [.ref ka0, .ref ka1, .ref ka2])), (k01, .inl (cI, 40, .inl c01)), (ka0, .inl (cI, 4, .inl ca0)), (ka1, .inl (cI, 4, .inl ca1)), (ka2, .inl (cI, 144, .inl ca2))]) (va_runV (As := [.int 1]) (rest := []) ⟨hx, hb, hml, hown, hT⟩ (c_X10_findingG l D cI aK aV k k0 k1 k2 k3 k4 k5 k6 k7 k8 k9 ka kb H.size cc cb 1) (cwV 1 hT (gV_in mw_338 mw_335 mw_337 mw_p1_0 mw_1) rfl rfl rfl (by decide +kernel) ⟨Nat.le_of_ble_eq_true rfl, Nat.le_of_ble_eq_true rfl⟩) (kRecvX (q0 := 0) (ci := 10) hK hP hD hN hXS hS hA rfl rfl [0, 3] rfl (by decide +kernel)) rfl rfl hl.1 rfl (lv_room (Nat.le_of_ble_eq_true rfl)) dX10_soils_16 ⟨Nat.le_of_ble_eq_true rfl, Nat.le_of_ble_eq_true rfl⟩) hP hD hS hA [0, 3] [1, 2, 4, 5, 6, 7] rfl rfl (by decide +kernel) (by decide +kernel) ?_
      clear hP hD hS
      intro r_60 scb_62 H locs w_61 hP hD hS
      replace hP : va_P D vwCl [(k0, .inr (9, [.ref k00, .ref k01, .ref k02, .ref k03, .ref k04, .ref k05, .int c06, .int c07, .int c08])), (ka, .inr (6, [.ref ka0, .ref ka1, .ref ka2])), (k01, .inl (cI, 40, .inl c01)), (ka0, .inl (cI, 4, .inl ca0)), (ka1, .inl (cI, 4, .inl ca1)), (ka2, .inl (cI, 144, .inl ca2)), (k, .inr (10, [.ref k0, .ref k1, .ref k2, .ref k3, .ref k4, .ref k5, .ref k6, .ref k7, .ref k8, .ref k9, .ref ka, .ref kb, .int cc])), (kb, .inl (cI, 6, .inl scb_62))] H := hP
      replace hD : va_D A [(k0, .inr (9, [.ref k00, .ref k01, .ref k02, .ref k03, .ref k04, .ref k05, .int c06, .int c07, .int c08])), (ka, .inr (6, [.ref ka0, .ref ka1, .ref ka2])), (k01, .inl (cI, 40, .inl c01)), (ka0, .inl (cI, 4, .inl ca0)), (ka1, .inl (cI, 4, .inl ca1)), (ka2, .inl (cI, 144, .inl ca2)), (k, .inr (10, [.ref k0, .ref k1, .ref k2, .ref k3, .ref k4, .ref k5, .ref k6, .ref k7, .ref k8, .ref k9, .ref ka, .ref kb, .int cc])), (kb, .inl (cI, 6, .inl scb_62))] := hD
      have hr_60 := w_61
      obtain rfl : r_60 = (-1000001) := hr_60.trans (by decide +kernel)
      exact hRet (scb_62, c01) [6, 0, 1, 7, 2, 3, 4, 5] ⟨(by (try dsimp only); unfold soilR; (repeat (first | rw [if_pos (by omega)] | rw [if_neg (by omega)] | rw [if_pos (by assumption)] | rw [if_neg (fun z => absurd (zl_0.symm.trans z) (by decide +kernel))]))), (by (try dsimp only); unfold soilS; (repeat (first | rw [if_pos (by omega)] | rw [if_neg (by omega)] | rw [if_pos (by assumption)] | rw [if_neg (fun z => absurd (zl_0.symm.trans z) (by decide +kernel))])))⟩ hP hD (by decide +kernel) rfl hS rfl dX10_soils_19
  · have h_6 : a0.toInt < 0 ∨ 3 < a0.toInt := h_6
    obtain rfl : r_1 = 0 := hr_1.trans (by decide +kernel)
    refine b_if_eq hx hb zl_0 (tgt := 14) dX10_soils_4 (by decide +kernel) (fun c_63 => ?_) (fun c_63 => by exfalso; omega)
    refine lv_aload_n hx hb dX10_soils_14 rfl (lv_at hl 0 rfl) ?_
    refine lv_iconst (v := 1) hx hb dX10_soils_15 (by decide +kernel) ?_
    refine kJi (wr := [(k0, .inr (9, [.ref k00, .ref k01, .ref k02, .ref k03, .ref k04, .ref k05, .int c06, .int c07, .int c08])), (ka, .inr (6, [.ref ka0, .ref ka1, .ref ka2])), (k01, .inl (cI, 40, .inl c01)), (ka0, .inl (cI, 4, .inl ca0)), (ka1, .inl (cI, 4, .inl ca1)), (ka2, .inl (cI, 144, .inl ca2))]) (va_runV (As := [.int 1]) (rest := []) ⟨hx, hb, hml, hown, hT⟩ (c_X10_findingG l D cI aK aV k k0 k1 k2 k3 k4 k5 k6 k7 k8 k9 ka kb H.size cc cb 1) (cwV 1 hT (gV_in mw_338 mw_335 mw_337 mw_p1_0 mw_1) rfl rfl rfl (by decide +kernel) ⟨Nat.le_of_ble_eq_true rfl, Nat.le_of_ble_eq_true rfl⟩) (kRecvX (q0 := 0) (ci := 10) hK hP hD hN hXS hS hA rfl rfl [0, 3] rfl (by decide +kernel)) rfl rfl hl.1 rfl (lv_room (Nat.le_of_ble_eq_true rfl)) dX10_soils_16 ⟨Nat.le_of_ble_eq_true rfl, Nat.le_of_ble_eq_true rfl⟩) hP hD hS hA [0, 3] [1, 2, 4, 5, 6, 7] rfl rfl (by decide +kernel) (by decide +kernel) ?_
    clear hP hD hS
    intro r_64 scb_66 H locs w_65 hP hD hS
    replace hP : va_P D vwCl [(k0, .inr (9, [.ref k00, .ref k01, .ref k02, .ref k03, .ref k04, .ref k05, .int c06, .int c07, .int c08])), (ka, .inr (6, [.ref ka0, .ref ka1, .ref ka2])), (k01, .inl (cI, 40, .inl c01)), (ka0, .inl (cI, 4, .inl ca0)), (ka1, .inl (cI, 4, .inl ca1)), (ka2, .inl (cI, 144, .inl ca2)), (k, .inr (10, [.ref k0, .ref k1, .ref k2, .ref k3, .ref k4, .ref k5, .ref k6, .ref k7, .ref k8, .ref k9, .ref ka, .ref kb, .int cc])), (kb, .inl (cI, 6, .inl scb_66))] H := hP
    replace hD : va_D A [(k0, .inr (9, [.ref k00, .ref k01, .ref k02, .ref k03, .ref k04, .ref k05, .int c06, .int c07, .int c08])), (ka, .inr (6, [.ref ka0, .ref ka1, .ref ka2])), (k01, .inl (cI, 40, .inl c01)), (ka0, .inl (cI, 4, .inl ca0)), (ka1, .inl (cI, 4, .inl ca1)), (ka2, .inl (cI, 144, .inl ca2)), (k, .inr (10, [.ref k0, .ref k1, .ref k2, .ref k3, .ref k4, .ref k5, .ref k6, .ref k7, .ref k8, .ref k9, .ref ka, .ref kb, .int cc])), (kb, .inl (cI, 6, .inl scb_66))] := hD
    have hr_64 := w_65
    obtain rfl : r_64 = (-1000001) := hr_64.trans (by decide +kernel)
    exact hRet (scb_66, c01) [6, 0, 1, 7, 2, 3, 4, 5] ⟨(by (try dsimp only); unfold soilR; (repeat (first | rw [if_pos (by omega)] | rw [if_neg (by omega)] | rw [if_pos (by assumption)] | rw [if_neg (fun z => absurd (zl_0.symm.trans z) (by decide +kernel))]))), (by (try dsimp only); unfold soilS; (repeat (first | rw [if_pos (by omega)] | rw [if_neg (by omega)] | rw [if_pos (by assumption)] | rw [if_neg (fun z => absurd (zl_0.symm.trans z) (by decide +kernel))])))⟩ hP hD (by decide +kernel) rfl hS rfl dX10_soils_19
theorem bn_cX10_party_0 : BN cX10_party 0 0xad41a015a8ad98015b8740a070b30802b5068056a2b660056e1c0201c2cc200ad41a015a8ac0e37648056ec200ad41a015a8ad5a5300adc102b0500536c600add84015a83402b515ab4a6015b814560a00a94661138994221e068054833089b4ca110f05802a2328443c1c00a680c16030dc080500aa00a0800a90c811028581e014e0142c1400a84061d0480540050e878029a2d005721c := by
  unfold BN; decide +kernel
theorem dX10_party_0 : decode cX10_party 0 = .ok (.iload_n 1, 1) := dR0 (k := 0) (i := 0) bn_cX10_party_0 dop_27 (by decide +kernel)
theorem dX10_party_1 : decode cX10_party 1 = .ok (.invokestatic 89, 3) := dR2 (f := Instr.invokestatic) (k := 0) (i := 1) bn_cX10_party_0 dop_184 89 (by decide +kernel)
theorem dX10_party_4 : decode cX10_party 4 = .ok (.ifCond .eq 29, 3) := dR2s (f := Instr.ifCond .eq) (k := 0) (i := 4) bn_cX10_party_0 dop_153 29 29 (by decide +kernel)
theorem dX10_party_7 : decode cX10_party 7 = .ok (.iload_n 2, 1) := dR0 (k := 0) (i := 7) bn_cX10_party_0 dop_28 (by decide +kernel)
theorem dX10_party_8 : decode cX10_party 8 = .ok (.iconst 1, 1) := dR0 (k := 0) (i := 8) bn_cX10_party_0 dop_4 (by decide +kernel)
theorem dX10_party_9 : decode cX10_party 9 = .ok (.if_icmp .eq 8, 3) := dR2s (f := Instr.if_icmp .eq) (k := 0) (i := 9) bn_cX10_party_0 dop_159 8 8 (by decide +kernel)
theorem dX10_party_12 : decode cX10_party 12 = .ok (.iload_n 2, 1) := dR0 (k := 0) (i := 12) bn_cX10_party_0 dop_28 (by decide +kernel)
theorem dX10_party_13 : decode cX10_party 13 = .ok (.iconst (-1), 1) := dR0 (k := 0) (i := 13) bn_cX10_party_0 dop_2 (by decide +kernel)
theorem dX10_party_14 : decode cX10_party 14 = .ok (.if_icmp .ne 19, 3) := dR2s (f := Instr.if_icmp .ne) (k := 0) (i := 14) bn_cX10_party_0 dop_160 19 19 (by decide +kernel)
theorem dX10_party_17 : decode cX10_party 17 = .ok (.iload 4, 2) := dR1 (f := Instr.iload) (k := 0) (i := 17) bn_cX10_party_0 dop_21 4 (by decide +kernel)
theorem dX10_party_19 : decode cX10_party 19 = .ok (.ifCond .lt 14, 3) := dR2s (f := Instr.ifCond .lt) (k := 0) (i := 19) bn_cX10_party_0 dop_155 14 14 (by decide +kernel)
theorem dX10_party_22 : decode cX10_party 22 = .ok (.iload 4, 2) := dR1 (f := Instr.iload) (k := 0) (i := 22) bn_cX10_party_0 dop_21 4 (by decide +kernel)
theorem dX10_party_24 : decode cX10_party 24 = .ok (.bipush 99, 2) := dR1s (f := Instr.bipush) (k := 0) (i := 24) bn_cX10_party_0 dop_16 99 99 (by decide +kernel)
theorem dX10_party_26 : decode cX10_party 26 = .ok (.if_icmp .gt 7, 3) := dR2s (f := Instr.if_icmp .gt) (k := 0) (i := 26) bn_cX10_party_0 dop_163 7 7 (by decide +kernel)
theorem dX10_party_29 : decode cX10_party 29 = .ok (.iconst 1, 1) := dR0 (k := 0) (i := 29) bn_cX10_party_0 dop_4 (by decide +kernel)
theorem dX10_party_30 : decode cX10_party 30 = .ok (.goto 4, 3) := dR2s (f := Instr.goto) (k := 0) (i := 30) bn_cX10_party_0 dop_167 4 4 (by decide +kernel)
theorem dX10_party_33 : decode cX10_party 33 = .ok (.iconst 0, 1) := dR0 (k := 0) (i := 33) bn_cX10_party_0 dop_3 (by decide +kernel)
theorem dX10_party_34 : decode cX10_party 34 = .ok (.istore 5, 2) := dR1 (f := Instr.istore) (k := 0) (i := 34) bn_cX10_party_0 dop_54 5 (by decide +kernel)
theorem dX10_party_36 : decode cX10_party 36 = .ok (.iload 5, 2) := dR1 (f := Instr.iload) (k := 0) (i := 36) bn_cX10_party_0 dop_21 5 (by decide +kernel)
theorem dX10_party_38 : decode cX10_party 38 = .ok (.ifCond .eq 27, 3) := dR2s (f := Instr.ifCond .eq) (k := 0) (i := 38) bn_cX10_party_0 dop_153 27 27 (by decide +kernel)
theorem dX10_party_41 : decode cX10_party 41 = .ok (.iload_n 3, 1) := dR0 (k := 0) (i := 41) bn_cX10_party_0 dop_29 (by decide +kernel)
theorem dX10_party_42 : decode cX10_party 42 = .ok (.bipush 100, 2) := dR1s (f := Instr.bipush) (k := 0) (i := 42) bn_cX10_party_0 dop_16 100 100 (by decide +kernel)
theorem dX10_party_44 : decode cX10_party 44 = .ok (.if_icmp .lt 21, 3) := dR2s (f := Instr.if_icmp .lt) (k := 0) (i := 44) bn_cX10_party_0 dop_161 21 21 (by decide +kernel)
theorem dX10_party_47 : decode cX10_party 47 = .ok (.iload_n 3, 1) := dR0 (k := 0) (i := 47) bn_cX10_party_0 dop_29 (by decide +kernel)
theorem dX10_party_48 : decode cX10_party 48 = .ok (.bipush 100, 2) := dR1s (f := Instr.bipush) (k := 0) (i := 48) bn_cX10_party_0 dop_16 100 100 (by decide +kernel)
theorem dX10_party_50 : decode cX10_party 50 = .ok (.idiv, 1) := dR0 (k := 0) (i := 50) bn_cX10_party_0 dop_108 (by decide +kernel)
theorem dX10_party_51 : decode cX10_party 51 = .ok (.bipush 50, 2) := dR1s (f := Instr.bipush) (k := 0) (i := 51) bn_cX10_party_0 dop_16 50 50 (by decide +kernel)
theorem dX10_party_53 : decode cX10_party 53 = .ok (.if_icmp .gt 12, 3) := dR2s (f := Instr.if_icmp .gt) (k := 0) (i := 53) bn_cX10_party_0 dop_163 12 12 (by decide +kernel)
theorem dX10_party_56 : decode cX10_party 56 = .ok (.iload_n 3, 1) := dR0 (k := 0) (i := 56) bn_cX10_party_0 dop_29 (by decide +kernel)
theorem dX10_party_57 : decode cX10_party 57 = .ok (.bipush 100, 2) := dR1s (f := Instr.bipush) (k := 0) (i := 57) bn_cX10_party_0 dop_16 100 100 (by decide +kernel)
theorem dX10_party_59 : decode cX10_party 59 = .ok (.irem, 1) := dR0 (k := 0) (i := 59) bn_cX10_party_0 dop_112 (by decide +kernel)
theorem dX10_party_60 : decode cX10_party 60 = .ok (.bipush 50, 2) := dR1s (f := Instr.bipush) (k := 0) (i := 60) bn_cX10_party_0 dop_16 50 50 (by decide +kernel)
theorem dX10_party_62 : decode cX10_party 62 = .ok (.if_icmp .le 9, 3) := dR2s (f := Instr.if_icmp .le) (k := 0) (i := 62) bn_cX10_party_0 dop_164 9 9 (by decide +kernel)
theorem dX10_party_65 : decode cX10_party 65 = .ok (.aload_n 0, 1) := dR0 (k := 0) (i := 65) bn_cX10_party_0 dop_42 (by decide +kernel)
theorem dX10_party_66 : decode cX10_party 66 = .ok (.iconst 1, 1) := dR0 (k := 0) (i := 66) bn_cX10_party_0 dop_4 (by decide +kernel)
theorem dX10_party_67 : decode cX10_party 67 = .ok (.invokevirtual 82, 3) := dR2 (f := Instr.invokevirtual) (k := 0) (i := 67) bn_cX10_party_0 dop_182 82 (by decide +kernel)
theorem dX10_party_70 : decode cX10_party 70 = .ok (.ireturn, 1) := dR0 (k := 0) (i := 70) bn_cX10_party_0 dop_172 (by decide +kernel)
theorem dX10_party_71 : decode cX10_party 71 = .ok (.aload_n 0, 1) := dR0 (k := 0) (i := 71) bn_cX10_party_0 dop_42 (by decide +kernel)
theorem dX10_party_72 : decode cX10_party 72 = .ok (.getfield 12, 3) := dR2 (f := Instr.getfield) (k := 0) (i := 72) bn_cX10_party_0 dop_180 12 (by decide +kernel)
theorem dX10_party_75 : decode cX10_party 75 = .ok (.getfield 193, 3) := dR2 (f := Instr.getfield) (k := 0) (i := 75) bn_cX10_party_0 dop_180 193 (by decide +kernel)
theorem dX10_party_78 : decode cX10_party 78 = .ok (.invokevirtual 197, 3) := dR2 (f := Instr.invokevirtual) (k := 0) (i := 78) bn_cX10_party_0 dop_182 197 (by decide +kernel)
theorem dX10_party_81 : decode cX10_party 81 = .ok (.ifCond .ne 9, 3) := dR2s (f := Instr.ifCond .ne) (k := 0) (i := 81) bn_cX10_party_0 dop_154 9 9 (by decide +kernel)
theorem dX10_party_84 : decode cX10_party 84 = .ok (.aload_n 0, 1) := dR0 (k := 0) (i := 84) bn_cX10_party_0 dop_42 (by decide +kernel)
theorem dX10_party_85 : decode cX10_party 85 = .ok (.iconst 4, 1) := dR0 (k := 0) (i := 85) bn_cX10_party_0 dop_7 (by decide +kernel)
theorem dX10_party_86 : decode cX10_party 86 = .ok (.invokevirtual 82, 3) := dR2 (f := Instr.invokevirtual) (k := 0) (i := 86) bn_cX10_party_0 dop_182 82 (by decide +kernel)
theorem dX10_party_89 : decode cX10_party 89 = .ok (.ireturn, 1) := dR0 (k := 0) (i := 89) bn_cX10_party_0 dop_172 (by decide +kernel)
theorem dX10_party_90 : decode cX10_party 90 = .ok (.aload_n 0, 1) := dR0 (k := 0) (i := 90) bn_cX10_party_0 dop_42 (by decide +kernel)
theorem dX10_party_91 : decode cX10_party 91 = .ok (.getfield 12, 3) := dR2 (f := Instr.getfield) (k := 0) (i := 91) bn_cX10_party_0 dop_180 12 (by decide +kernel)
theorem dX10_party_94 : decode cX10_party 94 = .ok (.getfield 193, 3) := dR2 (f := Instr.getfield) (k := 0) (i := 94) bn_cX10_party_0 dop_180 193 (by decide +kernel)
theorem dX10_party_97 : decode cX10_party 97 = .ok (.invokevirtual 200, 3) := dR2 (f := Instr.invokevirtual) (k := 0) (i := 97) bn_cX10_party_0 dop_182 200 (by decide +kernel)
theorem dX10_party_100 : decode cX10_party 100 = .ok (.istore 6, 2) := dR1 (f := Instr.istore) (k := 0) (i := 100) bn_cX10_party_0 dop_54 6 (by decide +kernel)
theorem dX10_party_102 : decode cX10_party 102 = .ok (.aload_n 0, 1) := dR0 (k := 0) (i := 102) bn_cX10_party_0 dop_42 (by decide +kernel)
theorem dX10_party_103 : decode cX10_party 103 = .ok (.getfield 12, 3) := dR2 (f := Instr.getfield) (k := 0) (i := 103) bn_cX10_party_0 dop_180 12 (by decide +kernel)
theorem dX10_party_106 : decode cX10_party 106 = .ok (.getfield 193, 3) := dR2 (f := Instr.getfield) (k := 0) (i := 106) bn_cX10_party_0 dop_180 193 (by decide +kernel)
theorem dX10_party_109 : decode cX10_party 109 = .ok (.iload 6, 2) := dR1 (f := Instr.iload) (k := 0) (i := 109) bn_cX10_party_0 dop_21 6 (by decide +kernel)
theorem dX10_party_111 : decode cX10_party 111 = .ok (.iconst 0, 1) := dR0 (k := 0) (i := 111) bn_cX10_party_0 dop_3 (by decide +kernel)
theorem dX10_party_112 : decode cX10_party 112 = .ok (.iload_n 1, 1) := dR0 (k := 0) (i := 112) bn_cX10_party_0 dop_27 (by decide +kernel)
theorem dX10_party_113 : decode cX10_party 113 = .ok (.invokevirtual 203, 3) := dR2 (f := Instr.invokevirtual) (k := 0) (i := 113) bn_cX10_party_0 dop_182 203 (by decide +kernel)
theorem dX10_party_116 : decode cX10_party 116 = .ok (.aload_n 0, 1) := dR0 (k := 0) (i := 116) bn_cX10_party_0 dop_42 (by decide +kernel)
theorem dX10_party_117 : decode cX10_party 117 = .ok (.getfield 12, 3) := dR2 (f := Instr.getfield) (k := 0) (i := 117) bn_cX10_party_0 dop_180 12 (by decide +kernel)
theorem dX10_party_120 : decode cX10_party 120 = .ok (.getfield 193, 3) := dR2 (f := Instr.getfield) (k := 0) (i := 120) bn_cX10_party_0 dop_180 193 (by decide +kernel)
theorem dX10_party_123 : decode cX10_party 123 = .ok (.iload 6, 2) := dR1 (f := Instr.iload) (k := 0) (i := 123) bn_cX10_party_0 dop_21 6 (by decide +kernel)
theorem dX10_party_125 : decode cX10_party 125 = .ok (.iconst 1, 1) := dR0 (k := 0) (i := 125) bn_cX10_party_0 dop_4 (by decide +kernel)
theorem dX10_party_126 : decode cX10_party 126 = .ok (.iload_n 2, 1) := dR0 (k := 0) (i := 126) bn_cX10_party_0 dop_28 (by decide +kernel)
theorem dX10_party_127 : decode cX10_party 127 = .ok (.invokevirtual 203, 3) := dR2 (f := Instr.invokevirtual) (k := 0) (i := 127) bn_cX10_party_0 dop_182 203 (by decide +kernel)
theorem bn_cX10_party_128 : BN cX10_party 128 0x15a070b33002b70285810070b30802b5068056a2b660056e71328443c070385984015a83402b515b3002b736994221e0301c2cc200ad41a015a8ad9801 := by
  unfold BN; decide +kernel
theorem dX10_party_130 : decode cX10_party 130 = .ok (.aload_n 0, 1) := dR0 (k := 128) (i := 2) bn_cX10_party_128 dop_42 (by decide +kernel)
theorem dX10_party_131 : decode cX10_party 131 = .ok (.getfield 12, 3) := dR2 (f := Instr.getfield) (k := 128) (i := 3) bn_cX10_party_128 dop_180 12 (by decide +kernel)
theorem dX10_party_134 : decode cX10_party 134 = .ok (.getfield 193, 3) := dR2 (f := Instr.getfield) (k := 128) (i := 6) bn_cX10_party_128 dop_180 193 (by decide +kernel)
theorem dX10_party_137 : decode cX10_party 137 = .ok (.iload 6, 2) := dR1 (f := Instr.iload) (k := 128) (i := 9) bn_cX10_party_128 dop_21 6 (by decide +kernel)
theorem dX10_party_139 : decode cX10_party 139 = .ok (.iconst 2, 1) := dR0 (k := 128) (i := 11) bn_cX10_party_128 dop_5 (by decide +kernel)
theorem dX10_party_140 : decode cX10_party 140 = .ok (.iload_n 3, 1) := dR0 (k := 128) (i := 12) bn_cX10_party_128 dop_29 (by decide +kernel)
theorem dX10_party_141 : decode cX10_party 141 = .ok (.bipush 100, 2) := dR1s (f := Instr.bipush) (k := 128) (i := 13) bn_cX10_party_128 dop_16 100 100 (by decide +kernel)
theorem dX10_party_143 : decode cX10_party 143 = .ok (.idiv, 1) := dR0 (k := 128) (i := 15) bn_cX10_party_128 dop_108 (by decide +kernel)
theorem dX10_party_144 : decode cX10_party 144 = .ok (.invokevirtual 203, 3) := dR2 (f := Instr.invokevirtual) (k := 128) (i := 16) bn_cX10_party_128 dop_182 203 (by decide +kernel)
theorem dX10_party_147 : decode cX10_party 147 = .ok (.aload_n 0, 1) := dR0 (k := 128) (i := 19) bn_cX10_party_128 dop_42 (by decide +kernel)
theorem dX10_party_148 : decode cX10_party 148 = .ok (.getfield 12, 3) := dR2 (f := Instr.getfield) (k := 128) (i := 20) bn_cX10_party_128 dop_180 12 (by decide +kernel)
theorem dX10_party_151 : decode cX10_party 151 = .ok (.getfield 193, 3) := dR2 (f := Instr.getfield) (k := 128) (i := 23) bn_cX10_party_128 dop_180 193 (by decide +kernel)
theorem dX10_party_154 : decode cX10_party 154 = .ok (.iload 6, 2) := dR1 (f := Instr.iload) (k := 128) (i := 26) bn_cX10_party_128 dop_21 6 (by decide +kernel)
theorem dX10_party_156 : decode cX10_party 156 = .ok (.iconst 3, 1) := dR0 (k := 128) (i := 28) bn_cX10_party_128 dop_6 (by decide +kernel)
theorem dX10_party_157 : decode cX10_party 157 = .ok (.iload_n 3, 1) := dR0 (k := 128) (i := 29) bn_cX10_party_128 dop_29 (by decide +kernel)
theorem dX10_party_158 : decode cX10_party 158 = .ok (.bipush 100, 2) := dR1s (f := Instr.bipush) (k := 128) (i := 30) bn_cX10_party_128 dop_16 100 100 (by decide +kernel)
theorem dX10_party_160 : decode cX10_party 160 = .ok (.irem, 1) := dR0 (k := 128) (i := 32) bn_cX10_party_128 dop_112 (by decide +kernel)
theorem dX10_party_161 : decode cX10_party 161 = .ok (.invokevirtual 203, 3) := dR2 (f := Instr.invokevirtual) (k := 128) (i := 33) bn_cX10_party_128 dop_182 203 (by decide +kernel)
theorem dX10_party_164 : decode cX10_party 164 = .ok (.aload_n 0, 1) := dR0 (k := 128) (i := 36) bn_cX10_party_128 dop_42 (by decide +kernel)
theorem dX10_party_165 : decode cX10_party 165 = .ok (.getfield 12, 3) := dR2 (f := Instr.getfield) (k := 128) (i := 37) bn_cX10_party_128 dop_180 12 (by decide +kernel)
theorem dX10_party_168 : decode cX10_party 168 = .ok (.getfield 193, 3) := dR2 (f := Instr.getfield) (k := 128) (i := 40) bn_cX10_party_128 dop_180 193 (by decide +kernel)
theorem dX10_party_171 : decode cX10_party 171 = .ok (.iload 6, 2) := dR1 (f := Instr.iload) (k := 128) (i := 43) bn_cX10_party_128 dop_21 6 (by decide +kernel)
theorem dX10_party_173 : decode cX10_party 173 = .ok (.iconst 4, 1) := dR0 (k := 128) (i := 45) bn_cX10_party_128 dop_7 (by decide +kernel)
theorem dX10_party_174 : decode cX10_party 174 = .ok (.iload 4, 2) := dR1 (f := Instr.iload) (k := 128) (i := 46) bn_cX10_party_128 dop_21 4 (by decide +kernel)
theorem dX10_party_176 : decode cX10_party 176 = .ok (.invokevirtual 203, 3) := dR2 (f := Instr.invokevirtual) (k := 128) (i := 48) bn_cX10_party_128 dop_182 203 (by decide +kernel)
theorem dX10_party_179 : decode cX10_party 179 = .ok (.iload 6, 2) := dR1 (f := Instr.iload) (k := 128) (i := 51) bn_cX10_party_128 dop_21 6 (by decide +kernel)
theorem dX10_party_181 : decode cX10_party 181 = .ok (.ireturn, 1) := dR0 (k := 128) (i := 53) bn_cX10_party_128 dop_172 (by decide +kernel)

theorem bn_cX10_partyIs_0 : BN cX10_partyIs 0 0x2b5a2015b87438c200ad41a015a8ad5a5300adc0a2b05005440a0887414014e0741c014d34002b70e30802b5068056a2b := by
  unfold BN; decide +kernel
theorem dX10_partyIs_0 : decode cX10_partyIs 0 = .ok (.aload_n 0, 1) := dR0 (k := 0) (i := 0) bn_cX10_partyIs_0 dop_42 (by decide +kernel)
theorem dX10_partyIs_1 : decode cX10_partyIs 1 = .ok (.getfield 12, 3) := dR2 (f := Instr.getfield) (k := 0) (i := 1) bn_cX10_partyIs_0 dop_180 12 (by decide +kernel)
theorem dX10_partyIs_4 : decode cX10_partyIs 4 = .ok (.getfield 193, 3) := dR2 (f := Instr.getfield) (k := 0) (i := 4) bn_cX10_partyIs_0 dop_180 193 (by decide +kernel)
theorem dX10_partyIs_7 : decode cX10_partyIs 7 = .ok (.iload_n 1, 1) := dR0 (k := 0) (i := 7) bn_cX10_partyIs_0 dop_27 (by decide +kernel)
theorem dX10_partyIs_8 : decode cX10_partyIs 8 = .ok (.invokevirtual 207, 3) := dR2 (f := Instr.invokevirtual) (k := 0) (i := 8) bn_cX10_partyIs_0 dop_182 207 (by decide +kernel)
theorem dX10_partyIs_11 : decode cX10_partyIs 11 = .ok (.ifCond .eq 13, 3) := dR2s (f := Instr.ifCond .eq) (k := 0) (i := 11) bn_cX10_partyIs_0 dop_153 13 13 (by decide +kernel)
theorem dX10_partyIs_14 : decode cX10_partyIs 14 = .ok (.iload_n 2, 1) := dR0 (k := 0) (i := 14) bn_cX10_partyIs_0 dop_28 (by decide +kernel)
theorem dX10_partyIs_15 : decode cX10_partyIs 15 = .ok (.ifCond .lt 9, 3) := dR2s (f := Instr.ifCond .lt) (k := 0) (i := 15) bn_cX10_partyIs_0 dop_155 9 9 (by decide +kernel)
theorem dX10_partyIs_18 : decode cX10_partyIs 18 = .ok (.iload_n 2, 1) := dR0 (k := 0) (i := 18) bn_cX10_partyIs_0 dop_28 (by decide +kernel)
theorem dX10_partyIs_19 : decode cX10_partyIs 19 = .ok (.bipush 9, 2) := dR1s (f := Instr.bipush) (k := 0) (i := 19) bn_cX10_partyIs_0 dop_16 9 9 (by decide +kernel)
theorem dX10_partyIs_21 : decode cX10_partyIs 21 = .ok (.if_icmp .lt 9, 3) := dR2s (f := Instr.if_icmp .lt) (k := 0) (i := 21) bn_cX10_partyIs_0 dop_161 9 9 (by decide +kernel)
theorem dX10_partyIs_24 : decode cX10_partyIs 24 = .ok (.aload_n 0, 1) := dR0 (k := 0) (i := 24) bn_cX10_partyIs_0 dop_42 (by decide +kernel)
theorem dX10_partyIs_25 : decode cX10_partyIs 25 = .ok (.iconst 1, 1) := dR0 (k := 0) (i := 25) bn_cX10_partyIs_0 dop_4 (by decide +kernel)
theorem dX10_partyIs_26 : decode cX10_partyIs 26 = .ok (.invokevirtual 82, 3) := dR2 (f := Instr.invokevirtual) (k := 0) (i := 26) bn_cX10_partyIs_0 dop_182 82 (by decide +kernel)
theorem dX10_partyIs_29 : decode cX10_partyIs 29 = .ok (.ireturn, 1) := dR0 (k := 0) (i := 29) bn_cX10_partyIs_0 dop_172 (by decide +kernel)
theorem dX10_partyIs_30 : decode cX10_partyIs 30 = .ok (.aload_n 0, 1) := dR0 (k := 0) (i := 30) bn_cX10_partyIs_0 dop_42 (by decide +kernel)
theorem dX10_partyIs_31 : decode cX10_partyIs 31 = .ok (.getfield 12, 3) := dR2 (f := Instr.getfield) (k := 0) (i := 31) bn_cX10_partyIs_0 dop_180 12 (by decide +kernel)
theorem dX10_partyIs_34 : decode cX10_partyIs 34 = .ok (.getfield 193, 3) := dR2 (f := Instr.getfield) (k := 0) (i := 34) bn_cX10_partyIs_0 dop_180 193 (by decide +kernel)
theorem dX10_partyIs_37 : decode cX10_partyIs 37 = .ok (.iload_n 1, 1) := dR0 (k := 0) (i := 37) bn_cX10_partyIs_0 dop_27 (by decide +kernel)
theorem dX10_partyIs_38 : decode cX10_partyIs 38 = .ok (.iload_n 2, 1) := dR0 (k := 0) (i := 38) bn_cX10_partyIs_0 dop_28 (by decide +kernel)
theorem dX10_partyIs_39 : decode cX10_partyIs 39 = .ok (.invokevirtual 208, 3) := dR2 (f := Instr.invokevirtual) (k := 0) (i := 39) bn_cX10_partyIs_0 dop_182 208 (by decide +kernel)
theorem dX10_partyIs_42 : decode cX10_partyIs 42 = .ok (.ireturn, 1) := dR0 (k := 0) (i := 42) bn_cX10_partyIs_0 dop_172 (by decide +kernel)

theorem bn_cX10_give_0 : BN cX10_give 0 0x68056a2b5694c02b7040ac1401528142c070b01c6e610f34402b70305838c200ad41a015a8ac0c370401402a8038441201508143a0f00aa0120800a6c3aad298056e0715828029a6a0056e1c610056a0d00ad456ad298056e051582802a5028583c0a00a880a1e028dc20280901c02a8320441201508183aad298056e051582802a50307412014e0741a014d34002b70e30802b5068056a2b := by
  unfold BN; decide +kernel
theorem dX10_give_0 : decode cX10_give 0 = .ok (.aload_n 0, 1) := dR0 (k := 0) (i := 0) bn_cX10_give_0 dop_42 (by decide +kernel)
theorem dX10_give_1 : decode cX10_give 1 = .ok (.getfield 12, 3) := dR2 (f := Instr.getfield) (k := 0) (i := 1) bn_cX10_give_0 dop_180 12 (by decide +kernel)
theorem dX10_give_4 : decode cX10_give 4 = .ok (.getfield 193, 3) := dR2 (f := Instr.getfield) (k := 0) (i := 4) bn_cX10_give_0 dop_180 193 (by decide +kernel)
theorem dX10_give_7 : decode cX10_give 7 = .ok (.iload_n 1, 1) := dR0 (k := 0) (i := 7) bn_cX10_give_0 dop_27 (by decide +kernel)
theorem dX10_give_8 : decode cX10_give 8 = .ok (.invokevirtual 207, 3) := dR2 (f := Instr.invokevirtual) (k := 0) (i := 8) bn_cX10_give_0 dop_182 207 (by decide +kernel)
theorem dX10_give_11 : decode cX10_give 11 = .ok (.ifCond .eq 12, 3) := dR2s (f := Instr.ifCond .eq) (k := 0) (i := 11) bn_cX10_give_0 dop_153 12 12 (by decide +kernel)
theorem dX10_give_14 : decode cX10_give 14 = .ok (.iload_n 2, 1) := dR0 (k := 0) (i := 14) bn_cX10_give_0 dop_28 (by decide +kernel)
theorem dX10_give_15 : decode cX10_give 15 = .ok (.ifCond .lt 8, 3) := dR2s (f := Instr.ifCond .lt) (k := 0) (i := 15) bn_cX10_give_0 dop_155 8 8 (by decide +kernel)
theorem dX10_give_18 : decode cX10_give 18 = .ok (.iload_n 2, 1) := dR0 (k := 0) (i := 18) bn_cX10_give_0 dop_28 (by decide +kernel)
theorem dX10_give_19 : decode cX10_give 19 = .ok (.iconst 2, 1) := dR0 (k := 0) (i := 19) bn_cX10_give_0 dop_5 (by decide +kernel)
theorem dX10_give_20 : decode cX10_give 20 = .ok (.if_icmp .le 9, 3) := dR2s (f := Instr.if_icmp .le) (k := 0) (i := 20) bn_cX10_give_0 dop_164 9 9 (by decide +kernel)
theorem dX10_give_23 : decode cX10_give 23 = .ok (.aload_n 0, 1) := dR0 (k := 0) (i := 23) bn_cX10_give_0 dop_42 (by decide +kernel)
theorem dX10_give_24 : decode cX10_give 24 = .ok (.iconst 1, 1) := dR0 (k := 0) (i := 24) bn_cX10_give_0 dop_4 (by decide +kernel)
theorem dX10_give_25 : decode cX10_give 25 = .ok (.invokevirtual 82, 3) := dR2 (f := Instr.invokevirtual) (k := 0) (i := 25) bn_cX10_give_0 dop_182 82 (by decide +kernel)
theorem dX10_give_28 : decode cX10_give 28 = .ok (.ireturn, 1) := dR0 (k := 0) (i := 28) bn_cX10_give_0 dop_172 (by decide +kernel)
theorem dX10_give_29 : decode cX10_give 29 = .ok (.iload_n 2, 1) := dR0 (k := 0) (i := 29) bn_cX10_give_0 dop_28 (by decide +kernel)
theorem dX10_give_30 : decode cX10_give 30 = .ok (.iconst 2, 1) := dR0 (k := 0) (i := 30) bn_cX10_give_0 dop_5 (by decide +kernel)
theorem dX10_give_31 : decode cX10_give 31 = .ok (.if_icmp .ne 8, 3) := dR2s (f := Instr.if_icmp .ne) (k := 0) (i := 31) bn_cX10_give_0 dop_160 8 8 (by decide +kernel)
theorem dX10_give_34 : decode cX10_give 34 = .ok (.bipush 99, 2) := dR1s (f := Instr.bipush) (k := 0) (i := 34) bn_cX10_give_0 dop_16 99 99 (by decide +kernel)
theorem dX10_give_36 : decode cX10_give 36 = .ok (.goto 6, 3) := dR2s (f := Instr.goto) (k := 0) (i := 36) bn_cX10_give_0 dop_167 6 6 (by decide +kernel)
theorem dX10_give_39 : decode cX10_give 39 = .ok (.sipush 9999, 3) := dR2s (f := Instr.sipush) (k := 0) (i := 39) bn_cX10_give_0 dop_17 9999 9999 (by decide +kernel)
theorem dX10_give_42 : decode cX10_give 42 = .ok (.istore 4, 2) := dR1 (f := Instr.istore) (k := 0) (i := 42) bn_cX10_give_0 dop_54 4 (by decide +kernel)
theorem dX10_give_44 : decode cX10_give 44 = .ok (.iload_n 3, 1) := dR0 (k := 0) (i := 44) bn_cX10_give_0 dop_29 (by decide +kernel)
theorem dX10_give_45 : decode cX10_give 45 = .ok (.iconst 1, 1) := dR0 (k := 0) (i := 45) bn_cX10_give_0 dop_4 (by decide +kernel)
theorem dX10_give_46 : decode cX10_give 46 = .ok (.if_icmp .lt 9, 3) := dR2s (f := Instr.if_icmp .lt) (k := 0) (i := 46) bn_cX10_give_0 dop_161 9 9 (by decide +kernel)
theorem dX10_give_49 : decode cX10_give 49 = .ok (.iload_n 3, 1) := dR0 (k := 0) (i := 49) bn_cX10_give_0 dop_29 (by decide +kernel)
theorem dX10_give_50 : decode cX10_give 50 = .ok (.iload 4, 2) := dR1 (f := Instr.iload) (k := 0) (i := 50) bn_cX10_give_0 dop_21 4 (by decide +kernel)
theorem dX10_give_52 : decode cX10_give 52 = .ok (.if_icmp .le 9, 3) := dR2s (f := Instr.if_icmp .le) (k := 0) (i := 52) bn_cX10_give_0 dop_164 9 9 (by decide +kernel)
theorem dX10_give_55 : decode cX10_give 55 = .ok (.aload_n 0, 1) := dR0 (k := 0) (i := 55) bn_cX10_give_0 dop_42 (by decide +kernel)
theorem dX10_give_56 : decode cX10_give 56 = .ok (.iconst 1, 1) := dR0 (k := 0) (i := 56) bn_cX10_give_0 dop_4 (by decide +kernel)
theorem dX10_give_57 : decode cX10_give 57 = .ok (.invokevirtual 82, 3) := dR2 (f := Instr.invokevirtual) (k := 0) (i := 57) bn_cX10_give_0 dop_182 82 (by decide +kernel)
theorem dX10_give_60 : decode cX10_give 60 = .ok (.ireturn, 1) := dR0 (k := 0) (i := 60) bn_cX10_give_0 dop_172 (by decide +kernel)
theorem dX10_give_61 : decode cX10_give 61 = .ok (.aload_n 0, 1) := dR0 (k := 0) (i := 61) bn_cX10_give_0 dop_42 (by decide +kernel)
theorem dX10_give_62 : decode cX10_give 62 = .ok (.getfield 12, 3) := dR2 (f := Instr.getfield) (k := 0) (i := 62) bn_cX10_give_0 dop_180 12 (by decide +kernel)
theorem dX10_give_65 : decode cX10_give 65 = .ok (.getfield 193, 3) := dR2 (f := Instr.getfield) (k := 0) (i := 65) bn_cX10_give_0 dop_180 193 (by decide +kernel)
theorem dX10_give_68 : decode cX10_give 68 = .ok (.iload_n 1, 1) := dR0 (k := 0) (i := 68) bn_cX10_give_0 dop_27 (by decide +kernel)
theorem dX10_give_69 : decode cX10_give 69 = .ok (.invokevirtual 211, 3) := dR2 (f := Instr.invokevirtual) (k := 0) (i := 69) bn_cX10_give_0 dop_182 211 (by decide +kernel)
theorem dX10_give_72 : decode cX10_give 72 = .ok (.ifCond .eq 9, 3) := dR2s (f := Instr.ifCond .eq) (k := 0) (i := 72) bn_cX10_give_0 dop_153 9 9 (by decide +kernel)
theorem dX10_give_75 : decode cX10_give 75 = .ok (.aload_n 0, 1) := dR0 (k := 0) (i := 75) bn_cX10_give_0 dop_42 (by decide +kernel)
theorem dX10_give_76 : decode cX10_give 76 = .ok (.iconst 3, 1) := dR0 (k := 0) (i := 76) bn_cX10_give_0 dop_6 (by decide +kernel)
theorem dX10_give_77 : decode cX10_give 77 = .ok (.invokevirtual 82, 3) := dR2 (f := Instr.invokevirtual) (k := 0) (i := 77) bn_cX10_give_0 dop_182 82 (by decide +kernel)
theorem dX10_give_80 : decode cX10_give 80 = .ok (.ireturn, 1) := dR0 (k := 0) (i := 80) bn_cX10_give_0 dop_172 (by decide +kernel)
theorem dX10_give_81 : decode cX10_give 81 = .ok (.iload_n 2, 1) := dR0 (k := 0) (i := 81) bn_cX10_give_0 dop_28 (by decide +kernel)
theorem dX10_give_82 : decode cX10_give 82 = .ok (.ifCond .ne 7, 3) := dR2s (f := Instr.ifCond .ne) (k := 0) (i := 82) bn_cX10_give_0 dop_154 7 7 (by decide +kernel)
theorem dX10_give_85 : decode cX10_give 85 = .ok (.iconst 5, 1) := dR0 (k := 0) (i := 85) bn_cX10_give_0 dop_8 (by decide +kernel)
theorem dX10_give_86 : decode cX10_give 86 = .ok (.goto 14, 3) := dR2s (f := Instr.goto) (k := 0) (i := 86) bn_cX10_give_0 dop_167 14 14 (by decide +kernel)
theorem dX10_give_89 : decode cX10_give 89 = .ok (.iload_n 2, 1) := dR0 (k := 0) (i := 89) bn_cX10_give_0 dop_28 (by decide +kernel)
theorem dX10_give_90 : decode cX10_give 90 = .ok (.iconst 1, 1) := dR0 (k := 0) (i := 90) bn_cX10_give_0 dop_4 (by decide +kernel)
theorem dX10_give_91 : decode cX10_give 91 = .ok (.if_icmp .ne 8, 3) := dR2s (f := Instr.if_icmp .ne) (k := 0) (i := 91) bn_cX10_give_0 dop_160 8 8 (by decide +kernel)
theorem dX10_give_94 : decode cX10_give 94 = .ok (.bipush 6, 2) := dR1s (f := Instr.bipush) (k := 0) (i := 94) bn_cX10_give_0 dop_16 6 6 (by decide +kernel)
theorem dX10_give_96 : decode cX10_give 96 = .ok (.goto 4, 3) := dR2s (f := Instr.goto) (k := 0) (i := 96) bn_cX10_give_0 dop_167 4 4 (by decide +kernel)
theorem dX10_give_99 : decode cX10_give 99 = .ok (.iconst 4, 1) := dR0 (k := 0) (i := 99) bn_cX10_give_0 dop_7 (by decide +kernel)
theorem dX10_give_100 : decode cX10_give 100 = .ok (.istore 5, 2) := dR1 (f := Instr.istore) (k := 0) (i := 100) bn_cX10_give_0 dop_54 5 (by decide +kernel)
theorem dX10_give_102 : decode cX10_give 102 = .ok (.aload_n 0, 1) := dR0 (k := 0) (i := 102) bn_cX10_give_0 dop_42 (by decide +kernel)
theorem dX10_give_103 : decode cX10_give 103 = .ok (.getfield 12, 3) := dR2 (f := Instr.getfield) (k := 0) (i := 103) bn_cX10_give_0 dop_180 12 (by decide +kernel)
theorem dX10_give_106 : decode cX10_give 106 = .ok (.getfield 193, 3) := dR2 (f := Instr.getfield) (k := 0) (i := 106) bn_cX10_give_0 dop_180 193 (by decide +kernel)
theorem dX10_give_109 : decode cX10_give 109 = .ok (.iload_n 1, 1) := dR0 (k := 0) (i := 109) bn_cX10_give_0 dop_27 (by decide +kernel)
theorem dX10_give_110 : decode cX10_give 110 = .ok (.iload 5, 2) := dR1 (f := Instr.iload) (k := 0) (i := 110) bn_cX10_give_0 dop_21 5 (by decide +kernel)
theorem dX10_give_112 : decode cX10_give 112 = .ok (.invokevirtual 208, 3) := dR2 (f := Instr.invokevirtual) (k := 0) (i := 112) bn_cX10_give_0 dop_182 208 (by decide +kernel)
theorem dX10_give_115 : decode cX10_give 115 = .ok (.iload_n 3, 1) := dR0 (k := 0) (i := 115) bn_cX10_give_0 dop_29 (by decide +kernel)
theorem dX10_give_116 : decode cX10_give 116 = .ok (.iadd, 1) := dR0 (k := 0) (i := 116) bn_cX10_give_0 dop_96 (by decide +kernel)
theorem dX10_give_117 : decode cX10_give 117 = .ok (.istore 6, 2) := dR1 (f := Instr.istore) (k := 0) (i := 117) bn_cX10_give_0 dop_54 6 (by decide +kernel)
theorem dX10_give_119 : decode cX10_give 119 = .ok (.iload 6, 2) := dR1 (f := Instr.iload) (k := 0) (i := 119) bn_cX10_give_0 dop_21 6 (by decide +kernel)
theorem dX10_give_121 : decode cX10_give 121 = .ok (.iload 4, 2) := dR1 (f := Instr.iload) (k := 0) (i := 121) bn_cX10_give_0 dop_21 4 (by decide +kernel)
theorem dX10_give_123 : decode cX10_give 123 = .ok (.if_icmp .le 9, 3) := dR2s (f := Instr.if_icmp .le) (k := 0) (i := 123) bn_cX10_give_0 dop_164 9 9 (by decide +kernel)
theorem dX10_give_126 : decode cX10_give 126 = .ok (.aload_n 0, 1) := dR0 (k := 0) (i := 126) bn_cX10_give_0 dop_42 (by decide +kernel)
theorem dX10_give_127 : decode cX10_give 127 = .ok (.iconst 4, 1) := dR0 (k := 0) (i := 127) bn_cX10_give_0 dop_7 (by decide +kernel)
theorem bn_cX10_give_128 : BN cX10_give 128 0x15a070b33002b7038580c160e30802b5068056a2b5694c02b7 := by
  unfold BN; decide +kernel
theorem dX10_give_128 : decode cX10_give 128 = .ok (.invokevirtual 82, 3) := dR2 (f := Instr.invokevirtual) (k := 128) (i := 0) bn_cX10_give_128 dop_182 82 (by decide +kernel)
theorem dX10_give_131 : decode cX10_give 131 = .ok (.ireturn, 1) := dR0 (k := 128) (i := 3) bn_cX10_give_128 dop_172 (by decide +kernel)
theorem dX10_give_132 : decode cX10_give 132 = .ok (.aload_n 0, 1) := dR0 (k := 128) (i := 4) bn_cX10_give_128 dop_42 (by decide +kernel)
theorem dX10_give_133 : decode cX10_give 133 = .ok (.getfield 12, 3) := dR2 (f := Instr.getfield) (k := 128) (i := 5) bn_cX10_give_128 dop_180 12 (by decide +kernel)
theorem dX10_give_136 : decode cX10_give 136 = .ok (.getfield 193, 3) := dR2 (f := Instr.getfield) (k := 128) (i := 8) bn_cX10_give_128 dop_180 193 (by decide +kernel)
theorem dX10_give_139 : decode cX10_give 139 = .ok (.iload_n 1, 1) := dR0 (k := 128) (i := 11) bn_cX10_give_128 dop_27 (by decide +kernel)
theorem dX10_give_140 : decode cX10_give 140 = .ok (.iload 5, 2) := dR1 (f := Instr.iload) (k := 128) (i := 12) bn_cX10_give_128 dop_21 5 (by decide +kernel)
theorem dX10_give_142 : decode cX10_give 142 = .ok (.iload 6, 2) := dR1 (f := Instr.iload) (k := 128) (i := 14) bn_cX10_give_128 dop_21 6 (by decide +kernel)
theorem dX10_give_144 : decode cX10_give 144 = .ok (.invokevirtual 203, 3) := dR2 (f := Instr.invokevirtual) (k := 128) (i := 16) bn_cX10_give_128 dop_182 203 (by decide +kernel)
theorem dX10_give_147 : decode cX10_give 147 = .ok (.iload 6, 2) := dR1 (f := Instr.iload) (k := 128) (i := 19) bn_cX10_give_128 dop_21 6 (by decide +kernel)
theorem dX10_give_149 : decode cX10_give 149 = .ok (.ireturn, 1) := dR0 (k := 128) (i := 21) bn_cX10_give_128 dop_172 (by decide +kernel)

theorem bn_cX10_rest_0 : BN cX10_rest 0 0x2b40a0500aa0080800a843c050b33002b70f024221c610056a0d00ad456051bb4402b70484438c200ad41a015a8ac7e0402805500504005341d5694c02b7038ac14014d35002b70e30802b5068056a2b5694c02b7028ac14014db4002b70e30802b5068056a2b := by
  unfold BN; decide +kernel
theorem dX10_rest_0 : decode cX10_rest 0 = .ok (.aload_n 0, 1) := dR0 (k := 0) (i := 0) bn_cX10_rest_0 dop_42 (by decide +kernel)
theorem dX10_rest_1 : decode cX10_rest 1 = .ok (.getfield 12, 3) := dR2 (f := Instr.getfield) (k := 0) (i := 1) bn_cX10_rest_0 dop_180 12 (by decide +kernel)
theorem dX10_rest_4 : decode cX10_rest 4 = .ok (.getfield 193, 3) := dR2 (f := Instr.getfield) (k := 0) (i := 4) bn_cX10_rest_0 dop_180 193 (by decide +kernel)
theorem dX10_rest_7 : decode cX10_rest 7 = .ok (.iload_n 1, 1) := dR0 (k := 0) (i := 7) bn_cX10_rest_0 dop_27 (by decide +kernel)
theorem dX10_rest_8 : decode cX10_rest 8 = .ok (.invokevirtual 207, 3) := dR2 (f := Instr.invokevirtual) (k := 0) (i := 8) bn_cX10_rest_0 dop_182 207 (by decide +kernel)
theorem dX10_rest_11 : decode cX10_rest 11 = .ok (.ifCond .ne 9, 3) := dR2s (f := Instr.ifCond .ne) (k := 0) (i := 11) bn_cX10_rest_0 dop_154 9 9 (by decide +kernel)
theorem dX10_rest_14 : decode cX10_rest 14 = .ok (.aload_n 0, 1) := dR0 (k := 0) (i := 14) bn_cX10_rest_0 dop_42 (by decide +kernel)
theorem dX10_rest_15 : decode cX10_rest 15 = .ok (.iconst 1, 1) := dR0 (k := 0) (i := 15) bn_cX10_rest_0 dop_4 (by decide +kernel)
theorem dX10_rest_16 : decode cX10_rest 16 = .ok (.invokevirtual 82, 3) := dR2 (f := Instr.invokevirtual) (k := 0) (i := 16) bn_cX10_rest_0 dop_182 82 (by decide +kernel)
theorem dX10_rest_19 : decode cX10_rest 19 = .ok (.ireturn, 1) := dR0 (k := 0) (i := 19) bn_cX10_rest_0 dop_172 (by decide +kernel)
theorem dX10_rest_20 : decode cX10_rest 20 = .ok (.aload_n 0, 1) := dR0 (k := 0) (i := 20) bn_cX10_rest_0 dop_42 (by decide +kernel)
theorem dX10_rest_21 : decode cX10_rest 21 = .ok (.getfield 12, 3) := dR2 (f := Instr.getfield) (k := 0) (i := 21) bn_cX10_rest_0 dop_180 12 (by decide +kernel)
theorem dX10_rest_24 : decode cX10_rest 24 = .ok (.getfield 193, 3) := dR2 (f := Instr.getfield) (k := 0) (i := 24) bn_cX10_rest_0 dop_180 193 (by decide +kernel)
theorem dX10_rest_27 : decode cX10_rest 27 = .ok (.iload_n 1, 1) := dR0 (k := 0) (i := 27) bn_cX10_rest_0 dop_27 (by decide +kernel)
theorem dX10_rest_28 : decode cX10_rest 28 = .ok (.invokevirtual 211, 3) := dR2 (f := Instr.invokevirtual) (k := 0) (i := 28) bn_cX10_rest_0 dop_182 211 (by decide +kernel)
theorem dX10_rest_31 : decode cX10_rest 31 = .ok (.ifCond .eq 9, 3) := dR2s (f := Instr.ifCond .eq) (k := 0) (i := 31) bn_cX10_rest_0 dop_153 9 9 (by decide +kernel)
theorem dX10_rest_34 : decode cX10_rest 34 = .ok (.aload_n 0, 1) := dR0 (k := 0) (i := 34) bn_cX10_rest_0 dop_42 (by decide +kernel)
theorem dX10_rest_35 : decode cX10_rest 35 = .ok (.iconst 3, 1) := dR0 (k := 0) (i := 35) bn_cX10_rest_0 dop_6 (by decide +kernel)
theorem dX10_rest_36 : decode cX10_rest 36 = .ok (.invokevirtual 82, 3) := dR2 (f := Instr.invokevirtual) (k := 0) (i := 36) bn_cX10_rest_0 dop_182 82 (by decide +kernel)
theorem dX10_rest_39 : decode cX10_rest 39 = .ok (.ireturn, 1) := dR0 (k := 0) (i := 39) bn_cX10_rest_0 dop_172 (by decide +kernel)
theorem dX10_rest_40 : decode cX10_rest 40 = .ok (.iload_n 2, 1) := dR0 (k := 0) (i := 40) bn_cX10_rest_0 dop_28 (by decide +kernel)
theorem dX10_rest_41 : decode cX10_rest 41 = .ok (.ifCond .eq 7, 3) := dR2s (f := Instr.ifCond .eq) (k := 0) (i := 41) bn_cX10_rest_0 dop_153 7 7 (by decide +kernel)
theorem dX10_rest_44 : decode cX10_rest 44 = .ok (.iconst 1, 1) := dR0 (k := 0) (i := 44) bn_cX10_rest_0 dop_4 (by decide +kernel)
theorem dX10_rest_45 : decode cX10_rest 45 = .ok (.goto 4, 3) := dR2s (f := Instr.goto) (k := 0) (i := 45) bn_cX10_rest_0 dop_167 4 4 (by decide +kernel)
theorem dX10_rest_48 : decode cX10_rest 48 = .ok (.iconst 0, 1) := dR0 (k := 0) (i := 48) bn_cX10_rest_0 dop_3 (by decide +kernel)
theorem dX10_rest_49 : decode cX10_rest 49 = .ok (.istore_n 3, 1) := dR0 (k := 0) (i := 49) bn_cX10_rest_0 dop_62 (by decide +kernel)
theorem dX10_rest_50 : decode cX10_rest 50 = .ok (.aload_n 0, 1) := dR0 (k := 0) (i := 50) bn_cX10_rest_0 dop_42 (by decide +kernel)
theorem dX10_rest_51 : decode cX10_rest 51 = .ok (.getfield 12, 3) := dR2 (f := Instr.getfield) (k := 0) (i := 51) bn_cX10_rest_0 dop_180 12 (by decide +kernel)
theorem dX10_rest_54 : decode cX10_rest 54 = .ok (.getfield 193, 3) := dR2 (f := Instr.getfield) (k := 0) (i := 54) bn_cX10_rest_0 dop_180 193 (by decide +kernel)
theorem dX10_rest_57 : decode cX10_rest 57 = .ok (.iload_n 1, 1) := dR0 (k := 0) (i := 57) bn_cX10_rest_0 dop_27 (by decide +kernel)
theorem dX10_rest_58 : decode cX10_rest 58 = .ok (.bipush 8, 2) := dR1s (f := Instr.bipush) (k := 0) (i := 58) bn_cX10_rest_0 dop_16 8 8 (by decide +kernel)
theorem dX10_rest_60 : decode cX10_rest 60 = .ok (.invokevirtual 208, 3) := dR2 (f := Instr.invokevirtual) (k := 0) (i := 60) bn_cX10_rest_0 dop_182 208 (by decide +kernel)
theorem dX10_rest_63 : decode cX10_rest 63 = .ok (.istore 4, 2) := dR1 (f := Instr.istore) (k := 0) (i := 63) bn_cX10_rest_0 dop_54 4 (by decide +kernel)
theorem dX10_rest_65 : decode cX10_rest 65 = .ok (.aload_n 0, 1) := dR0 (k := 0) (i := 65) bn_cX10_rest_0 dop_42 (by decide +kernel)
theorem dX10_rest_66 : decode cX10_rest 66 = .ok (.getfield 12, 3) := dR2 (f := Instr.getfield) (k := 0) (i := 66) bn_cX10_rest_0 dop_180 12 (by decide +kernel)
theorem dX10_rest_69 : decode cX10_rest 69 = .ok (.getfield 193, 3) := dR2 (f := Instr.getfield) (k := 0) (i := 69) bn_cX10_rest_0 dop_180 193 (by decide +kernel)
theorem dX10_rest_72 : decode cX10_rest 72 = .ok (.iload_n 1, 1) := dR0 (k := 0) (i := 72) bn_cX10_rest_0 dop_27 (by decide +kernel)
theorem dX10_rest_73 : decode cX10_rest 73 = .ok (.bipush 8, 2) := dR1s (f := Instr.bipush) (k := 0) (i := 73) bn_cX10_rest_0 dop_16 8 8 (by decide +kernel)
theorem dX10_rest_75 : decode cX10_rest 75 = .ok (.iload_n 3, 1) := dR0 (k := 0) (i := 75) bn_cX10_rest_0 dop_29 (by decide +kernel)
theorem dX10_rest_76 : decode cX10_rest 76 = .ok (.invokevirtual 203, 3) := dR2 (f := Instr.invokevirtual) (k := 0) (i := 76) bn_cX10_rest_0 dop_182 203 (by decide +kernel)
theorem dX10_rest_79 : decode cX10_rest 79 = .ok (.iload 4, 2) := dR1 (f := Instr.iload) (k := 0) (i := 79) bn_cX10_rest_0 dop_21 4 (by decide +kernel)
theorem dX10_rest_81 : decode cX10_rest 81 = .ok (.iload_n 3, 1) := dR0 (k := 0) (i := 81) bn_cX10_rest_0 dop_29 (by decide +kernel)
theorem dX10_rest_82 : decode cX10_rest 82 = .ok (.if_icmp .ne 7, 3) := dR2s (f := Instr.if_icmp .ne) (k := 0) (i := 82) bn_cX10_rest_0 dop_160 7 7 (by decide +kernel)
theorem dX10_rest_85 : decode cX10_rest 85 = .ok (.iconst 0, 1) := dR0 (k := 0) (i := 85) bn_cX10_rest_0 dop_3 (by decide +kernel)
theorem dX10_rest_86 : decode cX10_rest 86 = .ok (.goto 4, 3) := dR2s (f := Instr.goto) (k := 0) (i := 86) bn_cX10_rest_0 dop_167 4 4 (by decide +kernel)
theorem dX10_rest_89 : decode cX10_rest 89 = .ok (.iconst 1, 1) := dR0 (k := 0) (i := 89) bn_cX10_rest_0 dop_4 (by decide +kernel)
theorem dX10_rest_90 : decode cX10_rest 90 = .ok (.ireturn, 1) := dR0 (k := 0) (i := 90) bn_cX10_rest_0 dop_172 (by decide +kernel)

theorem bn_cX10_turn_0 : BN cX10_turn 0 0xad0eb3002b70e81438c200ad41a015a8ac7c75688056e050e30802b5068056a2b5694c02b7038ac14014d35002b70e30802b5068056a2b5694c02b7028ac14014db4002b70e30802b5068056a2b := by
  unfold BN; decide +kernel
theorem dX10_turn_0 : decode cX10_turn 0 = .ok (.aload_n 0, 1) := dR0 (k := 0) (i := 0) bn_cX10_turn_0 dop_42 (by decide +kernel)
theorem dX10_turn_1 : decode cX10_turn 1 = .ok (.getfield 12, 3) := dR2 (f := Instr.getfield) (k := 0) (i := 1) bn_cX10_turn_0 dop_180 12 (by decide +kernel)
theorem dX10_turn_4 : decode cX10_turn 4 = .ok (.getfield 193, 3) := dR2 (f := Instr.getfield) (k := 0) (i := 4) bn_cX10_turn_0 dop_180 193 (by decide +kernel)
theorem dX10_turn_7 : decode cX10_turn 7 = .ok (.iload_n 1, 1) := dR0 (k := 0) (i := 7) bn_cX10_turn_0 dop_27 (by decide +kernel)
theorem dX10_turn_8 : decode cX10_turn 8 = .ok (.invokevirtual 207, 3) := dR2 (f := Instr.invokevirtual) (k := 0) (i := 8) bn_cX10_turn_0 dop_182 207 (by decide +kernel)
theorem dX10_turn_11 : decode cX10_turn 11 = .ok (.ifCond .ne 9, 3) := dR2s (f := Instr.ifCond .ne) (k := 0) (i := 11) bn_cX10_turn_0 dop_154 9 9 (by decide +kernel)
theorem dX10_turn_14 : decode cX10_turn 14 = .ok (.aload_n 0, 1) := dR0 (k := 0) (i := 14) bn_cX10_turn_0 dop_42 (by decide +kernel)
theorem dX10_turn_15 : decode cX10_turn 15 = .ok (.iconst 1, 1) := dR0 (k := 0) (i := 15) bn_cX10_turn_0 dop_4 (by decide +kernel)
theorem dX10_turn_16 : decode cX10_turn 16 = .ok (.invokevirtual 82, 3) := dR2 (f := Instr.invokevirtual) (k := 0) (i := 16) bn_cX10_turn_0 dop_182 82 (by decide +kernel)
theorem dX10_turn_19 : decode cX10_turn 19 = .ok (.ireturn, 1) := dR0 (k := 0) (i := 19) bn_cX10_turn_0 dop_172 (by decide +kernel)
theorem dX10_turn_20 : decode cX10_turn 20 = .ok (.aload_n 0, 1) := dR0 (k := 0) (i := 20) bn_cX10_turn_0 dop_42 (by decide +kernel)
theorem dX10_turn_21 : decode cX10_turn 21 = .ok (.getfield 12, 3) := dR2 (f := Instr.getfield) (k := 0) (i := 21) bn_cX10_turn_0 dop_180 12 (by decide +kernel)
theorem dX10_turn_24 : decode cX10_turn 24 = .ok (.getfield 193, 3) := dR2 (f := Instr.getfield) (k := 0) (i := 24) bn_cX10_turn_0 dop_180 193 (by decide +kernel)
theorem dX10_turn_27 : decode cX10_turn 27 = .ok (.iload_n 1, 1) := dR0 (k := 0) (i := 27) bn_cX10_turn_0 dop_27 (by decide +kernel)
theorem dX10_turn_28 : decode cX10_turn 28 = .ok (.invokevirtual 211, 3) := dR2 (f := Instr.invokevirtual) (k := 0) (i := 28) bn_cX10_turn_0 dop_182 211 (by decide +kernel)
theorem dX10_turn_31 : decode cX10_turn 31 = .ok (.ifCond .eq 9, 3) := dR2s (f := Instr.ifCond .eq) (k := 0) (i := 31) bn_cX10_turn_0 dop_153 9 9 (by decide +kernel)
theorem dX10_turn_34 : decode cX10_turn 34 = .ok (.aload_n 0, 1) := dR0 (k := 0) (i := 34) bn_cX10_turn_0 dop_42 (by decide +kernel)
theorem dX10_turn_35 : decode cX10_turn 35 = .ok (.iconst 3, 1) := dR0 (k := 0) (i := 35) bn_cX10_turn_0 dop_6 (by decide +kernel)
theorem dX10_turn_36 : decode cX10_turn 36 = .ok (.invokevirtual 82, 3) := dR2 (f := Instr.invokevirtual) (k := 0) (i := 36) bn_cX10_turn_0 dop_182 82 (by decide +kernel)
theorem dX10_turn_39 : decode cX10_turn 39 = .ok (.ireturn, 1) := dR0 (k := 0) (i := 39) bn_cX10_turn_0 dop_172 (by decide +kernel)
theorem dX10_turn_40 : decode cX10_turn 40 = .ok (.aload_n 0, 1) := dR0 (k := 0) (i := 40) bn_cX10_turn_0 dop_42 (by decide +kernel)
theorem dX10_turn_41 : decode cX10_turn 41 = .ok (.getfield 12, 3) := dR2 (f := Instr.getfield) (k := 0) (i := 41) bn_cX10_turn_0 dop_180 12 (by decide +kernel)
theorem dX10_turn_44 : decode cX10_turn 44 = .ok (.getfield 193, 3) := dR2 (f := Instr.getfield) (k := 0) (i := 44) bn_cX10_turn_0 dop_180 193 (by decide +kernel)
theorem dX10_turn_47 : decode cX10_turn 47 = .ok (.iload_n 1, 1) := dR0 (k := 0) (i := 47) bn_cX10_turn_0 dop_27 (by decide +kernel)
theorem dX10_turn_48 : decode cX10_turn 48 = .ok (.iconst 1, 1) := dR0 (k := 0) (i := 48) bn_cX10_turn_0 dop_4 (by decide +kernel)
theorem dX10_turn_49 : decode cX10_turn 49 = .ok (.invokevirtual 208, 3) := dR2 (f := Instr.invokevirtual) (k := 0) (i := 49) bn_cX10_turn_0 dop_182 208 (by decide +kernel)
theorem dX10_turn_52 : decode cX10_turn 52 = .ok (.ineg, 1) := dR0 (k := 0) (i := 52) bn_cX10_turn_0 dop_116 (by decide +kernel)
theorem dX10_turn_53 : decode cX10_turn 53 = .ok (.istore_n 2, 1) := dR0 (k := 0) (i := 53) bn_cX10_turn_0 dop_61 (by decide +kernel)
theorem dX10_turn_54 : decode cX10_turn 54 = .ok (.aload_n 0, 1) := dR0 (k := 0) (i := 54) bn_cX10_turn_0 dop_42 (by decide +kernel)
theorem dX10_turn_55 : decode cX10_turn 55 = .ok (.getfield 12, 3) := dR2 (f := Instr.getfield) (k := 0) (i := 55) bn_cX10_turn_0 dop_180 12 (by decide +kernel)
theorem dX10_turn_58 : decode cX10_turn 58 = .ok (.getfield 193, 3) := dR2 (f := Instr.getfield) (k := 0) (i := 58) bn_cX10_turn_0 dop_180 193 (by decide +kernel)
theorem dX10_turn_61 : decode cX10_turn 61 = .ok (.iload_n 1, 1) := dR0 (k := 0) (i := 61) bn_cX10_turn_0 dop_27 (by decide +kernel)
theorem dX10_turn_62 : decode cX10_turn 62 = .ok (.iconst 1, 1) := dR0 (k := 0) (i := 62) bn_cX10_turn_0 dop_4 (by decide +kernel)
theorem dX10_turn_63 : decode cX10_turn 63 = .ok (.iload_n 2, 1) := dR0 (k := 0) (i := 63) bn_cX10_turn_0 dop_28 (by decide +kernel)
theorem dX10_turn_64 : decode cX10_turn 64 = .ok (.invokevirtual 203, 3) := dR2 (f := Instr.invokevirtual) (k := 0) (i := 64) bn_cX10_turn_0 dop_182 203 (by decide +kernel)
theorem dX10_turn_67 : decode cX10_turn 67 = .ok (.iload_n 2, 1) := dR0 (k := 0) (i := 67) bn_cX10_turn_0 dop_28 (by decide +kernel)
theorem dX10_turn_68 : decode cX10_turn 68 = .ok (.ireturn, 1) := dR0 (k := 0) (i := 68) bn_cX10_turn_0 dop_172 (by decide +kernel)

theorem bn_cX10_hand_0 : BN cX10_hand 0 0x30879a2015b8183a050d2b4a6015b81c560a00a8cc2050f34402b7030700a1a0880536070b058029b030580e370201402a80282002a0688056e040e81434d100adc081c028680c370201402a802820029a6a0056e1d028681a014db5002b70e01434ad298056e051582802a5198443c0a00a880a1e07805401d0e050029a680056e1d028683a014d34002b70e01434051db0802b5068056a2b := by
  unfold BN; decide +kernel
theorem dX10_hand_0 : decode cX10_hand 0 = .ok (.aload_n 0, 1) := dR0 (k := 0) (i := 0) bn_cX10_hand_0 dop_42 (by decide +kernel)
theorem dX10_hand_1 : decode cX10_hand 1 = .ok (.getfield 12, 3) := dR2 (f := Instr.getfield) (k := 0) (i := 1) bn_cX10_hand_0 dop_180 12 (by decide +kernel)
theorem dX10_hand_4 : decode cX10_hand 4 = .ok (.getfield 193, 3) := dR2 (f := Instr.getfield) (k := 0) (i := 4) bn_cX10_hand_0 dop_180 193 (by decide +kernel)
theorem dX10_hand_7 : decode cX10_hand 7 = .ok (.astore 4, 2) := dR1 (f := Instr.astore) (k := 0) (i := 7) bn_cX10_hand_0 dop_58 4 (by decide +kernel)
theorem dX10_hand_9 : decode cX10_hand 9 = .ok (.aload 4, 2) := dR1 (f := Instr.aload) (k := 0) (i := 9) bn_cX10_hand_0 dop_25 4 (by decide +kernel)
theorem dX10_hand_11 : decode cX10_hand 11 = .ok (.iload_n 1, 1) := dR0 (k := 0) (i := 11) bn_cX10_hand_0 dop_27 (by decide +kernel)
theorem dX10_hand_12 : decode cX10_hand 12 = .ok (.invokevirtual 207, 3) := dR2 (f := Instr.invokevirtual) (k := 0) (i := 12) bn_cX10_hand_0 dop_182 207 (by decide +kernel)
theorem dX10_hand_15 : decode cX10_hand 15 = .ok (.ifCond .eq 28, 3) := dR2s (f := Instr.ifCond .eq) (k := 0) (i := 15) bn_cX10_hand_0 dop_153 28 28 (by decide +kernel)
theorem dX10_hand_18 : decode cX10_hand 18 = .ok (.aload 4, 2) := dR1 (f := Instr.aload) (k := 0) (i := 18) bn_cX10_hand_0 dop_25 4 (by decide +kernel)
theorem dX10_hand_20 : decode cX10_hand 20 = .ok (.iload_n 2, 1) := dR0 (k := 0) (i := 20) bn_cX10_hand_0 dop_28 (by decide +kernel)
theorem dX10_hand_21 : decode cX10_hand 21 = .ok (.invokevirtual 207, 3) := dR2 (f := Instr.invokevirtual) (k := 0) (i := 21) bn_cX10_hand_0 dop_182 207 (by decide +kernel)
theorem dX10_hand_24 : decode cX10_hand 24 = .ok (.ifCond .eq 19, 3) := dR2s (f := Instr.ifCond .eq) (k := 0) (i := 24) bn_cX10_hand_0 dop_153 19 19 (by decide +kernel)
theorem dX10_hand_27 : decode cX10_hand 27 = .ok (.iload_n 1, 1) := dR0 (k := 0) (i := 27) bn_cX10_hand_0 dop_27 (by decide +kernel)
theorem dX10_hand_28 : decode cX10_hand 28 = .ok (.iload_n 2, 1) := dR0 (k := 0) (i := 28) bn_cX10_hand_0 dop_28 (by decide +kernel)
theorem dX10_hand_29 : decode cX10_hand 29 = .ok (.if_icmp .eq 14, 3) := dR2s (f := Instr.if_icmp .eq) (k := 0) (i := 29) bn_cX10_hand_0 dop_159 14 14 (by decide +kernel)
theorem dX10_hand_32 : decode cX10_hand 32 = .ok (.iload_n 3, 1) := dR0 (k := 0) (i := 32) bn_cX10_hand_0 dop_29 (by decide +kernel)
theorem dX10_hand_33 : decode cX10_hand 33 = .ok (.iconst 1, 1) := dR0 (k := 0) (i := 33) bn_cX10_hand_0 dop_4 (by decide +kernel)
theorem dX10_hand_34 : decode cX10_hand 34 = .ok (.if_icmp .lt 9, 3) := dR2s (f := Instr.if_icmp .lt) (k := 0) (i := 34) bn_cX10_hand_0 dop_161 9 9 (by decide +kernel)
theorem dX10_hand_37 : decode cX10_hand 37 = .ok (.iload_n 3, 1) := dR0 (k := 0) (i := 37) bn_cX10_hand_0 dop_29 (by decide +kernel)
theorem dX10_hand_38 : decode cX10_hand 38 = .ok (.bipush 50, 2) := dR1s (f := Instr.bipush) (k := 0) (i := 38) bn_cX10_hand_0 dop_16 50 50 (by decide +kernel)
theorem dX10_hand_40 : decode cX10_hand 40 = .ok (.if_icmp .le 9, 3) := dR2s (f := Instr.if_icmp .le) (k := 0) (i := 40) bn_cX10_hand_0 dop_164 9 9 (by decide +kernel)
theorem dX10_hand_43 : decode cX10_hand 43 = .ok (.aload_n 0, 1) := dR0 (k := 0) (i := 43) bn_cX10_hand_0 dop_42 (by decide +kernel)
theorem dX10_hand_44 : decode cX10_hand 44 = .ok (.iconst 1, 1) := dR0 (k := 0) (i := 44) bn_cX10_hand_0 dop_4 (by decide +kernel)
theorem dX10_hand_45 : decode cX10_hand 45 = .ok (.invokevirtual 82, 3) := dR2 (f := Instr.invokevirtual) (k := 0) (i := 45) bn_cX10_hand_0 dop_182 82 (by decide +kernel)
theorem dX10_hand_48 : decode cX10_hand 48 = .ok (.ireturn, 1) := dR0 (k := 0) (i := 48) bn_cX10_hand_0 dop_172 (by decide +kernel)
theorem dX10_hand_49 : decode cX10_hand 49 = .ok (.aload 4, 2) := dR1 (f := Instr.aload) (k := 0) (i := 49) bn_cX10_hand_0 dop_25 4 (by decide +kernel)
theorem dX10_hand_51 : decode cX10_hand 51 = .ok (.iload_n 1, 1) := dR0 (k := 0) (i := 51) bn_cX10_hand_0 dop_27 (by decide +kernel)
theorem dX10_hand_52 : decode cX10_hand 52 = .ok (.invokevirtual 211, 3) := dR2 (f := Instr.invokevirtual) (k := 0) (i := 52) bn_cX10_hand_0 dop_182 211 (by decide +kernel)
theorem dX10_hand_55 : decode cX10_hand 55 = .ok (.ifCond .ne 12, 3) := dR2s (f := Instr.ifCond .ne) (k := 0) (i := 55) bn_cX10_hand_0 dop_154 12 12 (by decide +kernel)
theorem dX10_hand_58 : decode cX10_hand 58 = .ok (.aload 4, 2) := dR1 (f := Instr.aload) (k := 0) (i := 58) bn_cX10_hand_0 dop_25 4 (by decide +kernel)
theorem dX10_hand_60 : decode cX10_hand 60 = .ok (.iload_n 2, 1) := dR0 (k := 0) (i := 60) bn_cX10_hand_0 dop_28 (by decide +kernel)
theorem dX10_hand_61 : decode cX10_hand 61 = .ok (.invokevirtual 211, 3) := dR2 (f := Instr.invokevirtual) (k := 0) (i := 61) bn_cX10_hand_0 dop_182 211 (by decide +kernel)
theorem dX10_hand_64 : decode cX10_hand 64 = .ok (.ifCond .eq 7, 3) := dR2s (f := Instr.ifCond .eq) (k := 0) (i := 64) bn_cX10_hand_0 dop_153 7 7 (by decide +kernel)
theorem dX10_hand_67 : decode cX10_hand 67 = .ok (.iconst 1, 1) := dR0 (k := 0) (i := 67) bn_cX10_hand_0 dop_4 (by decide +kernel)
theorem dX10_hand_68 : decode cX10_hand 68 = .ok (.goto 4, 3) := dR2s (f := Instr.goto) (k := 0) (i := 68) bn_cX10_hand_0 dop_167 4 4 (by decide +kernel)
theorem dX10_hand_71 : decode cX10_hand 71 = .ok (.iconst 0, 1) := dR0 (k := 0) (i := 71) bn_cX10_hand_0 dop_3 (by decide +kernel)
theorem dX10_hand_72 : decode cX10_hand 72 = .ok (.istore 5, 2) := dR1 (f := Instr.istore) (k := 0) (i := 72) bn_cX10_hand_0 dop_54 5 (by decide +kernel)
theorem dX10_hand_74 : decode cX10_hand 74 = .ok (.aload 4, 2) := dR1 (f := Instr.aload) (k := 0) (i := 74) bn_cX10_hand_0 dop_25 4 (by decide +kernel)
theorem dX10_hand_76 : decode cX10_hand 76 = .ok (.iload_n 1, 1) := dR0 (k := 0) (i := 76) bn_cX10_hand_0 dop_27 (by decide +kernel)
theorem dX10_hand_77 : decode cX10_hand 77 = .ok (.iconst 0, 1) := dR0 (k := 0) (i := 77) bn_cX10_hand_0 dop_3 (by decide +kernel)
theorem dX10_hand_78 : decode cX10_hand 78 = .ok (.invokevirtual 208, 3) := dR2 (f := Instr.invokevirtual) (k := 0) (i := 78) bn_cX10_hand_0 dop_182 208 (by decide +kernel)
theorem dX10_hand_81 : decode cX10_hand 81 = .ok (.aload 4, 2) := dR1 (f := Instr.aload) (k := 0) (i := 81) bn_cX10_hand_0 dop_25 4 (by decide +kernel)
theorem dX10_hand_83 : decode cX10_hand 83 = .ok (.iload_n 2, 1) := dR0 (k := 0) (i := 83) bn_cX10_hand_0 dop_28 (by decide +kernel)
theorem dX10_hand_84 : decode cX10_hand 84 = .ok (.iconst 0, 1) := dR0 (k := 0) (i := 84) bn_cX10_hand_0 dop_3 (by decide +kernel)
theorem dX10_hand_85 : decode cX10_hand 85 = .ok (.invokevirtual 208, 3) := dR2 (f := Instr.invokevirtual) (k := 0) (i := 85) bn_cX10_hand_0 dop_182 208 (by decide +kernel)
theorem dX10_hand_88 : decode cX10_hand 88 = .ok (.if_icmp .eq 7, 3) := dR2s (f := Instr.if_icmp .eq) (k := 0) (i := 88) bn_cX10_hand_0 dop_159 7 7 (by decide +kernel)
theorem dX10_hand_91 : decode cX10_hand 91 = .ok (.iconst 1, 1) := dR0 (k := 0) (i := 91) bn_cX10_hand_0 dop_4 (by decide +kernel)
theorem dX10_hand_92 : decode cX10_hand 92 = .ok (.goto 4, 3) := dR2s (f := Instr.goto) (k := 0) (i := 92) bn_cX10_hand_0 dop_167 4 4 (by decide +kernel)
theorem dX10_hand_95 : decode cX10_hand 95 = .ok (.iconst 0, 1) := dR0 (k := 0) (i := 95) bn_cX10_hand_0 dop_3 (by decide +kernel)
theorem dX10_hand_96 : decode cX10_hand 96 = .ok (.istore 6, 2) := dR1 (f := Instr.istore) (k := 0) (i := 96) bn_cX10_hand_0 dop_54 6 (by decide +kernel)
theorem dX10_hand_98 : decode cX10_hand 98 = .ok (.iload 5, 2) := dR1 (f := Instr.iload) (k := 0) (i := 98) bn_cX10_hand_0 dop_21 5 (by decide +kernel)
theorem dX10_hand_100 : decode cX10_hand 100 = .ok (.ifCond .ne 21, 3) := dR2s (f := Instr.ifCond .ne) (k := 0) (i := 100) bn_cX10_hand_0 dop_154 21 21 (by decide +kernel)
theorem dX10_hand_103 : decode cX10_hand 103 = .ok (.iload 6, 2) := dR1 (f := Instr.iload) (k := 0) (i := 103) bn_cX10_hand_0 dop_21 6 (by decide +kernel)
theorem dX10_hand_105 : decode cX10_hand 105 = .ok (.ifCond .ne 16, 3) := dR2s (f := Instr.ifCond .ne) (k := 0) (i := 105) bn_cX10_hand_0 dop_154 16 16 (by decide +kernel)
theorem dX10_hand_108 : decode cX10_hand 108 = .ok (.aload 4, 2) := dR1 (f := Instr.aload) (k := 0) (i := 108) bn_cX10_hand_0 dop_25 4 (by decide +kernel)
theorem dX10_hand_110 : decode cX10_hand 110 = .ok (.iload_n 1, 1) := dR0 (k := 0) (i := 110) bn_cX10_hand_0 dop_27 (by decide +kernel)
theorem dX10_hand_111 : decode cX10_hand 111 = .ok (.iconst 2, 1) := dR0 (k := 0) (i := 111) bn_cX10_hand_0 dop_5 (by decide +kernel)
theorem dX10_hand_112 : decode cX10_hand 112 = .ok (.invokevirtual 208, 3) := dR2 (f := Instr.invokevirtual) (k := 0) (i := 112) bn_cX10_hand_0 dop_182 208 (by decide +kernel)
theorem dX10_hand_115 : decode cX10_hand 115 = .ok (.iload_n 3, 1) := dR0 (k := 0) (i := 115) bn_cX10_hand_0 dop_29 (by decide +kernel)
theorem dX10_hand_116 : decode cX10_hand 116 = .ok (.iconst 1, 1) := dR0 (k := 0) (i := 116) bn_cX10_hand_0 dop_4 (by decide +kernel)
theorem dX10_hand_117 : decode cX10_hand 117 = .ok (.iadd, 1) := dR0 (k := 0) (i := 117) bn_cX10_hand_0 dop_96 (by decide +kernel)
theorem dX10_hand_118 : decode cX10_hand 118 = .ok (.if_icmp .ge 9, 3) := dR2s (f := Instr.if_icmp .ge) (k := 0) (i := 118) bn_cX10_hand_0 dop_162 9 9 (by decide +kernel)
theorem dX10_hand_121 : decode cX10_hand 121 = .ok (.aload_n 0, 1) := dR0 (k := 0) (i := 121) bn_cX10_hand_0 dop_42 (by decide +kernel)
theorem dX10_hand_122 : decode cX10_hand 122 = .ok (.iconst 3, 1) := dR0 (k := 0) (i := 122) bn_cX10_hand_0 dop_6 (by decide +kernel)
theorem dX10_hand_123 : decode cX10_hand 123 = .ok (.invokevirtual 82, 3) := dR2 (f := Instr.invokevirtual) (k := 0) (i := 123) bn_cX10_hand_0 dop_182 82 (by decide +kernel)
theorem dX10_hand_126 : decode cX10_hand 126 = .ok (.ireturn, 1) := dR0 (k := 0) (i := 126) bn_cX10_hand_0 dop_172 (by decide +kernel)
theorem dX10_hand_127 : decode cX10_hand 127 = .ok (.aload 4, 2) := dR1 (f := Instr.aload) (k := 0) (i := 127) bn_cX10_hand_0 dop_25 4 (by decide +kernel)
theorem bn_cX10_hand_128 : BN cX10_hand 128 0x56b4402b7030740a1a6b8056e1e030740a1a6b8056e750f01838050d2b4a6015b820560a00a94661130879a2015b8183a05 := by
  unfold BN; decide +kernel
theorem dX10_hand_129 : decode cX10_hand 129 = .ok (.iload_n 2, 1) := dR0 (k := 128) (i := 1) bn_cX10_hand_128 dop_28 (by decide +kernel)
theorem dX10_hand_130 : decode cX10_hand 130 = .ok (.iconst 2, 1) := dR0 (k := 128) (i := 2) bn_cX10_hand_128 dop_5 (by decide +kernel)
theorem dX10_hand_131 : decode cX10_hand 131 = .ok (.invokevirtual 208, 3) := dR2 (f := Instr.invokevirtual) (k := 128) (i := 3) bn_cX10_hand_128 dop_182 208 (by decide +kernel)
theorem dX10_hand_134 : decode cX10_hand 134 = .ok (.iload_n 3, 1) := dR0 (k := 128) (i := 6) bn_cX10_hand_128 dop_29 (by decide +kernel)
theorem dX10_hand_135 : decode cX10_hand 135 = .ok (.iadd, 1) := dR0 (k := 128) (i := 7) bn_cX10_hand_128 dop_96 (by decide +kernel)
theorem dX10_hand_136 : decode cX10_hand 136 = .ok (.bipush 50, 2) := dR1s (f := Instr.bipush) (k := 128) (i := 8) bn_cX10_hand_128 dop_16 50 50 (by decide +kernel)
theorem dX10_hand_138 : decode cX10_hand 138 = .ok (.if_icmp .le 9, 3) := dR2s (f := Instr.if_icmp .le) (k := 128) (i := 10) bn_cX10_hand_128 dop_164 9 9 (by decide +kernel)
theorem dX10_hand_141 : decode cX10_hand 141 = .ok (.aload_n 0, 1) := dR0 (k := 128) (i := 13) bn_cX10_hand_128 dop_42 (by decide +kernel)
theorem dX10_hand_142 : decode cX10_hand 142 = .ok (.iconst 4, 1) := dR0 (k := 128) (i := 14) bn_cX10_hand_128 dop_7 (by decide +kernel)
theorem dX10_hand_143 : decode cX10_hand 143 = .ok (.invokevirtual 82, 3) := dR2 (f := Instr.invokevirtual) (k := 128) (i := 15) bn_cX10_hand_128 dop_182 82 (by decide +kernel)
theorem dX10_hand_146 : decode cX10_hand 146 = .ok (.ireturn, 1) := dR0 (k := 128) (i := 18) bn_cX10_hand_128 dop_172 (by decide +kernel)
theorem dX10_hand_147 : decode cX10_hand 147 = .ok (.aload 4, 2) := dR1 (f := Instr.aload) (k := 128) (i := 19) bn_cX10_hand_128 dop_25 4 (by decide +kernel)
theorem dX10_hand_149 : decode cX10_hand 149 = .ok (.iload_n 1, 1) := dR0 (k := 128) (i := 21) bn_cX10_hand_128 dop_27 (by decide +kernel)
theorem dX10_hand_150 : decode cX10_hand 150 = .ok (.iconst 2, 1) := dR0 (k := 128) (i := 22) bn_cX10_hand_128 dop_5 (by decide +kernel)
theorem dX10_hand_151 : decode cX10_hand 151 = .ok (.iload_n 3, 1) := dR0 (k := 128) (i := 23) bn_cX10_hand_128 dop_29 (by decide +kernel)
theorem dX10_hand_152 : decode cX10_hand 152 = .ok (.ineg, 1) := dR0 (k := 128) (i := 24) bn_cX10_hand_128 dop_116 (by decide +kernel)
theorem dX10_hand_153 : decode cX10_hand 153 = .ok (.invokevirtual 214, 3) := dR2 (f := Instr.invokevirtual) (k := 128) (i := 25) bn_cX10_hand_128 dop_182 214 (by decide +kernel)
theorem dX10_hand_156 : decode cX10_hand 156 = .ok (.aload 4, 2) := dR1 (f := Instr.aload) (k := 128) (i := 28) bn_cX10_hand_128 dop_25 4 (by decide +kernel)
theorem dX10_hand_158 : decode cX10_hand 158 = .ok (.iload_n 2, 1) := dR0 (k := 128) (i := 30) bn_cX10_hand_128 dop_28 (by decide +kernel)
theorem dX10_hand_159 : decode cX10_hand 159 = .ok (.iconst 2, 1) := dR0 (k := 128) (i := 31) bn_cX10_hand_128 dop_5 (by decide +kernel)
theorem dX10_hand_160 : decode cX10_hand 160 = .ok (.iload_n 3, 1) := dR0 (k := 128) (i := 32) bn_cX10_hand_128 dop_29 (by decide +kernel)
theorem dX10_hand_161 : decode cX10_hand 161 = .ok (.invokevirtual 214, 3) := dR2 (f := Instr.invokevirtual) (k := 128) (i := 33) bn_cX10_hand_128 dop_182 214 (by decide +kernel)
theorem dX10_hand_164 : decode cX10_hand 164 = .ok (.aload 4, 2) := dR1 (f := Instr.aload) (k := 128) (i := 36) bn_cX10_hand_128 dop_25 4 (by decide +kernel)
theorem dX10_hand_166 : decode cX10_hand 166 = .ok (.iload_n 2, 1) := dR0 (k := 128) (i := 38) bn_cX10_hand_128 dop_28 (by decide +kernel)
theorem dX10_hand_167 : decode cX10_hand 167 = .ok (.iconst 2, 1) := dR0 (k := 128) (i := 39) bn_cX10_hand_128 dop_5 (by decide +kernel)
theorem dX10_hand_168 : decode cX10_hand 168 = .ok (.invokevirtual 208, 3) := dR2 (f := Instr.invokevirtual) (k := 128) (i := 40) bn_cX10_hand_128 dop_182 208 (by decide +kernel)
theorem dX10_hand_171 : decode cX10_hand 171 = .ok (.ireturn, 1) := dR0 (k := 128) (i := 43) bn_cX10_hand_128 dop_172 (by decide +kernel)

theorem bn_cX10_reach_0 : BN cX10_reach 0 0x56875b4015b0701a015a8ac7cda00ad41a015a8ad5a5300adc0a2b050054ac900848380b00a880a1c := by
  unfold BN; decide +kernel
theorem dX10_reach_0 : decode cX10_reach 0 = .ok (.iload_n 1, 1) := dR0 (k := 0) (i := 0) bn_cX10_reach_0 dop_27 (by decide +kernel)
theorem dX10_reach_1 : decode cX10_reach 1 = .ok (.iconst 1, 1) := dR0 (k := 0) (i := 1) bn_cX10_reach_0 dop_4 (by decide +kernel)
theorem dX10_reach_2 : decode cX10_reach 2 = .ok (.if_icmp .lt 10, 3) := dR2s (f := Instr.if_icmp .lt) (k := 0) (i := 2) bn_cX10_reach_0 dop_161 10 10 (by decide +kernel)
theorem dX10_reach_5 : decode cX10_reach 5 = .ok (.iload_n 1, 1) := dR0 (k := 0) (i := 5) bn_cX10_reach_0 dop_27 (by decide +kernel)
theorem dX10_reach_6 : decode cX10_reach 6 = .ok (.sipush 200, 3) := dR2s (f := Instr.sipush) (k := 0) (i := 6) bn_cX10_reach_0 dop_17 200 200 (by decide +kernel)
theorem dX10_reach_9 : decode cX10_reach 9 = .ok (.if_icmp .le 9, 3) := dR2s (f := Instr.if_icmp .le) (k := 0) (i := 9) bn_cX10_reach_0 dop_164 9 9 (by decide +kernel)
theorem dX10_reach_12 : decode cX10_reach 12 = .ok (.aload_n 0, 1) := dR0 (k := 0) (i := 12) bn_cX10_reach_0 dop_42 (by decide +kernel)
theorem dX10_reach_13 : decode cX10_reach 13 = .ok (.iconst 1, 1) := dR0 (k := 0) (i := 13) bn_cX10_reach_0 dop_4 (by decide +kernel)
theorem dX10_reach_14 : decode cX10_reach 14 = .ok (.invokevirtual 82, 3) := dR2 (f := Instr.invokevirtual) (k := 0) (i := 14) bn_cX10_reach_0 dop_182 82 (by decide +kernel)
theorem dX10_reach_17 : decode cX10_reach 17 = .ok (.ireturn, 1) := dR0 (k := 0) (i := 17) bn_cX10_reach_0 dop_172 (by decide +kernel)
theorem dX10_reach_18 : decode cX10_reach 18 = .ok (.aload_n 0, 1) := dR0 (k := 0) (i := 18) bn_cX10_reach_0 dop_42 (by decide +kernel)
theorem dX10_reach_19 : decode cX10_reach 19 = .ok (.getfield 12, 3) := dR2 (f := Instr.getfield) (k := 0) (i := 19) bn_cX10_reach_0 dop_180 12 (by decide +kernel)
theorem dX10_reach_22 : decode cX10_reach 22 = .ok (.getfield 217, 3) := dR2 (f := Instr.getfield) (k := 0) (i := 22) bn_cX10_reach_0 dop_180 217 (by decide +kernel)
theorem dX10_reach_25 : decode cX10_reach 25 = .ok (.istore_n 2, 1) := dR0 (k := 0) (i := 25) bn_cX10_reach_0 dop_61 (by decide +kernel)
theorem dX10_reach_26 : decode cX10_reach 26 = .ok (.aload_n 0, 1) := dR0 (k := 0) (i := 26) bn_cX10_reach_0 dop_42 (by decide +kernel)
theorem dX10_reach_27 : decode cX10_reach 27 = .ok (.getfield 12, 3) := dR2 (f := Instr.getfield) (k := 0) (i := 27) bn_cX10_reach_0 dop_180 12 (by decide +kernel)
theorem dX10_reach_30 : decode cX10_reach 30 = .ok (.iload_n 1, 1) := dR0 (k := 0) (i := 30) bn_cX10_reach_0 dop_27 (by decide +kernel)
theorem dX10_reach_31 : decode cX10_reach 31 = .ok (.putfield 217, 3) := dR2 (f := Instr.putfield) (k := 0) (i := 31) bn_cX10_reach_0 dop_181 217 (by decide +kernel)
theorem dX10_reach_34 : decode cX10_reach 34 = .ok (.iload_n 2, 1) := dR0 (k := 0) (i := 34) bn_cX10_reach_0 dop_28 (by decide +kernel)
theorem dX10_reach_35 : decode cX10_reach 35 = .ok (.ireturn, 1) := dR0 (k := 0) (i := 35) bn_cX10_reach_0 dop_172 (by decide +kernel)

