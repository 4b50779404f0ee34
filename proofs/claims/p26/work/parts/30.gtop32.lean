theorem bn_cX10_check_0 : BN cX10_check 0 0xad0e1f804b60203402b515b4600a80100d0a3d308740a0800a814a015b8741a015a8ac5e1d408096a0d00ad4562200a8c2a110e8a002a33f0096a0d00ad4561d19805361c1f0107a04 := by
  unfold BN; decide +kernel
theorem dX10_check_0 : decode cX10_check 0 = .ok (.iconst 0, 1) := dR0 (k := 0) (i := 0) bn_cX10_check_0 dop_3 (by decide +kernel)
theorem dX10_check_1 : decode cX10_check 1 = .ok (.istore_n 1, 1) := dR0 (k := 0) (i := 1) bn_cX10_check_0 dop_60 (by decide +kernel)
theorem dX10_check_2 : decode cX10_check 2 = .ok (.iconst 0, 1) := dR0 (k := 0) (i := 2) bn_cX10_check_0 dop_3 (by decide +kernel)
theorem dX10_check_3 : decode cX10_check 3 = .ok (.istore_n 2, 1) := dR0 (k := 0) (i := 3) bn_cX10_check_0 dop_61 (by decide +kernel)
theorem dX10_check_4 : decode cX10_check 4 = .ok (.iload_n 1, 1) := dR0 (k := 0) (i := 4) bn_cX10_check_0 dop_27 (by decide +kernel)
theorem dX10_check_5 : decode cX10_check 5 = .ok (.ifCond .ne 50, 3) := dR2s (f := Instr.ifCond .ne) (k := 0) (i := 5) bn_cX10_check_0 dop_154 50 50 (by decide +kernel)
theorem dX10_check_8 : decode cX10_check 8 = .ok (.iload_n 2, 1) := dR0 (k := 0) (i := 8) bn_cX10_check_0 dop_28 (by decide +kernel)
theorem dX10_check_9 : decode cX10_check 9 = .ok (.aload_n 0, 1) := dR0 (k := 0) (i := 9) bn_cX10_check_0 dop_42 (by decide +kernel)
theorem dX10_check_10 : decode cX10_check 10 = .ok (.getfield 12, 3) := dR2 (f := Instr.getfield) (k := 0) (i := 10) bn_cX10_check_0 dop_180 12 (by decide +kernel)
theorem dX10_check_13 : decode cX10_check 13 = .ok (.getfield 381, 3) := dR2 (f := Instr.getfield) (k := 0) (i := 13) bn_cX10_check_0 dop_180 381 (by decide +kernel)
theorem dX10_check_16 : decode cX10_check 16 = .ok (.if_icmp .ge 39, 3) := dR2s (f := Instr.if_icmp .ge) (k := 0) (i := 16) bn_cX10_check_0 dop_162 39 39 (by decide +kernel)
theorem dX10_check_19 : decode cX10_check 19 = .ok (.iload_n 2, 1) := dR0 (k := 0) (i := 19) bn_cX10_check_0 dop_28 (by decide +kernel)
theorem dX10_check_20 : decode cX10_check 20 = .ok (.bipush 20, 2) := dR1s (f := Instr.bipush) (k := 0) (i := 20) bn_cX10_check_0 dop_16 20 20 (by decide +kernel)
theorem dX10_check_22 : decode cX10_check 22 = .ok (.if_icmp .ge 33, 3) := dR2s (f := Instr.if_icmp .ge) (k := 0) (i := 22) bn_cX10_check_0 dop_162 33 33 (by decide +kernel)
theorem dX10_check_25 : decode cX10_check 25 = .ok (.aload_n 0, 1) := dR0 (k := 0) (i := 25) bn_cX10_check_0 dop_42 (by decide +kernel)
theorem dX10_check_26 : decode cX10_check 26 = .ok (.getfield 12, 3) := dR2 (f := Instr.getfield) (k := 0) (i := 26) bn_cX10_check_0 dop_180 12 (by decide +kernel)
theorem dX10_check_29 : decode cX10_check 29 = .ok (.getfield 384, 3) := dR2 (f := Instr.getfield) (k := 0) (i := 29) bn_cX10_check_0 dop_180 384 (by decide +kernel)
theorem dX10_check_32 : decode cX10_check 32 = .ok (.iload_n 2, 1) := dR0 (k := 0) (i := 32) bn_cX10_check_0 dop_28 (by decide +kernel)
theorem dX10_check_33 : decode cX10_check 33 = .ok (.iaload, 1) := dR0 (k := 0) (i := 33) bn_cX10_check_0 dop_46 (by decide +kernel)
theorem dX10_check_34 : decode cX10_check 34 = .ok (.aload_n 0, 1) := dR0 (k := 0) (i := 34) bn_cX10_check_0 dop_42 (by decide +kernel)
theorem dX10_check_35 : decode cX10_check 35 = .ok (.getfield 12, 3) := dR2 (f := Instr.getfield) (k := 0) (i := 35) bn_cX10_check_0 dop_180 12 (by decide +kernel)
theorem dX10_check_38 : decode cX10_check 38 = .ok (.iload_n 2, 1) := dR0 (k := 0) (i := 38) bn_cX10_check_0 dop_28 (by decide +kernel)
theorem dX10_check_39 : decode cX10_check 39 = .ok (.invokevirtual 164, 3) := dR2 (f := Instr.invokevirtual) (k := 0) (i := 39) bn_cX10_check_0 dop_182 164 (by decide +kernel)
theorem dX10_check_42 : decode cX10_check 42 = .ok (.if_icmp .eq 7, 3) := dR2s (f := Instr.if_icmp .eq) (k := 0) (i := 42) bn_cX10_check_0 dop_159 7 7 (by decide +kernel)
theorem dX10_check_45 : decode cX10_check 45 = .ok (.iconst 1, 1) := dR0 (k := 0) (i := 45) bn_cX10_check_0 dop_4 (by decide +kernel)
theorem dX10_check_46 : decode cX10_check 46 = .ok (.iload_n 2, 1) := dR0 (k := 0) (i := 46) bn_cX10_check_0 dop_28 (by decide +kernel)
theorem dX10_check_47 : decode cX10_check 47 = .ok (.iadd, 1) := dR0 (k := 0) (i := 47) bn_cX10_check_0 dop_96 (by decide +kernel)
theorem dX10_check_48 : decode cX10_check 48 = .ok (.istore_n 1, 1) := dR0 (k := 0) (i := 48) bn_cX10_check_0 dop_60 (by decide +kernel)
theorem dX10_check_49 : decode cX10_check 49 = .ok (.iinc 2 1, 3) := dRii (f := Instr.iinc) (k := 0) (i := 49) bn_cX10_check_0 dop_132 2 1 1 (by decide +kernel)
theorem dX10_check_52 : decode cX10_check 52 = .ok (.goto (-48), 3) := dR2s (f := Instr.goto) (k := 0) (i := 52) bn_cX10_check_0 dop_167 65488 (-48) (by decide +kernel)
theorem dX10_check_55 : decode cX10_check 55 = .ok (.aload_n 0, 1) := dR0 (k := 0) (i := 55) bn_cX10_check_0 dop_42 (by decide +kernel)
theorem dX10_check_56 : decode cX10_check 56 = .ok (.getfield 12, 3) := dR2 (f := Instr.getfield) (k := 0) (i := 56) bn_cX10_check_0 dop_180 12 (by decide +kernel)
theorem dX10_check_59 : decode cX10_check 59 = .ok (.iconst 0, 1) := dR0 (k := 0) (i := 59) bn_cX10_check_0 dop_3 (by decide +kernel)
theorem dX10_check_60 : decode cX10_check 60 = .ok (.putfield 381, 3) := dR2 (f := Instr.putfield) (k := 0) (i := 60) bn_cX10_check_0 dop_181 381 (by decide +kernel)
theorem dX10_check_63 : decode cX10_check 63 = .ok (.iload_n 1, 1) := dR0 (k := 0) (i := 63) bn_cX10_check_0 dop_27 (by decide +kernel)
theorem dX10_check_64 : decode cX10_check 64 = .ok (.ireturn, 1) := dR0 (k := 0) (i := 64) bn_cX10_check_0 dop_172 (by decide +kernel)

theorem bn_cX10_sheet_0 : BN cX10_sheet 0 0xad029a004b70f01402a802020029b0e874384700ad456ad298056e051582802a5128443c1000a683aad298056e0715828029d0f038029a0eab4a6015b814560a00a8042110e84002a0088443a1600a8012110e870029a0e868029a57005721c := by
  unfold BN; decide +kernel
theorem dX10_sheet_0 : decode cX10_sheet 0 = .ok (.iload_n 1, 1) := dR0 (k := 0) (i := 0) bn_cX10_sheet_0 dop_27 (by decide +kernel)
theorem dX10_sheet_1 : decode cX10_sheet 1 = .ok (.invokestatic 173, 3) := dR2 (f := Instr.invokestatic) (k := 0) (i := 1) bn_cX10_sheet_0 dop_184 173 (by decide +kernel)
theorem dX10_sheet_4 : decode cX10_sheet 4 = .ok (.ifCond .eq 25, 3) := dR2s (f := Instr.ifCond .eq) (k := 0) (i := 4) bn_cX10_sheet_0 dop_153 25 25 (by decide +kernel)
theorem dX10_sheet_7 : decode cX10_sheet 7 = .ok (.iload_n 2, 1) := dR0 (k := 0) (i := 7) bn_cX10_sheet_0 dop_28 (by decide +kernel)
theorem dX10_sheet_8 : decode cX10_sheet 8 = .ok (.ifCond .eq 27, 3) := dR2s (f := Instr.ifCond .eq) (k := 0) (i := 8) bn_cX10_sheet_0 dop_153 27 27 (by decide +kernel)
theorem dX10_sheet_11 : decode cX10_sheet 11 = .ok (.iload_n 2, 1) := dR0 (k := 0) (i := 11) bn_cX10_sheet_0 dop_28 (by decide +kernel)
theorem dX10_sheet_12 : decode cX10_sheet 12 = .ok (.bipush 8, 2) := dR1s (f := Instr.bipush) (k := 0) (i := 12) bn_cX10_sheet_0 dop_16 8 8 (by decide +kernel)
theorem dX10_sheet_14 : decode cX10_sheet 14 = .ok (.if_icmp .eq 21, 3) := dR2s (f := Instr.if_icmp .eq) (k := 0) (i := 14) bn_cX10_sheet_0 dop_159 21 21 (by decide +kernel)
theorem dX10_sheet_17 : decode cX10_sheet 17 = .ok (.iload_n 2, 1) := dR0 (k := 0) (i := 17) bn_cX10_sheet_0 dop_28 (by decide +kernel)
theorem dX10_sheet_18 : decode cX10_sheet 18 = .ok (.bipush 16, 2) := dR1s (f := Instr.bipush) (k := 0) (i := 18) bn_cX10_sheet_0 dop_16 16 16 (by decide +kernel)
theorem dX10_sheet_20 : decode cX10_sheet 20 = .ok (.if_icmp .eq 15, 3) := dR2s (f := Instr.if_icmp .eq) (k := 0) (i := 20) bn_cX10_sheet_0 dop_159 15 15 (by decide +kernel)
theorem dX10_sheet_23 : decode cX10_sheet 23 = .ok (.iload_n 2, 1) := dR0 (k := 0) (i := 23) bn_cX10_sheet_0 dop_28 (by decide +kernel)
theorem dX10_sheet_24 : decode cX10_sheet 24 = .ok (.bipush 32, 2) := dR1s (f := Instr.bipush) (k := 0) (i := 24) bn_cX10_sheet_0 dop_16 32 32 (by decide +kernel)
theorem dX10_sheet_26 : decode cX10_sheet 26 = .ok (.if_icmp .eq 9, 3) := dR2s (f := Instr.if_icmp .eq) (k := 0) (i := 26) bn_cX10_sheet_0 dop_159 9 9 (by decide +kernel)
theorem dX10_sheet_29 : decode cX10_sheet 29 = .ok (.aload_n 0, 1) := dR0 (k := 0) (i := 29) bn_cX10_sheet_0 dop_42 (by decide +kernel)
theorem dX10_sheet_30 : decode cX10_sheet 30 = .ok (.iconst 1, 1) := dR0 (k := 0) (i := 30) bn_cX10_sheet_0 dop_4 (by decide +kernel)
theorem dX10_sheet_31 : decode cX10_sheet 31 = .ok (.invokevirtual 82, 3) := dR2 (f := Instr.invokevirtual) (k := 0) (i := 31) bn_cX10_sheet_0 dop_182 82 (by decide +kernel)
theorem dX10_sheet_34 : decode cX10_sheet 34 = .ok (.ireturn, 1) := dR0 (k := 0) (i := 34) bn_cX10_sheet_0 dop_172 (by decide +kernel)
theorem dX10_sheet_35 : decode cX10_sheet 35 = .ok (.iload_n 2, 1) := dR0 (k := 0) (i := 35) bn_cX10_sheet_0 dop_28 (by decide +kernel)
theorem dX10_sheet_36 : decode cX10_sheet 36 = .ok (.ifCond .eq 13, 3) := dR2s (f := Instr.ifCond .eq) (k := 0) (i := 36) bn_cX10_sheet_0 dop_153 13 13 (by decide +kernel)
theorem dX10_sheet_39 : decode cX10_sheet 39 = .ok (.iload_n 3, 1) := dR0 (k := 0) (i := 39) bn_cX10_sheet_0 dop_29 (by decide +kernel)
theorem dX10_sheet_40 : decode cX10_sheet 40 = .ok (.ifCond .ge 9, 3) := dR2s (f := Instr.ifCond .ge) (k := 0) (i := 40) bn_cX10_sheet_0 dop_156 9 9 (by decide +kernel)
theorem dX10_sheet_43 : decode cX10_sheet 43 = .ok (.aload_n 0, 1) := dR0 (k := 0) (i := 43) bn_cX10_sheet_0 dop_42 (by decide +kernel)
theorem dX10_sheet_44 : decode cX10_sheet 44 = .ok (.iconst 3, 1) := dR0 (k := 0) (i := 44) bn_cX10_sheet_0 dop_6 (by decide +kernel)
theorem dX10_sheet_45 : decode cX10_sheet 45 = .ok (.invokevirtual 82, 3) := dR2 (f := Instr.invokevirtual) (k := 0) (i := 45) bn_cX10_sheet_0 dop_182 82 (by decide +kernel)
theorem dX10_sheet_48 : decode cX10_sheet 48 = .ok (.ireturn, 1) := dR0 (k := 0) (i := 48) bn_cX10_sheet_0 dop_172 (by decide +kernel)
theorem dX10_sheet_49 : decode cX10_sheet 49 = .ok (.iload_n 2, 1) := dR0 (k := 0) (i := 49) bn_cX10_sheet_0 dop_28 (by decide +kernel)
theorem dX10_sheet_50 : decode cX10_sheet 50 = .ok (.ifCond .eq 15, 3) := dR2s (f := Instr.ifCond .eq) (k := 0) (i := 50) bn_cX10_sheet_0 dop_153 15 15 (by decide +kernel)
theorem dX10_sheet_53 : decode cX10_sheet 53 = .ok (.iload_n 3, 1) := dR0 (k := 0) (i := 53) bn_cX10_sheet_0 dop_29 (by decide +kernel)
theorem dX10_sheet_54 : decode cX10_sheet 54 = .ok (.bipush 36, 2) := dR1s (f := Instr.bipush) (k := 0) (i := 54) bn_cX10_sheet_0 dop_16 36 36 (by decide +kernel)
theorem dX10_sheet_56 : decode cX10_sheet 56 = .ok (.if_icmp .le 9, 3) := dR2s (f := Instr.if_icmp .le) (k := 0) (i := 56) bn_cX10_sheet_0 dop_164 9 9 (by decide +kernel)
theorem dX10_sheet_59 : decode cX10_sheet 59 = .ok (.aload_n 0, 1) := dR0 (k := 0) (i := 59) bn_cX10_sheet_0 dop_42 (by decide +kernel)
theorem dX10_sheet_60 : decode cX10_sheet 60 = .ok (.iconst 1, 1) := dR0 (k := 0) (i := 60) bn_cX10_sheet_0 dop_4 (by decide +kernel)
theorem dX10_sheet_61 : decode cX10_sheet 61 = .ok (.invokevirtual 82, 3) := dR2 (f := Instr.invokevirtual) (k := 0) (i := 61) bn_cX10_sheet_0 dop_182 82 (by decide +kernel)
theorem dX10_sheet_64 : decode cX10_sheet 64 = .ok (.ireturn, 1) := dR0 (k := 0) (i := 64) bn_cX10_sheet_0 dop_172 (by decide +kernel)
theorem dX10_sheet_65 : decode cX10_sheet 65 = .ok (.aload_n 0, 1) := dR0 (k := 0) (i := 65) bn_cX10_sheet_0 dop_42 (by decide +kernel)
theorem dX10_sheet_66 : decode cX10_sheet 66 = .ok (.getfield 70, 3) := dR2 (f := Instr.getfield) (k := 0) (i := 66) bn_cX10_sheet_0 dop_180 70 (by decide +kernel)
theorem dX10_sheet_69 : decode cX10_sheet 69 = .ok (.iload_n 1, 1) := dR0 (k := 0) (i := 69) bn_cX10_sheet_0 dop_27 (by decide +kernel)
theorem dX10_sheet_70 : decode cX10_sheet 70 = .ok (.iload_n 2, 1) := dR0 (k := 0) (i := 70) bn_cX10_sheet_0 dop_28 (by decide +kernel)
theorem dX10_sheet_71 : decode cX10_sheet 71 = .ok (.iload_n 2, 1) := dR0 (k := 0) (i := 71) bn_cX10_sheet_0 dop_28 (by decide +kernel)
theorem dX10_sheet_72 : decode cX10_sheet 72 = .ok (.ifCond .ne 7, 3) := dR2s (f := Instr.ifCond .ne) (k := 0) (i := 72) bn_cX10_sheet_0 dop_154 7 7 (by decide +kernel)
theorem dX10_sheet_75 : decode cX10_sheet 75 = .ok (.iconst 0, 1) := dR0 (k := 0) (i := 75) bn_cX10_sheet_0 dop_3 (by decide +kernel)
theorem dX10_sheet_76 : decode cX10_sheet 76 = .ok (.goto 4, 3) := dR2s (f := Instr.goto) (k := 0) (i := 76) bn_cX10_sheet_0 dop_167 4 4 (by decide +kernel)
theorem dX10_sheet_79 : decode cX10_sheet 79 = .ok (.iload_n 3, 1) := dR0 (k := 0) (i := 79) bn_cX10_sheet_0 dop_29 (by decide +kernel)
theorem dX10_sheet_80 : decode cX10_sheet 80 = .ok (.invokevirtual 359, 3) := dR2 (f := Instr.invokevirtual) (k := 0) (i := 80) bn_cX10_sheet_0 dop_182 359 (by decide +kernel)
theorem dX10_sheet_83 : decode cX10_sheet 83 = .ok (.iconst 1, 1) := dR0 (k := 0) (i := 83) bn_cX10_sheet_0 dop_4 (by decide +kernel)
theorem dX10_sheet_84 : decode cX10_sheet 84 = .ok (.ireturn, 1) := dR0 (k := 0) (i := 84) bn_cX10_sheet_0 dop_172 (by decide +kernel)
set_option maxHeartbeats 4000000 in
set_option maxRecDepth 100000 in
theorem c_X10_sheetG (l : Launch) (D : va_G) (cI : ClassId) (aK aV : Nat → Nat) (k k0 k1 k2 k3 k4 k5 k6 k7 k8 k9 ka kb ka0 ka1 ka2 : Nat) (sz : Nat) (cc : Int32) (cb : Nat → Int32) (ca0 : Nat → Int32) (ca1 : Nat → Int32) (ca2 : Nat → Int32) (a0 : Int32) (a1 : Int32) (a2 : Int32) (pre0 : ∀ k : Nat, k < 4 → 0 ≤ (ca1 k).toInt ∧ (ca1 k).toInt ≤ 36) : Met l yX10_sheet (gW yX10_sheet cX10_sheet 4 (some .int)) ({ frames := 2, cells := 0, slots := 0, locals := 44 } : Room) (kPreX D cI aK aV [.ref k, .int a0, .int a1, .int a2] [(k, .inr (10, [.ref k0, .ref k1, .ref k2, .ref k3, .ref k4, .ref k5, .ref k6, .ref k7, .ref k8, .ref k9, .ref ka, .ref kb, .int cc])), (ka, .inr (6, [.ref ka0, .ref ka1, .ref ka2])), (kb, .inl (cI, 6, .inl cb)), (ka0, .inl (cI, 4, .inl ca0)), (ka1, .inl (cI, 4, .inl ca1)), (ka2, .inl (cI, 144, .inl ca2))] sz) (va_Qi (fun (r : Int32) (u : (Nat → Int32) × (Nat → Int32) × (Nat → Int32) × (Nat → Int32)) => r = sp_sheet a0 a1 a2 ∧ u.2.1 = shB ca0 a0 a1 a2 a1 ∧ u.2.2.1 = shB ca1 a0 a1 a2 (shD a1 a2) ∧ u.2.2.2 = shN ca2 a0 a1 a2 ∧ (∀ k : Nat, k < 4 → 0 ≤ (u.2.2.1 k).toInt ∧ (u.2.2.1 k).toInt ≤ 36)) (fun u t => kWd D cI (va_A [(k, .inr (10, [.ref k0, .ref k1, .ref k2, .ref k3, .ref k4, .ref k5, .ref k6, .ref k7, .ref k8, .ref k9, .ref ka, .ref kb, .int cc])), (ka, .inr (6, [.ref ka0, .ref ka1, .ref ka2])), (kb, .inl (cI, 6, .inl cb)), (ka0, .inl (cI, 4, .inl ca0)), (ka1, .inl (cI, 4, .inl ca1)), (ka2, .inl (cI, 144, .inl ca2))] sz) [(k, .inr (10, [.ref k0, .ref k1, .ref k2, .ref k3, .ref k4, .ref k5, .ref k6, .ref k7, .ref k8, .ref k9, .ref ka, .ref kb, .int cc])), (ka, .inr (6, [.ref ka0, .ref ka1, .ref ka2])), (kb, .inl (cI, 6, .inl u.1)), (ka0, .inl (cI, 4, .inl u.2.1)), (ka1, .inl (cI, 4, .inl u.2.2.1)), (ka2, .inl (cI, 144, .inl u.2.2.2))] t) (va_A [(k, .inr (10, [.ref k0, .ref k1, .ref k2, .ref k3, .ref k4, .ref k5, .ref k6, .ref k7, .ref k8, .ref k9, .ref ka, .ref kb, .int cc])), (ka, .inr (6, [.ref ka0, .ref ka1, .ref ka2])), (kb, .inl (cI, 6, .inl cb)), (ka0, .inl (cI, 4, .inl ca0)), (ka1, .inl (cI, 4, .inl ca1)), (ka2, .inl (cI, 144, .inl ca2))] sz)) 0 0 (va_A [(k, .inr (10, [.ref k0, .ref k1, .ref k2, .ref k3, .ref k4, .ref k5, .ref k6, .ref k7, .ref k8, .ref k9, .ref ka, .ref kb, .int cc])), (ka, .inr (6, [.ref ka0, .ref ka1, .ref ka2])), (kb, .inl (cI, 6, .inl cb)), (ka0, .inl (cI, 4, .inl ca0)), (ka1, .inl (cI, 4, .inl ca1)), (ka2, .inl (cI, 144, .inl ca2))] sz) := by
  refine kMetIX (own := RX10) (by decide +kernel) rfl (Nat.le_of_ble_eq_true rfl) ?_
  intro p e s m args below meth c hx hb hT hown hname hml A Q hK hP hD hS hA hN hXS hRet ls hl
  have hl : lv_has ls 4 [(0, .ref k), (1, .int a0), (2, .int a1), (3, .int a2)] := hl
  have lo_a0 := k_lo a0
  have hi_a0 := k_hi a0
  have lo_a1 := k_lo a1
  have hi_a1 := k_hi a1
  have lo_a2 := k_lo a2
  have hi_a2 := k_hi a2
  refine lv_iload_n hx hb dX10_sheet_0 rfl (lv_at hl 1 rfl) ?_
  refine kJi (wr := [(k, .inr (10, [.ref k0, .ref k1, .ref k2, .ref k3, .ref k4, .ref k5, .ref k6, .ref k7, .ref k8, .ref k9, .ref ka, .ref kb, .int cc])), (ka, .inr (6, [.ref ka0, .ref ka1, .ref ka2])), (kb, .inl (cI, 6, .inl cb)), (ka0, .inl (cI, 4, .inl ca0)), (ka1, .inl (cI, 4, .inl ca1)), (ka2, .inl (cI, 144, .inl ca2))]) (va_runS (As := [.int a0]) (rest := []) ⟨hx, hb, hml, hown, hT⟩ (c_X10_isSheetG l D cI aK aV s.heap.size a0) (cwS 1 hT (gS_in mw_662 mw_660 mw_661 mw_1) rfl rfl rfl (by decide +kernel) ⟨Nat.le_of_ble_eq_true rfl, Nat.le_of_ble_eq_true rfl⟩) (kStatX hK hP hD hN hXS hS hA [] rfl (by decide +kernel)) rfl rfl hl.1 rfl (lv_room (Nat.le_of_ble_eq_true rfl)) dX10_sheet_1 ⟨Nat.le_of_ble_eq_true rfl, Nat.le_of_ble_eq_true rfl⟩) hP hD hS hA [] [0, 1, 2, 3, 4, 5] rfl rfl (by decide +kernel) (by decide +kernel) ?_
  clear hP hD hS
  intro r_1 u_3 H locs w_2 hP hD hS
  replace hP : va_P D vwCl [(k, .inr (10, [.ref k0, .ref k1, .ref k2, .ref k3, .ref k4, .ref k5, .ref k6, .ref k7, .ref k8, .ref k9, .ref ka, .ref kb, .int cc])), (ka, .inr (6, [.ref ka0, .ref ka1, .ref ka2])), (kb, .inl (cI, 6, .inl cb)), (ka0, .inl (cI, 4, .inl ca0)), (ka1, .inl (cI, 4, .inl ca1)), (ka2, .inl (cI, 144, .inl ca2))] H := hP
  replace hD : va_D A [(k, .inr (10, [.ref k0, .ref k1, .ref k2, .ref k3, .ref k4, .ref k5, .ref k6, .ref k7, .ref k8, .ref k9, .ref ka, .ref kb, .int cc])), (ka, .inr (6, [.ref ka0, .ref ka1, .ref ka2])), (kb, .inl (cI, 6, .inl cb)), (ka0, .inl (cI, 4, .inl ca0)), (ka1, .inl (cI, 4, .inl ca1)), (ka2, .inl (cI, 144, .inl ca2))] := hD
  rcases w_2 with ⟨hr_1, h_4, h_5⟩ | ⟨hr_1, h_6⟩
  · have h_4 : 0 ≤ a0.toInt := h_4
    have h_5 : a0.toInt ≤ 3 := h_5
    obtain rfl : r_1 = 1 := hr_1.trans (by decide +kernel)
    refine b_if_eq hx hb zl_1 (tgt := 29) dX10_sheet_4 (by decide +kernel) (fun c_7 => by exfalso; omega) (fun c_7 => ?_)
    refine lv_iload_n hx hb dX10_sheet_7 rfl (lv_at hl 2 rfl) ?_
    refine b_if_eq hx hb rfl (tgt := 35) dX10_sheet_8 (by decide +kernel) (fun c_8 => ?_) (fun c_8 => ?_)
    · refine lv_iload_n hx hb dX10_sheet_35 rfl (lv_at hl 2 rfl) ?_
      refine b_if_eq hx hb rfl (tgt := 49) dX10_sheet_36 (by decide +kernel) (fun c_9 => ?_) (fun c_9 => by exfalso; omega)
      refine lv_iload_n hx hb dX10_sheet_49 rfl (lv_at hl 2 rfl) ?_
      refine b_if_eq hx hb rfl (tgt := 65) dX10_sheet_50 (by decide +kernel) (fun c_10 => ?_) (fun c_10 => by exfalso; omega)
      refine lv_aload_n hx hb dX10_sheet_65 rfl (lv_at hl 0 rfl) ?_
      refine va_get (D := D) (ci := 10) (v := .ref ka) (C := RX10) (T := TX10) (N := 13) hx hb hT giX10 hown hK hP 0 rfl rfl 10 (by decide +kernel) (hT (Cond.fieldLink RX10 70 "DesertWire" "sheets" "LDesertWire$Sheets;") mw_301) (fun _ h9 => h9) rfl dX10_sheet_66 ?_
      refine lv_iload_n hx hb dX10_sheet_69 rfl (lv_at hl 1 rfl) ?_
      refine lv_iload_n hx hb dX10_sheet_70 rfl (lv_at hl 2 rfl) ?_
      refine lv_iload_n hx hb dX10_sheet_71 rfl (lv_at hl 2 rfl) ?_
      refine b_if_ne hx hb rfl (tgt := 79) dX10_sheet_72 (by decide +kernel) (fun c_11 => by exfalso; omega) (fun c_11 => ?_)
      refine lv_iconst (v := 0) hx hb dX10_sheet_75 (by decide +kernel) ?_
      refine lv_goto (tgt := 80) hx hb dX10_sheet_76 (by decide +kernel) ?_
      refine kJv (wr := [(k, .inr (10, [.ref k0, .ref k1, .ref k2, .ref k3, .ref k4, .ref k5, .ref k6, .ref k7, .ref k8, .ref k9, .ref ka, .ref kb, .int cc])), (kb, .inl (cI, 6, .inl cb))]) (va_runV (As := [.int a0, .int a1, .int 0]) (rest := []) ⟨hx, hb, hml, hown, hT⟩ (c_X6_blankG l D cI aK aV ka ka0 ka1 ka2 H.size ca0 ca1 ca2 a0 a1 0 (by first | omega | (simp only [zl_0]; first | done | omega) | decide | assumption | rfl) (by first | omega | (simp only [zl_0]; first | done | omega) | decide | assumption | rfl) (by first | omega | (simp only [zl_0]; first | done | omega) | decide | assumption | rfl) (by first | omega | (simp only [zl_0]; first | done | omega) | decide | assumption | rfl) (by first | omega | (simp only [zl_0]; first | done | omega) | decide | assumption | rfl)) (cwV 3 hT (gV_in mw_1076 mw_1073 mw_1074 mw_1075 mw_11) rfl rfl rfl (by decide +kernel) ⟨Nat.le_of_ble_eq_true rfl, Nat.le_of_ble_eq_true rfl⟩) (kRecvX (q0 := 1) (ci := 6) hK hP hD hN hXS hS hA rfl rfl [1, 3, 4, 5] rfl (by decide +kernel)) rfl rfl hl.1 rfl (lv_room (Nat.le_of_ble_eq_true rfl)) dX10_sheet_80 ⟨Nat.le_of_ble_eq_true rfl, Nat.le_of_ble_eq_true rfl⟩) hP hD hS hA [1, 3, 4, 5] [0, 2] rfl rfl (by decide +kernel) (by decide +kernel) ?_
      clear hP hD hS
      intro u_17 H locs w_13 hP hD hS
      obtain ⟨sc0_14, sc1_15, sc2_16⟩ := u_17
      replace hP : va_P D vwCl [(k, .inr (10, [.ref k0, .ref k1, .ref k2, .ref k3, .ref k4, .ref k5, .ref k6, .ref k7, .ref k8, .ref k9, .ref ka, .ref kb, .int cc])), (kb, .inl (cI, 6, .inl cb)), (ka, .inr (6, [.ref ka0, .ref ka1, .ref ka2])), (ka0, .inl (cI, 4, .inl sc0_14)), (ka1, .inl (cI, 4, .inl sc1_15)), (ka2, .inl (cI, 144, .inl sc2_16))] H := hP
      replace hD : va_D A [(k, .inr (10, [.ref k0, .ref k1, .ref k2, .ref k3, .ref k4, .ref k5, .ref k6, .ref k7, .ref k8, .ref k9, .ref ka, .ref kb, .int cc])), (kb, .inl (cI, 6, .inl cb)), (ka, .inr (6, [.ref ka0, .ref ka1, .ref ka2])), (ka0, .inl (cI, 4, .inl sc0_14)), (ka1, .inl (cI, 4, .inl sc1_15)), (ka2, .inl (cI, 144, .inl sc2_16))] := hD
      obtain ⟨h_18, h_19, h_20, h_21⟩ := w_13
      try simp only [zl_0] at h_18
      have h_18 : ∀ ka : Nat, ka < 4 → 0 ≤ (sc1_15 ka).toInt ∧ (sc1_15 ka).toInt ≤ 36 := h_18
      try simp only [zl_0] at h_19
      have h_19 : sc0_14 = upd ca0 a0.toNatClampNeg a1 := h_19
      try simp only [zl_0] at h_20
      have h_20 : sc1_15 = upd ca1 a0.toNatClampNeg 0 := h_20
      try simp only [zl_0] at h_21
      have h_21 : sc2_16 = zr ca2 (36 * a0.toInt.toNat) 36 := h_21
      have h_21 : sc2_16 = zr ca2 (36 * a0.toInt.toNat) 36 := h_21
      refine lv_iconst (v := 1) hx hb dX10_sheet_83 (by decide +kernel) ?_
      exact hRet (cb, sc0_14, sc1_15, sc2_16) [0, 2, 1, 3, 4, 5] ⟨(by (try dsimp only); unfold sp_sheet; (repeat (first | rw [if_pos (by omega)] | rw [if_neg (by omega)]))), (by (try dsimp only); unfold shB; (repeat (first | rw [if_pos (by omega)] | rw [if_neg (by omega)])); first | done | exact h_19), (by (try dsimp only); unfold shB; (repeat (first | rw [if_pos (by omega)] | rw [if_neg (by omega)])); rw [h_20]; unfold shD; (repeat (first | rw [if_pos (by omega)] | rw [if_neg (by omega)]))), (by (try dsimp only); unfold shN; (repeat (first | rw [if_pos (by omega)] | rw [if_neg (by omega)])); first | done | exact h_21), (by assumption)⟩ hP hD (by decide +kernel) rfl hS rfl dX10_sheet_84
    · refine lv_iload_n hx hb dX10_sheet_11 rfl (lv_at hl 2 rfl) ?_
      refine lv_bipush (v := 8) hx hb dX10_sheet_12 (by decide +kernel) ?_
      refine b_icmp_eq hx hb rfl zl_8 (tgt := 35) dX10_sheet_14 (by decide +kernel) (fun c_22 => ?_) (fun c_22 => ?_)
      · refine lv_iload_n hx hb dX10_sheet_35 rfl (lv_at hl 2 rfl) ?_
        refine b_if_eq hx hb rfl (tgt := 49) dX10_sheet_36 (by decide +kernel) (fun c_23 => by exfalso; omega) (fun c_23 => ?_)
        refine lv_iload_n hx hb dX10_sheet_39 rfl (lv_at hl 3 rfl) ?_
        refine b_if_ge hx hb rfl (tgt := 49) dX10_sheet_40 (by decide +kernel) (fun c_24 => ?_) (fun c_24 => ?_)
        · refine lv_iload_n hx hb dX10_sheet_49 rfl (lv_at hl 2 rfl) ?_
          refine b_if_eq hx hb rfl (tgt := 65) dX10_sheet_50 (by decide +kernel) (fun c_25 => by exfalso; omega) (fun c_25 => ?_)
          refine lv_iload_n hx hb dX10_sheet_53 rfl (lv_at hl 3 rfl) ?_
          refine lv_bipush (v := 36) hx hb dX10_sheet_54 (by decide +kernel) ?_
          refine b_icmp_le hx hb rfl zl_36 (tgt := 65) dX10_sheet_56 (by decide +kernel) (fun c_26 => ?_) (fun c_26 => ?_)
          · refine lv_aload_n hx hb dX10_sheet_65 rfl (lv_at hl 0 rfl) ?_
            refine va_get (D := D) (ci := 10) (v := .ref ka) (C := RX10) (T := TX10) (N := 13) hx hb hT giX10 hown hK hP 0 rfl rfl 10 (by decide +kernel) (hT (Cond.fieldLink RX10 70 "DesertWire" "sheets" "LDesertWire$Sheets;") mw_301) (fun _ h9 => h9) rfl dX10_sheet_66 ?_
            refine lv_iload_n hx hb dX10_sheet_69 rfl (lv_at hl 1 rfl) ?_
            refine lv_iload_n hx hb dX10_sheet_70 rfl (lv_at hl 2 rfl) ?_
            refine lv_iload_n hx hb dX10_sheet_71 rfl (lv_at hl 2 rfl) ?_
            refine b_if_ne hx hb rfl (tgt := 79) dX10_sheet_72 (by decide +kernel) (fun c_27 => ?_) (fun c_27 => by exfalso; omega)
            refine lv_iload_n hx hb dX10_sheet_79 rfl (lv_at hl 3 rfl) ?_
            refine kJv (wr := [(k, .inr (10, [.ref k0, .ref k1, .ref k2, .ref k3, .ref k4, .ref k5, .ref k6, .ref k7, .ref k8, .ref k9, .ref ka, .ref kb, .int cc])), (kb, .inl (cI, 6, .inl cb))]) (va_runV (As := [.int a0, .int a1, .int a2]) (rest := []) ⟨hx, hb, hml, hown, hT⟩ (c_X6_blankG l D cI aK aV ka ka0 ka1 ka2 H.size ca0 ca1 ca2 a0 a1 a2 (by first | omega | decide | assumption | rfl) (by first | omega | decide | assumption | rfl) (by first | omega | decide | assumption | rfl) (by first | omega | decide | assumption | rfl) (by first | omega | decide | assumption | rfl)) (cwV 3 hT (gV_in mw_1076 mw_1073 mw_1074 mw_1075 mw_11) rfl rfl rfl (by decide +kernel) ⟨Nat.le_of_ble_eq_true rfl, Nat.le_of_ble_eq_true rfl⟩) (kRecvX (q0 := 1) (ci := 6) hK hP hD hN hXS hS hA rfl rfl [1, 3, 4, 5] rfl (by decide +kernel)) rfl rfl hl.1 rfl (lv_room (Nat.le_of_ble_eq_true rfl)) dX10_sheet_80 ⟨Nat.le_of_ble_eq_true rfl, Nat.le_of_ble_eq_true rfl⟩) hP hD hS hA [1, 3, 4, 5] [0, 2] rfl rfl (by decide +kernel) (by decide +kernel) ?_
            clear hP hD hS
            intro u_33 H locs w_29 hP hD hS
            obtain ⟨sc0_30, sc1_31, sc2_32⟩ := u_33
            replace hP : va_P D vwCl [(k, .inr (10, [.ref k0, .ref k1, .ref k2, .ref k3, .ref k4, .ref k5, .ref k6, .ref k7, .ref k8, .ref k9, .ref ka, .ref kb, .int cc])), (kb, .inl (cI, 6, .inl cb)), (ka, .inr (6, [.ref ka0, .ref ka1, .ref ka2])), (ka0, .inl (cI, 4, .inl sc0_30)), (ka1, .inl (cI, 4, .inl sc1_31)), (ka2, .inl (cI, 144, .inl sc2_32))] H := hP
            replace hD : va_D A [(k, .inr (10, [.ref k0, .ref k1, .ref k2, .ref k3, .ref k4, .ref k5, .ref k6, .ref k7, .ref k8, .ref k9, .ref ka, .ref kb, .int cc])), (kb, .inl (cI, 6, .inl cb)), (ka, .inr (6, [.ref ka0, .ref ka1, .ref ka2])), (ka0, .inl (cI, 4, .inl sc0_30)), (ka1, .inl (cI, 4, .inl sc1_31)), (ka2, .inl (cI, 144, .inl sc2_32))] := hD
            obtain ⟨h_34, h_35, h_36, h_37⟩ := w_29
            have h_34 : ∀ ka : Nat, ka < 4 → 0 ≤ (sc1_31 ka).toInt ∧ (sc1_31 ka).toInt ≤ 36 := h_34
            have h_35 : sc0_30 = upd ca0 a0.toNatClampNeg a1 := h_35
            have h_36 : sc1_31 = upd ca1 a0.toNatClampNeg a2 := h_36
            have h_37 : sc2_32 = zr ca2 (36 * a0.toInt.toNat) 36 := h_37
            have h_37 : sc2_32 = zr ca2 (36 * a0.toInt.toNat) 36 := h_37
            refine lv_iconst (v := 1) hx hb dX10_sheet_83 (by decide +kernel) ?_
            exact hRet (cb, sc0_30, sc1_31, sc2_32) [0, 2, 1, 3, 4, 5] ⟨(by (try dsimp only); unfold sp_sheet; (repeat (first | rw [if_pos (by omega)] | rw [if_neg (by omega)]))), (by (try dsimp only); unfold shB; (repeat (first | rw [if_pos (by omega)] | rw [if_neg (by omega)])); first | done | exact h_35), (by (try dsimp only); unfold shB; (repeat (first | rw [if_pos (by omega)] | rw [if_neg (by omega)])); rw [h_36]; unfold shD; (repeat (first | rw [if_pos (by omega)] | rw [if_neg (by omega)]))), (by (try dsimp only); unfold shN; (repeat (first | rw [if_pos (by omega)] | rw [if_neg (by omega)])); first | done | exact h_37), (by assumption)⟩ hP hD (by decide +kernel) rfl hS rfl dX10_sheet_84
          · refine lv_aload_n hx hb dX10_sheet_59 rfl (lv_at hl 0 rfl) ?_
            refine lv_iconst (v := 1) hx hb dX10_sheet_60 (by decide +kernel) ?_
            refine kJi (wr := [(ka, .inr (6, [.ref ka0, .ref ka1, .ref ka2])), (ka0, .inl (cI, 4, .inl ca0)), (ka1, .inl (cI, 4, .inl ca1)), (ka2, .inl (cI, 144, .inl ca2))]) (va_runV (As := [.int 1]) (rest := []) ⟨hx, hb, hml, hown, hT⟩ (c_X10_findingG l D cI aK aV k k0 k1 k2 k3 k4 k5 k6 k7 k8 k9 ka kb H.size cc cb 1) (cwV 1 hT (gV_in mw_338 mw_335 mw_337 mw_p1_0 mw_1) rfl rfl rfl (by decide +kernel) ⟨Nat.le_of_ble_eq_true rfl, Nat.le_of_ble_eq_true rfl⟩) (kRecvX (q0 := 0) (ci := 10) hK hP hD hN hXS hS hA rfl rfl [0, 2] rfl (by decide +kernel)) rfl rfl hl.1 rfl (lv_room (Nat.le_of_ble_eq_true rfl)) dX10_sheet_61 ⟨Nat.le_of_ble_eq_true rfl, Nat.le_of_ble_eq_true rfl⟩) hP hD hS hA [0, 2] [1, 3, 4, 5] rfl rfl (by decide +kernel) (by decide +kernel) ?_
            clear hP hD hS
            intro r_38 scb_40 H locs w_39 hP hD hS
            replace hP : va_P D vwCl [(ka, .inr (6, [.ref ka0, .ref ka1, .ref ka2])), (ka0, .inl (cI, 4, .inl ca0)), (ka1, .inl (cI, 4, .inl ca1)), (ka2, .inl (cI, 144, .inl ca2)), (k, .inr (10, [.ref k0, .ref k1, .ref k2, .ref k3, .ref k4, .ref k5, .ref k6, .ref k7, .ref k8, .ref k9, .ref ka, .ref kb, .int cc])), (kb, .inl (cI, 6, .inl scb_40))] H := hP
            replace hD : va_D A [(ka, .inr (6, [.ref ka0, .ref ka1, .ref ka2])), (ka0, .inl (cI, 4, .inl ca0)), (ka1, .inl (cI, 4, .inl ca1)), (ka2, .inl (cI, 144, .inl ca2)), (k, .inr (10, [.ref k0, .ref k1, .ref k2, .ref k3, .ref k4, .ref k5, .ref k6, .ref k7, .ref k8, .ref k9, .ref ka, .ref kb, .int cc])), (kb, .inl (cI, 6, .inl scb_40))] := hD
            have hr_38 := w_39
            obtain rfl : r_38 = (-1000001) := hr_38.trans (by decide +kernel)
            exact hRet (scb_40, ca0, ca1, ca2) [4, 0, 5, 1, 2, 3] ⟨(by (try dsimp only); unfold sp_sheet; (repeat (first | rw [if_pos (by omega)] | rw [if_neg (by omega)]))), (by (try dsimp only); unfold shB; (repeat (first | rw [if_pos (by omega)] | rw [if_neg (by omega)]))), (by (try dsimp only); unfold shB; (repeat (first | rw [if_pos (by omega)] | rw [if_neg (by omega)]))), (by (try dsimp only); unfold shN; (repeat (first | rw [if_pos (by omega)] | rw [if_neg (by omega)]))), pre0⟩ hP hD (by decide +kernel) rfl hS rfl dX10_sheet_64
        · refine lv_aload_n hx hb dX10_sheet_43 rfl (lv_at hl 0 rfl) ?_
          refine lv_iconst (v := 3) hx hb dX10_sheet_44 (by decide +kernel) ?_
          refine kJi (wr := [(ka, .inr (6, [.ref ka0, .ref ka1, .ref ka2])), (ka0, .inl (cI, 4, .inl ca0)), (ka1, .inl (cI, 4, .inl ca1)), (ka2, .inl (cI, 144, .inl ca2))]) (va_runV (As := [.int 3]) (rest := []) ⟨hx, hb, hml, hown, hT⟩ (c_X10_findingG l D cI aK aV k k0 k1 k2 k3 k4 k5 k6 k7 k8 k9 ka kb H.size cc cb 3) (cwV 1 hT (gV_in mw_338 mw_335 mw_337 mw_p1_0 mw_1) rfl rfl rfl (by decide +kernel) ⟨Nat.le_of_ble_eq_true rfl, Nat.le_of_ble_eq_true rfl⟩) (kRecvX (q0 := 0) (ci := 10) hK hP hD hN hXS hS hA rfl rfl [0, 2] rfl (by decide +kernel)) rfl rfl hl.1 rfl (lv_room (Nat.le_of_ble_eq_true rfl)) dX10_sheet_45 ⟨Nat.le_of_ble_eq_true rfl, Nat.le_of_ble_eq_true rfl⟩) hP hD hS hA [0, 2] [1, 3, 4, 5] rfl rfl (by decide +kernel) (by decide +kernel) ?_
          clear hP hD hS
          intro r_41 scb_43 H locs w_42 hP hD hS
          replace hP : va_P D vwCl [(ka, .inr (6, [.ref ka0, .ref ka1, .ref ka2])), (ka0, .inl (cI, 4, .inl ca0)), (ka1, .inl (cI, 4, .inl ca1)), (ka2, .inl (cI, 144, .inl ca2)), (k, .inr (10, [.ref k0, .ref k1, .ref k2, .ref k3, .ref k4, .ref k5, .ref k6, .ref k7, .ref k8, .ref k9, .ref ka, .ref kb, .int cc])), (kb, .inl (cI, 6, .inl scb_43))] H := hP
          replace hD : va_D A [(ka, .inr (6, [.ref ka0, .ref ka1, .ref ka2])), (ka0, .inl (cI, 4, .inl ca0)), (ka1, .inl (cI, 4, .inl ca1)), (ka2, .inl (cI, 144, .inl ca2)), (k, .inr (10, [.ref k0, .ref k1, .ref k2, .ref k3, .ref k4, .ref k5, .ref k6, .ref k7, .ref k8, .ref k9, .ref ka, .ref kb, .int cc])), (kb, .inl (cI, 6, .inl scb_43))] := hD
          have hr_41 := w_42
          obtain rfl : r_41 = (-1000003) := hr_41.trans (by decide +kernel)
          exact hRet (scb_43, ca0, ca1, ca2) [4, 0, 5, 1, 2, 3] ⟨(by (try dsimp only); unfold sp_sheet; (repeat (first | rw [if_pos (by omega)] | rw [if_neg (by omega)]))), (by (try dsimp only); unfold shB; (repeat (first | rw [if_pos (by omega)] | rw [if_neg (by omega)]))), (by (try dsimp only); unfold shB; (repeat (first | rw [if_pos (by omega)] | rw [if_neg (by omega)]))), (by (try dsimp only); unfold shN; (repeat (first | rw [if_pos (by omega)] | rw [if_neg (by omega)]))), pre0⟩ hP hD (by decide +kernel) rfl hS rfl dX10_sheet_48
      · refine lv_iload_n hx hb dX10_sheet_17 rfl (lv_at hl 2 rfl) ?_
        refine lv_bipush (v := 16) hx hb dX10_sheet_18 (by decide +kernel) ?_
        refine b_icmp_eq hx hb rfl zl_16 (tgt := 35) dX10_sheet_20 (by decide +kernel) (fun c_44 => ?_) (fun c_44 => ?_)
        · refine lv_iload_n hx hb dX10_sheet_35 rfl (lv_at hl 2 rfl) ?_
          refine b_if_eq hx hb rfl (tgt := 49) dX10_sheet_36 (by decide +kernel) (fun c_45 => by exfalso; omega) (fun c_45 => ?_)
          refine lv_iload_n hx hb dX10_sheet_39 rfl (lv_at hl 3 rfl) ?_
          refine b_if_ge hx hb rfl (tgt := 49) dX10_sheet_40 (by decide +kernel) (fun c_46 => ?_) (fun c_46 => ?_)
          · refine lv_iload_n hx hb dX10_sheet_49 rfl (lv_at hl 2 rfl) ?_
            refine b_if_eq hx hb rfl (tgt := 65) dX10_sheet_50 (by decide +kernel) (fun c_47 => by exfalso; omega) (fun c_47 => ?_)
            refine lv_iload_n hx hb dX10_sheet_53 rfl (lv_at hl 3 rfl) ?_
            refine lv_bipush (v := 36) hx hb dX10_sheet_54 (by decide +kernel) ?_
            refine b_icmp_le hx hb rfl zl_36 (tgt := 65) dX10_sheet_56 (by decide +kernel) (fun c_48 => ?_) (fun c_48 => ?_)
            · refine lv_aload_n hx hb dX10_sheet_65 rfl (lv_at hl 0 rfl) ?_
              refine va_get (D := D) (ci := 10) (v := .ref ka) (C := RX10) (T := TX10) (N := 13) hx hb hT giX10 hown hK hP 0 rfl rfl 10 (by decide +kernel) (hT (Cond.fieldLink RX10 70 "DesertWire" "sheets" "LDesertWire$Sheets;") mw_301) (fun _ h9 => h9) rfl dX10_sheet_66 ?_
              refine lv_iload_n hx hb dX10_sheet_69 rfl (lv_at hl 1 rfl) ?_
              refine lv_iload_n hx hb dX10_sheet_70 rfl (lv_at hl 2 rfl) ?_
              refine lv_iload_n hx hb dX10_sheet_71 rfl (lv_at hl 2 rfl) ?_
              refine b_if_ne hx hb rfl (tgt := 79) dX10_sheet_72 (by decide +kernel) (fun c_49 => ?_) (fun c_49 => by exfalso; omega)
              refine lv_iload_n hx hb dX10_sheet_79 rfl (lv_at hl 3 rfl) ?_
              refine kJv (wr := [(k, .inr (10, [.ref k0, .ref k1, .ref k2, .ref k3, .ref k4, .ref k5, .ref k6, .ref k7, .ref k8, .ref k9, .ref ka, .ref kb, .int cc])), (kb, .inl (cI, 6, .inl cb))]) (va_runV (As := [.int a0, .int a1, .int a2]) (rest := []) ⟨hx, hb, hml, hown, hT⟩ (c_X6_blankG l D cI aK aV ka ka0 ka1 ka2 H.size ca0 ca1 ca2 a0 a1 a2 (by first | omega | decide | assumption | rfl) (by first | omega | decide | assumption | rfl) (by first | omega | decide | assumption | rfl) (by first | omega | decide | assumption | rfl) (by first | omega | decide | assumption | rfl)) (cwV 3 hT (gV_in mw_1076 mw_1073 mw_1074 mw_1075 mw_11) rfl rfl rfl (by decide +kernel) ⟨Nat.le_of_ble_eq_true rfl, Nat.le_of_ble_eq_true rfl⟩) (kRecvX (q0 := 1) (ci := 6) hK hP hD hN hXS hS hA rfl rfl [1, 3, 4, 5] rfl (by decide +kernel)) rfl rfl hl.1 rfl (lv_room (Nat.le_of_ble_eq_true rfl)) dX10_sheet_80 ⟨Nat.le_of_ble_eq_true rfl, Nat.le_of_ble_eq_true rfl⟩) hP hD hS hA [1, 3, 4, 5] [0, 2] rfl rfl (by decide +kernel) (by decide +kernel) ?_
              clear hP hD hS
              intro u_55 H locs w_51 hP hD hS
              obtain ⟨sc0_52, sc1_53, sc2_54⟩ := u_55
              replace hP : va_P D vwCl [(k, .inr (10, [.ref k0, .ref k1, .ref k2, .ref k3, .ref k4, .ref k5, .ref k6, .ref k7, .ref k8, .ref k9, .ref ka, .ref kb, .int cc])), (kb, .inl (cI, 6, .inl cb)), (ka, .inr (6, [.ref ka0, .ref ka1, .ref ka2])), (ka0, .inl (cI, 4, .inl sc0_52)), (ka1, .inl (cI, 4, .inl sc1_53)), (ka2, .inl (cI, 144, .inl sc2_54))] H := hP
              replace hD : va_D A [(k, .inr (10, [.ref k0, .ref k1, .ref k2, .ref k3, .ref k4, .ref k5, .ref k6, .ref k7, .ref k8, .ref k9, .ref ka, .ref kb, .int cc])), (kb, .inl (cI, 6, .inl cb)), (ka, .inr (6, [.ref ka0, .ref ka1, .ref ka2])), (ka0, .inl (cI, 4, .inl sc0_52)), (ka1, .inl (cI, 4, .inl sc1_53)), (ka2, .inl (cI, 144, .inl sc2_54))] := hD
              obtain ⟨h_56, h_57, h_58, h_59⟩ := w_51
              have h_56 : ∀ ka : Nat, ka < 4 → 0 ≤ (sc1_53 ka).toInt ∧ (sc1_53 ka).toInt ≤ 36 := h_56
              have h_57 : sc0_52 = upd ca0 a0.toNatClampNeg a1 := h_57
              have h_58 : sc1_53 = upd ca1 a0.toNatClampNeg a2 := h_58
              have h_59 : sc2_54 = zr ca2 (36 * a0.toInt.toNat) 36 := h_59
              have h_59 : sc2_54 = zr ca2 (36 * a0.toInt.toNat) 36 := h_59
              refine lv_iconst (v := 1) hx hb dX10_sheet_83 (by decide +kernel) ?_
              exact hRet (cb, sc0_52, sc1_53, sc2_54) [0, 2, 1, 3, 4, 5] ⟨(by (try dsimp only); unfold sp_sheet; (repeat (first | rw [if_pos (by omega)] | rw [if_neg (by omega)]))), (by (try dsimp only); unfold shB; (repeat (first | rw [if_pos (by omega)] | rw [if_neg (by omega)])); first | done | exact h_57), (by (try dsimp only); unfold shB; (repeat (first | rw [if_pos (by omega)] | rw [if_neg (by omega)])); rw [h_58]; unfold shD; (repeat (first | rw [if_pos (by omega)] | rw [if_neg (by omega)]))), (by (try dsimp only); unfold shN; (repeat (first | rw [if_pos (by omega)] | rw [if_neg (by omega)])); first | done | exact h_59), (by assumption)⟩ hP hD (by decide +kernel) rfl hS rfl dX10_sheet_84
            · refine lv_aload_n hx hb dX10_sheet_59 rfl (lv_at hl 0 rfl) ?_
              refine lv_iconst (v := 1) hx hb dX10_sheet_60 (by decide +kernel) ?_
              refine kJi (wr := [(ka, .inr (6, [.ref ka0, .ref ka1, .ref ka2])), (ka0, .inl (cI, 4, .inl ca0)), (ka1, .inl (cI, 4, .inl ca1)), (ka2, .inl (cI, 144, .inl ca2))]) (va_runV (As := [.int 1]) (rest := []) ⟨hx, hb, hml, hown, hT⟩ (c_X10_findingG l D cI aK aV k k0 k1 k2 k3 k4 k5 k6 k7 k8 k9 ka kb H.size cc cb 1) (cwV 1 hT (gV_in mw_338 mw_335 mw_337 mw_p1_0 mw_1) rfl rfl rfl (by decide +kernel) ⟨Nat.le_of_ble_eq_true rfl, Nat.le_of_ble_eq_true rfl⟩) (kRecvX (q0 := 0) (ci := 10) hK hP hD hN hXS hS hA rfl rfl [0, 2] rfl (by decide +kernel)) rfl rfl hl.1 rfl (lv_room (Nat.le_of_ble_eq_true rfl)) dX10_sheet_61 ⟨Nat.le_of_ble_eq_true rfl, Nat.le_of_ble_eq_true rfl⟩) hP hD hS hA [0, 2] [1, 3, 4, 5] rfl rfl (by decide +kernel) (by decide +kernel) ?_
              clear hP hD hS
              intro r_60 scb_62 H locs w_61 hP hD hS
              replace hP : va_P D vwCl [(ka, .inr (6, [.ref ka0, .ref ka1, .ref ka2])), (ka0, .inl (cI, 4, .inl ca0)), (ka1, .inl (cI, 4, .inl ca1)), (ka2, .inl (cI, 144, .inl ca2)), (k, .inr (10, [.ref k0, .ref k1, .ref k2, .ref k3, .ref k4, .ref k5, .ref k6, .ref k7, .ref k8, .ref k9, .ref ka, .ref kb, .int cc])), (kb, .inl (cI, 6, .inl scb_62))] H := hP
              replace hD : va_D A [(ka, .inr (6, [.ref ka0, .ref ka1, .ref ka2])), (ka0, .inl (cI, 4, .inl ca0)), (ka1, .inl (cI, 4, .inl ca1)), (ka2, .inl (cI, 144, .inl ca2)), (k, .inr (10, [.ref k0, .ref k1, .ref k2, .ref k3, .ref k4, .ref k5, .ref k6, .ref k7, .ref k8, .ref k9, .ref ka, .ref kb, .int cc])), (kb, .inl (cI, 6, .inl scb_62))] := hD
              have hr_60 := w_61
              obtain rfl : r_60 = (-1000001) := hr_60.trans (by decide +kernel)
              exact hRet (scb_62, ca0, ca1, ca2) [4, 0, 5, 1, 2, 3] ⟨(by (try dsimp only); unfold sp_sheet; (repeat (first | rw [if_pos (by omega)] | rw [if_neg (by omega)]))), (by (try dsimp only); unfold shB; (repeat (first | rw [if_pos (by omega)] | rw [if_neg (by omega)]))), (by (try dsimp only); unfold shB; (repeat (first | rw [if_pos (by omega)] | rw [if_neg (by omega)]))), (by (try dsimp only); unfold shN; (repeat (first | rw [if_pos (by omega)] | rw [if_neg (by omega)]))), pre0⟩ hP hD (by decide +kernel) rfl hS rfl dX10_sheet_64
          · refine lv_aload_n hx hb dX10_sheet_43 rfl (lv_at hl 0 rfl) ?_
            refine lv_iconst (v := 3) hx hb dX10_sheet_44 (by decide +kernel) ?_
            refine kJi (wr := [(ka, .inr (6, [.ref ka0, .ref ka1, .ref ka2])), (ka0, .inl (cI, 4, .inl ca0)), (ka1, .inl (cI, 4, .inl ca1)), (ka2, .inl (cI, 144, .inl ca2))]) (va_runV (As := [.int 3]) (rest := []) ⟨hx, hb, hml, hown, hT⟩ (c_X10_findingG l D cI aK aV k k0 k1 k2 k3 k4 k5 k6 k7 k8 k9 ka kb H.size cc cb 3) (cwV 1 hT (gV_in mw_338 mw_335 mw_337 mw_p1_0 mw_1) rfl rfl rfl (by decide +kernel) ⟨Nat.le_of_ble_eq_true rfl, Nat.le_of_ble_eq_true rfl⟩) (kRecvX (q0 := 0) (ci := 10) hK hP hD hN hXS hS hA rfl rfl [0, 2] rfl (by decide +kernel)) rfl rfl hl.1 rfl (lv_room (Nat.le_of_ble_eq_true rfl)) dX10_sheet_45 ⟨Nat.le_of_ble_eq_true rfl, Nat.le_of_ble_eq_true rfl⟩) hP hD hS hA [0, 2] [1, 3, 4, 5] rfl rfl (by decide +kernel) (by decide +kernel) ?_
            clear hP hD hS
            intro r_63 scb_65 H locs w_64 hP hD hS
            replace hP : va_P D vwCl [(ka, .inr (6, [.ref ka0, .ref ka1, .ref ka2])), (ka0, .inl (cI, 4, .inl ca0)), (ka1, .inl (cI, 4, .inl ca1)), (ka2, .inl (cI, 144, .inl ca2)), (k, .inr (10, [.ref k0, .ref k1, .ref k2, .ref k3, .ref k4, .ref k5, .ref k6, .ref k7, .ref k8, .ref k9, .ref ka, .ref kb, .int cc])), (kb, .inl (cI, 6, .inl scb_65))] H := hP
            replace hD : va_D A [(ka, .inr (6, [.ref ka0, .ref ka1, .ref ka2])), (ka0, .inl (cI, 4, .inl ca0)), (ka1, .inl (cI, 4, .inl ca1)), (ka2, .inl (cI, 144, .inl ca2)), (k, .inr (10, [.ref k0, .ref k1, .ref k2, .ref k3, .ref k4, .ref k5, .ref k6, .ref k7, .ref k8, .ref k9, .ref ka, .ref kb, .int cc])), (kb, .inl (cI, 6, .inl scb_65))] := hD
            have hr_63 := w_64
            obtain rfl : r_63 = (-1000003) := hr_63.trans (by decide +kernel)
            exact hRet (scb_65, ca0, ca1, ca2) [4, 0, 5, 1, 2, 3] ⟨(by (try dsimp only); unfold sp_sheet; (repeat (first | rw [if_pos (by omega)] | rw [if_neg (by omega)]))), (by (try dsimp only); unfold shB; (repeat (first | rw [if_pos (by omega)] | rw [if_neg (by omega)]))), (by (try dsimp only); unfold shB; (repeat (first | rw [if_pos (by omega)] | rw [if_neg (by omega)]))), (by (try dsimp only); unfold shN; (repeat (first | rw [if_pos (by omega)] | rw [if_neg (by omega)]))), pre0⟩ hP hD (by decide +kernel) rfl hS rfl dX10_sheet_48
        · refine lv_iload_n hx hb dX10_sheet_23 rfl (lv_at hl 2 rfl) ?_
          refine lv_bipush (v := 32) hx hb dX10_sheet_24 (by decide +kernel) ?_
          refine b_icmp_eq hx hb rfl zl_32 (tgt := 35) dX10_sheet_26 (by decide +kernel) (fun c_66 => ?_) (fun c_66 => ?_)
          · refine lv_iload_n hx hb dX10_sheet_35 rfl (lv_at hl 2 rfl) ?_
            refine b_if_eq hx hb rfl (tgt := 49) dX10_sheet_36 (by decide +kernel) (fun c_67 => by exfalso; omega) (fun c_67 => ?_)
            refine lv_iload_n hx hb dX10_sheet_39 rfl (lv_at hl 3 rfl) ?_
            refine b_if_ge hx hb rfl (tgt := 49) dX10_sheet_40 (by decide +kernel) (fun c_68 => ?_) (fun c_68 => ?_)
            · refine lv_iload_n hx hb dX10_sheet_49 rfl (lv_at hl 2 rfl) ?_
              refine b_if_eq hx hb rfl (tgt := 65) dX10_sheet_50 (by decide +kernel) (fun c_69 => by exfalso; omega) (fun c_69 => ?_)
              refine lv_iload_n hx hb dX10_sheet_53 rfl (lv_at hl 3 rfl) ?_
              refine lv_bipush (v := 36) hx hb dX10_sheet_54 (by decide +kernel) ?_
              refine b_icmp_le hx hb rfl zl_36 (tgt := 65) dX10_sheet_56 (by decide +kernel) (fun c_70 => ?_) (fun c_70 => ?_)
              · refine lv_aload_n hx hb dX10_sheet_65 rfl (lv_at hl 0 rfl) ?_
                refine va_get (D := D) (ci := 10) (v := .ref ka) (C := RX10) (T := TX10) (N := 13) hx hb hT giX10 hown hK hP 0 rfl rfl 10 (by decide +kernel) (hT (Cond.fieldLink RX10 70 "DesertWire" "sheets" "LDesertWire$Sheets;") mw_301) (fun _ h9 => h9) rfl dX10_sheet_66 ?_
                refine lv_iload_n hx hb dX10_sheet_69 rfl (lv_at hl 1 rfl) ?_
                refine lv_iload_n hx hb dX10_sheet_70 rfl (lv_at hl 2 rfl) ?_
                refine lv_iload_n hx hb dX10_sheet_71 rfl (lv_at hl 2 rfl) ?_
                refine b_if_ne hx hb rfl (tgt := 79) dX10_sheet_72 (by decide +kernel) (fun c_71 => ?_) (fun c_71 => by exfalso; omega)
                refine lv_iload_n hx hb dX10_sheet_79 rfl (lv_at hl 3 rfl) ?_
                refine kJv (wr := [(k, .inr (10, [.ref k0, .ref k1, .ref k2, .ref k3, .ref k4, .ref k5, .ref k6, .ref k7, .ref k8, .ref k9, .ref ka, .ref kb, .int cc])), (kb, .inl (cI, 6, .inl cb))]) (va_runV (As := [.int a0, .int a1, .int a2]) (rest := []) ⟨hx, hb, hml, hown, hT⟩ (c_X6_blankG l D cI aK aV ka ka0 ka1 ka2 H.size ca0 ca1 ca2 a0 a1 a2 (by first | omega | decide | assumption | rfl) (by first | omega | decide | assumption | rfl) (by first | omega | decide | assumption | rfl) (by first | omega | decide | assumption | rfl) (by first | omega | decide | assumption | rfl)) (cwV 3 hT (gV_in mw_1076 mw_1073 mw_1074 mw_1075 mw_11) rfl rfl rfl (by decide +kernel) ⟨Nat.le_of_ble_eq_true rfl, Nat.le_of_ble_eq_true rfl⟩) (kRecvX (q0 := 1) (ci := 6) hK hP hD hN hXS hS hA rfl rfl [1, 3, 4, 5] rfl (by decide +kernel)) rfl rfl hl.1 rfl (lv_room (Nat.le_of_ble_eq_true rfl)) dX10_sheet_80 ⟨Nat.le_of_ble_eq_true rfl, Nat.le_of_ble_eq_true rfl⟩) hP hD hS hA [1, 3, 4, 5] [0, 2] rfl rfl (by decide +kernel) (by decide +kernel) ?_
                clear hP hD hS
                intro u_77 H locs w_73 hP hD hS
                obtain ⟨sc0_74, sc1_75, sc2_76⟩ := u_77
                replace hP : va_P D vwCl [(k, .inr (10, [.ref k0, .ref k1, .ref k2, .ref k3, .ref k4, .ref k5, .ref k6, .ref k7, .ref k8, .ref k9, .ref ka, .ref kb, .int cc])), (kb, .inl (cI, 6, .inl cb)), (ka, .inr (6, [.ref ka0, .ref ka1, .ref ka2])), (ka0, .inl (cI, 4, .inl sc0_74)), (ka1, .inl (cI, 4, .inl sc1_75)), (ka2, .inl (cI, 144, .inl sc2_76))] H := hP
                replace hD : va_D A [(k, .inr (10, [.ref k0, .ref k1, .ref k2, .ref k3, .ref k4, .ref k5, .ref k6, .ref k7, .ref k8, .ref k9, .ref ka, .ref kb, .int cc])), (kb, .inl (cI, 6, .inl cb)), (ka, .inr (6, [.ref ka0, .ref ka1, .ref ka2])), (ka0, .inl (cI, 4, .inl sc0_74)), (ka1, .inl (cI, 4, .inl sc1_75)), (ka2, .inl (cI, 144, .inl sc2_76))] := hD
                obtain ⟨h_78, h_79, h_80, h_81⟩ := w_73
                have h_78 : ∀ ka : Nat, ka < 4 → 0 ≤ (sc1_75 ka).toInt ∧ (sc1_75 ka).toInt ≤ 36 := h_78
                have h_79 : sc0_74 = upd ca0 a0.toNatClampNeg a1 := h_79
                have h_80 : sc1_75 = upd ca1 a0.toNatClampNeg a2 := h_80
                have h_81 : sc2_76 = zr ca2 (36 * a0.toInt.toNat) 36 := h_81
                have h_81 : sc2_76 = zr ca2 (36 * a0.toInt.toNat) 36 := h_81
                refine lv_iconst (v := 1) hx hb dX10_sheet_83 (by decide +kernel) ?_
                exact hRet (cb, sc0_74, sc1_75, sc2_76) [0, 2, 1, 3, 4, 5] ⟨(by (try dsimp only); unfold sp_sheet; (repeat (first | rw [if_pos (by omega)] | rw [if_neg (by omega)]))), (by (try dsimp only); unfold shB; (repeat (first | rw [if_pos (by omega)] | rw [if_neg (by omega)])); first | done | exact h_79), (by (try dsimp only); unfold shB; (repeat (first | rw [if_pos (by omega)] | rw [if_neg (by omega)])); rw [h_80]; unfold shD; (repeat (first | rw [if_pos (by omega)] | rw [if_neg (by omega)]))), (by (try dsimp only); unfold shN; (repeat (first | rw [if_pos (by omega)] | rw [if_neg (by omega)])); first | done | exact h_81), (by assumption)⟩ hP hD (by decide +kernel) rfl hS rfl dX10_sheet_84
              · refine lv_aload_n hx hb dX10_sheet_59 rfl (lv_at hl 0 rfl) ?_
                refine lv_iconst (v := 1) hx hb dX10_sheet_60 (by decide +kernel) ?_
                refine kJi (wr := [(ka, .inr (6, [.ref ka0, .ref ka1, .ref ka2])), (ka0, .inl (cI, 4, .inl ca0)), (ka1, .inl (cI, 4, .inl ca1)), (ka2, .inl (cI, 144, .inl ca2))]) (va_runV (As := [.int 1]) (rest := []) ⟨hx, hb, hml, hown, hT⟩ (c_X10_findingG l D cI aK aV k k0 k1 k2 k3 k4 k5 k6 k7 k8 k9 ka kb H.size cc cb 1) (cwV 1 hT (gV_in mw_338 mw_335 mw_337 mw_p1_0 mw_1) rfl rfl rfl (by decide +kernel) ⟨Nat.le_of_ble_eq_true rfl, Nat.le_of_ble_eq_true rfl⟩) (kRecvX (q0 := 0) (ci := 10) hK hP hD hN hXS hS hA rfl rfl [0, 2] rfl (by decide +kernel)) rfl rfl hl.1 rfl (lv_room (Nat.le_of_ble_eq_true rfl)) dX10_sheet_61 ⟨Nat.le_of_ble_eq_true rfl, Nat.le_of_ble_eq_true rfl⟩) hP hD hS hA [0, 2] [1, 3, 4, 5] rfl rfl (by decide +kernel) (by decide +kernel) ?_
                clear hP hD hS
                intro r_82 scb_84 H locs w_83 hP hD hS
                replace hP : va_P D vwCl [(ka, .inr (6, [.ref ka0, .ref ka1, .ref ka2])), (ka0, .inl (cI, 4, .inl ca0)), (ka1, .inl (cI, 4, .inl ca1)), (ka2, .inl (cI, 144, .inl ca2)), (k, .inr (10, [.ref k0, .ref k1, .ref k2, .ref k3, .ref k4, .ref k5, .ref k6, .ref k7, .ref k8, .ref k9, .ref ka, .ref kb, .int cc])), (kb, .inl (cI, 6, .inl scb_84))] H := hP
                replace hD : va_D A [(ka, .inr (6, [.ref ka0, .ref ka1, .ref ka2])), (ka0, .inl (cI, 4, .inl ca0)), (ka1, .inl (cI, 4, .inl ca1)), (ka2, .inl (cI, 144, .inl ca2)), (k, .inr (10, [.ref k0, .ref k1, .ref k2, .ref k3, .ref k4, .ref k5, .ref k6, .ref k7, .ref k8, .ref k9, .ref ka, .ref kb, .int cc])), (kb, .inl (cI, 6, .inl scb_84))] := hD
                have hr_82 := w_83
                obtain rfl : r_82 = (-1000001) := hr_82.trans (by decide +kernel)
                exact hRet (scb_84, ca0, ca1, ca2) [4, 0, 5, 1, 2, 3] ⟨(by (try dsimp only); unfold sp_sheet; (repeat (first | rw [if_pos (by omega)] | rw [if_neg (by omega)]))), (by (try dsimp only); unfold shB; (repeat (first | rw [if_pos (by omega)] | rw [if_neg (by omega)]))), (by (try dsimp only); unfold shB; (repeat (first | rw [if_pos (by omega)] | rw [if_neg (by omega)]))), (by (try dsimp only); unfold shN; (repeat (first | rw [if_pos (by omega)] | rw [if_neg (by omega)]))), pre0⟩ hP hD (by decide +kernel) rfl hS rfl dX10_sheet_64
            · refine lv_aload_n hx hb dX10_sheet_43 rfl (lv_at hl 0 rfl) ?_
              refine lv_iconst (v := 3) hx hb dX10_sheet_44 (by decide +kernel) ?_
              refine kJi (wr := [(ka, .inr (6, [.ref ka0, .ref ka1, .ref ka2])), (ka0, .inl (cI, 4, .inl ca0)), (ka1, .inl (cI, 4, .inl ca1)), (ka2, .inl (cI, 144, .inl ca2))]) (va_runV (As := [.int 3]) (rest := []) ⟨hx, hb, hml, hown, hT⟩ (c_X10_findingG l D cI aK aV k k0 k1 k2 k3 k4 k5 k6 k7 k8 k9 ka kb H.size cc cb 3) (cwV 1 hT (gV_in mw_338 mw_335 mw_337 mw_p1_0 mw_1) rfl rfl rfl (by decide +kernel) ⟨Nat.le_of_ble_eq_true rfl, Nat.le_of_ble_eq_true rfl⟩) (kRecvX (q0 := 0) (ci := 10) hK hP hD hN hXS hS hA rfl rfl [0, 2] rfl (by decide +kernel)) rfl rfl hl.1 rfl (lv_room (Nat.le_of_ble_eq_true rfl)) dX10_sheet_45 ⟨Nat.le_of_ble_eq_true rfl, Nat.le_of_ble_eq_true rfl⟩) hP hD hS hA [0, 2] [1, 3, 4, 5] rfl rfl (by decide +kernel) (by decide +kernel) ?_
              clear hP hD hS
              intro r_85 scb_87 H locs w_86 hP hD hS
              replace hP : va_P D vwCl [(ka, .inr (6, [.ref ka0, .ref ka1, .ref ka2])), (ka0, .inl (cI, 4, .inl ca0)), (ka1, .inl (cI, 4, .inl ca1)), (ka2, .inl (cI, 144, .inl ca2)), (k, .inr (10, [.ref k0, .ref k1, .ref k2, .ref k3, .ref k4, .ref k5, .ref k6, .ref k7, .ref k8, .ref k9, .ref ka, .ref kb, .int cc])), (kb, .inl (cI, 6, .inl scb_87))] H := hP
              replace hD : va_D A [(ka, .inr (6, [.ref ka0, .ref ka1, .ref ka2])), (ka0, .inl (cI, 4, .inl ca0)), (ka1, .inl (cI, 4, .inl ca1)), (ka2, .inl (cI, 144, .inl ca2)), (k, .inr (10, [.ref k0, .ref k1, .ref k2, .ref k3, .ref k4, .ref k5, .ref k6, .ref k7, .ref k8, .ref k9, .ref ka, .ref kb, .int cc])), (kb, .inl (cI, 6, .inl scb_87))] := hD
              have hr_85 := w_86
              obtain rfl : r_85 = (-1000003) := hr_85.trans (by decide +kernel)
              exact hRet (scb_87, ca0, ca1, ca2) [4, 0, 5, 1, 2, 3] ⟨(by (try dsimp only); unfold sp_sheet; (repeat (first | rw [if_pos (by omega)] | rw [if_neg (by omega)]))), (by (try dsimp only); unfold shB; (repeat (first | rw [if_pos (by omega)] | rw [if_neg (by omega)]))), (by (try dsimp only); unfold shB; (repeat (first | rw [if_pos (by omega)] | rw [if_neg (by omega)]))), (by (try dsimp only); unfold shN; (repeat (first | rw [if_pos (by omega)] | rw [if_neg (by omega)]))), pre0⟩ hP hD (by decide +kernel) rfl hS rfl dX10_sheet_48
          · refine lv_aload_n hx hb dX10_sheet_29 rfl (lv_at hl 0 rfl) ?_
            refine lv_iconst (v := 1) hx hb dX10_sheet_30 (by decide +kernel) ?_
            refine kJi (wr := [(ka, .inr (6, [.ref ka0, .ref ka1, .ref ka2])), (ka0, .inl (cI, 4, .inl ca0)), (ka1, .inl (cI, 4, .inl ca1)), (ka2, .inl (cI, 144, .inl ca2))]) (va_runV (As := [.int 1]) (rest := []) ⟨hx, hb, hml, hown, hT⟩ (c_X10_findingG l D cI aK aV k k0 k1 k2 k3 k4 k5 k6 k7 k8 k9 ka kb H.size cc cb 1) (cwV 1 hT (gV_in mw_338 mw_335 mw_337 mw_p1_0 mw_1) rfl rfl rfl (by decide +kernel) ⟨Nat.le_of_ble_eq_true rfl, Nat.le_of_ble_eq_true rfl⟩) (kRecvX (q0 := 0) (ci := 10) hK hP hD hN hXS hS hA rfl rfl [0, 2] rfl (by decide +kernel)) rfl rfl hl.1 rfl (lv_room (Nat.le_of_ble_eq_true rfl)) dX10_sheet_31 ⟨Nat.le_of_ble_eq_true rfl, Nat.le_of_ble_eq_true rfl⟩) hP hD hS hA [0, 2] [1, 3, 4, 5] rfl rfl (by decide +kernel) (by decide +kernel) ?_
            clear hP hD hS
            intro r_88 scb_90 H locs w_89 hP hD hS
            replace hP : va_P D vwCl [(ka, .inr (6, [.ref ka0, .ref ka1, .ref ka2])), (ka0, .inl (cI, 4, .inl ca0)), (ka1, .inl (cI, 4, .inl ca1)), (ka2, .inl (cI, 144, .inl ca2)), (k, .inr (10, [.ref k0, .ref k1, .ref k2, .ref k3, .ref k4, .ref k5, .ref k6, .ref k7, .ref k8, .ref k9, .ref ka, .ref kb, .int cc])), (kb, .inl (cI, 6, .inl scb_90))] H := hP
            replace hD : va_D A [(ka, .inr (6, [.ref ka0, .ref ka1, .ref ka2])), (ka0, .inl (cI, 4, .inl ca0)), (ka1, .inl (cI, 4, .inl ca1)), (ka2, .inl (cI, 144, .inl ca2)), (k, .inr (10, [.ref k0, .ref k1, .ref k2, .ref k3, .ref k4, .ref k5, .ref k6, .ref k7, .ref k8, .ref k9, .ref ka, .ref kb, .int cc])), (kb, .inl (cI, 6, .inl scb_90))] := hD
            have hr_88 := w_89
            obtain rfl : r_88 = (-1000001) := hr_88.trans (by decide +kernel)
            exact hRet (scb_90, ca0, ca1, ca2) [4, 0, 5, 1, 2, 3] ⟨(by (try dsimp only); unfold sp_sheet; (repeat (first | rw [if_pos (by omega)] | rw [if_neg (by omega)]))), (by (try dsimp only); unfold shB; (repeat (first | rw [if_pos (by omega)] | rw [if_neg (by omega)]))), (by (try dsimp only); unfold shB; (repeat (first | rw [if_pos (by omega)] | rw [if_neg (by omega)]))), (by (try dsimp only); unfold shN; (repeat (first | rw [if_pos (by omega)] | rw [if_neg (by omega)]))), pre0⟩ hP hD (by decide +kernel) rfl hS rfl dX10_sheet_34
  · have h_6 : a0.toInt < 0 ∨ 3 < a0.toInt := h_6
    obtain rfl : r_1 = 0 := hr_1.trans (by decide +kernel)
    refine b_if_eq hx hb zl_0 (tgt := 29) dX10_sheet_4 (by decide +kernel) (fun c_91 => ?_) (fun c_91 => by exfalso; omega)
    refine lv_aload_n hx hb dX10_sheet_29 rfl (lv_at hl 0 rfl) ?_
    refine lv_iconst (v := 1) hx hb dX10_sheet_30 (by decide +kernel) ?_
    refine kJi (wr := [(ka, .inr (6, [.ref ka0, .ref ka1, .ref ka2])), (ka0, .inl (cI, 4, .inl ca0)), (ka1, .inl (cI, 4, .inl ca1)), (ka2, .inl (cI, 144, .inl ca2))]) (va_runV (As := [.int 1]) (rest := []) ⟨hx, hb, hml, hown, hT⟩ (c_X10_findingG l D cI aK aV k k0 k1 k2 k3 k4 k5 k6 k7 k8 k9 ka kb H.size cc cb 1) (cwV 1 hT (gV_in mw_338 mw_335 mw_337 mw_p1_0 mw_1) rfl rfl rfl (by decide +kernel) ⟨Nat.le_of_ble_eq_true rfl, Nat.le_of_ble_eq_true rfl⟩) (kRecvX (q0 := 0) (ci := 10) hK hP hD hN hXS hS hA rfl rfl [0, 2] rfl (by decide +kernel)) rfl rfl hl.1 rfl (lv_room (Nat.le_of_ble_eq_true rfl)) dX10_sheet_31 ⟨Nat.le_of_ble_eq_true rfl, Nat.le_of_ble_eq_true rfl⟩) hP hD hS hA [0, 2] [1, 3, 4, 5] rfl rfl (by decide +kernel) (by decide +kernel) ?_
    clear hP hD hS
    intro r_92 scb_94 H locs w_93 hP hD hS
    replace hP : va_P D vwCl [(ka, .inr (6, [.ref ka0, .ref ka1, .ref ka2])), (ka0, .inl (cI, 4, .inl ca0)), (ka1, .inl (cI, 4, .inl ca1)), (ka2, .inl (cI, 144, .inl ca2)), (k, .inr (10, [.ref k0, .ref k1, .ref k2, .ref k3, .ref k4, .ref k5, .ref k6, .ref k7, .ref k8, .ref k9, .ref ka, .ref kb, .int cc])), (kb, .inl (cI, 6, .inl scb_94))] H := hP
    replace hD : va_D A [(ka, .inr (6, [.ref ka0, .ref ka1, .ref ka2])), (ka0, .inl (cI, 4, .inl ca0)), (ka1, .inl (cI, 4, .inl ca1)), (ka2, .inl (cI, 144, .inl ca2)), (k, .inr (10, [.ref k0, .ref k1, .ref k2, .ref k3, .ref k4, .ref k5, .ref k6, .ref k7, .ref k8, .ref k9, .ref ka, .ref kb, .int cc])), (kb, .inl (cI, 6, .inl scb_94))] := hD
    have hr_92 := w_93
    obtain rfl : r_92 = (-1000001) := hr_92.trans (by decide +kernel)
    exact hRet (scb_94, ca0, ca1, ca2) [4, 0, 5, 1, 2, 3] ⟨(by (try dsimp only); unfold sp_sheet; (repeat (first | rw [if_pos (by omega)] | rw [if_neg (by omega)]))), (by (try dsimp only); unfold shB; (repeat (first | rw [if_pos (by omega)] | rw [if_neg (by omega)]))), (by (try dsimp only); unfold shB; (repeat (first | rw [if_pos (by omega)] | rw [if_neg (by omega)]))), (by (try dsimp only); unfold shN; (repeat (first | rw [if_pos (by omega)] | rw [if_neg (by omega)]))), pre0⟩ hP hD (by decide +kernel) rfl hS rfl dX10_sheet_34
theorem bn_cX10_put_0 : BN cX10_put 0 0x56814dc025b8783a1c238056a2b5694c02b7028ac14014d9ac04b70e8708e015a8ad5a5300adc0c2b0500534b100adc384700ad456ad298056e0515828029b57005721c := by
  unfold BN; decide +kernel
theorem dX10_put_0 : decode cX10_put 0 = .ok (.iload_n 1, 1) := dR0 (k := 0) (i := 0) bn_cX10_put_0 dop_27 (by decide +kernel)
theorem dX10_put_1 : decode cX10_put 1 = .ok (.invokestatic 173, 3) := dR2 (f := Instr.invokestatic) (k := 0) (i := 1) bn_cX10_put_0 dop_184 173 (by decide +kernel)
theorem dX10_put_4 : decode cX10_put 4 = .ok (.ifCond .ne 9, 3) := dR2s (f := Instr.ifCond .ne) (k := 0) (i := 4) bn_cX10_put_0 dop_154 9 9 (by decide +kernel)
theorem dX10_put_7 : decode cX10_put 7 = .ok (.aload_n 0, 1) := dR0 (k := 0) (i := 7) bn_cX10_put_0 dop_42 (by decide +kernel)
theorem dX10_put_8 : decode cX10_put 8 = .ok (.iconst 1, 1) := dR0 (k := 0) (i := 8) bn_cX10_put_0 dop_4 (by decide +kernel)
theorem dX10_put_9 : decode cX10_put 9 = .ok (.invokevirtual 82, 3) := dR2 (f := Instr.invokevirtual) (k := 0) (i := 9) bn_cX10_put_0 dop_182 82 (by decide +kernel)
theorem dX10_put_12 : decode cX10_put 12 = .ok (.ireturn, 1) := dR0 (k := 0) (i := 12) bn_cX10_put_0 dop_172 (by decide +kernel)
theorem dX10_put_13 : decode cX10_put 13 = .ok (.aload_n 0, 1) := dR0 (k := 0) (i := 13) bn_cX10_put_0 dop_42 (by decide +kernel)
theorem dX10_put_14 : decode cX10_put 14 = .ok (.getfield 70, 3) := dR2 (f := Instr.getfield) (k := 0) (i := 14) bn_cX10_put_0 dop_180 70 (by decide +kernel)
theorem dX10_put_17 : decode cX10_put 17 = .ok (.iload_n 1, 1) := dR0 (k := 0) (i := 17) bn_cX10_put_0 dop_27 (by decide +kernel)
theorem dX10_put_18 : decode cX10_put 18 = .ok (.invokevirtual 176, 3) := dR2 (f := Instr.invokevirtual) (k := 0) (i := 18) bn_cX10_put_0 dop_182 176 (by decide +kernel)
theorem dX10_put_21 : decode cX10_put 21 = .ok (.ifCond .eq 9, 3) := dR2s (f := Instr.ifCond .eq) (k := 0) (i := 21) bn_cX10_put_0 dop_153 9 9 (by decide +kernel)
theorem dX10_put_24 : decode cX10_put 24 = .ok (.aload_n 0, 1) := dR0 (k := 0) (i := 24) bn_cX10_put_0 dop_42 (by decide +kernel)
theorem dX10_put_25 : decode cX10_put 25 = .ok (.iconst 2, 1) := dR0 (k := 0) (i := 25) bn_cX10_put_0 dop_5 (by decide +kernel)
theorem dX10_put_26 : decode cX10_put 26 = .ok (.invokevirtual 82, 3) := dR2 (f := Instr.invokevirtual) (k := 0) (i := 26) bn_cX10_put_0 dop_182 82 (by decide +kernel)
theorem dX10_put_29 : decode cX10_put 29 = .ok (.ireturn, 1) := dR0 (k := 0) (i := 29) bn_cX10_put_0 dop_172 (by decide +kernel)
theorem dX10_put_30 : decode cX10_put 30 = .ok (.aload_n 0, 1) := dR0 (k := 0) (i := 30) bn_cX10_put_0 dop_42 (by decide +kernel)
theorem dX10_put_31 : decode cX10_put 31 = .ok (.getfield 70, 3) := dR2 (f := Instr.getfield) (k := 0) (i := 31) bn_cX10_put_0 dop_180 70 (by decide +kernel)
theorem dX10_put_34 : decode cX10_put 34 = .ok (.iload_n 1, 1) := dR0 (k := 0) (i := 34) bn_cX10_put_0 dop_27 (by decide +kernel)
theorem dX10_put_35 : decode cX10_put 35 = .ok (.iload_n 2, 1) := dR0 (k := 0) (i := 35) bn_cX10_put_0 dop_28 (by decide +kernel)
theorem dX10_put_36 : decode cX10_put 36 = .ok (.invokevirtual 362, 3) := dR2 (f := Instr.invokevirtual) (k := 0) (i := 36) bn_cX10_put_0 dop_182 362 (by decide +kernel)
theorem dX10_put_39 : decode cX10_put 39 = .ok (.ifCond .ne 9, 3) := dR2s (f := Instr.ifCond .ne) (k := 0) (i := 39) bn_cX10_put_0 dop_154 9 9 (by decide +kernel)
theorem dX10_put_42 : decode cX10_put 42 = .ok (.aload_n 0, 1) := dR0 (k := 0) (i := 42) bn_cX10_put_0 dop_42 (by decide +kernel)
theorem dX10_put_43 : decode cX10_put 43 = .ok (.iconst 1, 1) := dR0 (k := 0) (i := 43) bn_cX10_put_0 dop_4 (by decide +kernel)
theorem dX10_put_44 : decode cX10_put 44 = .ok (.invokevirtual 82, 3) := dR2 (f := Instr.invokevirtual) (k := 0) (i := 44) bn_cX10_put_0 dop_182 82 (by decide +kernel)
theorem dX10_put_47 : decode cX10_put 47 = .ok (.ireturn, 1) := dR0 (k := 0) (i := 47) bn_cX10_put_0 dop_172 (by decide +kernel)
theorem dX10_put_48 : decode cX10_put 48 = .ok (.aload_n 0, 1) := dR0 (k := 0) (i := 48) bn_cX10_put_0 dop_42 (by decide +kernel)
theorem dX10_put_49 : decode cX10_put 49 = .ok (.getfield 70, 3) := dR2 (f := Instr.getfield) (k := 0) (i := 49) bn_cX10_put_0 dop_180 70 (by decide +kernel)
theorem dX10_put_52 : decode cX10_put 52 = .ok (.iload_n 1, 1) := dR0 (k := 0) (i := 52) bn_cX10_put_0 dop_27 (by decide +kernel)
theorem dX10_put_53 : decode cX10_put 53 = .ok (.iload_n 2, 1) := dR0 (k := 0) (i := 53) bn_cX10_put_0 dop_28 (by decide +kernel)
theorem dX10_put_54 : decode cX10_put 54 = .ok (.iload_n 3, 1) := dR0 (k := 0) (i := 54) bn_cX10_put_0 dop_29 (by decide +kernel)
theorem dX10_put_55 : decode cX10_put 55 = .ok (.invokevirtual 365, 3) := dR2 (f := Instr.invokevirtual) (k := 0) (i := 55) bn_cX10_put_0 dop_182 365 (by decide +kernel)
theorem dX10_put_58 : decode cX10_put 58 = .ok (.iconst 1, 1) := dR0 (k := 0) (i := 58) bn_cX10_put_0 dop_4 (by decide +kernel)
theorem dX10_put_59 : decode cX10_put 59 = .ok (.ireturn, 1) := dR0 (k := 0) (i := 59) bn_cX10_put_0 dop_172 (by decide +kernel)
set_option maxHeartbeats 4000000 in
set_option maxRecDepth 100000 in
theorem c_X10_putG (l : Launch) (D : va_G) (cI : ClassId) (aK aV : Nat → Nat) (k k0 k1 k2 k3 k4 k5 k6 k7 k8 k9 ka kb ka0 ka1 ka2 : Nat) (sz : Nat) (cc : Int32) (cb : Nat → Int32) (ca0 : Nat → Int32) (ca1 : Nat → Int32) (ca2 : Nat → Int32) (a0 : Int32) (a1 : Int32) (a2 : Int32) (pre0 : ∀ k : Nat, k < 4 → 0 ≤ (ca1 k).toInt ∧ (ca1 k).toInt ≤ 36) : Met l yX10_put (gW yX10_put cX10_put 4 (some .int)) ({ frames := 4, cells := 0, slots := 0, locals := 87 } : Room) (kPreX D cI aK aV [.ref k, .int a0, .int a1, .int a2] [(k, .inr (10, [.ref k0, .ref k1, .ref k2, .ref k3, .ref k4, .ref k5, .ref k6, .ref k7, .ref k8, .ref k9, .ref ka, .ref kb, .int cc])), (ka, .inr (6, [.ref ka0, .ref ka1, .ref ka2])), (kb, .inl (cI, 6, .inl cb)), (ka0, .inl (cI, 4, .inl ca0)), (ka1, .inl (cI, 4, .inl ca1)), (ka2, .inl (cI, 144, .inl ca2))] sz) (va_Qi (fun (r : Int32) (u : (Nat → Int32) × (Nat → Int32)) => r = putR ca0 ca1 a0 a1 ∧ u.2 = putS ca0 ca1 ca2 a0 a1 a2) (fun u t => kWd D cI (va_A [(k, .inr (10, [.ref k0, .ref k1, .ref k2, .ref k3, .ref k4, .ref k5, .ref k6, .ref k7, .ref k8, .ref k9, .ref ka, .ref kb, .int cc])), (ka, .inr (6, [.ref ka0, .ref ka1, .ref ka2])), (kb, .inl (cI, 6, .inl cb)), (ka0, .inl (cI, 4, .inl ca0)), (ka1, .inl (cI, 4, .inl ca1)), (ka2, .inl (cI, 144, .inl ca2))] sz) [(k, .inr (10, [.ref k0, .ref k1, .ref k2, .ref k3, .ref k4, .ref k5, .ref k6, .ref k7, .ref k8, .ref k9, .ref ka, .ref kb, .int cc])), (ka, .inr (6, [.ref ka0, .ref ka1, .ref ka2])), (kb, .inl (cI, 6, .inl u.1)), (ka0, .inl (cI, 4, .inl ca0)), (ka1, .inl (cI, 4, .inl ca1)), (ka2, .inl (cI, 144, .inl u.2))] t) (va_A [(k, .inr (10, [.ref k0, .ref k1, .ref k2, .ref k3, .ref k4, .ref k5, .ref k6, .ref k7, .ref k8, .ref k9, .ref ka, .ref kb, .int cc])), (ka, .inr (6, [.ref ka0, .ref ka1, .ref ka2])), (kb, .inl (cI, 6, .inl cb)), (ka0, .inl (cI, 4, .inl ca0)), (ka1, .inl (cI, 4, .inl ca1)), (ka2, .inl (cI, 144, .inl ca2))] sz)) 0 0 (va_A [(k, .inr (10, [.ref k0, .ref k1, .ref k2, .ref k3, .ref k4, .ref k5, .ref k6, .ref k7, .ref k8, .ref k9, .ref ka, .ref kb, .int cc])), (ka, .inr (6, [.ref ka0, .ref ka1, .ref ka2])), (kb, .inl (cI, 6, .inl cb)), (ka0, .inl (cI, 4, .inl ca0)), (ka1, .inl (cI, 4, .inl ca1)), (ka2, .inl (cI, 144, .inl ca2))] sz) := by
  refine kMetIX (own := RX10) (by decide +kernel) rfl (Nat.le_of_ble_eq_true rfl) ?_
  intro p e s m args below meth c hx hb hT hown hname hml A Q hK hP hD hS hA hN hXS hRet ls hl
  have hl : lv_has ls 4 [(0, .ref k), (1, .int a0), (2, .int a1), (3, .int a2)] := hl
  have lo_a0 := k_lo a0
  have hi_a0 := k_hi a0
  have lo_a1 := k_lo a1
  have hi_a1 := k_hi a1
  have lo_a2 := k_lo a2
  have hi_a2 := k_hi a2
  have hln_a0 : 0 ≤ a0.toInt → a0.toInt ≤ 3 → 0 ≤ (ca1 a0.toNatClampNeg).toInt ∧ (ca1 a0.toNatClampNeg).toInt ≤ 36 := fun z0 z1 => pre0 a0.toNatClampNeg (by rw [k_clamp]; omega)
  refine lv_iload_n hx hb dX10_put_0 rfl (lv_at hl 1 rfl) ?_
  refine kJi (wr := [(k, .inr (10, [.ref k0, .ref k1, .ref k2, .ref k3, .ref k4, .ref k5, .ref k6, .ref k7, .ref k8, .ref k9, .ref ka, .ref kb, .int cc])), (ka, .inr (6, [.ref ka0, .ref ka1, .ref ka2])), (kb, .inl (cI, 6, .inl cb)), (ka0, .inl (cI, 4, .inl ca0)), (ka1, .inl (cI, 4, .inl ca1)), (ka2, .inl (cI, 144, .inl ca2))]) (va_runS (As := [.int a0]) (rest := []) ⟨hx, hb, hml, hown, hT⟩ (c_X10_isSheetG l D cI aK aV s.heap.size a0) (cwS 1 hT (gS_in mw_662 mw_660 mw_661 mw_1) rfl rfl rfl (by decide +kernel) ⟨Nat.le_of_ble_eq_true rfl, Nat.le_of_ble_eq_true rfl⟩) (kStatX hK hP hD hN hXS hS hA [] rfl (by decide +kernel)) rfl rfl hl.1 rfl (lv_room (Nat.le_of_ble_eq_true rfl)) dX10_put_1 ⟨Nat.le_of_ble_eq_true rfl, Nat.le_of_ble_eq_true rfl⟩) hP hD hS hA [] [0, 1, 2, 3, 4, 5] rfl rfl (by decide +kernel) (by decide +kernel) ?_
  clear hP hD hS
  intro r_1 u_3 H locs w_2 hP hD hS
  replace hP : va_P D vwCl [(k, .inr (10, [.ref k0, .ref k1, .ref k2, .ref k3, .ref k4, .ref k5, .ref k6, .ref k7, .ref k8, .ref k9, .ref ka, .ref kb, .int cc])), (ka, .inr (6, [.ref ka0, .ref ka1, .ref ka2])), (kb, .inl (cI, 6, .inl cb)), (ka0, .inl (cI, 4, .inl ca0)), (ka1, .inl (cI, 4, .inl ca1)), (ka2, .inl (cI, 144, .inl ca2))] H := hP
  replace hD : va_D A [(k, .inr (10, [.ref k0, .ref k1, .ref k2, .ref k3, .ref k4, .ref k5, .ref k6, .ref k7, .ref k8, .ref k9, .ref ka, .ref kb, .int cc])), (ka, .inr (6, [.ref ka0, .ref ka1, .ref ka2])), (kb, .inl (cI, 6, .inl cb)), (ka0, .inl (cI, 4, .inl ca0)), (ka1, .inl (cI, 4, .inl ca1)), (ka2, .inl (cI, 144, .inl ca2))] := hD
  rcases w_2 with ⟨hr_1, h_4, h_5⟩ | ⟨hr_1, h_6⟩
  · have h_4 : 0 ≤ a0.toInt := h_4
    have h_5 : a0.toInt ≤ 3 := h_5
    obtain rfl : r_1 = 1 := hr_1.trans (by decide +kernel)
    refine b_if_ne hx hb zl_1 (tgt := 13) dX10_put_4 (by decide +kernel) (fun c_7 => ?_) (fun c_7 => by exfalso; omega)
    refine lv_aload_n hx hb dX10_put_13 rfl (lv_at hl 0 rfl) ?_
    refine va_get (D := D) (ci := 10) (v := .ref ka) (C := RX10) (T := TX10) (N := 13) hx hb hT giX10 hown hK hP 0 rfl rfl 10 (by decide +kernel) (hT (Cond.fieldLink RX10 70 "DesertWire" "sheets" "LDesertWire$Sheets;") mw_301) (fun _ h9 => h9) rfl dX10_put_14 ?_
    refine lv_iload_n hx hb dX10_put_17 rfl (lv_at hl 1 rfl) ?_
    refine kJi (wr := [(k, .inr (10, [.ref k0, .ref k1, .ref k2, .ref k3, .ref k4, .ref k5, .ref k6, .ref k7, .ref k8, .ref k9, .ref ka, .ref kb, .int cc])), (kb, .inl (cI, 6, .inl cb)), (ka1, .inl (cI, 4, .inl ca1)), (ka2, .inl (cI, 144, .inl ca2))]) (va_runV (As := [.int a0]) (rest := []) ⟨hx, hb, hml, hown, hT⟩ (c_X6_isMissingG l D cI aK aV ka ka0 ka1 ka2 H.size ca0 a0) (cwV 1 hT (gV_in mw_666 mw_663 mw_664 mw_665 mw_11) rfl rfl rfl (by decide +kernel) ⟨Nat.le_of_ble_eq_true rfl, Nat.le_of_ble_eq_true rfl⟩) (kRecvX (q0 := 1) (ci := 6) hK hP hD hN hXS hS hA rfl rfl [1, 3] rfl (by decide +kernel)) rfl rfl hl.1 rfl (lv_room (Nat.le_of_ble_eq_true rfl)) dX10_put_18 ⟨Nat.le_of_ble_eq_true rfl, Nat.le_of_ble_eq_true rfl⟩) hP hD hS hA [1, 3] [0, 2, 4, 5] rfl rfl (by decide +kernel) (by decide +kernel) ?_
    clear hP hD hS
    intro r_8 u_10 H locs w_9 hP hD hS
    replace hP : va_P D vwCl [(k, .inr (10, [.ref k0, .ref k1, .ref k2, .ref k3, .ref k4, .ref k5, .ref k6, .ref k7, .ref k8, .ref k9, .ref ka, .ref kb, .int cc])), (kb, .inl (cI, 6, .inl cb)), (ka1, .inl (cI, 4, .inl ca1)), (ka2, .inl (cI, 144, .inl ca2)), (ka, .inr (6, [.ref ka0, .ref ka1, .ref ka2])), (ka0, .inl (cI, 4, .inl ca0))] H := hP
    replace hD : va_D A [(k, .inr (10, [.ref k0, .ref k1, .ref k2, .ref k3, .ref k4, .ref k5, .ref k6, .ref k7, .ref k8, .ref k9, .ref ka, .ref kb, .int cc])), (kb, .inl (cI, 6, .inl cb)), (ka1, .inl (cI, 4, .inl ca1)), (ka2, .inl (cI, 144, .inl ca2)), (ka, .inr (6, [.ref ka0, .ref ka1, .ref ka2])), (ka0, .inl (cI, 4, .inl ca0))] := hD
    rcases w_9 with ⟨hr_8, h_11, h_12, h_13⟩ | ⟨hr_8, h_14, h_15, h_16⟩ | ⟨hr_8, h_17⟩
    · have h_11 : 0 ≤ a0.toInt := h_11
      have h_12 : a0.toInt ≤ 3 := h_12
      have h_13 : (ca0 a0.toNatClampNeg).toInt = 0 := h_13
      obtain rfl : r_8 = 1 := hr_8.trans (by decide +kernel)
      refine b_if_eq hx hb zl_1 (tgt := 30) dX10_put_21 (by decide +kernel) (fun c_18 => by exfalso; omega) (fun c_18 => ?_)
      refine lv_aload_n hx hb dX10_put_24 rfl (lv_at hl 0 rfl) ?_
      refine lv_iconst (v := 2) hx hb dX10_put_25 (by decide +kernel) ?_
      refine kJi (wr := [(ka1, .inl (cI, 4, .inl ca1)), (ka2, .inl (cI, 144, .inl ca2)), (ka, .inr (6, [.ref ka0, .ref ka1, .ref ka2])), (ka0, .inl (cI, 4, .inl ca0))]) (va_runV (As := [.int 2]) (rest := []) ⟨hx, hb, hml, hown, hT⟩ (c_X10_findingG l D cI aK aV k k0 k1 k2 k3 k4 k5 k6 k7 k8 k9 ka kb H.size cc cb 2) (cwV 1 hT (gV_in mw_338 mw_335 mw_337 mw_p1_0 mw_1) rfl rfl rfl (by decide +kernel) ⟨Nat.le_of_ble_eq_true rfl, Nat.le_of_ble_eq_true rfl⟩) (kRecvX (q0 := 0) (ci := 10) hK hP hD hN hXS hS hA rfl rfl [0, 1] rfl (by decide +kernel)) rfl rfl hl.1 rfl (lv_room (Nat.le_of_ble_eq_true rfl)) dX10_put_26 ⟨Nat.le_of_ble_eq_true rfl, Nat.le_of_ble_eq_true rfl⟩) hP hD hS hA [0, 1] [2, 3, 4, 5] rfl rfl (by decide +kernel) (by decide +kernel) ?_
      clear hP hD hS
      intro r_19 scb_21 H locs w_20 hP hD hS
      replace hP : va_P D vwCl [(ka1, .inl (cI, 4, .inl ca1)), (ka2, .inl (cI, 144, .inl ca2)), (ka, .inr (6, [.ref ka0, .ref ka1, .ref ka2])), (ka0, .inl (cI, 4, .inl ca0)), (k, .inr (10, [.ref k0, .ref k1, .ref k2, .ref k3, .ref k4, .ref k5, .ref k6, .ref k7, .ref k8, .ref k9, .ref ka, .ref kb, .int cc])), (kb, .inl (cI, 6, .inl scb_21))] H := hP
      replace hD : va_D A [(ka1, .inl (cI, 4, .inl ca1)), (ka2, .inl (cI, 144, .inl ca2)), (ka, .inr (6, [.ref ka0, .ref ka1, .ref ka2])), (ka0, .inl (cI, 4, .inl ca0)), (k, .inr (10, [.ref k0, .ref k1, .ref k2, .ref k3, .ref k4, .ref k5, .ref k6, .ref k7, .ref k8, .ref k9, .ref ka, .ref kb, .int cc])), (kb, .inl (cI, 6, .inl scb_21))] := hD
      have hr_19 := w_20
      obtain rfl : r_19 = (-1000002) := hr_19.trans (by decide +kernel)
      exact hRet (scb_21, ca2) [4, 2, 5, 3, 0, 1] ⟨(by (try dsimp only); unfold putR; (repeat (first | rw [if_pos (by omega)] | rw [if_neg (by omega)]))), (by (try dsimp only); unfold putS; (repeat (first | rw [if_pos (by omega)] | rw [if_neg (by omega)])))⟩ hP hD (by decide +kernel) rfl hS rfl dX10_put_29
    · have h_14 : 0 ≤ a0.toInt := h_14
      have h_15 : a0.toInt ≤ 3 := h_15
      have h_16 : (ca0 a0.toNatClampNeg).toInt ≠ 0 := h_16
      obtain rfl : r_8 = 0 := hr_8.trans (by decide +kernel)
      refine b_if_eq hx hb zl_0 (tgt := 30) dX10_put_21 (by decide +kernel) (fun c_22 => ?_) (fun c_22 => by exfalso; omega)
      refine lv_aload_n hx hb dX10_put_30 rfl (lv_at hl 0 rfl) ?_
      refine va_get (D := D) (ci := 10) (v := .ref ka) (C := RX10) (T := TX10) (N := 13) hx hb hT giX10 hown hK hP 0 rfl rfl 10 (by decide +kernel) (hT (Cond.fieldLink RX10 70 "DesertWire" "sheets" "LDesertWire$Sheets;") mw_301) (fun _ h9 => h9) rfl dX10_put_31 ?_
      refine lv_iload_n hx hb dX10_put_34 rfl (lv_at hl 1 rfl) ?_
      refine lv_iload_n hx hb dX10_put_35 rfl (lv_at hl 2 rfl) ?_
      refine kJi (wr := [(k, .inr (10, [.ref k0, .ref k1, .ref k2, .ref k3, .ref k4, .ref k5, .ref k6, .ref k7, .ref k8, .ref k9, .ref ka, .ref kb, .int cc])), (kb, .inl (cI, 6, .inl cb)), (ka2, .inl (cI, 144, .inl ca2)), (ka0, .inl (cI, 4, .inl ca0))]) (va_runV (As := [.int a0, .int a1]) (rest := []) ⟨hx, hb, hml, hown, hT⟩ (c_X6_holdsG l D cI aK aV ka ka0 ka1 ka2 H.size ca1 a0 a1 (by first | omega | decide | assumption | rfl)) (cwV 2 hT (gV_in mw_688 mw_1081 mw_686 mw_687 mw_11) rfl rfl rfl (by decide +kernel) ⟨Nat.le_of_ble_eq_true rfl, Nat.le_of_ble_eq_true rfl⟩) (kRecvX (q0 := 4) (ci := 6) hK hP hD hN hXS hS hA rfl rfl [4, 2] rfl (by decide +kernel)) rfl rfl hl.1 rfl (lv_room (Nat.le_of_ble_eq_true rfl)) dX10_put_36 ⟨Nat.le_of_ble_eq_true rfl, Nat.le_of_ble_eq_true rfl⟩) hP hD hS hA [4, 2] [0, 1, 3, 5] rfl rfl (by decide +kernel) (by decide +kernel) ?_
      clear hP hD hS
      intro r_23 u_25 H locs w_24 hP hD hS
      replace hP : va_P D vwCl [(k, .inr (10, [.ref k0, .ref k1, .ref k2, .ref k3, .ref k4, .ref k5, .ref k6, .ref k7, .ref k8, .ref k9, .ref ka, .ref kb, .int cc])), (kb, .inl (cI, 6, .inl cb)), (ka2, .inl (cI, 144, .inl ca2)), (ka0, .inl (cI, 4, .inl ca0)), (ka, .inr (6, [.ref ka0, .ref ka1, .ref ka2])), (ka1, .inl (cI, 4, .inl ca1))] H := hP
      replace hD : va_D A [(k, .inr (10, [.ref k0, .ref k1, .ref k2, .ref k3, .ref k4, .ref k5, .ref k6, .ref k7, .ref k8, .ref k9, .ref ka, .ref kb, .int cc])), (kb, .inl (cI, 6, .inl cb)), (ka2, .inl (cI, 144, .inl ca2)), (ka0, .inl (cI, 4, .inl ca0)), (ka, .inr (6, [.ref ka0, .ref ka1, .ref ka2])), (ka1, .inl (cI, 4, .inl ca1))] := hD
      rcases w_24 with ⟨hr_23, h_26, h_27, h_28, h_29, h_30⟩ | ⟨hr_23, h_31⟩
      · have h_26 : 0 ≤ a0.toInt := h_26
        have h_27 : a0.toInt ≤ 3 := h_27
        have h_28 : 0 ≤ a1.toInt := h_28
        have h_29 : a1.toInt ≤ 35 := h_29
        have h_30 : a1.toInt < (ca1 a0.toNatClampNeg).toInt := h_30
        obtain rfl : r_23 = 1 := hr_23.trans (by decide +kernel)
        refine b_if_ne hx hb zl_1 (tgt := 48) dX10_put_39 (by decide +kernel) (fun c_32 => ?_) (fun c_32 => by exfalso; omega)
        refine lv_aload_n hx hb dX10_put_48 rfl (lv_at hl 0 rfl) ?_
        refine va_get (D := D) (ci := 10) (v := .ref ka) (C := RX10) (T := TX10) (N := 13) hx hb hT giX10 hown hK hP 0 rfl rfl 10 (by decide +kernel) (hT (Cond.fieldLink RX10 70 "DesertWire" "sheets" "LDesertWire$Sheets;") mw_301) (fun _ h9 => h9) rfl dX10_put_49 ?_
        refine lv_iload_n hx hb dX10_put_52 rfl (lv_at hl 1 rfl) ?_
        refine lv_iload_n hx hb dX10_put_53 rfl (lv_at hl 2 rfl) ?_
        refine lv_iload_n hx hb dX10_put_54 rfl (lv_at hl 3 rfl) ?_
        refine kJv (wr := [(k, .inr (10, [.ref k0, .ref k1, .ref k2, .ref k3, .ref k4, .ref k5, .ref k6, .ref k7, .ref k8, .ref k9, .ref ka, .ref kb, .int cc])), (kb, .inl (cI, 6, .inl cb))]) (va_runV (As := [.int a0, .int a1, .int a2]) (rest := []) ⟨hx, hb, hml, hown, hT⟩ (c_X6_writeG l D cI aK aV ka ka0 ka1 ka2 H.size ca0 ca1 ca2 a0 a1 a2 (by first | omega | decide | assumption | rfl) (by first | omega | decide | assumption | rfl) (by first | omega | decide | assumption | rfl) (by first | omega | decide | assumption | rfl) (by first | omega | decide | assumption | rfl)) (cwV 3 hT (gV_in mw_1085 mw_1082 mw_1083 mw_1084 mw_11) rfl rfl rfl (by decide +kernel) ⟨Nat.le_of_ble_eq_true rfl, Nat.le_of_ble_eq_true rfl⟩) (kRecvX (q0 := 4) (ci := 6) hK hP hD hN hXS hS hA rfl rfl [4, 3, 5, 2] rfl (by decide +kernel)) rfl rfl hl.1 rfl (lv_room (Nat.le_of_ble_eq_true rfl)) dX10_put_55 ⟨Nat.le_of_ble_eq_true rfl, Nat.le_of_ble_eq_true rfl⟩) hP hD hS hA [4, 3, 5, 2] [0, 1] rfl rfl (by decide +kernel) (by decide +kernel) ?_
        clear hP hD hS
        intro sc2_35 H locs w_34 hP hD hS
        replace hP : va_P D vwCl [(k, .inr (10, [.ref k0, .ref k1, .ref k2, .ref k3, .ref k4, .ref k5, .ref k6, .ref k7, .ref k8, .ref k9, .ref ka, .ref kb, .int cc])), (kb, .inl (cI, 6, .inl cb)), (ka, .inr (6, [.ref ka0, .ref ka1, .ref ka2])), (ka0, .inl (cI, 4, .inl ca0)), (ka1, .inl (cI, 4, .inl ca1)), (ka2, .inl (cI, 144, .inl sc2_35))] H := hP
        replace hD : va_D A [(k, .inr (10, [.ref k0, .ref k1, .ref k2, .ref k3, .ref k4, .ref k5, .ref k6, .ref k7, .ref k8, .ref k9, .ref ka, .ref kb, .int cc])), (kb, .inl (cI, 6, .inl cb)), (ka, .inr (6, [.ref ka0, .ref ka1, .ref ka2])), (ka0, .inl (cI, 4, .inl ca0)), (ka1, .inl (cI, 4, .inl ca1)), (ka2, .inl (cI, 144, .inl sc2_35))] := hD
        have h_36 := w_34
        have h_36 : sc2_35 = upd ca2 (36 * a0.toInt.toNat + a1.toInt.toNat) (nrw (ca0 a0.toNatClampNeg) a2) := h_36
        have h_36 : sc2_35 = upd ca2 (36 * a0.toInt.toNat + a1.toInt.toNat) (nrw (ca0 a0.toNatClampNeg) a2) := h_36
        refine lv_iconst (v := 1) hx hb dX10_put_58 (by decide +kernel) ?_
        exact hRet (cb, sc2_35) [0, 2, 1, 3, 4, 5] ⟨(by (try dsimp only); unfold putR; (repeat (first | rw [if_pos (by omega)] | rw [if_neg (by omega)]))), (by (try dsimp only); unfold putS; (repeat (first | rw [if_pos (by omega)] | rw [if_neg (by omega)])); first | done | exact h_36)⟩ hP hD (by decide +kernel) rfl hS rfl dX10_put_59
      · have h_31 : a0.toInt < 0 ∨ 3 < a0.toInt ∨ a1.toInt < 0 ∨ 35 < a1.toInt ∨ (ca1 a0.toNatClampNeg).toInt ≤ a1.toInt := h_31
        obtain rfl : r_23 = 0 := hr_23.trans (by decide +kernel)
        refine b_if_ne hx hb zl_0 (tgt := 48) dX10_put_39 (by decide +kernel) (fun c_37 => by exfalso; omega) (fun c_37 => ?_)
        refine lv_aload_n hx hb dX10_put_42 rfl (lv_at hl 0 rfl) ?_
        refine lv_iconst (v := 1) hx hb dX10_put_43 (by decide +kernel) ?_
        refine kJi (wr := [(ka2, .inl (cI, 144, .inl ca2)), (ka0, .inl (cI, 4, .inl ca0)), (ka, .inr (6, [.ref ka0, .ref ka1, .ref ka2])), (ka1, .inl (cI, 4, .inl ca1))]) (va_runV (As := [.int 1]) (rest := []) ⟨hx, hb, hml, hown, hT⟩ (c_X10_findingG l D cI aK aV k k0 k1 k2 k3 k4 k5 k6 k7 k8 k9 ka kb H.size cc cb 1) (cwV 1 hT (gV_in mw_338 mw_335 mw_337 mw_p1_0 mw_1) rfl rfl rfl (by decide +kernel) ⟨Nat.le_of_ble_eq_true rfl, Nat.le_of_ble_eq_true rfl⟩) (kRecvX (q0 := 0) (ci := 10) hK hP hD hN hXS hS hA rfl rfl [0, 1] rfl (by decide +kernel)) rfl rfl hl.1 rfl (lv_room (Nat.le_of_ble_eq_true rfl)) dX10_put_44 ⟨Nat.le_of_ble_eq_true rfl, Nat.le_of_ble_eq_true rfl⟩) hP hD hS hA [0, 1] [2, 3, 4, 5] rfl rfl (by decide +kernel) (by decide +kernel) ?_
        clear hP hD hS
        intro r_38 scb_40 H locs w_39 hP hD hS
        replace hP : va_P D vwCl [(ka2, .inl (cI, 144, .inl ca2)), (ka0, .inl (cI, 4, .inl ca0)), (ka, .inr (6, [.ref ka0, .ref ka1, .ref ka2])), (ka1, .inl (cI, 4, .inl ca1)), (k, .inr (10, [.ref k0, .ref k1, .ref k2, .ref k3, .ref k4, .ref k5, .ref k6, .ref k7, .ref k8, .ref k9, .ref ka, .ref kb, .int cc])), (kb, .inl (cI, 6, .inl scb_40))] H := hP
        replace hD : va_D A [(ka2, .inl (cI, 144, .inl ca2)), (ka0, .inl (cI, 4, .inl ca0)), (ka, .inr (6, [.ref ka0, .ref ka1, .ref ka2])), (ka1, .inl (cI, 4, .inl ca1)), (k, .inr (10, [.ref k0, .ref k1, .ref k2, .ref k3, .ref k4, .ref k5, .ref k6, .ref k7, .ref k8, .ref k9, .ref ka, .ref kb, .int cc])), (kb, .inl (cI, 6, .inl scb_40))] := hD
        have hr_38 := w_39
        obtain rfl : r_38 = (-1000001) := hr_38.trans (by decide +kernel)
        exact hRet (scb_40, ca2) [4, 2, 5, 1, 3, 0] ⟨(by (try dsimp only); unfold putR; (repeat (first | rw [if_pos (by omega)] | rw [if_neg (by omega)]))), (by (try dsimp only); unfold putS; (repeat (first | rw [if_pos (by omega)] | rw [if_neg (by omega)])))⟩ hP hD (by decide +kernel) rfl hS rfl dX10_put_47
    · exfalso; omega
  · have h_6 : a0.toInt < 0 ∨ 3 < a0.toInt := h_6
    obtain rfl : r_1 = 0 := hr_1.trans (by decide +kernel)
    refine b_if_ne hx hb zl_0 (tgt := 13) dX10_put_4 (by decide +kernel) (fun c_41 => by exfalso; omega) (fun c_41 => ?_)
    refine lv_aload_n hx hb dX10_put_7 rfl (lv_at hl 0 rfl) ?_
    refine lv_iconst (v := 1) hx hb dX10_put_8 (by decide +kernel) ?_
    refine kJi (wr := [(ka, .inr (6, [.ref ka0, .ref ka1, .ref ka2])), (ka0, .inl (cI, 4, .inl ca0)), (ka1, .inl (cI, 4, .inl ca1)), (ka2, .inl (cI, 144, .inl ca2))]) (va_runV (As := [.int 1]) (rest := []) ⟨hx, hb, hml, hown, hT⟩ (c_X10_findingG l D cI aK aV k k0 k1 k2 k3 k4 k5 k6 k7 k8 k9 ka kb H.size cc cb 1) (cwV 1 hT (gV_in mw_338 mw_335 mw_337 mw_p1_0 mw_1) rfl rfl rfl (by decide +kernel) ⟨Nat.le_of_ble_eq_true rfl, Nat.le_of_ble_eq_true rfl⟩) (kRecvX (q0 := 0) (ci := 10) hK hP hD hN hXS hS hA rfl rfl [0, 2] rfl (by decide +kernel)) rfl rfl hl.1 rfl (lv_room (Nat.le_of_ble_eq_true rfl)) dX10_put_9 ⟨Nat.le_of_ble_eq_true rfl, Nat.le_of_ble_eq_true rfl⟩) hP hD hS hA [0, 2] [1, 3, 4, 5] rfl rfl (by decide +kernel) (by decide +kernel) ?_
    clear hP hD hS
    intro r_42 scb_44 H locs w_43 hP hD hS
    replace hP : va_P D vwCl [(ka, .inr (6, [.ref ka0, .ref ka1, .ref ka2])), (ka0, .inl (cI, 4, .inl ca0)), (ka1, .inl (cI, 4, .inl ca1)), (ka2, .inl (cI, 144, .inl ca2)), (k, .inr (10, [.ref k0, .ref k1, .ref k2, .ref k3, .ref k4, .ref k5, .ref k6, .ref k7, .ref k8, .ref k9, .ref ka, .ref kb, .int cc])), (kb, .inl (cI, 6, .inl scb_44))] H := hP
    replace hD : va_D A [(ka, .inr (6, [.ref ka0, .ref ka1, .ref ka2])), (ka0, .inl (cI, 4, .inl ca0)), (ka1, .inl (cI, 4, .inl ca1)), (ka2, .inl (cI, 144, .inl ca2)), (k, .inr (10, [.ref k0, .ref k1, .ref k2, .ref k3, .ref k4, .ref k5, .ref k6, .ref k7, .ref k8, .ref k9, .ref ka, .ref kb, .int cc])), (kb, .inl (cI, 6, .inl scb_44))] := hD
    have hr_42 := w_43
    obtain rfl : r_42 = (-1000001) := hr_42.trans (by decide +kernel)
    exact hRet (scb_44, ca2) [4, 0, 5, 1, 2, 3] ⟨(by (try dsimp only); unfold putR; (repeat (first | rw [if_pos (by omega)] | rw [if_neg (by omega)]))), (by (try dsimp only); unfold putS; (repeat (first | rw [if_pos (by omega)] | rw [if_neg (by omega)])))⟩ hP hD (by decide +kernel) rfl hS rfl dX10_put_12
theorem bn_cX10_move_0 : BN cX10_move 0 0xad03058ee025b8182c050b0783a1c238056a2b5694c02b7028ac14014d9d004b7030580a160f11c02b51584c029a3a0096e060b074384700ad456ad298056e091582802a0388096e1e238056a2b388096e1c238056a2b5694c02b7030ac14014d2c402b70f11c02b51583c029b588056e1c238056a2b5694c02b7028ac14014dab802b90f02c029a57005721c := by
  unfold BN; decide +kernel
theorem dX10_move_0 : decode cX10_move 0 = .ok (.iload_n 1, 1) := dR0 (k := 0) (i := 0) bn_cX10_move_0 dop_27 (by decide +kernel)
theorem dX10_move_1 : decode cX10_move 1 = .ok (.invokestatic 173, 3) := dR2 (f := Instr.invokestatic) (k := 0) (i := 1) bn_cX10_move_0 dop_184 173 (by decide +kernel)
theorem dX10_move_4 : decode cX10_move 4 = .ok (.ifCond .eq 10, 3) := dR2s (f := Instr.ifCond .eq) (k := 0) (i := 4) bn_cX10_move_0 dop_153 10 10 (by decide +kernel)
theorem dX10_move_7 : decode cX10_move 7 = .ok (.iload_n 3, 1) := dR0 (k := 0) (i := 7) bn_cX10_move_0 dop_29 (by decide +kernel)
theorem dX10_move_8 : decode cX10_move 8 = .ok (.invokestatic 173, 3) := dR2 (f := Instr.invokestatic) (k := 0) (i := 8) bn_cX10_move_0 dop_184 173 (by decide +kernel)
theorem dX10_move_11 : decode cX10_move 11 = .ok (.ifCond .ne 9, 3) := dR2s (f := Instr.ifCond .ne) (k := 0) (i := 11) bn_cX10_move_0 dop_154 9 9 (by decide +kernel)
theorem dX10_move_14 : decode cX10_move 14 = .ok (.aload_n 0, 1) := dR0 (k := 0) (i := 14) bn_cX10_move_0 dop_42 (by decide +kernel)
theorem dX10_move_15 : decode cX10_move 15 = .ok (.iconst 1, 1) := dR0 (k := 0) (i := 15) bn_cX10_move_0 dop_4 (by decide +kernel)
theorem dX10_move_16 : decode cX10_move 16 = .ok (.invokevirtual 82, 3) := dR2 (f := Instr.invokevirtual) (k := 0) (i := 16) bn_cX10_move_0 dop_182 82 (by decide +kernel)
theorem dX10_move_19 : decode cX10_move 19 = .ok (.ireturn, 1) := dR0 (k := 0) (i := 19) bn_cX10_move_0 dop_172 (by decide +kernel)
theorem dX10_move_20 : decode cX10_move 20 = .ok (.aload_n 0, 1) := dR0 (k := 0) (i := 20) bn_cX10_move_0 dop_42 (by decide +kernel)
theorem dX10_move_21 : decode cX10_move 21 = .ok (.getfield 70, 3) := dR2 (f := Instr.getfield) (k := 0) (i := 21) bn_cX10_move_0 dop_180 70 (by decide +kernel)
theorem dX10_move_24 : decode cX10_move 24 = .ok (.iload_n 1, 1) := dR0 (k := 0) (i := 24) bn_cX10_move_0 dop_27 (by decide +kernel)
theorem dX10_move_25 : decode cX10_move 25 = .ok (.invokevirtual 176, 3) := dR2 (f := Instr.invokevirtual) (k := 0) (i := 25) bn_cX10_move_0 dop_182 176 (by decide +kernel)
theorem dX10_move_28 : decode cX10_move 28 = .ok (.ifCond .ne 14, 3) := dR2s (f := Instr.ifCond .ne) (k := 0) (i := 28) bn_cX10_move_0 dop_154 14 14 (by decide +kernel)
theorem dX10_move_31 : decode cX10_move 31 = .ok (.aload_n 0, 1) := dR0 (k := 0) (i := 31) bn_cX10_move_0 dop_42 (by decide +kernel)
theorem dX10_move_32 : decode cX10_move 32 = .ok (.getfield 70, 3) := dR2 (f := Instr.getfield) (k := 0) (i := 32) bn_cX10_move_0 dop_180 70 (by decide +kernel)
theorem dX10_move_35 : decode cX10_move 35 = .ok (.iload_n 3, 1) := dR0 (k := 0) (i := 35) bn_cX10_move_0 dop_29 (by decide +kernel)
theorem dX10_move_36 : decode cX10_move 36 = .ok (.invokevirtual 176, 3) := dR2 (f := Instr.invokevirtual) (k := 0) (i := 36) bn_cX10_move_0 dop_182 176 (by decide +kernel)
theorem dX10_move_39 : decode cX10_move 39 = .ok (.ifCond .eq 9, 3) := dR2s (f := Instr.ifCond .eq) (k := 0) (i := 39) bn_cX10_move_0 dop_153 9 9 (by decide +kernel)
theorem dX10_move_42 : decode cX10_move 42 = .ok (.aload_n 0, 1) := dR0 (k := 0) (i := 42) bn_cX10_move_0 dop_42 (by decide +kernel)
theorem dX10_move_43 : decode cX10_move 43 = .ok (.iconst 2, 1) := dR0 (k := 0) (i := 43) bn_cX10_move_0 dop_5 (by decide +kernel)
theorem dX10_move_44 : decode cX10_move 44 = .ok (.invokevirtual 82, 3) := dR2 (f := Instr.invokevirtual) (k := 0) (i := 44) bn_cX10_move_0 dop_182 82 (by decide +kernel)
theorem dX10_move_47 : decode cX10_move 47 = .ok (.ireturn, 1) := dR0 (k := 0) (i := 47) bn_cX10_move_0 dop_172 (by decide +kernel)
theorem dX10_move_48 : decode cX10_move 48 = .ok (.aload_n 0, 1) := dR0 (k := 0) (i := 48) bn_cX10_move_0 dop_42 (by decide +kernel)
theorem dX10_move_49 : decode cX10_move 49 = .ok (.getfield 70, 3) := dR2 (f := Instr.getfield) (k := 0) (i := 49) bn_cX10_move_0 dop_180 70 (by decide +kernel)
theorem dX10_move_52 : decode cX10_move 52 = .ok (.iload_n 1, 1) := dR0 (k := 0) (i := 52) bn_cX10_move_0 dop_27 (by decide +kernel)
theorem dX10_move_53 : decode cX10_move 53 = .ok (.invokevirtual 368, 3) := dR2 (f := Instr.invokevirtual) (k := 0) (i := 53) bn_cX10_move_0 dop_182 368 (by decide +kernel)
theorem dX10_move_56 : decode cX10_move 56 = .ok (.aload_n 0, 1) := dR0 (k := 0) (i := 56) bn_cX10_move_0 dop_42 (by decide +kernel)
theorem dX10_move_57 : decode cX10_move 57 = .ok (.getfield 70, 3) := dR2 (f := Instr.getfield) (k := 0) (i := 57) bn_cX10_move_0 dop_180 70 (by decide +kernel)
theorem dX10_move_60 : decode cX10_move 60 = .ok (.iload_n 3, 1) := dR0 (k := 0) (i := 60) bn_cX10_move_0 dop_29 (by decide +kernel)
theorem dX10_move_61 : decode cX10_move 61 = .ok (.invokevirtual 368, 3) := dR2 (f := Instr.invokevirtual) (k := 0) (i := 61) bn_cX10_move_0 dop_182 368 (by decide +kernel)
theorem dX10_move_64 : decode cX10_move 64 = .ok (.if_icmp .eq 9, 3) := dR2s (f := Instr.if_icmp .eq) (k := 0) (i := 64) bn_cX10_move_0 dop_159 9 9 (by decide +kernel)
theorem dX10_move_67 : decode cX10_move 67 = .ok (.aload_n 0, 1) := dR0 (k := 0) (i := 67) bn_cX10_move_0 dop_42 (by decide +kernel)
theorem dX10_move_68 : decode cX10_move 68 = .ok (.iconst 5, 1) := dR0 (k := 0) (i := 68) bn_cX10_move_0 dop_8 (by decide +kernel)
theorem dX10_move_69 : decode cX10_move 69 = .ok (.invokevirtual 82, 3) := dR2 (f := Instr.invokevirtual) (k := 0) (i := 69) bn_cX10_move_0 dop_182 82 (by decide +kernel)
theorem dX10_move_72 : decode cX10_move 72 = .ok (.ireturn, 1) := dR0 (k := 0) (i := 72) bn_cX10_move_0 dop_172 (by decide +kernel)
theorem dX10_move_73 : decode cX10_move 73 = .ok (.aload_n 0, 1) := dR0 (k := 0) (i := 73) bn_cX10_move_0 dop_42 (by decide +kernel)
theorem dX10_move_74 : decode cX10_move 74 = .ok (.getfield 70, 3) := dR2 (f := Instr.getfield) (k := 0) (i := 74) bn_cX10_move_0 dop_180 70 (by decide +kernel)
theorem dX10_move_77 : decode cX10_move 77 = .ok (.iload_n 1, 1) := dR0 (k := 0) (i := 77) bn_cX10_move_0 dop_27 (by decide +kernel)
theorem dX10_move_78 : decode cX10_move 78 = .ok (.iload_n 2, 1) := dR0 (k := 0) (i := 78) bn_cX10_move_0 dop_28 (by decide +kernel)
theorem dX10_move_79 : decode cX10_move 79 = .ok (.iload 5, 2) := dR1 (f := Instr.iload) (k := 0) (i := 79) bn_cX10_move_0 dop_21 5 (by decide +kernel)
theorem dX10_move_81 : decode cX10_move 81 = .ok (.invokevirtual 371, 3) := dR2 (f := Instr.invokevirtual) (k := 0) (i := 81) bn_cX10_move_0 dop_182 371 (by decide +kernel)
theorem dX10_move_84 : decode cX10_move 84 = .ok (.ifCond .eq 18, 3) := dR2s (f := Instr.ifCond .eq) (k := 0) (i := 84) bn_cX10_move_0 dop_153 18 18 (by decide +kernel)
theorem dX10_move_87 : decode cX10_move 87 = .ok (.aload_n 0, 1) := dR0 (k := 0) (i := 87) bn_cX10_move_0 dop_42 (by decide +kernel)
theorem dX10_move_88 : decode cX10_move 88 = .ok (.getfield 70, 3) := dR2 (f := Instr.getfield) (k := 0) (i := 88) bn_cX10_move_0 dop_180 70 (by decide +kernel)
theorem dX10_move_91 : decode cX10_move 91 = .ok (.iload_n 3, 1) := dR0 (k := 0) (i := 91) bn_cX10_move_0 dop_29 (by decide +kernel)
theorem dX10_move_92 : decode cX10_move 92 = .ok (.iload 4, 2) := dR1 (f := Instr.iload) (k := 0) (i := 92) bn_cX10_move_0 dop_21 4 (by decide +kernel)
theorem dX10_move_94 : decode cX10_move 94 = .ok (.iload 5, 2) := dR1 (f := Instr.iload) (k := 0) (i := 94) bn_cX10_move_0 dop_21 5 (by decide +kernel)
theorem dX10_move_96 : decode cX10_move 96 = .ok (.invokevirtual 371, 3) := dR2 (f := Instr.invokevirtual) (k := 0) (i := 96) bn_cX10_move_0 dop_182 371 (by decide +kernel)
theorem dX10_move_99 : decode cX10_move 99 = .ok (.ifCond .ne 9, 3) := dR2s (f := Instr.ifCond .ne) (k := 0) (i := 99) bn_cX10_move_0 dop_154 9 9 (by decide +kernel)
theorem dX10_move_102 : decode cX10_move 102 = .ok (.aload_n 0, 1) := dR0 (k := 0) (i := 102) bn_cX10_move_0 dop_42 (by decide +kernel)
theorem dX10_move_103 : decode cX10_move 103 = .ok (.iconst 1, 1) := dR0 (k := 0) (i := 103) bn_cX10_move_0 dop_4 (by decide +kernel)
theorem dX10_move_104 : decode cX10_move 104 = .ok (.invokevirtual 82, 3) := dR2 (f := Instr.invokevirtual) (k := 0) (i := 104) bn_cX10_move_0 dop_182 82 (by decide +kernel)
theorem dX10_move_107 : decode cX10_move 107 = .ok (.ireturn, 1) := dR0 (k := 0) (i := 107) bn_cX10_move_0 dop_172 (by decide +kernel)
theorem dX10_move_108 : decode cX10_move 108 = .ok (.aload_n 0, 1) := dR0 (k := 0) (i := 108) bn_cX10_move_0 dop_42 (by decide +kernel)
theorem dX10_move_109 : decode cX10_move 109 = .ok (.getfield 70, 3) := dR2 (f := Instr.getfield) (k := 0) (i := 109) bn_cX10_move_0 dop_180 70 (by decide +kernel)
theorem dX10_move_112 : decode cX10_move 112 = .ok (.iload_n 1, 1) := dR0 (k := 0) (i := 112) bn_cX10_move_0 dop_27 (by decide +kernel)
theorem dX10_move_113 : decode cX10_move 113 = .ok (.iload_n 2, 1) := dR0 (k := 0) (i := 113) bn_cX10_move_0 dop_28 (by decide +kernel)
theorem dX10_move_114 : decode cX10_move 114 = .ok (.iload_n 3, 1) := dR0 (k := 0) (i := 114) bn_cX10_move_0 dop_29 (by decide +kernel)
theorem dX10_move_115 : decode cX10_move 115 = .ok (.iload 4, 2) := dR1 (f := Instr.iload) (k := 0) (i := 115) bn_cX10_move_0 dop_21 4 (by decide +kernel)
theorem dX10_move_117 : decode cX10_move 117 = .ok (.iload 5, 2) := dR1 (f := Instr.iload) (k := 0) (i := 117) bn_cX10_move_0 dop_21 5 (by decide +kernel)
theorem dX10_move_119 : decode cX10_move 119 = .ok (.invokevirtual 374, 3) := dR2 (f := Instr.invokevirtual) (k := 0) (i := 119) bn_cX10_move_0 dop_182 374 (by decide +kernel)
theorem dX10_move_122 : decode cX10_move 122 = .ok (.iload 5, 2) := dR1 (f := Instr.iload) (k := 0) (i := 122) bn_cX10_move_0 dop_21 5 (by decide +kernel)
theorem dX10_move_124 : decode cX10_move 124 = .ok (.ireturn, 1) := dR0 (k := 0) (i := 124) bn_cX10_move_0 dop_172 (by decide +kernel)
set_option maxHeartbeats 4000000 in
set_option maxRecDepth 100000 in
theorem c_X10_moveG (l : Launch) (D : va_G) (cI : ClassId) (aK aV : Nat → Nat) (k k0 k1 k2 k3 k4 k5 k6 k7 k8 k9 ka kb ka0 ka1 ka2 : Nat) (sz : Nat) (cc : Int32) (cb : Nat → Int32) (ca0 : Nat → Int32) (ca1 : Nat → Int32) (ca2 : Nat → Int32) (a0 : Int32) (a1 : Int32) (a2 : Int32) (a3 : Int32) (a4 : Int32) (pre0 : ∀ k : Nat, k < 4 → 0 ≤ (ca1 k).toInt ∧ (ca1 k).toInt ≤ 36) : Met l yX10_move (gW yX10_move cX10_move 6 (some .int)) ({ frames := 4, cells := 0, slots := 0, locals := 89 } : Room) (kPreX D cI aK aV [.ref k, .int a0, .int a1, .int a2, .int a3, .int a4] [(k, .inr (10, [.ref k0, .ref k1, .ref k2, .ref k3, .ref k4, .ref k5, .ref k6, .ref k7, .ref k8, .ref k9, .ref ka, .ref kb, .int cc])), (ka, .inr (6, [.ref ka0, .ref ka1, .ref ka2])), (kb, .inl (cI, 6, .inl cb)), (ka0, .inl (cI, 4, .inl ca0)), (ka1, .inl (cI, 4, .inl ca1)), (ka2, .inl (cI, 144, .inl ca2))] sz) (va_Qi (fun (r : Int32) (u : (Nat → Int32) × (Nat → Int32)) => r = moveR ca0 ca1 a0 a1 a2 a3 a4 ∧ u.2 = moveS ca0 ca1 ca2 a0 a1 a2 a3 a4) (fun u t => kWd D cI (va_A [(k, .inr (10, [.ref k0, .ref k1, .ref k2, .ref k3, .ref k4, .ref k5, .ref k6, .ref k7, .ref k8, .ref k9, .ref ka, .ref kb, .int cc])), (ka, .inr (6, [.ref ka0, .ref ka1, .ref ka2])), (kb, .inl (cI, 6, .inl cb)), (ka0, .inl (cI, 4, .inl ca0)), (ka1, .inl (cI, 4, .inl ca1)), (ka2, .inl (cI, 144, .inl ca2))] sz) [(k, .inr (10, [.ref k0, .ref k1, .ref k2, .ref k3, .ref k4, .ref k5, .ref k6, .ref k7, .ref k8, .ref k9, .ref ka, .ref kb, .int cc])), (ka, .inr (6, [.ref ka0, .ref ka1, .ref ka2])), (kb, .inl (cI, 6, .inl u.1)), (ka0, .inl (cI, 4, .inl ca0)), (ka1, .inl (cI, 4, .inl ca1)), (ka2, .inl (cI, 144, .inl u.2))] t) (va_A [(k, .inr (10, [.ref k0, .ref k1, .ref k2, .ref k3, .ref k4, .ref k5, .ref k6, .ref k7, .ref k8, .ref k9, .ref ka, .ref kb, .int cc])), (ka, .inr (6, [.ref ka0, .ref ka1, .ref ka2])), (kb, .inl (cI, 6, .inl cb)), (ka0, .inl (cI, 4, .inl ca0)), (ka1, .inl (cI, 4, .inl ca1)), (ka2, .inl (cI, 144, .inl ca2))] sz)) 0 0 (va_A [(k, .inr (10, [.ref k0, .ref k1, .ref k2, .ref k3, .ref k4, .ref k5, .ref k6, .ref k7, .ref k8, .ref k9, .ref ka, .ref kb, .int cc])), (ka, .inr (6, [.ref ka0, .ref ka1, .ref ka2])), (kb, .inl (cI, 6, .inl cb)), (ka0, .inl (cI, 4, .inl ca0)), (ka1, .inl (cI, 4, .inl ca1)), (ka2, .inl (cI, 144, .inl ca2))] sz) := by
  refine kMetIX (own := RX10) (by decide +kernel) rfl (Nat.le_of_ble_eq_true rfl) ?_
  intro p e s m args below meth c hx hb hT hown hname hml A Q hK hP hD hS hA hN hXS hRet ls hl
  have hl : lv_has ls 6 [(0, .ref k), (1, .int a0), (2, .int a1), (3, .int a2), (4, .int a3), (5, .int a4)] := hl
  have lo_a0 := k_lo a0
  have hi_a0 := k_hi a0
  have lo_a1 := k_lo a1
  have hi_a1 := k_hi a1
  have lo_a2 := k_lo a2
  have hi_a2 := k_hi a2
  have lo_a3 := k_lo a3
  have hi_a3 := k_hi a3
  have lo_a4 := k_lo a4
  have hi_a4 := k_hi a4
  have hln_a0 : 0 ≤ a0.toInt → a0.toInt ≤ 3 → 0 ≤ (ca1 a0.toNatClampNeg).toInt ∧ (ca1 a0.toNatClampNeg).toInt ≤ 36 := fun z0 z1 => pre0 a0.toNatClampNeg (by rw [k_clamp]; omega)
  have hln_a2 : 0 ≤ a2.toInt → a2.toInt ≤ 3 → 0 ≤ (ca1 a2.toNatClampNeg).toInt ∧ (ca1 a2.toNatClampNeg).toInt ≤ 36 := fun z0 z1 => pre0 a2.toNatClampNeg (by rw [k_clamp]; omega)
  refine lv_iload_n hx hb dX10_move_0 rfl (lv_at hl 1 rfl) ?_
  refine kJi (wr := [(k, .inr (10, [.ref k0, .ref k1, .ref k2, .ref k3, .ref k4, .ref k5, .ref k6, .ref k7, .ref k8, .ref k9, .ref ka, .ref kb, .int cc])), (ka, .inr (6, [.ref ka0, .ref ka1, .ref ka2])), (kb, .inl (cI, 6, .inl cb)), (ka0, .inl (cI, 4, .inl ca0)), (ka1, .inl (cI, 4, .inl ca1)), (ka2, .inl (cI, 144, .inl ca2))]) (va_runS (As := [.int a0]) (rest := []) ⟨hx, hb, hml, hown, hT⟩ (c_X10_isSheetG l D cI aK aV s.heap.size a0) (cwS 1 hT (gS_in mw_662 mw_660 mw_661 mw_1) rfl rfl rfl (by decide +kernel) ⟨Nat.le_of_ble_eq_true rfl, Nat.le_of_ble_eq_true rfl⟩) (kStatX hK hP hD hN hXS hS hA [] rfl (by decide +kernel)) rfl rfl hl.1 rfl (lv_room (Nat.le_of_ble_eq_true rfl)) dX10_move_1 ⟨Nat.le_of_ble_eq_true rfl, Nat.le_of_ble_eq_true rfl⟩) hP hD hS hA [] [0, 1, 2, 3, 4, 5] rfl rfl (by decide +kernel) (by decide +kernel) ?_
  clear hP hD hS
  intro r_1 u_3 H locs w_2 hP hD hS
  replace hP : va_P D vwCl [(k, .inr (10, [.ref k0, .ref k1, .ref k2, .ref k3, .ref k4, .ref k5, .ref k6, .ref k7, .ref k8, .ref k9, .ref ka, .ref kb, .int cc])), (ka, .inr (6, [.ref ka0, .ref ka1, .ref ka2])), (kb, .inl (cI, 6, .inl cb)), (ka0, .inl (cI, 4, .inl ca0)), (ka1, .inl (cI, 4, .inl ca1)), (ka2, .inl (cI, 144, .inl ca2))] H := hP
  replace hD : va_D A [(k, .inr (10, [.ref k0, .ref k1, .ref k2, .ref k3, .ref k4, .ref k5, .ref k6, .ref k7, .ref k8, .ref k9, .ref ka, .ref kb, .int cc])), (ka, .inr (6, [.ref ka0, .ref ka1, .ref ka2])), (kb, .inl (cI, 6, .inl cb)), (ka0, .inl (cI, 4, .inl ca0)), (ka1, .inl (cI, 4, .inl ca1)), (ka2, .inl (cI, 144, .inl ca2))] := hD
  rcases w_2 with ⟨hr_1, h_4, h_5⟩ | ⟨hr_1, h_6⟩
  · have h_4 : 0 ≤ a0.toInt := h_4
    have h_5 : a0.toInt ≤ 3 := h_5
    obtain rfl : r_1 = 1 := hr_1.trans (by decide +kernel)
    refine b_if_eq hx hb zl_1 (tgt := 14) dX10_move_4 (by decide +kernel) (fun c_7 => by exfalso; omega) (fun c_7 => ?_)
    refine lv_iload_n hx hb dX10_move_7 rfl (lv_at hl 3 rfl) ?_
    refine kJi (wr := [(k, .inr (10, [.ref k0, .ref k1, .ref k2, .ref k3, .ref k4, .ref k5, .ref k6, .ref k7, .ref k8, .ref k9, .ref ka, .ref kb, .int cc])), (ka, .inr (6, [.ref ka0, .ref ka1, .ref ka2])), (kb, .inl (cI, 6, .inl cb)), (ka0, .inl (cI, 4, .inl ca0)), (ka1, .inl (cI, 4, .inl ca1)), (ka2, .inl (cI, 144, .inl ca2))]) (va_runS (As := [.int a2]) (rest := []) ⟨hx, hb, hml, hown, hT⟩ (c_X10_isSheetG l D cI aK aV H.size a2) (cwS 1 hT (gS_in mw_662 mw_660 mw_661 mw_1) rfl rfl rfl (by decide +kernel) ⟨Nat.le_of_ble_eq_true rfl, Nat.le_of_ble_eq_true rfl⟩) (kStatX hK hP hD hN hXS hS hA [] rfl (by decide +kernel)) rfl rfl hl.1 rfl (lv_room (Nat.le_of_ble_eq_true rfl)) dX10_move_8 ⟨Nat.le_of_ble_eq_true rfl, Nat.le_of_ble_eq_true rfl⟩) hP hD hS hA [] [0, 1, 2, 3, 4, 5] rfl rfl (by decide +kernel) (by decide +kernel) ?_
    clear hP hD hS
    intro r_8 u_10 H locs w_9 hP hD hS
    replace hP : va_P D vwCl [(k, .inr (10, [.ref k0, .ref k1, .ref k2, .ref k3, .ref k4, .ref k5, .ref k6, .ref k7, .ref k8, .ref k9, .ref ka, .ref kb, .int cc])), (ka, .inr (6, [.ref ka0, .ref ka1, .ref ka2])), (kb, .inl (cI, 6, .inl cb)), (ka0, .inl (cI, 4, .inl ca0)), (ka1, .inl (cI, 4, .inl ca1)), (ka2, .inl (cI, 144, .inl ca2))] H := hP
    replace hD : va_D A [(k, .inr (10, [.ref k0, .ref k1, .ref k2, .ref k3, .ref k4, .ref k5, .ref k6, .ref k7, .ref k8, .ref k9, .ref ka, .ref kb, .int cc])), (ka, .inr (6, [.ref ka0, .ref ka1, .ref ka2])), (kb, .inl (cI, 6, .inl cb)), (ka0, .inl (cI, 4, .inl ca0)), (ka1, .inl (cI, 4, .inl ca1)), (ka2, .inl (cI, 144, .inl ca2))] := hD
    rcases w_9 with ⟨hr_8, h_11, h_12⟩ | ⟨hr_8, h_13⟩
    · have h_11 : 0 ≤ a2.toInt := h_11
      have h_12 : a2.toInt ≤ 3 := h_12
      obtain rfl : r_8 = 1 := hr_8.trans (by decide +kernel)
      refine b_if_ne hx hb zl_1 (tgt := 20) dX10_move_11 (by decide +kernel) (fun c_14 => ?_) (fun c_14 => by exfalso; omega)
      refine lv_aload_n hx hb dX10_move_20 rfl (lv_at hl 0 rfl) ?_
      refine va_get (D := D) (ci := 10) (v := .ref ka) (C := RX10) (T := TX10) (N := 13) hx hb hT giX10 hown hK hP 0 rfl rfl 10 (by decide +kernel) (hT (Cond.fieldLink RX10 70 "DesertWire" "sheets" "LDesertWire$Sheets;") mw_301) (fun _ h9 => h9) rfl dX10_move_21 ?_
      refine lv_iload_n hx hb dX10_move_24 rfl (lv_at hl 1 rfl) ?_
      refine kJi (wr := [(k, .inr (10, [.ref k0, .ref k1, .ref k2, .ref k3, .ref k4, .ref k5, .ref k6, .ref k7, .ref k8, .ref k9, .ref ka, .ref kb, .int cc])), (kb, .inl (cI, 6, .inl cb)), (ka1, .inl (cI, 4, .inl ca1)), (ka2, .inl (cI, 144, .inl ca2))]) (va_runV (As := [.int a0]) (rest := []) ⟨hx, hb, hml, hown, hT⟩ (c_X6_isMissingG l D cI aK aV ka ka0 ka1 ka2 H.size ca0 a0) (cwV 1 hT (gV_in mw_666 mw_663 mw_664 mw_665 mw_11) rfl rfl rfl (by decide +kernel) ⟨Nat.le_of_ble_eq_true rfl, Nat.le_of_ble_eq_true rfl⟩) (kRecvX (q0 := 1) (ci := 6) hK hP hD hN hXS hS hA rfl rfl [1, 3] rfl (by decide +kernel)) rfl rfl hl.1 rfl (lv_room (Nat.le_of_ble_eq_true rfl)) dX10_move_25 ⟨Nat.le_of_ble_eq_true rfl, Nat.le_of_ble_eq_true rfl⟩) hP hD hS hA [1, 3] [0, 2, 4, 5] rfl rfl (by decide +kernel) (by decide +kernel) ?_
      clear hP hD hS
      intro r_15 u_17 H locs w_16 hP hD hS
      replace hP : va_P D vwCl [(k, .inr (10, [.ref k0, .ref k1, .ref k2, .ref k3, .ref k4, .ref k5, .ref k6, .ref k7, .ref k8, .ref k9, .ref ka, .ref kb, .int cc])), (kb, .inl (cI, 6, .inl cb)), (ka1, .inl (cI, 4, .inl ca1)), (ka2, .inl (cI, 144, .inl ca2)), (ka, .inr (6, [.ref ka0, .ref ka1, .ref ka2])), (ka0, .inl (cI, 4, .inl ca0))] H := hP
      replace hD : va_D A [(k, .inr (10, [.ref k0, .ref k1, .ref k2, .ref k3, .ref k4, .ref k5, .ref k6, .ref k7, .ref k8, .ref k9, .ref ka, .ref kb, .int cc])), (kb, .inl (cI, 6, .inl cb)), (ka1, .inl (cI, 4, .inl ca1)), (ka2, .inl (cI, 144, .inl ca2)), (ka, .inr (6, [.ref ka0, .ref ka1, .ref ka2])), (ka0, .inl (cI, 4, .inl ca0))] := hD
      rcases w_16 with ⟨hr_15, h_18, h_19, h_20⟩ | ⟨hr_15, h_21, h_22, h_23⟩ | ⟨hr_15, h_24⟩
      · have h_18 : 0 ≤ a0.toInt := h_18
        have h_19 : a0.toInt ≤ 3 := h_19
        have h_20 : (ca0 a0.toNatClampNeg).toInt = 0 := h_20
        obtain rfl : r_15 = 1 := hr_15.trans (by decide +kernel)
        refine b_if_ne hx hb zl_1 (tgt := 42) dX10_move_28 (by decide +kernel) (fun c_25 => ?_) (fun c_25 => by exfalso; omega)
        refine lv_aload_n hx hb dX10_move_42 rfl (lv_at hl 0 rfl) ?_
        refine lv_iconst (v := 2) hx hb dX10_move_43 (by decide +kernel) ?_
        refine kJi (wr := [(ka1, .inl (cI, 4, .inl ca1)), (ka2, .inl (cI, 144, .inl ca2)), (ka, .inr (6, [.ref ka0, .ref ka1, .ref ka2])), (ka0, .inl (cI, 4, .inl ca0))]) (va_runV (As := [.int 2]) (rest := []) ⟨hx, hb, hml, hown, hT⟩ (c_X10_findingG l D cI aK aV k k0 k1 k2 k3 k4 k5 k6 k7 k8 k9 ka kb H.size cc cb 2) (cwV 1 hT (gV_in mw_338 mw_335 mw_337 mw_p1_0 mw_1) rfl rfl rfl (by decide +kernel) ⟨Nat.le_of_ble_eq_true rfl, Nat.le_of_ble_eq_true rfl⟩) (kRecvX (q0 := 0) (ci := 10) hK hP hD hN hXS hS hA rfl rfl [0, 1] rfl (by decide +kernel)) rfl rfl hl.1 rfl (lv_room (Nat.le_of_ble_eq_true rfl)) dX10_move_44 ⟨Nat.le_of_ble_eq_true rfl, Nat.le_of_ble_eq_true rfl⟩) hP hD hS hA [0, 1] [2, 3, 4, 5] rfl rfl (by decide +kernel) (by decide +kernel) ?_
        clear hP hD hS
        intro r_26 scb_28 H locs w_27 hP hD hS
        replace hP : va_P D vwCl [(ka1, .inl (cI, 4, .inl ca1)), (ka2, .inl (cI, 144, .inl ca2)), (ka, .inr (6, [.ref ka0, .ref ka1, .ref ka2])), (ka0, .inl (cI, 4, .inl ca0)), (k, .inr (10, [.ref k0, .ref k1, .ref k2, .ref k3, .ref k4, .ref k5, .ref k6, .ref k7, .ref k8, .ref k9, .ref ka, .ref kb, .int cc])), (kb, .inl (cI, 6, .inl scb_28))] H := hP
        replace hD : va_D A [(ka1, .inl (cI, 4, .inl ca1)), (ka2, .inl (cI, 144, .inl ca2)), (ka, .inr (6, [.ref ka0, .ref ka1, .ref ka2])), (ka0, .inl (cI, 4, .inl ca0)), (k, .inr (10, [.ref k0, .ref k1, .ref k2, .ref k3, .ref k4, .ref k5, .ref k6, .ref k7, .ref k8, .ref k9, .ref ka, .ref kb, .int cc])), (kb, .inl (cI, 6, .inl scb_28))] := hD
        have hr_26 := w_27
        obtain rfl : r_26 = (-1000002) := hr_26.trans (by decide +kernel)
        exact hRet (scb_28, ca2) [4, 2, 5, 3, 0, 1] ⟨(by (try dsimp only); unfold moveR; (repeat (first | rw [if_pos (by omega)] | rw [if_neg (by omega)]))), (by (try dsimp only); unfold moveS; (repeat (first | rw [if_pos (by omega)] | rw [if_neg (by omega)])))⟩ hP hD (by decide +kernel) rfl hS rfl dX10_move_47
      · have h_21 : 0 ≤ a0.toInt := h_21
        have h_22 : a0.toInt ≤ 3 := h_22
        have h_23 : (ca0 a0.toNatClampNeg).toInt ≠ 0 := h_23
        obtain rfl : r_15 = 0 := hr_15.trans (by decide +kernel)
        refine b_if_ne hx hb zl_0 (tgt := 42) dX10_move_28 (by decide +kernel) (fun c_29 => by exfalso; omega) (fun c_29 => ?_)
        refine lv_aload_n hx hb dX10_move_31 rfl (lv_at hl 0 rfl) ?_
        refine va_get (D := D) (ci := 10) (v := .ref ka) (C := RX10) (T := TX10) (N := 13) hx hb hT giX10 hown hK hP 0 rfl rfl 10 (by decide +kernel) (hT (Cond.fieldLink RX10 70 "DesertWire" "sheets" "LDesertWire$Sheets;") mw_301) (fun _ h9 => h9) rfl dX10_move_32 ?_
        refine lv_iload_n hx hb dX10_move_35 rfl (lv_at hl 3 rfl) ?_
        refine kJi (wr := [(k, .inr (10, [.ref k0, .ref k1, .ref k2, .ref k3, .ref k4, .ref k5, .ref k6, .ref k7, .ref k8, .ref k9, .ref ka, .ref kb, .int cc])), (kb, .inl (cI, 6, .inl cb)), (ka1, .inl (cI, 4, .inl ca1)), (ka2, .inl (cI, 144, .inl ca2))]) (va_runV (As := [.int a2]) (rest := []) ⟨hx, hb, hml, hown, hT⟩ (c_X6_isMissingG l D cI aK aV ka ka0 ka1 ka2 H.size ca0 a2) (cwV 1 hT (gV_in mw_666 mw_663 mw_664 mw_665 mw_11) rfl rfl rfl (by decide +kernel) ⟨Nat.le_of_ble_eq_true rfl, Nat.le_of_ble_eq_true rfl⟩) (kRecvX (q0 := 4) (ci := 6) hK hP hD hN hXS hS hA rfl rfl [4, 5] rfl (by decide +kernel)) rfl rfl hl.1 rfl (lv_room (Nat.le_of_ble_eq_true rfl)) dX10_move_36 ⟨Nat.le_of_ble_eq_true rfl, Nat.le_of_ble_eq_true rfl⟩) hP hD hS hA [4, 5] [0, 1, 2, 3] rfl rfl (by decide +kernel) (by decide +kernel) ?_
        clear hP hD hS
        intro r_30 u_32 H locs w_31 hP hD hS
        replace hP : va_P D vwCl [(k, .inr (10, [.ref k0, .ref k1, .ref k2, .ref k3, .ref k4, .ref k5, .ref k6, .ref k7, .ref k8, .ref k9, .ref ka, .ref kb, .int cc])), (kb, .inl (cI, 6, .inl cb)), (ka1, .inl (cI, 4, .inl ca1)), (ka2, .inl (cI, 144, .inl ca2)), (ka, .inr (6, [.ref ka0, .ref ka1, .ref ka2])), (ka0, .inl (cI, 4, .inl ca0))] H := hP
        replace hD : va_D A [(k, .inr (10, [.ref k0, .ref k1, .ref k2, .ref k3, .ref k4, .ref k5, .ref k6, .ref k7, .ref k8, .ref k9, .ref ka, .ref kb, .int cc])), (kb, .inl (cI, 6, .inl cb)), (ka1, .inl (cI, 4, .inl ca1)), (ka2, .inl (cI, 144, .inl ca2)), (ka, .inr (6, [.ref ka0, .ref ka1, .ref ka2])), (ka0, .inl (cI, 4, .inl ca0))] := hD
        rcases w_31 with ⟨hr_30, h_33, h_34, h_35⟩ | ⟨hr_30, h_36, h_37, h_38⟩ | ⟨hr_30, h_39⟩
        · have h_33 : 0 ≤ a2.toInt := h_33
          have h_34 : a2.toInt ≤ 3 := h_34
          have h_35 : (ca0 a2.toNatClampNeg).toInt = 0 := h_35
          obtain rfl : r_30 = 1 := hr_30.trans (by decide +kernel)
          refine b_if_eq hx hb zl_1 (tgt := 48) dX10_move_39 (by decide +kernel) (fun c_40 => by exfalso; omega) (fun c_40 => ?_)
          refine lv_aload_n hx hb dX10_move_42 rfl (lv_at hl 0 rfl) ?_
          refine lv_iconst (v := 2) hx hb dX10_move_43 (by decide +kernel) ?_
          refine kJi (wr := [(ka1, .inl (cI, 4, .inl ca1)), (ka2, .inl (cI, 144, .inl ca2)), (ka, .inr (6, [.ref ka0, .ref ka1, .ref ka2])), (ka0, .inl (cI, 4, .inl ca0))]) (va_runV (As := [.int 2]) (rest := []) ⟨hx, hb, hml, hown, hT⟩ (c_X10_findingG l D cI aK aV k k0 k1 k2 k3 k4 k5 k6 k7 k8 k9 ka kb H.size cc cb 2) (cwV 1 hT (gV_in mw_338 mw_335 mw_337 mw_p1_0 mw_1) rfl rfl rfl (by decide +kernel) ⟨Nat.le_of_ble_eq_true rfl, Nat.le_of_ble_eq_true rfl⟩) (kRecvX (q0 := 0) (ci := 10) hK hP hD hN hXS hS hA rfl rfl [0, 1] rfl (by decide +kernel)) rfl rfl hl.1 rfl (lv_room (Nat.le_of_ble_eq_true rfl)) dX10_move_44 ⟨Nat.le_of_ble_eq_true rfl, Nat.le_of_ble_eq_true rfl⟩) hP hD hS hA [0, 1] [2, 3, 4, 5] rfl rfl (by decide +kernel) (by decide +kernel) ?_
          clear hP hD hS
          intro r_41 scb_43 H locs w_42 hP hD hS
          replace hP : va_P D vwCl [(ka1, .inl (cI, 4, .inl ca1)), (ka2, .inl (cI, 144, .inl ca2)), (ka, .inr (6, [.ref ka0, .ref ka1, .ref ka2])), (ka0, .inl (cI, 4, .inl ca0)), (k, .inr (10, [.ref k0, .ref k1, .ref k2, .ref k3, .ref k4, .ref k5, .ref k6, .ref k7, .ref k8, .ref k9, .ref ka, .ref kb, .int cc])), (kb, .inl (cI, 6, .inl scb_43))] H := hP
          replace hD : va_D A [(ka1, .inl (cI, 4, .inl ca1)), (ka2, .inl (cI, 144, .inl ca2)), (ka, .inr (6, [.ref ka0, .ref ka1, .ref ka2])), (ka0, .inl (cI, 4, .inl ca0)), (k, .inr (10, [.ref k0, .ref k1, .ref k2, .ref k3, .ref k4, .ref k5, .ref k6, .ref k7, .ref k8, .ref k9, .ref ka, .ref kb, .int cc])), (kb, .inl (cI, 6, .inl scb_43))] := hD
          have hr_41 := w_42
          obtain rfl : r_41 = (-1000002) := hr_41.trans (by decide +kernel)
          exact hRet (scb_43, ca2) [4, 2, 5, 3, 0, 1] ⟨(by (try dsimp only); unfold moveR; (repeat (first | rw [if_pos (by omega)] | rw [if_neg (by omega)]))), (by (try dsimp only); unfold moveS; (repeat (first | rw [if_pos (by omega)] | rw [if_neg (by omega)])))⟩ hP hD (by decide +kernel) rfl hS rfl dX10_move_47
        · have h_36 : 0 ≤ a2.toInt := h_36
          have h_37 : a2.toInt ≤ 3 := h_37
          have h_38 : (ca0 a2.toNatClampNeg).toInt ≠ 0 := h_38
          obtain rfl : r_30 = 0 := hr_30.trans (by decide +kernel)
          refine b_if_eq hx hb zl_0 (tgt := 48) dX10_move_39 (by decide +kernel) (fun c_44 => ?_) (fun c_44 => by exfalso; omega)
          refine lv_aload_n hx hb dX10_move_48 rfl (lv_at hl 0 rfl) ?_
          refine va_get (D := D) (ci := 10) (v := .ref ka) (C := RX10) (T := TX10) (N := 13) hx hb hT giX10 hown hK hP 0 rfl rfl 10 (by decide +kernel) (hT (Cond.fieldLink RX10 70 "DesertWire" "sheets" "LDesertWire$Sheets;") mw_301) (fun _ h9 => h9) rfl dX10_move_49 ?_
          refine lv_iload_n hx hb dX10_move_52 rfl (lv_at hl 1 rfl) ?_
          refine kJi (wr := [(k, .inr (10, [.ref k0, .ref k1, .ref k2, .ref k3, .ref k4, .ref k5, .ref k6, .ref k7, .ref k8, .ref k9, .ref ka, .ref kb, .int cc])), (kb, .inl (cI, 6, .inl cb)), (ka1, .inl (cI, 4, .inl ca1)), (ka2, .inl (cI, 144, .inl ca2))]) (va_runV (As := [.int a0]) (rest := []) ⟨hx, hb, hml, hown, hT⟩ (c_X6_bitsOfG l D cI aK aV ka ka0 ka1 ka2 H.size ca0 a0) (cwV 1 hT (gV_in mw_670 mw_1090 mw_668 mw_669 mw_11) rfl rfl rfl (by decide +kernel) ⟨Nat.le_of_ble_eq_true rfl, Nat.le_of_ble_eq_true rfl⟩) (kRecvX (q0 := 4) (ci := 6) hK hP hD hN hXS hS hA rfl rfl [4, 5] rfl (by decide +kernel)) rfl rfl hl.1 rfl (lv_room (Nat.le_of_ble_eq_true rfl)) dX10_move_53 ⟨Nat.le_of_ble_eq_true rfl, Nat.le_of_ble_eq_true rfl⟩) hP hD hS hA [4, 5] [0, 1, 2, 3] rfl rfl (by decide +kernel) (by decide +kernel) ?_
          clear hP hD hS
          intro r_45 u_47 H locs w_46 hP hD hS
          replace hP : va_P D vwCl [(k, .inr (10, [.ref k0, .ref k1, .ref k2, .ref k3, .ref k4, .ref k5, .ref k6, .ref k7, .ref k8, .ref k9, .ref ka, .ref kb, .int cc])), (kb, .inl (cI, 6, .inl cb)), (ka1, .inl (cI, 4, .inl ca1)), (ka2, .inl (cI, 144, .inl ca2)), (ka, .inr (6, [.ref ka0, .ref ka1, .ref ka2])), (ka0, .inl (cI, 4, .inl ca0))] H := hP
          replace hD : va_D A [(k, .inr (10, [.ref k0, .ref k1, .ref k2, .ref k3, .ref k4, .ref k5, .ref k6, .ref k7, .ref k8, .ref k9, .ref ka, .ref kb, .int cc])), (kb, .inl (cI, 6, .inl cb)), (ka1, .inl (cI, 4, .inl ca1)), (ka2, .inl (cI, 144, .inl ca2)), (ka, .inr (6, [.ref ka0, .ref ka1, .ref ka2])), (ka0, .inl (cI, 4, .inl ca0))] := hD
          rcases w_46 with ⟨h_48, h_49, h_50⟩ | ⟨hr_45, h_51⟩
          · have h_48 : 0 ≤ a0.toInt := h_48
            have h_49 : a0.toInt ≤ 3 := h_49
            have h_50 : r_45.toInt = (ca0 a0.toNatClampNeg).toInt := h_50
            have lo_r_45 := k_lo r_45
            have hi_r_45 := k_hi r_45
            refine lv_aload_n hx hb dX10_move_56 rfl (lv_at hl 0 rfl) ?_
            refine va_get (D := D) (ci := 10) (v := .ref ka) (C := RX10) (T := TX10) (N := 13) hx hb hT giX10 hown hK hP 0 rfl rfl 10 (by decide +kernel) (hT (Cond.fieldLink RX10 70 "DesertWire" "sheets" "LDesertWire$Sheets;") mw_301) (fun _ h9 => h9) rfl dX10_move_57 ?_
            refine lv_iload_n hx hb dX10_move_60 rfl (lv_at hl 3 rfl) ?_
            refine kJi (wr := [(k, .inr (10, [.ref k0, .ref k1, .ref k2, .ref k3, .ref k4, .ref k5, .ref k6, .ref k7, .ref k8, .ref k9, .ref ka, .ref kb, .int cc])), (kb, .inl (cI, 6, .inl cb)), (ka1, .inl (cI, 4, .inl ca1)), (ka2, .inl (cI, 144, .inl ca2))]) (va_runV (As := [.int a2]) (rest := [.int r_45]) ⟨hx, hb, hml, hown, hT⟩ (c_X6_bitsOfG l D cI aK aV ka ka0 ka1 ka2 H.size ca0 a2) (cwV 1 hT (gV_in mw_670 mw_1090 mw_668 mw_669 mw_11) rfl rfl rfl (by decide +kernel) ⟨Nat.le_of_ble_eq_true rfl, Nat.le_of_ble_eq_true rfl⟩) (kRecvX (q0 := 4) (ci := 6) hK hP hD hN hXS hS hA rfl rfl [4, 5] rfl (by decide +kernel)) rfl rfl hl.1 rfl (lv_room (Nat.le_of_ble_eq_true rfl)) dX10_move_61 ⟨Nat.le_of_ble_eq_true rfl, Nat.le_of_ble_eq_true rfl⟩) hP hD hS hA [4, 5] [0, 1, 2, 3] rfl rfl (by decide +kernel) (by decide +kernel) ?_
            clear hP hD hS
            intro r_52 u_54 H locs w_53 hP hD hS
            replace hP : va_P D vwCl [(k, .inr (10, [.ref k0, .ref k1, .ref k2, .ref k3, .ref k4, .ref k5, .ref k6, .ref k7, .ref k8, .ref k9, .ref ka, .ref kb, .int cc])), (kb, .inl (cI, 6, .inl cb)), (ka1, .inl (cI, 4, .inl ca1)), (ka2, .inl (cI, 144, .inl ca2)), (ka, .inr (6, [.ref ka0, .ref ka1, .ref ka2])), (ka0, .inl (cI, 4, .inl ca0))] H := hP
            replace hD : va_D A [(k, .inr (10, [.ref k0, .ref k1, .ref k2, .ref k3, .ref k4, .ref k5, .ref k6, .ref k7, .ref k8, .ref k9, .ref ka, .ref kb, .int cc])), (kb, .inl (cI, 6, .inl cb)), (ka1, .inl (cI, 4, .inl ca1)), (ka2, .inl (cI, 144, .inl ca2)), (ka, .inr (6, [.ref ka0, .ref ka1, .ref ka2])), (ka0, .inl (cI, 4, .inl ca0))] := hD
            rcases w_53 with ⟨h_55, h_56, h_57⟩ | ⟨hr_52, h_58⟩
            · have h_55 : 0 ≤ a2.toInt := h_55
              have h_56 : a2.toInt ≤ 3 := h_56
              have h_57 : r_52.toInt = (ca0 a2.toNatClampNeg).toInt := h_57
              have lo_r_52 := k_lo r_52
              have hi_r_52 := k_hi r_52
              refine b_icmp_eq hx hb rfl rfl (tgt := 73) dX10_move_64 (by decide +kernel) (fun c_59 => ?_) (fun c_59 => ?_)
              · refine lv_aload_n hx hb dX10_move_73 rfl (lv_at hl 0 rfl) ?_
                refine va_get (D := D) (ci := 10) (v := .ref ka) (C := RX10) (T := TX10) (N := 13) hx hb hT giX10 hown hK hP 0 rfl rfl 10 (by decide +kernel) (hT (Cond.fieldLink RX10 70 "DesertWire" "sheets" "LDesertWire$Sheets;") mw_301) (fun _ h9 => h9) rfl dX10_move_74 ?_
                refine lv_iload_n hx hb dX10_move_77 rfl (lv_at hl 1 rfl) ?_
                refine lv_iload_n hx hb dX10_move_78 rfl (lv_at hl 2 rfl) ?_
                refine lv_iload hx hb dX10_move_79 (lv_at hl 5 rfl) ?_
                refine kJi (wr := [(k, .inr (10, [.ref k0, .ref k1, .ref k2, .ref k3, .ref k4, .ref k5, .ref k6, .ref k7, .ref k8, .ref k9, .ref ka, .ref kb, .int cc])), (kb, .inl (cI, 6, .inl cb)), (ka2, .inl (cI, 144, .inl ca2)), (ka0, .inl (cI, 4, .inl ca0))]) (va_runV (As := [.int a0, .int a1, .int a4]) (rest := []) ⟨hx, hb, hml, hown, hT⟩ (c_X6_spansG l D cI aK aV ka ka0 ka1 ka2 H.size ca1 a0 a1 a4 (by first | omega | decide | assumption | rfl) (by first | omega | decide | assumption | rfl) (by first | omega | decide | assumption | rfl)) (cwV 3 hT (gV_in mw_1094 mw_1091 mw_1092 mw_1093 mw_11) rfl rfl rfl (by decide +kernel) ⟨Nat.le_of_ble_eq_true rfl, Nat.le_of_ble_eq_true rfl⟩) (kRecvX (q0 := 4) (ci := 6) hK hP hD hN hXS hS hA rfl rfl [4, 2] rfl (by decide +kernel)) rfl rfl hl.1 rfl (lv_room (Nat.le_of_ble_eq_true rfl)) dX10_move_81 ⟨Nat.le_of_ble_eq_true rfl, Nat.le_of_ble_eq_true rfl⟩) hP hD hS hA [4, 2] [0, 1, 3, 5] rfl rfl (by decide +kernel) (by decide +kernel) ?_
                clear hP hD hS
                intro r_60 u_62 H locs w_61 hP hD hS
                replace hP : va_P D vwCl [(k, .inr (10, [.ref k0, .ref k1, .ref k2, .ref k3, .ref k4, .ref k5, .ref k6, .ref k7, .ref k8, .ref k9, .ref ka, .ref kb, .int cc])), (kb, .inl (cI, 6, .inl cb)), (ka2, .inl (cI, 144, .inl ca2)), (ka0, .inl (cI, 4, .inl ca0)), (ka, .inr (6, [.ref ka0, .ref ka1, .ref ka2])), (ka1, .inl (cI, 4, .inl ca1))] H := hP
                replace hD : va_D A [(k, .inr (10, [.ref k0, .ref k1, .ref k2, .ref k3, .ref k4, .ref k5, .ref k6, .ref k7, .ref k8, .ref k9, .ref ka, .ref kb, .int cc])), (kb, .inl (cI, 6, .inl cb)), (ka2, .inl (cI, 144, .inl ca2)), (ka0, .inl (cI, 4, .inl ca0)), (ka, .inr (6, [.ref ka0, .ref ka1, .ref ka2])), (ka1, .inl (cI, 4, .inl ca1))] := hD
                rcases w_61 with ⟨hr_60, h_63, h_64, h_65⟩ | ⟨hr_60, h_66⟩
                · have h_63 : 0 ≤ a1.toInt := h_63
                  have h_64 : 0 ≤ a4.toInt := h_64
                  have h_65 : a1.toInt + a4.toInt ≤ (ca1 a0.toNatClampNeg).toInt := h_65
                  obtain rfl : r_60 = 1 := hr_60.trans (by decide +kernel)
                  refine b_if_eq hx hb zl_1 (tgt := 102) dX10_move_84 (by decide +kernel) (fun c_67 => by exfalso; omega) (fun c_67 => ?_)
                  refine lv_aload_n hx hb dX10_move_87 rfl (lv_at hl 0 rfl) ?_
                  refine va_get (D := D) (ci := 10) (v := .ref ka) (C := RX10) (T := TX10) (N := 13) hx hb hT giX10 hown hK hP 0 rfl rfl 10 (by decide +kernel) (hT (Cond.fieldLink RX10 70 "DesertWire" "sheets" "LDesertWire$Sheets;") mw_301) (fun _ h9 => h9) rfl dX10_move_88 ?_
                  refine lv_iload_n hx hb dX10_move_91 rfl (lv_at hl 3 rfl) ?_
                  refine lv_iload hx hb dX10_move_92 (lv_at hl 4 rfl) ?_
                  refine lv_iload hx hb dX10_move_94 (lv_at hl 5 rfl) ?_
                  refine kJi (wr := [(k, .inr (10, [.ref k0, .ref k1, .ref k2, .ref k3, .ref k4, .ref k5, .ref k6, .ref k7, .ref k8, .ref k9, .ref ka, .ref kb, .int cc])), (kb, .inl (cI, 6, .inl cb)), (ka2, .inl (cI, 144, .inl ca2)), (ka0, .inl (cI, 4, .inl ca0))]) (va_runV (As := [.int a2, .int a3, .int a4]) (rest := []) ⟨hx, hb, hml, hown, hT⟩ (c_X6_spansG l D cI aK aV ka ka0 ka1 ka2 H.size ca1 a2 a3 a4 (by first | omega | decide | assumption | rfl) (by first | omega | decide | assumption | rfl) (by first | omega | decide | assumption | rfl)) (cwV 3 hT (gV_in mw_1094 mw_1091 mw_1092 mw_1093 mw_11) rfl rfl rfl (by decide +kernel) ⟨Nat.le_of_ble_eq_true rfl, Nat.le_of_ble_eq_true rfl⟩) (kRecvX (q0 := 4) (ci := 6) hK hP hD hN hXS hS hA rfl rfl [4, 5] rfl (by decide +kernel)) rfl rfl hl.1 rfl (lv_room (Nat.le_of_ble_eq_true rfl)) dX10_move_96 ⟨Nat.le_of_ble_eq_true rfl, Nat.le_of_ble_eq_true rfl⟩) hP hD hS hA [4, 5] [0, 1, 2, 3] rfl rfl (by decide +kernel) (by decide +kernel) ?_
                  clear hP hD hS
                  intro r_68 u_70 H locs w_69 hP hD hS
                  replace hP : va_P D vwCl [(k, .inr (10, [.ref k0, .ref k1, .ref k2, .ref k3, .ref k4, .ref k5, .ref k6, .ref k7, .ref k8, .ref k9, .ref ka, .ref kb, .int cc])), (kb, .inl (cI, 6, .inl cb)), (ka2, .inl (cI, 144, .inl ca2)), (ka0, .inl (cI, 4, .inl ca0)), (ka, .inr (6, [.ref ka0, .ref ka1, .ref ka2])), (ka1, .inl (cI, 4, .inl ca1))] H := hP
                  replace hD : va_D A [(k, .inr (10, [.ref k0, .ref k1, .ref k2, .ref k3, .ref k4, .ref k5, .ref k6, .ref k7, .ref k8, .ref k9, .ref ka, .ref kb, .int cc])), (kb, .inl (cI, 6, .inl cb)), (ka2, .inl (cI, 144, .inl ca2)), (ka0, .inl (cI, 4, .inl ca0)), (ka, .inr (6, [.ref ka0, .ref ka1, .ref ka2])), (ka1, .inl (cI, 4, .inl ca1))] := hD
                  rcases w_69 with ⟨hr_68, h_71, h_72, h_73⟩ | ⟨hr_68, h_74⟩
                  · have h_71 : 0 ≤ a3.toInt := h_71
                    have h_72 : 0 ≤ a4.toInt := h_72
                    have h_73 : a3.toInt + a4.toInt ≤ (ca1 a2.toNatClampNeg).toInt := h_73
                    obtain rfl : r_68 = 1 := hr_68.trans (by decide +kernel)
                    refine b_if_ne hx hb zl_1 (tgt := 108) dX10_move_99 (by decide +kernel) (fun c_75 => ?_) (fun c_75 => by exfalso; omega)
                    refine lv_aload_n hx hb dX10_move_108 rfl (lv_at hl 0 rfl) ?_
                    refine va_get (D := D) (ci := 10) (v := .ref ka) (C := RX10) (T := TX10) (N := 13) hx hb hT giX10 hown hK hP 0 rfl rfl 10 (by decide +kernel) (hT (Cond.fieldLink RX10 70 "DesertWire" "sheets" "LDesertWire$Sheets;") mw_301) (fun _ h9 => h9) rfl dX10_move_109 ?_
                    refine lv_iload_n hx hb dX10_move_112 rfl (lv_at hl 1 rfl) ?_
                    refine lv_iload_n hx hb dX10_move_113 rfl (lv_at hl 2 rfl) ?_
                    refine lv_iload_n hx hb dX10_move_114 rfl (lv_at hl 3 rfl) ?_
                    refine lv_iload hx hb dX10_move_115 (lv_at hl 4 rfl) ?_
                    refine lv_iload hx hb dX10_move_117 (lv_at hl 5 rfl) ?_
                    refine kJv (wr := [(k, .inr (10, [.ref k0, .ref k1, .ref k2, .ref k3, .ref k4, .ref k5, .ref k6, .ref k7, .ref k8, .ref k9, .ref ka, .ref kb, .int cc])), (kb, .inl (cI, 6, .inl cb)), (ka0, .inl (cI, 4, .inl ca0))]) (va_runV (As := [.int a0, .int a1, .int a2, .int a3, .int a4]) (rest := []) ⟨hx, hb, hml, hown, hT⟩ (c_X6_transferG l D cI aK aV ka ka0 ka1 ka2 H.size ca1 ca2 a0 a1 a2 a3 a4 (by first | omega | decide | assumption | rfl) (by first | omega | decide | assumption | rfl) (by first | omega | decide | assumption | rfl) (by first | omega | decide | assumption | rfl) (by first | omega | decide | assumption | rfl) (by first | omega | decide | assumption | rfl) (by first | omega | decide | assumption | rfl) (by first | omega | decide | assumption | rfl) (by first | omega | decide | assumption | rfl) (by first | omega | decide | assumption | rfl)) (cwV 5 hT (gV_in mw_1098 mw_1095 mw_1096 mw_1097 mw_11) rfl rfl rfl (by decide +kernel) ⟨Nat.le_of_ble_eq_true rfl, Nat.le_of_ble_eq_true rfl⟩) (kRecvX (q0 := 4) (ci := 6) hK hP hD hN hXS hS hA rfl rfl [4, 5, 2] rfl (by decide +kernel)) rfl rfl hl.1 rfl (lv_room (Nat.le_of_ble_eq_true rfl)) dX10_move_119 ⟨Nat.le_of_ble_eq_true rfl, Nat.le_of_ble_eq_true rfl⟩) hP hD hS hA [4, 5, 2] [0, 1, 3] rfl rfl (by decide +kernel) (by decide +kernel) ?_
                    clear hP hD hS
                    intro sc2_78 H locs w_77 hP hD hS
                    replace hP : va_P D vwCl [(k, .inr (10, [.ref k0, .ref k1, .ref k2, .ref k3, .ref k4, .ref k5, .ref k6, .ref k7, .ref k8, .ref k9, .ref ka, .ref kb, .int cc])), (kb, .inl (cI, 6, .inl cb)), (ka0, .inl (cI, 4, .inl ca0)), (ka, .inr (6, [.ref ka0, .ref ka1, .ref ka2])), (ka1, .inl (cI, 4, .inl ca1)), (ka2, .inl (cI, 144, .inl sc2_78))] H := hP
                    replace hD : va_D A [(k, .inr (10, [.ref k0, .ref k1, .ref k2, .ref k3, .ref k4, .ref k5, .ref k6, .ref k7, .ref k8, .ref k9, .ref ka, .ref kb, .int cc])), (kb, .inl (cI, 6, .inl cb)), (ka0, .inl (cI, 4, .inl ca0)), (ka, .inr (6, [.ref ka0, .ref ka1, .ref ka2])), (ka1, .inl (cI, 4, .inl ca1)), (ka2, .inl (cI, 144, .inl sc2_78))] := hD
                    have h_79 := w_77
                    have h_79 : sc2_78 = va_cpy ca2 ca2 (36 * a0.toInt.toNat + a1.toInt.toNat) (36 * a2.toInt.toNat + a3.toInt.toNat) a4.toInt.toNat := h_79
                    have h_79 : sc2_78 = va_cpy ca2 ca2 (36 * a0.toInt.toNat + a1.toInt.toNat) (36 * a2.toInt.toNat + a3.toInt.toNat) a4.toInt.toNat := h_79
                    refine lv_iload hx hb dX10_move_122 (lv_at hl 5 rfl) ?_
                    exact hRet (cb, sc2_78) [0, 3, 1, 2, 4, 5] ⟨(by (try dsimp only); unfold moveR; (repeat (first | rw [if_pos (by omega)] | rw [if_neg (by omega)]))), (by (try dsimp only); unfold moveS; (repeat (first | rw [if_pos (by omega)] | rw [if_neg (by omega)])); first | done | exact h_79)⟩ hP hD (by decide +kernel) rfl hS rfl dX10_move_124
                  · have h_74 : a3.toInt < 0 ∨ a4.toInt < 0 ∨ (ca1 a2.toNatClampNeg).toInt < a3.toInt + a4.toInt := h_74
                    obtain rfl : r_68 = 0 := hr_68.trans (by decide +kernel)
                    refine b_if_ne hx hb zl_0 (tgt := 108) dX10_move_99 (by decide +kernel) (fun c_80 => by exfalso; omega) (fun c_80 => ?_)
                    refine lv_aload_n hx hb dX10_move_102 rfl (lv_at hl 0 rfl) ?_
                    refine lv_iconst (v := 1) hx hb dX10_move_103 (by decide +kernel) ?_
                    refine kJi (wr := [(ka2, .inl (cI, 144, .inl ca2)), (ka0, .inl (cI, 4, .inl ca0)), (ka, .inr (6, [.ref ka0, .ref ka1, .ref ka2])), (ka1, .inl (cI, 4, .inl ca1))]) (va_runV (As := [.int 1]) (rest := []) ⟨hx, hb, hml, hown, hT⟩ (c_X10_findingG l D cI aK aV k k0 k1 k2 k3 k4 k5 k6 k7 k8 k9 ka kb H.size cc cb 1) (cwV 1 hT (gV_in mw_338 mw_335 mw_337 mw_p1_0 mw_1) rfl rfl rfl (by decide +kernel) ⟨Nat.le_of_ble_eq_true rfl, Nat.le_of_ble_eq_true rfl⟩) (kRecvX (q0 := 0) (ci := 10) hK hP hD hN hXS hS hA rfl rfl [0, 1] rfl (by decide +kernel)) rfl rfl hl.1 rfl (lv_room (Nat.le_of_ble_eq_true rfl)) dX10_move_104 ⟨Nat.le_of_ble_eq_true rfl, Nat.le_of_ble_eq_true rfl⟩) hP hD hS hA [0, 1] [2, 3, 4, 5] rfl rfl (by decide +kernel) (by decide +kernel) ?_
                    clear hP hD hS
                    intro r_81 scb_83 H locs w_82 hP hD hS
                    replace hP : va_P D vwCl [(ka2, .inl (cI, 144, .inl ca2)), (ka0, .inl (cI, 4, .inl ca0)), (ka, .inr (6, [.ref ka0, .ref ka1, .ref ka2])), (ka1, .inl (cI, 4, .inl ca1)), (k, .inr (10, [.ref k0, .ref k1, .ref k2, .ref k3, .ref k4, .ref k5, .ref k6, .ref k7, .ref k8, .ref k9, .ref ka, .ref kb, .int cc])), (kb, .inl (cI, 6, .inl scb_83))] H := hP
                    replace hD : va_D A [(ka2, .inl (cI, 144, .inl ca2)), (ka0, .inl (cI, 4, .inl ca0)), (ka, .inr (6, [.ref ka0, .ref ka1, .ref ka2])), (ka1, .inl (cI, 4, .inl ca1)), (k, .inr (10, [.ref k0, .ref k1, .ref k2, .ref k3, .ref k4, .ref k5, .ref k6, .ref k7, .ref k8, .ref k9, .ref ka, .ref kb, .int cc])), (kb, .inl (cI, 6, .inl scb_83))] := hD
                    have hr_81 := w_82
                    obtain rfl : r_81 = (-1000001) := hr_81.trans (by decide +kernel)
                    exact hRet (scb_83, ca2) [4, 2, 5, 1, 3, 0] ⟨(by (try dsimp only); unfold moveR; (repeat (first | rw [if_pos (by omega)] | rw [if_neg (by omega)]))), (by (try dsimp only); unfold moveS; (repeat (first | rw [if_pos (by omega)] | rw [if_neg (by omega)])))⟩ hP hD (by decide +kernel) rfl hS rfl dX10_move_107
                · have h_66 : a1.toInt < 0 ∨ a4.toInt < 0 ∨ (ca1 a0.toNatClampNeg).toInt < a1.toInt + a4.toInt := h_66
                  obtain rfl : r_60 = 0 := hr_60.trans (by decide +kernel)
                  refine b_if_eq hx hb zl_0 (tgt := 102) dX10_move_84 (by decide +kernel) (fun c_84 => ?_) (fun c_84 => by exfalso; omega)
                  refine lv_aload_n hx hb dX10_move_102 rfl (lv_at hl 0 rfl) ?_
                  refine lv_iconst (v := 1) hx hb dX10_move_103 (by decide +kernel) ?_
                  refine kJi (wr := [(ka2, .inl (cI, 144, .inl ca2)), (ka0, .inl (cI, 4, .inl ca0)), (ka, .inr (6, [.ref ka0, .ref ka1, .ref ka2])), (ka1, .inl (cI, 4, .inl ca1))]) (va_runV (As := [.int 1]) (rest := []) ⟨hx, hb, hml, hown, hT⟩ (c_X10_findingG l D cI aK aV k k0 k1 k2 k3 k4 k5 k6 k7 k8 k9 ka kb H.size cc cb 1) (cwV 1 hT (gV_in mw_338 mw_335 mw_337 mw_p1_0 mw_1) rfl rfl rfl (by decide +kernel) ⟨Nat.le_of_ble_eq_true rfl, Nat.le_of_ble_eq_true rfl⟩) (kRecvX (q0 := 0) (ci := 10) hK hP hD hN hXS hS hA rfl rfl [0, 1] rfl (by decide +kernel)) rfl rfl hl.1 rfl (lv_room (Nat.le_of_ble_eq_true rfl)) dX10_move_104 ⟨Nat.le_of_ble_eq_true rfl, Nat.le_of_ble_eq_true rfl⟩) hP hD hS hA [0, 1] [2, 3, 4, 5] rfl rfl (by decide +kernel) (by decide +kernel) ?_
                  clear hP hD hS
                  intro r_85 scb_87 H locs w_86 hP hD hS
                  replace hP : va_P D vwCl [(ka2, .inl (cI, 144, .inl ca2)), (ka0, .inl (cI, 4, .inl ca0)), (ka, .inr (6, [.ref ka0, .ref ka1, .ref ka2])), (ka1, .inl (cI, 4, .inl ca1)), (k, .inr (10, [.ref k0, .ref k1, .ref k2, .ref k3, .ref k4, .ref k5, .ref k6, .ref k7, .ref k8, .ref k9, .ref ka, .ref kb, .int cc])), (kb, .inl (cI, 6, .inl scb_87))] H := hP
                  replace hD : va_D A [(ka2, .inl (cI, 144, .inl ca2)), (ka0, .inl (cI, 4, .inl ca0)), (ka, .inr (6, [.ref ka0, .ref ka1, .ref ka2])), (ka1, .inl (cI, 4, .inl ca1)), (k, .inr (10, [.ref k0, .ref k1, .ref k2, .ref k3, .ref k4, .ref k5, .ref k6, .ref k7, .ref k8, .ref k9, .ref ka, .ref kb, .int cc])), (kb, .inl (cI, 6, .inl scb_87))] := hD
                  have hr_85 := w_86
                  obtain rfl : r_85 = (-1000001) := hr_85.trans (by decide +kernel)
                  exact hRet (scb_87, ca2) [4, 2, 5, 1, 3, 0] ⟨(by (try dsimp only); unfold moveR; (repeat (first | rw [if_pos (by omega)] | rw [if_neg (by omega)]))), (by (try dsimp only); unfold moveS; (repeat (first | rw [if_pos (by omega)] | rw [if_neg (by omega)])))⟩ hP hD (by decide +kernel) rfl hS rfl dX10_move_107
              · refine lv_aload_n hx hb dX10_move_67 rfl (lv_at hl 0 rfl) ?_
                refine lv_iconst (v := 5) hx hb dX10_move_68 (by decide +kernel) ?_
                refine kJi (wr := [(ka1, .inl (cI, 4, .inl ca1)), (ka2, .inl (cI, 144, .inl ca2)), (ka, .inr (6, [.ref ka0, .ref ka1, .ref ka2])), (ka0, .inl (cI, 4, .inl ca0))]) (va_runV (As := [.int 5]) (rest := []) ⟨hx, hb, hml, hown, hT⟩ (c_X10_findingG l D cI aK aV k k0 k1 k2 k3 k4 k5 k6 k7 k8 k9 ka kb H.size cc cb 5) (cwV 1 hT (gV_in mw_338 mw_335 mw_337 mw_p1_0 mw_1) rfl rfl rfl (by decide +kernel) ⟨Nat.le_of_ble_eq_true rfl, Nat.le_of_ble_eq_true rfl⟩) (kRecvX (q0 := 0) (ci := 10) hK hP hD hN hXS hS hA rfl rfl [0, 1] rfl (by decide +kernel)) rfl rfl hl.1 rfl (lv_room (Nat.le_of_ble_eq_true rfl)) dX10_move_69 ⟨Nat.le_of_ble_eq_true rfl, Nat.le_of_ble_eq_true rfl⟩) hP hD hS hA [0, 1] [2, 3, 4, 5] rfl rfl (by decide +kernel) (by decide +kernel) ?_
                clear hP hD hS
                intro r_88 scb_90 H locs w_89 hP hD hS
                replace hP : va_P D vwCl [(ka1, .inl (cI, 4, .inl ca1)), (ka2, .inl (cI, 144, .inl ca2)), (ka, .inr (6, [.ref ka0, .ref ka1, .ref ka2])), (ka0, .inl (cI, 4, .inl ca0)), (k, .inr (10, [.ref k0, .ref k1, .ref k2, .ref k3, .ref k4, .ref k5, .ref k6, .ref k7, .ref k8, .ref k9, .ref ka, .ref kb, .int cc])), (kb, .inl (cI, 6, .inl scb_90))] H := hP
                replace hD : va_D A [(ka1, .inl (cI, 4, .inl ca1)), (ka2, .inl (cI, 144, .inl ca2)), (ka, .inr (6, [.ref ka0, .ref ka1, .ref ka2])), (ka0, .inl (cI, 4, .inl ca0)), (k, .inr (10, [.ref k0, .ref k1, .ref k2, .ref k3, .ref k4, .ref k5, .ref k6, .ref k7, .ref k8, .ref k9, .ref ka, .ref kb, .int cc])), (kb, .inl (cI, 6, .inl scb_90))] := hD
                have hr_88 := w_89
                obtain rfl : r_88 = (-1000005) := hr_88.trans (by decide +kernel)
                exact hRet (scb_90, ca2) [4, 2, 5, 3, 0, 1] ⟨(by (try dsimp only); unfold moveR; (repeat (first | rw [if_pos (by omega)] | rw [if_neg (by omega)]))), (by (try dsimp only); unfold moveS; (repeat (first | rw [if_pos (by omega)] | rw [if_neg (by omega)])))⟩ hP hD (by decide +kernel) rfl hS rfl dX10_move_72
            · exfalso; omega
          · exfalso; omega
        · exfalso; omega
      · exfalso; omega
    · have h_13 : a2.toInt < 0 ∨ 3 < a2.toInt := h_13
      obtain rfl : r_8 = 0 := hr_8.trans (by decide +kernel)
      refine b_if_ne hx hb zl_0 (tgt := 20) dX10_move_11 (by decide +kernel) (fun c_91 => by exfalso; omega) (fun c_91 => ?_)
      refine lv_aload_n hx hb dX10_move_14 rfl (lv_at hl 0 rfl) ?_
      refine lv_iconst (v := 1) hx hb dX10_move_15 (by decide +kernel) ?_
      refine kJi (wr := [(ka, .inr (6, [.ref ka0, .ref ka1, .ref ka2])), (ka0, .inl (cI, 4, .inl ca0)), (ka1, .inl (cI, 4, .inl ca1)), (ka2, .inl (cI, 144, .inl ca2))]) (va_runV (As := [.int 1]) (rest := []) ⟨hx, hb, hml, hown, hT⟩ (c_X10_findingG l D cI aK aV k k0 k1 k2 k3 k4 k5 k6 k7 k8 k9 ka kb H.size cc cb 1) (cwV 1 hT (gV_in mw_338 mw_335 mw_337 mw_p1_0 mw_1) rfl rfl rfl (by decide +kernel) ⟨Nat.le_of_ble_eq_true rfl, Nat.le_of_ble_eq_true rfl⟩) (kRecvX (q0 := 0) (ci := 10) hK hP hD hN hXS hS hA rfl rfl [0, 2] rfl (by decide +kernel)) rfl rfl hl.1 rfl (lv_room (Nat.le_of_ble_eq_true rfl)) dX10_move_16 ⟨Nat.le_of_ble_eq_true rfl, Nat.le_of_ble_eq_true rfl⟩) hP hD hS hA [0, 2] [1, 3, 4, 5] rfl rfl (by decide +kernel) (by decide +kernel) ?_
      clear hP hD hS
      intro r_92 scb_94 H locs w_93 hP hD hS
      replace hP : va_P D vwCl [(ka, .inr (6, [.ref ka0, .ref ka1, .ref ka2])), (ka0, .inl (cI, 4, .inl ca0)), (ka1, .inl (cI, 4, .inl ca1)), (ka2, .inl (cI, 144, .inl ca2)), (k, .inr (10, [.ref k0, .ref k1, .ref k2, .ref k3, .ref k4, .ref k5, .ref k6, .ref k7, .ref k8, .ref k9, .ref ka, .ref kb, .int cc])), (kb, .inl (cI, 6, .inl scb_94))] H := hP
      replace hD : va_D A [(ka, .inr (6, [.ref ka0, .ref ka1, .ref ka2])), (ka0, .inl (cI, 4, .inl ca0)), (ka1, .inl (cI, 4, .inl ca1)), (ka2, .inl (cI, 144, .inl ca2)), (k, .inr (10, [.ref k0, .ref k1, .ref k2, .ref k3, .ref k4, .ref k5, .ref k6, .ref k7, .ref k8, .ref k9, .ref ka, .ref kb, .int cc])), (kb, .inl (cI, 6, .inl scb_94))] := hD
      have hr_92 := w_93
      obtain rfl : r_92 = (-1000001) := hr_92.trans (by decide +kernel)
      exact hRet (scb_94, ca2) [4, 0, 5, 1, 2, 3] ⟨(by (try dsimp only); unfold moveR; (repeat (first | rw [if_pos (by omega)] | rw [if_neg (by omega)]))), (by (try dsimp only); unfold moveS; (repeat (first | rw [if_pos (by omega)] | rw [if_neg (by omega)])))⟩ hP hD (by decide +kernel) rfl hS rfl dX10_move_19
  · have h_6 : a0.toInt < 0 ∨ 3 < a0.toInt := h_6
    obtain rfl : r_1 = 0 := hr_1.trans (by decide +kernel)
    refine b_if_eq hx hb zl_0 (tgt := 14) dX10_move_4 (by decide +kernel) (fun c_95 => ?_) (fun c_95 => by exfalso; omega)
    refine lv_aload_n hx hb dX10_move_14 rfl (lv_at hl 0 rfl) ?_
    refine lv_iconst (v := 1) hx hb dX10_move_15 (by decide +kernel) ?_
    refine kJi (wr := [(ka, .inr (6, [.ref ka0, .ref ka1, .ref ka2])), (ka0, .inl (cI, 4, .inl ca0)), (ka1, .inl (cI, 4, .inl ca1)), (ka2, .inl (cI, 144, .inl ca2))]) (va_runV (As := [.int 1]) (rest := []) ⟨hx, hb, hml, hown, hT⟩ (c_X10_findingG l D cI aK aV k k0 k1 k2 k3 k4 k5 k6 k7 k8 k9 ka kb H.size cc cb 1) (cwV 1 hT (gV_in mw_338 mw_335 mw_337 mw_p1_0 mw_1) rfl rfl rfl (by decide +kernel) ⟨Nat.le_of_ble_eq_true rfl, Nat.le_of_ble_eq_true rfl⟩) (kRecvX (q0 := 0) (ci := 10) hK hP hD hN hXS hS hA rfl rfl [0, 2] rfl (by decide +kernel)) rfl rfl hl.1 rfl (lv_room (Nat.le_of_ble_eq_true rfl)) dX10_move_16 ⟨Nat.le_of_ble_eq_true rfl, Nat.le_of_ble_eq_true rfl⟩) hP hD hS hA [0, 2] [1, 3, 4, 5] rfl rfl (by decide +kernel) (by decide +kernel) ?_
    clear hP hD hS
    intro r_96 scb_98 H locs w_97 hP hD hS
    replace hP : va_P D vwCl [(ka, .inr (6, [.ref ka0, .ref ka1, .ref ka2])), (ka0, .inl (cI, 4, .inl ca0)), (ka1, .inl (cI, 4, .inl ca1)), (ka2, .inl (cI, 144, .inl ca2)), (k, .inr (10, [.ref k0, .ref k1, .ref k2, .ref k3, .ref k4, .ref k5, .ref k6, .ref k7, .ref k8, .ref k9, .ref ka, .ref kb, .int cc])), (kb, .inl (cI, 6, .inl scb_98))] H := hP
    replace hD : va_D A [(ka, .inr (6, [.ref ka0, .ref ka1, .ref ka2])), (ka0, .inl (cI, 4, .inl ca0)), (ka1, .inl (cI, 4, .inl ca1)), (ka2, .inl (cI, 144, .inl ca2)), (k, .inr (10, [.ref k0, .ref k1, .ref k2, .ref k3, .ref k4, .ref k5, .ref k6, .ref k7, .ref k8, .ref k9, .ref ka, .ref kb, .int cc])), (kb, .inl (cI, 6, .inl scb_98))] := hD
    have hr_96 := w_97
    obtain rfl : r_96 = (-1000001) := hr_96.trans (by decide +kernel)
    exact hRet (scb_98, ca2) [4, 0, 5, 1, 2, 3] ⟨(by (try dsimp only); unfold moveR; (repeat (first | rw [if_pos (by omega)] | rw [if_neg (by omega)]))), (by (try dsimp only); unfold moveS; (repeat (first | rw [if_pos (by omega)] | rw [if_neg (by omega)])))⟩ hP hD (by decide +kernel) rfl hS rfl dX10_move_19
theorem bn_cX10_whyNoMeeting_0 : BN cX10_whyNoMeeting 0 0x20740c1a688056e040e018341500a6810160d00536070b0206e04028055005040054203688056e050e818341300a840ad100adc0a1c030680e370201402a802820029a6a0056e1d030681a014db5002b70e01834061db0802b5068056a2b568240c014dadc02b705044081e238056a2b090053671068440a160d00534050b0146eb400adc3c4700ad456ad03018029a588056e1e238056a2b := by
  unfold BN; decide +kernel
theorem dX10_whyNoMeeting_0 : decode cX10_whyNoMeeting 0 = .ok (.aload_n 0, 1) := dR0 (k := 0) (i := 0) bn_cX10_whyNoMeeting_0 dop_42 (by decide +kernel)
theorem dX10_whyNoMeeting_1 : decode cX10_whyNoMeeting 1 = .ok (.getfield 70, 3) := dR2 (f := Instr.getfield) (k := 0) (i := 1) bn_cX10_whyNoMeeting_0 dop_180 70 (by decide +kernel)
theorem dX10_whyNoMeeting_4 : decode cX10_whyNoMeeting 4 = .ok (.iload_n 3, 1) := dR0 (k := 0) (i := 4) bn_cX10_whyNoMeeting_0 dop_29 (by decide +kernel)
theorem dX10_whyNoMeeting_5 : decode cX10_whyNoMeeting 5 = .ok (.invokevirtual 176, 3) := dR2 (f := Instr.invokevirtual) (k := 0) (i := 5) bn_cX10_whyNoMeeting_0 dop_182 176 (by decide +kernel)
theorem dX10_whyNoMeeting_8 : decode cX10_whyNoMeeting 8 = .ok (.ifCond .eq 5, 3) := dR2s (f := Instr.ifCond .eq) (k := 0) (i := 8) bn_cX10_whyNoMeeting_0 dop_153 5 5 (by decide +kernel)
theorem dX10_whyNoMeeting_11 : decode cX10_whyNoMeeting 11 = .ok (.iconst 2, 1) := dR0 (k := 0) (i := 11) bn_cX10_whyNoMeeting_0 dop_5 (by decide +kernel)
theorem dX10_whyNoMeeting_12 : decode cX10_whyNoMeeting 12 = .ok (.ireturn, 1) := dR0 (k := 0) (i := 12) bn_cX10_whyNoMeeting_0 dop_172 (by decide +kernel)
theorem dX10_whyNoMeeting_13 : decode cX10_whyNoMeeting 13 = .ok (.aload_n 0, 1) := dR0 (k := 0) (i := 13) bn_cX10_whyNoMeeting_0 dop_42 (by decide +kernel)
theorem dX10_whyNoMeeting_14 : decode cX10_whyNoMeeting 14 = .ok (.getfield 70, 3) := dR2 (f := Instr.getfield) (k := 0) (i := 14) bn_cX10_whyNoMeeting_0 dop_180 70 (by decide +kernel)
theorem dX10_whyNoMeeting_17 : decode cX10_whyNoMeeting 17 = .ok (.iload_n 3, 1) := dR0 (k := 0) (i := 17) bn_cX10_whyNoMeeting_0 dop_29 (by decide +kernel)
theorem dX10_whyNoMeeting_18 : decode cX10_whyNoMeeting 18 = .ok (.invokevirtual 179, 3) := dR2 (f := Instr.invokevirtual) (k := 0) (i := 18) bn_cX10_whyNoMeeting_0 dop_182 179 (by decide +kernel)
theorem dX10_whyNoMeeting_21 : decode cX10_whyNoMeeting 21 = .ok (.istore 4, 2) := dR1 (f := Instr.istore) (k := 0) (i := 21) bn_cX10_whyNoMeeting_0 dop_54 4 (by decide +kernel)
theorem dX10_whyNoMeeting_23 : decode cX10_whyNoMeeting 23 = .ok (.iload 4, 2) := dR1 (f := Instr.iload) (k := 0) (i := 23) bn_cX10_whyNoMeeting_0 dop_21 4 (by decide +kernel)
theorem dX10_whyNoMeeting_25 : decode cX10_whyNoMeeting 25 = .ok (.ifCond .eq 25, 3) := dR2s (f := Instr.ifCond .eq) (k := 0) (i := 25) bn_cX10_whyNoMeeting_0 dop_153 25 25 (by decide +kernel)
theorem dX10_whyNoMeeting_28 : decode cX10_whyNoMeeting 28 = .ok (.iload 4, 2) := dR1 (f := Instr.iload) (k := 0) (i := 28) bn_cX10_whyNoMeeting_0 dop_21 4 (by decide +kernel)
theorem dX10_whyNoMeeting_30 : decode cX10_whyNoMeeting 30 = .ok (.bipush 12, 2) := dR1s (f := Instr.bipush) (k := 0) (i := 30) bn_cX10_whyNoMeeting_0 dop_16 12 12 (by decide +kernel)
theorem dX10_whyNoMeeting_32 : decode cX10_whyNoMeeting 32 = .ok (.irem, 1) := dR0 (k := 0) (i := 32) bn_cX10_whyNoMeeting_0 dop_112 (by decide +kernel)
theorem dX10_whyNoMeeting_33 : decode cX10_whyNoMeeting 33 = .ok (.ifCond .ne 17, 3) := dR2s (f := Instr.ifCond .ne) (k := 0) (i := 33) bn_cX10_whyNoMeeting_0 dop_154 17 17 (by decide +kernel)
theorem dX10_whyNoMeeting_36 : decode cX10_whyNoMeeting 36 = .ok (.aload_n 0, 1) := dR0 (k := 0) (i := 36) bn_cX10_whyNoMeeting_0 dop_42 (by decide +kernel)
theorem dX10_whyNoMeeting_37 : decode cX10_whyNoMeeting 37 = .ok (.getfield 70, 3) := dR2 (f := Instr.getfield) (k := 0) (i := 37) bn_cX10_whyNoMeeting_0 dop_180 70 (by decide +kernel)
theorem dX10_whyNoMeeting_40 : decode cX10_whyNoMeeting 40 = .ok (.iload_n 3, 1) := dR0 (k := 0) (i := 40) bn_cX10_whyNoMeeting_0 dop_29 (by decide +kernel)
theorem dX10_whyNoMeeting_41 : decode cX10_whyNoMeeting 41 = .ok (.iconst 0, 1) := dR0 (k := 0) (i := 41) bn_cX10_whyNoMeeting_0 dop_3 (by decide +kernel)
theorem dX10_whyNoMeeting_42 : decode cX10_whyNoMeeting 42 = .ok (.bipush 9, 2) := dR1s (f := Instr.bipush) (k := 0) (i := 42) bn_cX10_whyNoMeeting_0 dop_16 9 9 (by decide +kernel)
theorem dX10_whyNoMeeting_44 : decode cX10_whyNoMeeting 44 = .ok (.invokevirtual 182, 3) := dR2 (f := Instr.invokevirtual) (k := 0) (i := 44) bn_cX10_whyNoMeeting_0 dop_182 182 (by decide +kernel)
theorem dX10_whyNoMeeting_47 : decode cX10_whyNoMeeting 47 = .ok (.ifCond .ne 5, 3) := dR2s (f := Instr.ifCond .ne) (k := 0) (i := 47) bn_cX10_whyNoMeeting_0 dop_154 5 5 (by decide +kernel)
theorem dX10_whyNoMeeting_50 : decode cX10_whyNoMeeting 50 = .ok (.iconst 5, 1) := dR0 (k := 0) (i := 50) bn_cX10_whyNoMeeting_0 dop_8 (by decide +kernel)
theorem dX10_whyNoMeeting_51 : decode cX10_whyNoMeeting 51 = .ok (.ireturn, 1) := dR0 (k := 0) (i := 51) bn_cX10_whyNoMeeting_0 dop_172 (by decide +kernel)
theorem dX10_whyNoMeeting_52 : decode cX10_whyNoMeeting 52 = .ok (.aload_n 0, 1) := dR0 (k := 0) (i := 52) bn_cX10_whyNoMeeting_0 dop_42 (by decide +kernel)
theorem dX10_whyNoMeeting_53 : decode cX10_whyNoMeeting 53 = .ok (.getfield 12, 3) := dR2 (f := Instr.getfield) (k := 0) (i := 53) bn_cX10_whyNoMeeting_0 dop_180 12 (by decide +kernel)
theorem dX10_whyNoMeeting_56 : decode cX10_whyNoMeeting 56 = .ok (.getfield 193, 3) := dR2 (f := Instr.getfield) (k := 0) (i := 56) bn_cX10_whyNoMeeting_0 dop_180 193 (by decide +kernel)
theorem dX10_whyNoMeeting_59 : decode cX10_whyNoMeeting 59 = .ok (.astore 5, 2) := dR1 (f := Instr.astore) (k := 0) (i := 59) bn_cX10_whyNoMeeting_0 dop_58 5 (by decide +kernel)
theorem dX10_whyNoMeeting_61 : decode cX10_whyNoMeeting 61 = .ok (.aload 5, 2) := dR1 (f := Instr.aload) (k := 0) (i := 61) bn_cX10_whyNoMeeting_0 dop_25 5 (by decide +kernel)
theorem dX10_whyNoMeeting_63 : decode cX10_whyNoMeeting 63 = .ok (.iload_n 1, 1) := dR0 (k := 0) (i := 63) bn_cX10_whyNoMeeting_0 dop_27 (by decide +kernel)
theorem dX10_whyNoMeeting_64 : decode cX10_whyNoMeeting 64 = .ok (.invokevirtual 211, 3) := dR2 (f := Instr.invokevirtual) (k := 0) (i := 64) bn_cX10_whyNoMeeting_0 dop_182 211 (by decide +kernel)
theorem dX10_whyNoMeeting_67 : decode cX10_whyNoMeeting 67 = .ok (.ifCond .ne 12, 3) := dR2s (f := Instr.ifCond .ne) (k := 0) (i := 67) bn_cX10_whyNoMeeting_0 dop_154 12 12 (by decide +kernel)
theorem dX10_whyNoMeeting_70 : decode cX10_whyNoMeeting 70 = .ok (.aload 5, 2) := dR1 (f := Instr.aload) (k := 0) (i := 70) bn_cX10_whyNoMeeting_0 dop_25 5 (by decide +kernel)
theorem dX10_whyNoMeeting_72 : decode cX10_whyNoMeeting 72 = .ok (.iload_n 2, 1) := dR0 (k := 0) (i := 72) bn_cX10_whyNoMeeting_0 dop_28 (by decide +kernel)
theorem dX10_whyNoMeeting_73 : decode cX10_whyNoMeeting 73 = .ok (.invokevirtual 211, 3) := dR2 (f := Instr.invokevirtual) (k := 0) (i := 73) bn_cX10_whyNoMeeting_0 dop_182 211 (by decide +kernel)
theorem dX10_whyNoMeeting_76 : decode cX10_whyNoMeeting 76 = .ok (.ifCond .eq 7, 3) := dR2s (f := Instr.ifCond .eq) (k := 0) (i := 76) bn_cX10_whyNoMeeting_0 dop_153 7 7 (by decide +kernel)
theorem dX10_whyNoMeeting_79 : decode cX10_whyNoMeeting 79 = .ok (.iconst 1, 1) := dR0 (k := 0) (i := 79) bn_cX10_whyNoMeeting_0 dop_4 (by decide +kernel)
theorem dX10_whyNoMeeting_80 : decode cX10_whyNoMeeting 80 = .ok (.goto 4, 3) := dR2s (f := Instr.goto) (k := 0) (i := 80) bn_cX10_whyNoMeeting_0 dop_167 4 4 (by decide +kernel)
theorem dX10_whyNoMeeting_83 : decode cX10_whyNoMeeting 83 = .ok (.iconst 0, 1) := dR0 (k := 0) (i := 83) bn_cX10_whyNoMeeting_0 dop_3 (by decide +kernel)
theorem dX10_whyNoMeeting_84 : decode cX10_whyNoMeeting 84 = .ok (.istore 6, 2) := dR1 (f := Instr.istore) (k := 0) (i := 84) bn_cX10_whyNoMeeting_0 dop_54 6 (by decide +kernel)
theorem dX10_whyNoMeeting_86 : decode cX10_whyNoMeeting 86 = .ok (.aload 5, 2) := dR1 (f := Instr.aload) (k := 0) (i := 86) bn_cX10_whyNoMeeting_0 dop_25 5 (by decide +kernel)
theorem dX10_whyNoMeeting_88 : decode cX10_whyNoMeeting 88 = .ok (.iload_n 1, 1) := dR0 (k := 0) (i := 88) bn_cX10_whyNoMeeting_0 dop_27 (by decide +kernel)
theorem dX10_whyNoMeeting_89 : decode cX10_whyNoMeeting 89 = .ok (.iconst 1, 1) := dR0 (k := 0) (i := 89) bn_cX10_whyNoMeeting_0 dop_4 (by decide +kernel)
theorem dX10_whyNoMeeting_90 : decode cX10_whyNoMeeting 90 = .ok (.invokevirtual 208, 3) := dR2 (f := Instr.invokevirtual) (k := 0) (i := 90) bn_cX10_whyNoMeeting_0 dop_182 208 (by decide +kernel)
theorem dX10_whyNoMeeting_93 : decode cX10_whyNoMeeting 93 = .ok (.iconst 1, 1) := dR0 (k := 0) (i := 93) bn_cX10_whyNoMeeting_0 dop_4 (by decide +kernel)
theorem dX10_whyNoMeeting_94 : decode cX10_whyNoMeeting 94 = .ok (.if_icmp .ne 18, 3) := dR2s (f := Instr.if_icmp .ne) (k := 0) (i := 94) bn_cX10_whyNoMeeting_0 dop_160 18 18 (by decide +kernel)
theorem dX10_whyNoMeeting_97 : decode cX10_whyNoMeeting 97 = .ok (.aload 5, 2) := dR1 (f := Instr.aload) (k := 0) (i := 97) bn_cX10_whyNoMeeting_0 dop_25 5 (by decide +kernel)
theorem dX10_whyNoMeeting_99 : decode cX10_whyNoMeeting 99 = .ok (.iload_n 2, 1) := dR0 (k := 0) (i := 99) bn_cX10_whyNoMeeting_0 dop_28 (by decide +kernel)
theorem dX10_whyNoMeeting_100 : decode cX10_whyNoMeeting 100 = .ok (.iconst 1, 1) := dR0 (k := 0) (i := 100) bn_cX10_whyNoMeeting_0 dop_4 (by decide +kernel)
theorem dX10_whyNoMeeting_101 : decode cX10_whyNoMeeting 101 = .ok (.invokevirtual 208, 3) := dR2 (f := Instr.invokevirtual) (k := 0) (i := 101) bn_cX10_whyNoMeeting_0 dop_182 208 (by decide +kernel)
theorem dX10_whyNoMeeting_104 : decode cX10_whyNoMeeting 104 = .ok (.iconst (-1), 1) := dR0 (k := 0) (i := 104) bn_cX10_whyNoMeeting_0 dop_2 (by decide +kernel)
theorem dX10_whyNoMeeting_105 : decode cX10_whyNoMeeting 105 = .ok (.if_icmp .ne 7, 3) := dR2s (f := Instr.if_icmp .ne) (k := 0) (i := 105) bn_cX10_whyNoMeeting_0 dop_160 7 7 (by decide +kernel)
theorem dX10_whyNoMeeting_108 : decode cX10_whyNoMeeting 108 = .ok (.iconst 1, 1) := dR0 (k := 0) (i := 108) bn_cX10_whyNoMeeting_0 dop_4 (by decide +kernel)
theorem dX10_whyNoMeeting_109 : decode cX10_whyNoMeeting 109 = .ok (.goto 4, 3) := dR2s (f := Instr.goto) (k := 0) (i := 109) bn_cX10_whyNoMeeting_0 dop_167 4 4 (by decide +kernel)
theorem dX10_whyNoMeeting_112 : decode cX10_whyNoMeeting 112 = .ok (.iconst 0, 1) := dR0 (k := 0) (i := 112) bn_cX10_whyNoMeeting_0 dop_3 (by decide +kernel)
theorem dX10_whyNoMeeting_113 : decode cX10_whyNoMeeting 113 = .ok (.istore 7, 2) := dR1 (f := Instr.istore) (k := 0) (i := 113) bn_cX10_whyNoMeeting_0 dop_54 7 (by decide +kernel)
theorem dX10_whyNoMeeting_115 : decode cX10_whyNoMeeting 115 = .ok (.iload 6, 2) := dR1 (f := Instr.iload) (k := 0) (i := 115) bn_cX10_whyNoMeeting_0 dop_21 6 (by decide +kernel)
theorem dX10_whyNoMeeting_117 : decode cX10_whyNoMeeting 117 = .ok (.ifCond .ne 25, 3) := dR2s (f := Instr.ifCond .ne) (k := 0) (i := 117) bn_cX10_whyNoMeeting_0 dop_154 25 25 (by decide +kernel)
theorem dX10_whyNoMeeting_120 : decode cX10_whyNoMeeting 120 = .ok (.iload 7, 2) := dR1 (f := Instr.iload) (k := 0) (i := 120) bn_cX10_whyNoMeeting_0 dop_21 7 (by decide +kernel)
theorem dX10_whyNoMeeting_122 : decode cX10_whyNoMeeting 122 = .ok (.ifCond .eq 20, 3) := dR2s (f := Instr.ifCond .eq) (k := 0) (i := 122) bn_cX10_whyNoMeeting_0 dop_153 20 20 (by decide +kernel)
theorem dX10_whyNoMeeting_125 : decode cX10_whyNoMeeting 125 = .ok (.aload 5, 2) := dR1 (f := Instr.aload) (k := 0) (i := 125) bn_cX10_whyNoMeeting_0 dop_25 5 (by decide +kernel)
theorem dX10_whyNoMeeting_127 : decode cX10_whyNoMeeting 127 = .ok (.iload_n 1, 1) := dR0 (k := 0) (i := 127) bn_cX10_whyNoMeeting_0 dop_27 (by decide +kernel)
theorem bn_cX10_whyNoMeeting_128 : BN cX10_whyNoMeeting 128 0x15a045681c0c015134402b7020740c1a688056e04 := by
  unfold BN; decide +kernel
theorem dX10_whyNoMeeting_128 : decode cX10_whyNoMeeting 128 = .ok (.iconst 0, 1) := dR0 (k := 128) (i := 0) bn_cX10_whyNoMeeting_128 dop_3 (by decide +kernel)
theorem dX10_whyNoMeeting_129 : decode cX10_whyNoMeeting 129 = .ok (.invokevirtual 208, 3) := dR2 (f := Instr.invokevirtual) (k := 128) (i := 1) bn_cX10_whyNoMeeting_128 dop_182 208 (by decide +kernel)
theorem dX10_whyNoMeeting_132 : decode cX10_whyNoMeeting 132 = .ok (.aload 5, 2) := dR1 (f := Instr.aload) (k := 128) (i := 4) bn_cX10_whyNoMeeting_128 dop_25 5 (by decide +kernel)
theorem dX10_whyNoMeeting_134 : decode cX10_whyNoMeeting 134 = .ok (.iload_n 2, 1) := dR0 (k := 128) (i := 6) bn_cX10_whyNoMeeting_128 dop_28 (by decide +kernel)
theorem dX10_whyNoMeeting_135 : decode cX10_whyNoMeeting 135 = .ok (.iconst 0, 1) := dR0 (k := 128) (i := 7) bn_cX10_whyNoMeeting_128 dop_3 (by decide +kernel)
theorem dX10_whyNoMeeting_136 : decode cX10_whyNoMeeting 136 = .ok (.invokevirtual 208, 3) := dR2 (f := Instr.invokevirtual) (k := 128) (i := 8) bn_cX10_whyNoMeeting_128 dop_182 208 (by decide +kernel)
theorem dX10_whyNoMeeting_139 : decode cX10_whyNoMeeting 139 = .ok (.if_icmp .lt 5, 3) := dR2s (f := Instr.if_icmp .lt) (k := 128) (i := 11) bn_cX10_whyNoMeeting_128 dop_161 5 5 (by decide +kernel)
theorem dX10_whyNoMeeting_142 : decode cX10_whyNoMeeting 142 = .ok (.iconst 3, 1) := dR0 (k := 128) (i := 14) bn_cX10_whyNoMeeting_128 dop_6 (by decide +kernel)
theorem dX10_whyNoMeeting_143 : decode cX10_whyNoMeeting 143 = .ok (.ireturn, 1) := dR0 (k := 128) (i := 15) bn_cX10_whyNoMeeting_128 dop_172 (by decide +kernel)
theorem dX10_whyNoMeeting_144 : decode cX10_whyNoMeeting 144 = .ok (.iconst 0, 1) := dR0 (k := 128) (i := 16) bn_cX10_whyNoMeeting_128 dop_3 (by decide +kernel)
theorem dX10_whyNoMeeting_145 : decode cX10_whyNoMeeting 145 = .ok (.ireturn, 1) := dR0 (k := 128) (i := 17) bn_cX10_whyNoMeeting_128 dop_172 (by decide +kernel)
set_option maxHeartbeats 4000000 in
set_option maxRecDepth 100000 in
theorem c_X10_whyNoMeetingG (l : Launch) (D : va_G) (cI : ClassId) (aK aV : Nat → Nat) (k k0 k1 k2 k3 k4 k5 k6 k7 k8 k9 ka kb k00 k01 k02 k03 k04 k05 ka0 ka1 ka2 k050 : Nat) (sz : Nat) (cc : Int32) (c06 : Int32) (c07 : Int32) (c08 : Int32) (c051 : Int32) (ca0 : Nat → Int32) (ca1 : Nat → Int32) (ca2 : Nat → Int32) (c050 : Nat → Int32) (a0 : Int32) (a1 : Int32) (a2 : Int32) (pre0 : ∀ k : Nat, k < 4 → 0 ≤ (ca1 k).toInt ∧ (ca1 k).toInt ≤ 36) (pre1 : 0 ≤ a2.toInt) (pre2 : a2.toInt ≤ 3) : Met l yX10_whyNoMeeting (gW yX10_whyNoMeeting cX10_whyNoMeeting 8 (some .int)) ({ frames := 5, cells := 0, slots := 0, locals := 109 } : Room) (kPreX D cI aK aV [.ref k, .int a0, .int a1, .int a2] [(k, .inr (10, [.ref k0, .ref k1, .ref k2, .ref k3, .ref k4, .ref k5, .ref k6, .ref k7, .ref k8, .ref k9, .ref ka, .ref kb, .int cc])), (k0, .inr (9, [.ref k00, .ref k01, .ref k02, .ref k03, .ref k04, .ref k05, .int c06, .int c07, .int c08])), (ka, .inr (6, [.ref ka0, .ref ka1, .ref ka2])), (k05, .inr (3, [.ref k050, .int c051])), (ka0, .inl (cI, 4, .inl ca0)), (ka1, .inl (cI, 4, .inl ca1)), (ka2, .inl (cI, 144, .inl ca2)), (k050, .inl (cI, 36, .inl c050))] sz) (va_Qi (fun (r : Int32) (u : Unit) => True) (fun u t => kWd D cI (va_A [(k, .inr (10, [.ref k0, .ref k1, .ref k2, .ref k3, .ref k4, .ref k5, .ref k6, .ref k7, .ref k8, .ref k9, .ref ka, .ref kb, .int cc])), (k0, .inr (9, [.ref k00, .ref k01, .ref k02, .ref k03, .ref k04, .ref k05, .int c06, .int c07, .int c08])), (ka, .inr (6, [.ref ka0, .ref ka1, .ref ka2])), (k05, .inr (3, [.ref k050, .int c051])), (ka0, .inl (cI, 4, .inl ca0)), (ka1, .inl (cI, 4, .inl ca1)), (ka2, .inl (cI, 144, .inl ca2)), (k050, .inl (cI, 36, .inl c050))] sz) [(k, .inr (10, [.ref k0, .ref k1, .ref k2, .ref k3, .ref k4, .ref k5, .ref k6, .ref k7, .ref k8, .ref k9, .ref ka, .ref kb, .int cc])), (k0, .inr (9, [.ref k00, .ref k01, .ref k02, .ref k03, .ref k04, .ref k05, .int c06, .int c07, .int c08])), (ka, .inr (6, [.ref ka0, .ref ka1, .ref ka2])), (k05, .inr (3, [.ref k050, .int c051])), (ka0, .inl (cI, 4, .inl ca0)), (ka1, .inl (cI, 4, .inl ca1)), (ka2, .inl (cI, 144, .inl ca2)), (k050, .inl (cI, 36, .inl c050))] t) (va_A [(k, .inr (10, [.ref k0, .ref k1, .ref k2, .ref k3, .ref k4, .ref k5, .ref k6, .ref k7, .ref k8, .ref k9, .ref ka, .ref kb, .int cc])), (k0, .inr (9, [.ref k00, .ref k01, .ref k02, .ref k03, .ref k04, .ref k05, .int c06, .int c07, .int c08])), (ka, .inr (6, [.ref ka0, .ref ka1, .ref ka2])), (k05, .inr (3, [.ref k050, .int c051])), (ka0, .inl (cI, 4, .inl ca0)), (ka1, .inl (cI, 4, .inl ca1)), (ka2, .inl (cI, 144, .inl ca2)), (k050, .inl (cI, 36, .inl c050))] sz)) 0 0 (va_A [(k, .inr (10, [.ref k0, .ref k1, .ref k2, .ref k3, .ref k4, .ref k5, .ref k6, .ref k7, .ref k8, .ref k9, .ref ka, .ref kb, .int cc])), (k0, .inr (9, [.ref k00, .ref k01, .ref k02, .ref k03, .ref k04, .ref k05, .int c06, .int c07, .int c08])), (ka, .inr (6, [.ref ka0, .ref ka1, .ref ka2])), (k05, .inr (3, [.ref k050, .int c051])), (ka0, .inl (cI, 4, .inl ca0)), (ka1, .inl (cI, 4, .inl ca1)), (ka2, .inl (cI, 144, .inl ca2)), (k050, .inl (cI, 36, .inl c050))] sz) := by
  refine kMetIX (own := RX10) (by decide +kernel) rfl (Nat.le_of_ble_eq_true rfl) ?_
  intro p e s m args below meth c hx hb hT hown hname hml A Q hK hP hD hS hA hN hXS hRet ls hl
  have hl : lv_has ls 8 [(0, .ref k), (1, .int a0), (2, .int a1), (3, .int a2)] := hl
  have lo_a0 := k_lo a0
  have hi_a0 := k_hi a0
  have lo_a1 := k_lo a1
  have hi_a1 := k_hi a1
  have lo_a2 := k_lo a2
  have hi_a2 := k_hi a2
  refine lv_aload_n hx hb dX10_whyNoMeeting_0 rfl (lv_at hl 0 rfl) ?_
  refine va_get (D := D) (ci := 10) (v := .ref ka) (C := RX10) (T := TX10) (N := 13) hx hb hT giX10 hown hK hP 0 rfl rfl 10 (by decide +kernel) (hT (Cond.fieldLink RX10 70 "DesertWire" "sheets" "LDesertWire$Sheets;") mw_301) (fun _ h9 => h9) rfl dX10_whyNoMeeting_1 ?_
  refine lv_iload_n hx hb dX10_whyNoMeeting_4 rfl (lv_at hl 3 rfl) ?_
  refine kJi (wr := [(k, .inr (10, [.ref k0, .ref k1, .ref k2, .ref k3, .ref k4, .ref k5, .ref k6, .ref k7, .ref k8, .ref k9, .ref ka, .ref kb, .int cc])), (k0, .inr (9, [.ref k00, .ref k01, .ref k02, .ref k03, .ref k04, .ref k05, .int c06, .int c07, .int c08])), (k05, .inr (3, [.ref k050, .int c051])), (ka1, .inl (cI, 4, .inl ca1)), (ka2, .inl (cI, 144, .inl ca2)), (k050, .inl (cI, 36, .inl c050))]) (va_runV (As := [.int a2]) (rest := []) ⟨hx, hb, hml, hown, hT⟩ (c_X6_isMissingG l D cI aK aV ka ka0 ka1 ka2 s.heap.size ca0 a2) (cwV 1 hT (gV_in mw_666 mw_663 mw_664 mw_665 mw_11) rfl rfl rfl (by decide +kernel) ⟨Nat.le_of_ble_eq_true rfl, Nat.le_of_ble_eq_true rfl⟩) (kRecvX (q0 := 2) (ci := 6) hK hP hD hN hXS hS hA rfl rfl [2, 4] rfl (by decide +kernel)) rfl rfl hl.1 rfl (lv_room (Nat.le_of_ble_eq_true rfl)) dX10_whyNoMeeting_5 ⟨Nat.le_of_ble_eq_true rfl, Nat.le_of_ble_eq_true rfl⟩) hP hD hS hA [2, 4] [0, 1, 3, 5, 6, 7] rfl rfl (by decide +kernel) (by decide +kernel) ?_
  clear hP hD hS
  intro r_1 u_3 H locs w_2 hP hD hS
  replace hP : va_P D vwCl [(k, .inr (10, [.ref k0, .ref k1, .ref k2, .ref k3, .ref k4, .ref k5, .ref k6, .ref k7, .ref k8, .ref k9, .ref ka, .ref kb, .int cc])), (k0, .inr (9, [.ref k00, .ref k01, .ref k02, .ref k03, .ref k04, .ref k05, .int c06, .int c07, .int c08])), (k05, .inr (3, [.ref k050, .int c051])), (ka1, .inl (cI, 4, .inl ca1)), (ka2, .inl (cI, 144, .inl ca2)), (k050, .inl (cI, 36, .inl c050)), (ka, .inr (6, [.ref ka0, .ref ka1, .ref ka2])), (ka0, .inl (cI, 4, .inl ca0))] H := hP
  replace hD : va_D A [(k, .inr (10, [.ref k0, .ref k1, .ref k2, .ref k3, .ref k4, .ref k5, .ref k6, .ref k7, .ref k8, .ref k9, .ref ka, .ref kb, .int cc])), (k0, .inr (9, [.ref k00, .ref k01, .ref k02, .ref k03, .ref k04, .ref k05, .int c06, .int c07, .int c08])), (k05, .inr (3, [.ref k050, .int c051])), (ka1, .inl (cI, 4, .inl ca1)), (ka2, .inl (cI, 144, .inl ca2)), (k050, .inl (cI, 36, .inl c050)), (ka, .inr (6, [.ref ka0, .ref ka1, .ref ka2])), (ka0, .inl (cI, 4, .inl ca0))] := hD
  rcases w_2 with ⟨hr_1, h_4, h_5, h_6⟩ | ⟨hr_1, h_7, h_8, h_9⟩ | ⟨hr_1, h_10⟩
  · have h_4 : 0 ≤ a2.toInt := h_4
    have h_5 : a2.toInt ≤ 3 := h_5
    have h_6 : (ca0 a2.toNatClampNeg).toInt = 0 := h_6
    obtain rfl : r_1 = 1 := hr_1.trans (by decide +kernel)
    refine b_if_eq hx hb zl_1 (tgt := 13) dX10_whyNoMeeting_8 (by decide +kernel) (fun c_11 => by exfalso; omega) (fun c_11 => ?_)
    refine lv_iconst (v := 2) hx hb dX10_whyNoMeeting_11 (by decide +kernel) ?_
    exact hRet () [0, 1, 6, 2, 7, 3, 4, 5] trivial hP hD (by decide +kernel) rfl hS rfl dX10_whyNoMeeting_12
  · have h_7 : 0 ≤ a2.toInt := h_7
    have h_8 : a2.toInt ≤ 3 := h_8
    have h_9 : (ca0 a2.toNatClampNeg).toInt ≠ 0 := h_9
    obtain rfl : r_1 = 0 := hr_1.trans (by decide +kernel)
    refine b_if_eq hx hb zl_0 (tgt := 13) dX10_whyNoMeeting_8 (by decide +kernel) (fun c_12 => ?_) (fun c_12 => by exfalso; omega)
    refine lv_aload_n hx hb dX10_whyNoMeeting_13 rfl (lv_at hl 0 rfl) ?_
    refine va_get (D := D) (ci := 10) (v := .ref ka) (C := RX10) (T := TX10) (N := 13) hx hb hT giX10 hown hK hP 0 rfl rfl 10 (by decide +kernel) (hT (Cond.fieldLink RX10 70 "DesertWire" "sheets" "LDesertWire$Sheets;") mw_301) (fun _ h9 => h9) rfl dX10_whyNoMeeting_14 ?_
    refine lv_iload_n hx hb dX10_whyNoMeeting_17 rfl (lv_at hl 3 rfl) ?_
    refine kJi (wr := [(k, .inr (10, [.ref k0, .ref k1, .ref k2, .ref k3, .ref k4, .ref k5, .ref k6, .ref k7, .ref k8, .ref k9, .ref ka, .ref kb, .int cc])), (k0, .inr (9, [.ref k00, .ref k01, .ref k02, .ref k03, .ref k04, .ref k05, .int c06, .int c07, .int c08])), (k05, .inr (3, [.ref k050, .int c051])), (ka2, .inl (cI, 144, .inl ca2)), (k050, .inl (cI, 36, .inl c050)), (ka0, .inl (cI, 4, .inl ca0))]) (va_runV (As := [.int a2]) (rest := []) ⟨hx, hb, hml, hown, hT⟩ (c_X6_lengthOfG l D cI aK aV ka ka0 ka1 ka2 H.size ca1 a2 (by first | omega | decide | assumption | rfl)) (cwV 1 hT (gV_in mw_675 mw_672 mw_673 mw_674 mw_11) rfl rfl rfl (by decide +kernel) ⟨Nat.le_of_ble_eq_true rfl, Nat.le_of_ble_eq_true rfl⟩) (kRecvX (q0 := 6) (ci := 6) hK hP hD hN hXS hS hA rfl rfl [6, 3] rfl (by decide +kernel)) rfl rfl hl.1 rfl (lv_room (Nat.le_of_ble_eq_true rfl)) dX10_whyNoMeeting_18 ⟨Nat.le_of_ble_eq_true rfl, Nat.le_of_ble_eq_true rfl⟩) hP hD hS hA [6, 3] [0, 1, 2, 4, 5, 7] rfl rfl (by decide +kernel) (by decide +kernel) ?_
    clear hP hD hS
    intro r_13 u_15 H locs w_14 hP hD hS
    replace hP : va_P D vwCl [(k, .inr (10, [.ref k0, .ref k1, .ref k2, .ref k3, .ref k4, .ref k5, .ref k6, .ref k7, .ref k8, .ref k9, .ref ka, .ref kb, .int cc])), (k0, .inr (9, [.ref k00, .ref k01, .ref k02, .ref k03, .ref k04, .ref k05, .int c06, .int c07, .int c08])), (k05, .inr (3, [.ref k050, .int c051])), (ka2, .inl (cI, 144, .inl ca2)), (k050, .inl (cI, 36, .inl c050)), (ka0, .inl (cI, 4, .inl ca0)), (ka, .inr (6, [.ref ka0, .ref ka1, .ref ka2])), (ka1, .inl (cI, 4, .inl ca1))] H := hP
    replace hD : va_D A [(k, .inr (10, [.ref k0, .ref k1, .ref k2, .ref k3, .ref k4, .ref k5, .ref k6, .ref k7, .ref k8, .ref k9, .ref ka, .ref kb, .int cc])), (k0, .inr (9, [.ref k00, .ref k01, .ref k02, .ref k03, .ref k04, .ref k05, .int c06, .int c07, .int c08])), (k05, .inr (3, [.ref k050, .int c051])), (ka2, .inl (cI, 144, .inl ca2)), (k050, .inl (cI, 36, .inl c050)), (ka0, .inl (cI, 4, .inl ca0)), (ka, .inr (6, [.ref ka0, .ref ka1, .ref ka2])), (ka1, .inl (cI, 4, .inl ca1))] := hD
    rcases w_14 with ⟨h_16, h_17, h_18, h_19, h_20⟩ | ⟨hr_13, h_21⟩
    · have h_16 : 0 ≤ a2.toInt := h_16
      have h_17 : a2.toInt ≤ 3 := h_17
      have h_18 : 0 ≤ r_13.toInt := h_18
      have h_19 : r_13.toInt ≤ 36 := h_19
      have h_20 : r_13.toInt = (ca1 a2.toNatClampNeg).toInt := h_20
      have lo_r_13 := k_lo r_13
      have hi_r_13 := k_hi r_13
      refine lv_istore (lv' := [(4, .int r_13), (0, .ref k), (1, .int a0), (2, .int a1), (3, .int a2)]) hx hb dX10_whyNoMeeting_21 hl (by decide +kernel) rfl ?_
      clear hl
      intro ls hl
      refine lv_iload hx hb dX10_whyNoMeeting_23 (lv_at hl 0 rfl) ?_
      refine b_if_eq hx hb rfl (tgt := 50) dX10_whyNoMeeting_25 (by decide +kernel) (fun c_22 => ?_) (fun c_22 => ?_)
      · refine lv_iconst (v := 5) hx hb dX10_whyNoMeeting_50 (by decide +kernel) ?_
        exact hRet () [0, 1, 6, 2, 5, 7, 3, 4] trivial hP hD (by decide +kernel) rfl hS rfl dX10_whyNoMeeting_51
      · refine lv_iload hx hb dX10_whyNoMeeting_28 (lv_at hl 0 rfl) ?_
        refine lv_bipush (v := 12) hx hb dX10_whyNoMeeting_30 (by decide +kernel) ?_
        refine lv_irem hx hb dX10_whyNoMeeting_32 (by decide +kernel) ?_
        refine lv_topi (fun v_23 ev_23 => ?_)
        have tv_23 : v_23.toInt = r_13.toInt % 12 := k_remv (w := 0) ev_23 zl_12 (by omega) (by decide +kernel)
        have lo_v_23 := k_lo v_23
        have hi_v_23 := k_hi v_23
        refine b_if_ne hx hb rfl (tgt := 50) dX10_whyNoMeeting_33 (by decide +kernel) (fun c_24 => ?_) (fun c_24 => ?_)
        · refine lv_iconst (v := 5) hx hb dX10_whyNoMeeting_50 (by decide +kernel) ?_
          exact hRet () [0, 1, 6, 2, 5, 7, 3, 4] trivial hP hD (by decide +kernel) rfl hS rfl dX10_whyNoMeeting_51
        · refine lv_aload_n hx hb dX10_whyNoMeeting_36 rfl (lv_at hl 1 rfl) ?_
          refine va_get (D := D) (ci := 10) (v := .ref ka) (C := RX10) (T := TX10) (N := 13) hx hb hT giX10 hown hK hP 0 rfl rfl 10 (by decide +kernel) (hT (Cond.fieldLink RX10 70 "DesertWire" "sheets" "LDesertWire$Sheets;") mw_301) (fun _ h9 => h9) rfl dX10_whyNoMeeting_37 ?_
          refine lv_iload_n hx hb dX10_whyNoMeeting_40 rfl (lv_at hl 4 rfl) ?_
          refine lv_iconst (v := 0) hx hb dX10_whyNoMeeting_41 (by decide +kernel) ?_
          refine lv_bipush (v := 9) hx hb dX10_whyNoMeeting_42 (by decide +kernel) ?_
          refine kJi (wr := [(k, .inr (10, [.ref k0, .ref k1, .ref k2, .ref k3, .ref k4, .ref k5, .ref k6, .ref k7, .ref k8, .ref k9, .ref ka, .ref kb, .int cc])), (k0, .inr (9, [.ref k00, .ref k01, .ref k02, .ref k03, .ref k04, .ref k05, .int c06, .int c07, .int c08])), (k05, .inr (3, [.ref k050, .int c051])), (k050, .inl (cI, 36, .inl c050)), (ka0, .inl (cI, 4, .inl ca0))]) (va_runV (As := [.int a2, .int 0, .int 9]) (rest := []) ⟨hx, hb, hml, hown, hT⟩ (c_X6_allWithinG l D cI aK aV ka ka0 ka1 ka2 H.size ca1 ca2 a2 0 9 (by first | omega | (simp only [zl_0, zl_9]; first | done | omega) | decide | assumption | rfl) (by first | omega | (simp only [zl_0, zl_9]; first | done | omega) | decide | assumption | rfl) (by first | omega | (simp only [zl_0, zl_9]; first | done | omega) | decide | assumption | rfl)) (cwV 3 hT (gV_in mw_679 mw_676 mw_677 mw_678 mw_11) rfl rfl rfl (by decide +kernel) ⟨Nat.le_of_ble_eq_true rfl, Nat.le_of_ble_eq_true rfl⟩) (kRecvX (q0 := 6) (ci := 6) hK hP hD hN hXS hS hA rfl rfl [6, 7, 3] rfl (by decide +kernel)) rfl rfl hl.1 rfl (lv_room (Nat.le_of_ble_eq_true rfl)) dX10_whyNoMeeting_44 ⟨Nat.le_of_ble_eq_true rfl, Nat.le_of_ble_eq_true rfl⟩) hP hD hS hA [6, 7, 3] [0, 1, 2, 4, 5] rfl rfl (by decide +kernel) (by decide +kernel) ?_
          clear hP hD hS
          intro r_25 u_27 H locs w_26 hP hD hS
          replace hP : va_P D vwCl [(k, .inr (10, [.ref k0, .ref k1, .ref k2, .ref k3, .ref k4, .ref k5, .ref k6, .ref k7, .ref k8, .ref k9, .ref ka, .ref kb, .int cc])), (k0, .inr (9, [.ref k00, .ref k01, .ref k02, .ref k03, .ref k04, .ref k05, .int c06, .int c07, .int c08])), (k05, .inr (3, [.ref k050, .int c051])), (k050, .inl (cI, 36, .inl c050)), (ka0, .inl (cI, 4, .inl ca0)), (ka, .inr (6, [.ref ka0, .ref ka1, .ref ka2])), (ka1, .inl (cI, 4, .inl ca1)), (ka2, .inl (cI, 144, .inl ca2))] H := hP
          replace hD : va_D A [(k, .inr (10, [.ref k0, .ref k1, .ref k2, .ref k3, .ref k4, .ref k5, .ref k6, .ref k7, .ref k8, .ref k9, .ref ka, .ref kb, .int cc])), (k0, .inr (9, [.ref k00, .ref k01, .ref k02, .ref k03, .ref k04, .ref k05, .int c06, .int c07, .int c08])), (k05, .inr (3, [.ref k050, .int c051])), (k050, .inl (cI, 36, .inl c050)), (ka0, .inl (cI, 4, .inl ca0)), (ka, .inr (6, [.ref ka0, .ref ka1, .ref ka2])), (ka1, .inl (cI, 4, .inl ca1)), (ka2, .inl (cI, 144, .inl ca2))] := hD
          rcases w_26 with ⟨hr_25, h_28⟩ | ⟨hr_25, h_29⟩
          · try simp only [zl_0, zl_9] at h_28
            have h_28 : allB (shv ca2 a2) 0 9 (ca1 a2.toNatClampNeg).toInt.toNat = true := h_28
            have h_28 : allB (shv ca2 a2) 0 9 (ca1 a2.toNatClampNeg).toInt.toNat = true := h_28
            obtain rfl : r_25 = 1 := hr_25.trans (by decide +kernel)
            refine b_if_ne hx hb zl_1 (tgt := 52) dX10_whyNoMeeting_47 (by decide +kernel) (fun c_30 => ?_) (fun c_30 => by exfalso; omega)
            refine lv_aload_n hx hb dX10_whyNoMeeting_52 rfl (lv_at hl 1 rfl) ?_
            refine va_get (D := D) (ci := 10) (v := .ref k0) (C := RX10) (T := TX10) (N := 13) hx hb hT giX10 hown hK hP 0 rfl rfl 0 (by decide +kernel) (hT (Cond.fieldLink RX10 12 "DesertWire" "now" "LDesertWire$World;") mw_291) (fun _ h9 => h9) rfl dX10_whyNoMeeting_53 ?_
            refine va_get (D := D) (ci := 9) (v := .ref k05) (C := RX9) (T := TX9) (N := 9) hx hb hT giX9 hown hK hP 1 rfl rfl 5 (by decide +kernel) (hT (Cond.fieldLink RX10 193 "DesertWire$World" "parties" "LDesertWire$Parties;") mw_102) (fun _ h9 => h9) rfl dX10_whyNoMeeting_56 ?_
            refine lv_astore (lv' := [(5, .ref k05), (4, .int r_13), (0, .ref k), (1, .int a0), (2, .int a1), (3, .int a2)]) hx hb dX10_whyNoMeeting_59 hl (by decide +kernel) rfl ?_
            clear hl
            intro ls hl
            refine lv_aload hx hb dX10_whyNoMeeting_61 (lv_at hl 0 rfl) ?_
            refine lv_iload_n hx hb dX10_whyNoMeeting_63 rfl (lv_at hl 3 rfl) ?_
            refine kJi (wr := [(k, .inr (10, [.ref k0, .ref k1, .ref k2, .ref k3, .ref k4, .ref k5, .ref k6, .ref k7, .ref k8, .ref k9, .ref ka, .ref kb, .int cc])), (k0, .inr (9, [.ref k00, .ref k01, .ref k02, .ref k03, .ref k04, .ref k05, .int c06, .int c07, .int c08])), (ka0, .inl (cI, 4, .inl ca0)), (ka, .inr (6, [.ref ka0, .ref ka1, .ref ka2])), (ka1, .inl (cI, 4, .inl ca1)), (ka2, .inl (cI, 144, .inl ca2))]) (va_runV (As := [.int a0]) (rest := []) ⟨hx, hb, hml, hown, hT⟩ (c_X3_isLostG l D cI aK aV k05 k050 H.size c051 c050 a0) (cwV 1 hT (gV_in mw_734 mw_731 mw_732 mw_733 mw_4) rfl rfl rfl (by decide +kernel) ⟨Nat.le_of_ble_eq_true rfl, Nat.le_of_ble_eq_true rfl⟩) (kRecvX (q0 := 2) (ci := 3) hK hP hD hN hXS hS hA rfl rfl [2, 3] rfl (by decide +kernel)) rfl rfl hl.1 rfl (lv_room (Nat.le_of_ble_eq_true rfl)) dX10_whyNoMeeting_64 ⟨Nat.le_of_ble_eq_true rfl, Nat.le_of_ble_eq_true rfl⟩) hP hD hS hA [2, 3] [0, 1, 4, 5, 6, 7] rfl rfl (by decide +kernel) (by decide +kernel) ?_
            clear hP hD hS
            intro r_31 u_33 H locs w_32 hP hD hS
            replace hP : va_P D vwCl [(k, .inr (10, [.ref k0, .ref k1, .ref k2, .ref k3, .ref k4, .ref k5, .ref k6, .ref k7, .ref k8, .ref k9, .ref ka, .ref kb, .int cc])), (k0, .inr (9, [.ref k00, .ref k01, .ref k02, .ref k03, .ref k04, .ref k05, .int c06, .int c07, .int c08])), (ka0, .inl (cI, 4, .inl ca0)), (ka, .inr (6, [.ref ka0, .ref ka1, .ref ka2])), (ka1, .inl (cI, 4, .inl ca1)), (ka2, .inl (cI, 144, .inl ca2)), (k05, .inr (3, [.ref k050, .int c051])), (k050, .inl (cI, 36, .inl c050))] H := hP
            replace hD : va_D A [(k, .inr (10, [.ref k0, .ref k1, .ref k2, .ref k3, .ref k4, .ref k5, .ref k6, .ref k7, .ref k8, .ref k9, .ref ka, .ref kb, .int cc])), (k0, .inr (9, [.ref k00, .ref k01, .ref k02, .ref k03, .ref k04, .ref k05, .int c06, .int c07, .int c08])), (ka0, .inl (cI, 4, .inl ca0)), (ka, .inr (6, [.ref ka0, .ref ka1, .ref ka2])), (ka1, .inl (cI, 4, .inl ca1)), (ka2, .inl (cI, 144, .inl ca2)), (k05, .inr (3, [.ref k050, .int c051])), (k050, .inl (cI, 36, .inl c050))] := hD
            have lo_r_31 := k_lo r_31
            have hi_r_31 := k_hi r_31
            refine b_if_ne hx hb rfl (tgt := 79) dX10_whyNoMeeting_67 (by decide +kernel) (fun c_34 => ?_) (fun c_34 => ?_)
            · refine lv_iconst (v := 1) hx hb dX10_whyNoMeeting_79 (by decide +kernel) ?_
              refine lv_goto (tgt := 84) hx hb dX10_whyNoMeeting_80 (by decide +kernel) ?_
              refine lv_istore (lv' := [(6, .int 1), (5, .ref k05), (4, .int r_13), (0, .ref k), (1, .int a0), (2, .int a1), (3, .int a2)]) hx hb dX10_whyNoMeeting_84 hl (by decide +kernel) rfl ?_
              clear hl
              intro ls hl
              refine lv_aload hx hb dX10_whyNoMeeting_86 (lv_at hl 1 rfl) ?_
              refine lv_iload_n hx hb dX10_whyNoMeeting_88 rfl (lv_at hl 4 rfl) ?_
              refine lv_iconst (v := 1) hx hb dX10_whyNoMeeting_89 (by decide +kernel) ?_
              refine kJi (wr := [(k, .inr (10, [.ref k0, .ref k1, .ref k2, .ref k3, .ref k4, .ref k5, .ref k6, .ref k7, .ref k8, .ref k9, .ref ka, .ref kb, .int cc])), (k0, .inr (9, [.ref k00, .ref k01, .ref k02, .ref k03, .ref k04, .ref k05, .int c06, .int c07, .int c08])), (ka0, .inl (cI, 4, .inl ca0)), (ka, .inr (6, [.ref ka0, .ref ka1, .ref ka2])), (ka1, .inl (cI, 4, .inl ca1)), (ka2, .inl (cI, 144, .inl ca2))]) (va_runV (As := [.int a0, .int 1]) (rest := []) ⟨hx, hb, hml, hown, hT⟩ (c_X3_getG l D cI aK aV k05 k050 H.size c051 c050 a0 1) (cwV 2 hT (gV_in mw_726 mw_723 mw_724 mw_725 mw_4) rfl rfl rfl (by decide +kernel) ⟨Nat.le_of_ble_eq_true rfl, Nat.le_of_ble_eq_true rfl⟩) (kRecvX (q0 := 6) (ci := 3) hK hP hD hN hXS hS hA rfl rfl [6, 7] rfl (by decide +kernel)) rfl rfl hl.1 rfl (lv_room (Nat.le_of_ble_eq_true rfl)) dX10_whyNoMeeting_90 ⟨Nat.le_of_ble_eq_true rfl, Nat.le_of_ble_eq_true rfl⟩) hP hD hS hA [6, 7] [0, 1, 2, 3, 4, 5] rfl rfl (by decide +kernel) (by decide +kernel) ?_
              clear hP hD hS
              intro r_35 u_37 H locs w_36 hP hD hS
              replace hP : va_P D vwCl [(k, .inr (10, [.ref k0, .ref k1, .ref k2, .ref k3, .ref k4, .ref k5, .ref k6, .ref k7, .ref k8, .ref k9, .ref ka, .ref kb, .int cc])), (k0, .inr (9, [.ref k00, .ref k01, .ref k02, .ref k03, .ref k04, .ref k05, .int c06, .int c07, .int c08])), (ka0, .inl (cI, 4, .inl ca0)), (ka, .inr (6, [.ref ka0, .ref ka1, .ref ka2])), (ka1, .inl (cI, 4, .inl ca1)), (ka2, .inl (cI, 144, .inl ca2)), (k05, .inr (3, [.ref k050, .int c051])), (k050, .inl (cI, 36, .inl c050))] H := hP
              replace hD : va_D A [(k, .inr (10, [.ref k0, .ref k1, .ref k2, .ref k3, .ref k4, .ref k5, .ref k6, .ref k7, .ref k8, .ref k9, .ref ka, .ref kb, .int cc])), (k0, .inr (9, [.ref k00, .ref k01, .ref k02, .ref k03, .ref k04, .ref k05, .int c06, .int c07, .int c08])), (ka0, .inl (cI, 4, .inl ca0)), (ka, .inr (6, [.ref ka0, .ref ka1, .ref ka2])), (ka1, .inl (cI, 4, .inl ca1)), (ka2, .inl (cI, 144, .inl ca2)), (k05, .inr (3, [.ref k050, .int c051])), (k050, .inl (cI, 36, .inl c050))] := hD
              have lo_r_35 := k_lo r_35
              have hi_r_35 := k_hi r_35
              refine lv_iconst (v := 1) hx hb dX10_whyNoMeeting_93 (by decide +kernel) ?_
              refine b_icmp_ne hx hb rfl zl_1 (tgt := 112) dX10_whyNoMeeting_94 (by decide +kernel) (fun c_38 => ?_) (fun c_38 => ?_)
              · refine lv_iconst (v := 0) hx hb dX10_whyNoMeeting_112 (by decide +kernel) ?_
                refine lv_istore (lv' := [(7, .int 0), (6, .int 1), (5, .ref k05), (4, .int r_13), (0, .ref k), (1, .int a0), (2, .int a1), (3, .int a2)]) hx hb dX10_whyNoMeeting_113 hl (by decide +kernel) rfl ?_
                clear hl
                intro ls hl
                refine lv_iload hx hb dX10_whyNoMeeting_115 (lv_at hl 1 rfl) ?_
                refine b_if_ne hx hb zl_1 (tgt := 142) dX10_whyNoMeeting_117 (by decide +kernel) (fun c_39 => ?_) (fun c_39 => by exfalso; omega)
                refine lv_iconst (v := 3) hx hb dX10_whyNoMeeting_142 (by decide +kernel) ?_
                exact hRet () [0, 1, 3, 6, 2, 4, 5, 7] trivial hP hD (by decide +kernel) rfl hS rfl dX10_whyNoMeeting_143
              · refine lv_aload hx hb dX10_whyNoMeeting_97 (lv_at hl 1 rfl) ?_
                refine lv_iload_n hx hb dX10_whyNoMeeting_99 rfl (lv_at hl 5 rfl) ?_
                refine lv_iconst (v := 1) hx hb dX10_whyNoMeeting_100 (by decide +kernel) ?_
                refine kJi (wr := [(k, .inr (10, [.ref k0, .ref k1, .ref k2, .ref k3, .ref k4, .ref k5, .ref k6, .ref k7, .ref k8, .ref k9, .ref ka, .ref kb, .int cc])), (k0, .inr (9, [.ref k00, .ref k01, .ref k02, .ref k03, .ref k04, .ref k05, .int c06, .int c07, .int c08])), (ka0, .inl (cI, 4, .inl ca0)), (ka, .inr (6, [.ref ka0, .ref ka1, .ref ka2])), (ka1, .inl (cI, 4, .inl ca1)), (ka2, .inl (cI, 144, .inl ca2))]) (va_runV (As := [.int a1, .int 1]) (rest := []) ⟨hx, hb, hml, hown, hT⟩ (c_X3_getG l D cI aK aV k05 k050 H.size c051 c050 a1 1) (cwV 2 hT (gV_in mw_726 mw_723 mw_724 mw_725 mw_4) rfl rfl rfl (by decide +kernel) ⟨Nat.le_of_ble_eq_true rfl, Nat.le_of_ble_eq_true rfl⟩) (kRecvX (q0 := 6) (ci := 3) hK hP hD hN hXS hS hA rfl rfl [6, 7] rfl (by decide +kernel)) rfl rfl hl.1 rfl (lv_room (Nat.le_of_ble_eq_true rfl)) dX10_whyNoMeeting_101 ⟨Nat.le_of_ble_eq_true rfl, Nat.le_of_ble_eq_true rfl⟩) hP hD hS hA [6, 7] [0, 1, 2, 3, 4, 5] rfl rfl (by decide +kernel) (by decide +kernel) ?_
                clear hP hD hS
                intro r_40 u_42 H locs w_41 hP hD hS
                replace hP : va_P D vwCl [(k, .inr (10, [.ref k0, .ref k1, .ref k2, .ref k3, .ref k4, .ref k5, .ref k6, .ref k7, .ref k8, .ref k9, .ref ka, .ref kb, .int cc])), (k0, .inr (9, [.ref k00, .ref k01, .ref k02, .ref k03, .ref k04, .ref k05, .int c06, .int c07, .int c08])), (ka0, .inl (cI, 4, .inl ca0)), (ka, .inr (6, [.ref ka0, .ref ka1, .ref ka2])), (ka1, .inl (cI, 4, .inl ca1)), (ka2, .inl (cI, 144, .inl ca2)), (k05, .inr (3, [.ref k050, .int c051])), (k050, .inl (cI, 36, .inl c050))] H := hP
                replace hD : va_D A [(k, .inr (10, [.ref k0, .ref k1, .ref k2, .ref k3, .ref k4, .ref k5, .ref k6, .ref k7, .ref k8, .ref k9, .ref ka, .ref kb, .int cc])), (k0, .inr (9, [.ref k00, .ref k01, .ref k02, .ref k03, .ref k04, .ref k05, .int c06, .int c07, .int c08])), (ka0, .inl (cI, 4, .inl ca0)), (ka, .inr (6, [.ref ka0, .ref ka1, .ref ka2])), (ka1, .inl (cI, 4, .inl ca1)), (ka2, .inl (cI, 144, .inl ca2)), (k05, .inr (3, [.ref k050, .int c051])), (k050, .inl (cI, 36, .inl c050))] := hD
                have lo_r_40 := k_lo r_40
                have hi_r_40 := k_hi r_40
                refine lv_iconst (v := (-1)) hx hb dX10_whyNoMeeting_104 (by decide +kernel) ?_
                refine b_icmp_ne hx hb rfl zl_m1 (tgt := 112) dX10_whyNoMeeting_105 (by decide +kernel) (fun c_43 => ?_) (fun c_43 => ?_)
                · refine lv_iconst (v := 0) hx hb dX10_whyNoMeeting_112 (by decide +kernel) ?_
                  refine lv_istore (lv' := [(7, .int 0), (6, .int 1), (5, .ref k05), (4, .int r_13), (0, .ref k), (1, .int a0), (2, .int a1), (3, .int a2)]) hx hb dX10_whyNoMeeting_113 hl (by decide +kernel) rfl ?_
                  clear hl
                  intro ls hl
                  refine lv_iload hx hb dX10_whyNoMeeting_115 (lv_at hl 1 rfl) ?_
                  refine b_if_ne hx hb zl_1 (tgt := 142) dX10_whyNoMeeting_117 (by decide +kernel) (fun c_44 => ?_) (fun c_44 => by exfalso; omega)
                  refine lv_iconst (v := 3) hx hb dX10_whyNoMeeting_142 (by decide +kernel) ?_
                  exact hRet () [0, 1, 3, 6, 2, 4, 5, 7] trivial hP hD (by decide +kernel) rfl hS rfl dX10_whyNoMeeting_143
                · refine lv_iconst (v := 1) hx hb dX10_whyNoMeeting_108 (by decide +kernel) ?_
                  refine lv_goto (tgt := 113) hx hb dX10_whyNoMeeting_109 (by decide +kernel) ?_
                  refine lv_istore (lv' := [(7, .int 1), (6, .int 1), (5, .ref k05), (4, .int r_13), (0, .ref k), (1, .int a0), (2, .int a1), (3, .int a2)]) hx hb dX10_whyNoMeeting_113 hl (by decide +kernel) rfl ?_
                  clear hl
                  intro ls hl
                  refine lv_iload hx hb dX10_whyNoMeeting_115 (lv_at hl 1 rfl) ?_
                  refine b_if_ne hx hb zl_1 (tgt := 142) dX10_whyNoMeeting_117 (by decide +kernel) (fun c_45 => ?_) (fun c_45 => by exfalso; omega)
                  refine lv_iconst (v := 3) hx hb dX10_whyNoMeeting_142 (by decide +kernel) ?_
                  exact hRet () [0, 1, 3, 6, 2, 4, 5, 7] trivial hP hD (by decide +kernel) rfl hS rfl dX10_whyNoMeeting_143
            · refine lv_aload hx hb dX10_whyNoMeeting_70 (lv_at hl 0 rfl) ?_
              refine lv_iload_n hx hb dX10_whyNoMeeting_72 rfl (lv_at hl 4 rfl) ?_
              refine kJi (wr := [(k, .inr (10, [.ref k0, .ref k1, .ref k2, .ref k3, .ref k4, .ref k5, .ref k6, .ref k7, .ref k8, .ref k9, .ref ka, .ref kb, .int cc])), (k0, .inr (9, [.ref k00, .ref k01, .ref k02, .ref k03, .ref k04, .ref k05, .int c06, .int c07, .int c08])), (ka0, .inl (cI, 4, .inl ca0)), (ka, .inr (6, [.ref ka0, .ref ka1, .ref ka2])), (ka1, .inl (cI, 4, .inl ca1)), (ka2, .inl (cI, 144, .inl ca2))]) (va_runV (As := [.int a1]) (rest := []) ⟨hx, hb, hml, hown, hT⟩ (c_X3_isLostG l D cI aK aV k05 k050 H.size c051 c050 a1) (cwV 1 hT (gV_in mw_734 mw_731 mw_732 mw_733 mw_4) rfl rfl rfl (by decide +kernel) ⟨Nat.le_of_ble_eq_true rfl, Nat.le_of_ble_eq_true rfl⟩) (kRecvX (q0 := 6) (ci := 3) hK hP hD hN hXS hS hA rfl rfl [6, 7] rfl (by decide +kernel)) rfl rfl hl.1 rfl (lv_room (Nat.le_of_ble_eq_true rfl)) dX10_whyNoMeeting_73 ⟨Nat.le_of_ble_eq_true rfl, Nat.le_of_ble_eq_true rfl⟩) hP hD hS hA [6, 7] [0, 1, 2, 3, 4, 5] rfl rfl (by decide +kernel) (by decide +kernel) ?_
              clear hP hD hS
              intro r_46 u_48 H locs w_47 hP hD hS
              replace hP : va_P D vwCl [(k, .inr (10, [.ref k0, .ref k1, .ref k2, .ref k3, .ref k4, .ref k5, .ref k6, .ref k7, .ref k8, .ref k9, .ref ka, .ref kb, .int cc])), (k0, .inr (9, [.ref k00, .ref k01, .ref k02, .ref k03, .ref k04, .ref k05, .int c06, .int c07, .int c08])), (ka0, .inl (cI, 4, .inl ca0)), (ka, .inr (6, [.ref ka0, .ref ka1, .ref ka2])), (ka1, .inl (cI, 4, .inl ca1)), (ka2, .inl (cI, 144, .inl ca2)), (k05, .inr (3, [.ref k050, .int c051])), (k050, .inl (cI, 36, .inl c050))] H := hP
              replace hD : va_D A [(k, .inr (10, [.ref k0, .ref k1, .ref k2, .ref k3, .ref k4, .ref k5, .ref k6, .ref k7, .ref k8, .ref k9, .ref ka, .ref kb, .int cc])), (k0, .inr (9, [.ref k00, .ref k01, .ref k02, .ref k03, .ref k04, .ref k05, .int c06, .int c07, .int c08])), (ka0, .inl (cI, 4, .inl ca0)), (ka, .inr (6, [.ref ka0, .ref ka1, .ref ka2])), (ka1, .inl (cI, 4, .inl ca1)), (ka2, .inl (cI, 144, .inl ca2)), (k05, .inr (3, [.ref k050, .int c051])), (k050, .inl (cI, 36, .inl c050))] := hD
              have lo_r_46 := k_lo r_46
              have hi_r_46 := k_hi r_46
              refine b_if_eq hx hb rfl (tgt := 83) dX10_whyNoMeeting_76 (by decide +kernel) (fun c_49 => ?_) (fun c_49 => ?_)
              · refine lv_iconst (v := 0) hx hb dX10_whyNoMeeting_83 (by decide +kernel) ?_
                refine lv_istore (lv' := [(6, .int 0), (5, .ref k05), (4, .int r_13), (0, .ref k), (1, .int a0), (2, .int a1), (3, .int a2)]) hx hb dX10_whyNoMeeting_84 hl (by decide +kernel) rfl ?_
                clear hl
                intro ls hl
                refine lv_aload hx hb dX10_whyNoMeeting_86 (lv_at hl 1 rfl) ?_
                refine lv_iload_n hx hb dX10_whyNoMeeting_88 rfl (lv_at hl 4 rfl) ?_
                refine lv_iconst (v := 1) hx hb dX10_whyNoMeeting_89 (by decide +kernel) ?_
                refine kJi (wr := [(k, .inr (10, [.ref k0, .ref k1, .ref k2, .ref k3, .ref k4, .ref k5, .ref k6, .ref k7, .ref k8, .ref k9, .ref ka, .ref kb, .int cc])), (k0, .inr (9, [.ref k00, .ref k01, .ref k02, .ref k03, .ref k04, .ref k05, .int c06, .int c07, .int c08])), (ka0, .inl (cI, 4, .inl ca0)), (ka, .inr (6, [.ref ka0, .ref ka1, .ref ka2])), (ka1, .inl (cI, 4, .inl ca1)), (ka2, .inl (cI, 144, .inl ca2))]) (va_runV (As := [.int a0, .int 1]) (rest := []) ⟨hx, hb, hml, hown, hT⟩ (c_X3_getG l D cI aK aV k05 k050 H.size c051 c050 a0 1) (cwV 2 hT (gV_in mw_726 mw_723 mw_724 mw_725 mw_4) rfl rfl rfl (by decide +kernel) ⟨Nat.le_of_ble_eq_true rfl, Nat.le_of_ble_eq_true rfl⟩) (kRecvX (q0 := 6) (ci := 3) hK hP hD hN hXS hS hA rfl rfl [6, 7] rfl (by decide +kernel)) rfl rfl hl.1 rfl (lv_room (Nat.le_of_ble_eq_true rfl)) dX10_whyNoMeeting_90 ⟨Nat.le_of_ble_eq_true rfl, Nat.le_of_ble_eq_true rfl⟩) hP hD hS hA [6, 7] [0, 1, 2, 3, 4, 5] rfl rfl (by decide +kernel) (by decide +kernel) ?_
                clear hP hD hS
                intro r_50 u_52 H locs w_51 hP hD hS
                replace hP : va_P D vwCl [(k, .inr (10, [.ref k0, .ref k1, .ref k2, .ref k3, .ref k4, .ref k5, .ref k6, .ref k7, .ref k8, .ref k9, .ref ka, .ref kb, .int cc])), (k0, .inr (9, [.ref k00, .ref k01, .ref k02, .ref k03, .ref k04, .ref k05, .int c06, .int c07, .int c08])), (ka0, .inl (cI, 4, .inl ca0)), (ka, .inr (6, [.ref ka0, .ref ka1, .ref ka2])), (ka1, .inl (cI, 4, .inl ca1)), (ka2, .inl (cI, 144, .inl ca2)), (k05, .inr (3, [.ref k050, .int c051])), (k050, .inl (cI, 36, .inl c050))] H := hP
                replace hD : va_D A [(k, .inr (10, [.ref k0, .ref k1, .ref k2, .ref k3, .ref k4, .ref k5, .ref k6, .ref k7, .ref k8, .ref k9, .ref ka, .ref kb, .int cc])), (k0, .inr (9, [.ref k00, .ref k01, .ref k02, .ref k03, .ref k04, .ref k05, .int c06, .int c07, .int c08])), (ka0, .inl (cI, 4, .inl ca0)), (ka, .inr (6, [.ref ka0, .ref ka1, .ref ka2])), (ka1, .inl (cI, 4, .inl ca1)), (ka2, .inl (cI, 144, .inl ca2)), (k05, .inr (3, [.ref k050, .int c051])), (k050, .inl (cI, 36, .inl c050))] := hD
                have lo_r_50 := k_lo r_50
                have hi_r_50 := k_hi r_50
                refine lv_iconst (v := 1) hx hb dX10_whyNoMeeting_93 (by decide +kernel) ?_
                refine b_icmp_ne hx hb rfl zl_1 (tgt := 112) dX10_whyNoMeeting_94 (by decide +kernel) (fun c_53 => ?_) (fun c_53 => ?_)
                · refine lv_iconst (v := 0) hx hb dX10_whyNoMeeting_112 (by decide +kernel) ?_
                  refine lv_istore (lv' := [(7, .int 0), (6, .int 0), (5, .ref k05), (4, .int r_13), (0, .ref k), (1, .int a0), (2, .int a1), (3, .int a2)]) hx hb dX10_whyNoMeeting_113 hl (by decide +kernel) rfl ?_
                  clear hl
                  intro ls hl
                  refine lv_iload hx hb dX10_whyNoMeeting_115 (lv_at hl 1 rfl) ?_
                  refine b_if_ne hx hb zl_0 (tgt := 142) dX10_whyNoMeeting_117 (by decide +kernel) (fun c_54 => by exfalso; omega) (fun c_54 => ?_)
                  refine lv_iload hx hb dX10_whyNoMeeting_120 (lv_at hl 0 rfl) ?_
                  refine b_if_eq hx hb zl_0 (tgt := 142) dX10_whyNoMeeting_122 (by decide +kernel) (fun c_55 => ?_) (fun c_55 => by exfalso; omega)
                  refine lv_iconst (v := 3) hx hb dX10_whyNoMeeting_142 (by decide +kernel) ?_
                  exact hRet () [0, 1, 3, 6, 2, 4, 5, 7] trivial hP hD (by decide +kernel) rfl hS rfl dX10_whyNoMeeting_143
                · refine lv_aload hx hb dX10_whyNoMeeting_97 (lv_at hl 1 rfl) ?_
                  refine lv_iload_n hx hb dX10_whyNoMeeting_99 rfl (lv_at hl 5 rfl) ?_
                  refine lv_iconst (v := 1) hx hb dX10_whyNoMeeting_100 (by decide +kernel) ?_
                  refine kJi (wr := [(k, .inr (10, [.ref k0, .ref k1, .ref k2, .ref k3, .ref k4, .ref k5, .ref k6, .ref k7, .ref k8, .ref k9, .ref ka, .ref kb, .int cc])), (k0, .inr (9, [.ref k00, .ref k01, .ref k02, .ref k03, .ref k04, .ref k05, .int c06, .int c07, .int c08])), (ka0, .inl (cI, 4, .inl ca0)), (ka, .inr (6, [.ref ka0, .ref ka1, .ref ka2])), (ka1, .inl (cI, 4, .inl ca1)), (ka2, .inl (cI, 144, .inl ca2))]) (va_runV (As := [.int a1, .int 1]) (rest := []) ⟨hx, hb, hml, hown, hT⟩ (c_X3_getG l D cI aK aV k05 k050 H.size c051 c050 a1 1) (cwV 2 hT (gV_in mw_726 mw_723 mw_724 mw_725 mw_4) rfl rfl rfl (by decide +kernel) ⟨Nat.le_of_ble_eq_true rfl, Nat.le_of_ble_eq_true rfl⟩) (kRecvX (q0 := 6) (ci := 3) hK hP hD hN hXS hS hA rfl rfl [6, 7] rfl (by decide +kernel)) rfl rfl hl.1 rfl (lv_room (Nat.le_of_ble_eq_true rfl)) dX10_whyNoMeeting_101 ⟨Nat.le_of_ble_eq_true rfl, Nat.le_of_ble_eq_true rfl⟩) hP hD hS hA [6, 7] [0, 1, 2, 3, 4, 5] rfl rfl (by decide +kernel) (by decide +kernel) ?_
                  clear hP hD hS
                  intro r_56 u_58 H locs w_57 hP hD hS
                  replace hP : va_P D vwCl [(k, .inr (10, [.ref k0, .ref k1, .ref k2, .ref k3, .ref k4, .ref k5, .ref k6, .ref k7, .ref k8, .ref k9, .ref ka, .ref kb, .int cc])), (k0, .inr (9, [.ref k00, .ref k01, .ref k02, .ref k03, .ref k04, .ref k05, .int c06, .int c07, .int c08])), (ka0, .inl (cI, 4, .inl ca0)), (ka, .inr (6, [.ref ka0, .ref ka1, .ref ka2])), (ka1, .inl (cI, 4, .inl ca1)), (ka2, .inl (cI, 144, .inl ca2)), (k05, .inr (3, [.ref k050, .int c051])), (k050, .inl (cI, 36, .inl c050))] H := hP
                  replace hD : va_D A [(k, .inr (10, [.ref k0, .ref k1, .ref k2, .ref k3, .ref k4, .ref k5, .ref k6, .ref k7, .ref k8, .ref k9, .ref ka, .ref kb, .int cc])), (k0, .inr (9, [.ref k00, .ref k01, .ref k02, .ref k03, .ref k04, .ref k05, .int c06, .int c07, .int c08])), (ka0, .inl (cI, 4, .inl ca0)), (ka, .inr (6, [.ref ka0, .ref ka1, .ref ka2])), (ka1, .inl (cI, 4, .inl ca1)), (ka2, .inl (cI, 144, .inl ca2)), (k05, .inr (3, [.ref k050, .int c051])), (k050, .inl (cI, 36, .inl c050))] := hD
                  have lo_r_56 := k_lo r_56
                  have hi_r_56 := k_hi r_56
                  refine lv_iconst (v := (-1)) hx hb dX10_whyNoMeeting_104 (by decide +kernel) ?_
                  refine b_icmp_ne hx hb rfl zl_m1 (tgt := 112) dX10_whyNoMeeting_105 (by decide +kernel) (fun c_59 => ?_) (fun c_59 => ?_)
                  · refine lv_iconst (v := 0) hx hb dX10_whyNoMeeting_112 (by decide +kernel) ?_
                    refine lv_istore (lv' := [(7, .int 0), (6, .int 0), (5, .ref k05), (4, .int r_13), (0, .ref k), (1, .int a0), (2, .int a1), (3, .int a2)]) hx hb dX10_whyNoMeeting_113 hl (by decide +kernel) rfl ?_
                    clear hl
                    intro ls hl
                    refine lv_iload hx hb dX10_whyNoMeeting_115 (lv_at hl 1 rfl) ?_
                    refine b_if_ne hx hb zl_0 (tgt := 142) dX10_whyNoMeeting_117 (by decide +kernel) (fun c_60 => by exfalso; omega) (fun c_60 => ?_)
                    refine lv_iload hx hb dX10_whyNoMeeting_120 (lv_at hl 0 rfl) ?_
                    refine b_if_eq hx hb zl_0 (tgt := 142) dX10_whyNoMeeting_122 (by decide +kernel) (fun c_61 => ?_) (fun c_61 => by exfalso; omega)
                    refine lv_iconst (v := 3) hx hb dX10_whyNoMeeting_142 (by decide +kernel) ?_
                    exact hRet () [0, 1, 3, 6, 2, 4, 5, 7] trivial hP hD (by decide +kernel) rfl hS rfl dX10_whyNoMeeting_143
                  · refine lv_iconst (v := 1) hx hb dX10_whyNoMeeting_108 (by decide +kernel) ?_
                    refine lv_goto (tgt := 113) hx hb dX10_whyNoMeeting_109 (by decide +kernel) ?_
                    refine lv_istore (lv' := [(7, .int 1), (6, .int 0), (5, .ref k05), (4, .int r_13), (0, .ref k), (1, .int a0), (2, .int a1), (3, .int a2)]) hx hb dX10_whyNoMeeting_113 hl (by decide +kernel) rfl ?_
                    clear hl
                    intro ls hl
                    refine lv_iload hx hb dX10_whyNoMeeting_115 (lv_at hl 1 rfl) ?_
                    refine b_if_ne hx hb zl_0 (tgt := 142) dX10_whyNoMeeting_117 (by decide +kernel) (fun c_62 => by exfalso; omega) (fun c_62 => ?_)
                    refine lv_iload hx hb dX10_whyNoMeeting_120 (lv_at hl 0 rfl) ?_
                    refine b_if_eq hx hb zl_1 (tgt := 142) dX10_whyNoMeeting_122 (by decide +kernel) (fun c_63 => by exfalso; omega) (fun c_63 => ?_)
                    refine lv_aload hx hb dX10_whyNoMeeting_125 (lv_at hl 2 rfl) ?_
                    refine lv_iload_n hx hb dX10_whyNoMeeting_127 rfl (lv_at hl 5 rfl) ?_
                    refine lv_iconst (v := 0) hx hb dX10_whyNoMeeting_128 (by decide +kernel) ?_
                    refine kJi (wr := [(k, .inr (10, [.ref k0, .ref k1, .ref k2, .ref k3, .ref k4, .ref k5, .ref k6, .ref k7, .ref k8, .ref k9, .ref ka, .ref kb, .int cc])), (k0, .inr (9, [.ref k00, .ref k01, .ref k02, .ref k03, .ref k04, .ref k05, .int c06, .int c07, .int c08])), (ka0, .inl (cI, 4, .inl ca0)), (ka, .inr (6, [.ref ka0, .ref ka1, .ref ka2])), (ka1, .inl (cI, 4, .inl ca1)), (ka2, .inl (cI, 144, .inl ca2))]) (va_runV (As := [.int a0, .int 0]) (rest := []) ⟨hx, hb, hml, hown, hT⟩ (c_X3_getG l D cI aK aV k05 k050 H.size c051 c050 a0 0) (cwV 2 hT (gV_in mw_726 mw_723 mw_724 mw_725 mw_4) rfl rfl rfl (by decide +kernel) ⟨Nat.le_of_ble_eq_true rfl, Nat.le_of_ble_eq_true rfl⟩) (kRecvX (q0 := 6) (ci := 3) hK hP hD hN hXS hS hA rfl rfl [6, 7] rfl (by decide +kernel)) rfl rfl hl.1 rfl (lv_room (Nat.le_of_ble_eq_true rfl)) dX10_whyNoMeeting_129 ⟨Nat.le_of_ble_eq_true rfl, Nat.le_of_ble_eq_true rfl⟩) hP hD hS hA [6, 7] [0, 1, 2, 3, 4, 5] rfl rfl (by decide +kernel) (by decide +kernel) ?_
                    clear hP hD hS
                    intro r_64 u_66 H locs w_65 hP hD hS
                    replace hP : va_P D vwCl [(k, .inr (10, [.ref k0, .ref k1, .ref k2, .ref k3, .ref k4, .ref k5, .ref k6, .ref k7, .ref k8, .ref k9, .ref ka, .ref kb, .int cc])), (k0, .inr (9, [.ref k00, .ref k01, .ref k02, .ref k03, .ref k04, .ref k05, .int c06, .int c07, .int c08])), (ka0, .inl (cI, 4, .inl ca0)), (ka, .inr (6, [.ref ka0, .ref ka1, .ref ka2])), (ka1, .inl (cI, 4, .inl ca1)), (ka2, .inl (cI, 144, .inl ca2)), (k05, .inr (3, [.ref k050, .int c051])), (k050, .inl (cI, 36, .inl c050))] H := hP
                    replace hD : va_D A [(k, .inr (10, [.ref k0, .ref k1, .ref k2, .ref k3, .ref k4, .ref k5, .ref k6, .ref k7, .ref k8, .ref k9, .ref ka, .ref kb, .int cc])), (k0, .inr (9, [.ref k00, .ref k01, .ref k02, .ref k03, .ref k04, .ref k05, .int c06, .int c07, .int c08])), (ka0, .inl (cI, 4, .inl ca0)), (ka, .inr (6, [.ref ka0, .ref ka1, .ref ka2])), (ka1, .inl (cI, 4, .inl ca1)), (ka2, .inl (cI, 144, .inl ca2)), (k05, .inr (3, [.ref k050, .int c051])), (k050, .inl (cI, 36, .inl c050))] := hD
                    have lo_r_64 := k_lo r_64
                    have hi_r_64 := k_hi r_64
                    refine lv_aload hx hb dX10_whyNoMeeting_132 (lv_at hl 2 rfl) ?_
                    refine lv_iload_n hx hb dX10_whyNoMeeting_134 rfl (lv_at hl 6 rfl) ?_
                    refine lv_iconst (v := 0) hx hb dX10_whyNoMeeting_135 (by decide +kernel) ?_
                    refine kJi (wr := [(k, .inr (10, [.ref k0, .ref k1, .ref k2, .ref k3, .ref k4, .ref k5, .ref k6, .ref k7, .ref k8, .ref k9, .ref ka, .ref kb, .int cc])), (k0, .inr (9, [.ref k00, .ref k01, .ref k02, .ref k03, .ref k04, .ref k05, .int c06, .int c07, .int c08])), (ka0, .inl (cI, 4, .inl ca0)), (ka, .inr (6, [.ref ka0, .ref ka1, .ref ka2])), (ka1, .inl (cI, 4, .inl ca1)), (ka2, .inl (cI, 144, .inl ca2))]) (va_runV (As := [.int a1, .int 0]) (rest := [.int r_64]) ⟨hx, hb, hml, hown, hT⟩ (c_X3_getG l D cI aK aV k05 k050 H.size c051 c050 a1 0) (cwV 2 hT (gV_in mw_726 mw_723 mw_724 mw_725 mw_4) rfl rfl rfl (by decide +kernel) ⟨Nat.le_of_ble_eq_true rfl, Nat.le_of_ble_eq_true rfl⟩) (kRecvX (q0 := 6) (ci := 3) hK hP hD hN hXS hS hA rfl rfl [6, 7] rfl (by decide +kernel)) rfl rfl hl.1 rfl (lv_room (Nat.le_of_ble_eq_true rfl)) dX10_whyNoMeeting_136 ⟨Nat.le_of_ble_eq_true rfl, Nat.le_of_ble_eq_true rfl⟩) hP hD hS hA [6, 7] [0, 1, 2, 3, 4, 5] rfl rfl (by decide +kernel) (by decide +kernel) ?_
                    clear hP hD hS
                    intro r_67 u_69 H locs w_68 hP hD hS
                    replace hP : va_P D vwCl [(k, .inr (10, [.ref k0, .ref k1, .ref k2, .ref k3, .ref k4, .ref k5, .ref k6, .ref k7, .ref k8, .ref k9, .ref ka, .ref kb, .int cc])), (k0, .inr (9, [.ref k00, .ref k01, .ref k02, .ref k03, .ref k04, .ref k05, .int c06, .int c07, .int c08])), (ka0, .inl (cI, 4, .inl ca0)), (ka, .inr (6, [.ref ka0, .ref ka1, .ref ka2])), (ka1, .inl (cI, 4, .inl ca1)), (ka2, .inl (cI, 144, .inl ca2)), (k05, .inr (3, [.ref k050, .int c051])), (k050, .inl (cI, 36, .inl c050))] H := hP
                    replace hD : va_D A [(k, .inr (10, [.ref k0, .ref k1, .ref k2, .ref k3, .ref k4, .ref k5, .ref k6, .ref k7, .ref k8, .ref k9, .ref ka, .ref kb, .int cc])), (k0, .inr (9, [.ref k00, .ref k01, .ref k02, .ref k03, .ref k04, .ref k05, .int c06, .int c07, .int c08])), (ka0, .inl (cI, 4, .inl ca0)), (ka, .inr (6, [.ref ka0, .ref ka1, .ref ka2])), (ka1, .inl (cI, 4, .inl ca1)), (ka2, .inl (cI, 144, .inl ca2)), (k05, .inr (3, [.ref k050, .int c051])), (k050, .inl (cI, 36, .inl c050))] := hD
                    have lo_r_67 := k_lo r_67
                    have hi_r_67 := k_hi r_67
                    refine b_icmp_lt hx hb rfl rfl (tgt := 144) dX10_whyNoMeeting_139 (by decide +kernel) (fun c_70 => ?_) (fun c_70 => ?_)
                    · refine lv_iconst (v := 0) hx hb dX10_whyNoMeeting_144 (by decide +kernel) ?_
                      exact hRet () [0, 1, 3, 6, 2, 4, 5, 7] trivial hP hD (by decide +kernel) rfl hS rfl dX10_whyNoMeeting_145
                    · refine lv_iconst (v := 3) hx hb dX10_whyNoMeeting_142 (by decide +kernel) ?_
                      exact hRet () [0, 1, 3, 6, 2, 4, 5, 7] trivial hP hD (by decide +kernel) rfl hS rfl dX10_whyNoMeeting_143
              · refine lv_iconst (v := 1) hx hb dX10_whyNoMeeting_79 (by decide +kernel) ?_
                refine lv_goto (tgt := 84) hx hb dX10_whyNoMeeting_80 (by decide +kernel) ?_
                refine lv_istore (lv' := [(6, .int 1), (5, .ref k05), (4, .int r_13), (0, .ref k), (1, .int a0), (2, .int a1), (3, .int a2)]) hx hb dX10_whyNoMeeting_84 hl (by decide +kernel) rfl ?_
                clear hl
                intro ls hl
                refine lv_aload hx hb dX10_whyNoMeeting_86 (lv_at hl 1 rfl) ?_
                refine lv_iload_n hx hb dX10_whyNoMeeting_88 rfl (lv_at hl 4 rfl) ?_
                refine lv_iconst (v := 1) hx hb dX10_whyNoMeeting_89 (by decide +kernel) ?_
                refine kJi (wr := [(k, .inr (10, [.ref k0, .ref k1, .ref k2, .ref k3, .ref k4, .ref k5, .ref k6, .ref k7, .ref k8, .ref k9, .ref ka, .ref kb, .int cc])), (k0, .inr (9, [.ref k00, .ref k01, .ref k02, .ref k03, .ref k04, .ref k05, .int c06, .int c07, .int c08])), (ka0, .inl (cI, 4, .inl ca0)), (ka, .inr (6, [.ref ka0, .ref ka1, .ref ka2])), (ka1, .inl (cI, 4, .inl ca1)), (ka2, .inl (cI, 144, .inl ca2))]) (va_runV (As := [.int a0, .int 1]) (rest := []) ⟨hx, hb, hml, hown, hT⟩ (c_X3_getG l D cI aK aV k05 k050 H.size c051 c050 a0 1) (cwV 2 hT (gV_in mw_726 mw_723 mw_724 mw_725 mw_4) rfl rfl rfl (by decide +kernel) ⟨Nat.le_of_ble_eq_true rfl, Nat.le_of_ble_eq_true rfl⟩) (kRecvX (q0 := 6) (ci := 3) hK hP hD hN hXS hS hA rfl rfl [6, 7] rfl (by decide +kernel)) rfl rfl hl.1 rfl (lv_room (Nat.le_of_ble_eq_true rfl)) dX10_whyNoMeeting_90 ⟨Nat.le_of_ble_eq_true rfl, Nat.le_of_ble_eq_true rfl⟩) hP hD hS hA [6, 7] [0, 1, 2, 3, 4, 5] rfl rfl (by decide +kernel) (by decide +kernel) ?_
                clear hP hD hS
                intro r_71 u_73 H locs w_72 hP hD hS
                replace hP : va_P D vwCl [(k, .inr (10, [.ref k0, .ref k1, .ref k2, .ref k3, .ref k4, .ref k5, .ref k6, .ref k7, .ref k8, .ref k9, .ref ka, .ref kb, .int cc])), (k0, .inr (9, [.ref k00, .ref k01, .ref k02, .ref k03, .ref k04, .ref k05, .int c06, .int c07, .int c08])), (ka0, .inl (cI, 4, .inl ca0)), (ka, .inr (6, [.ref ka0, .ref ka1, .ref ka2])), (ka1, .inl (cI, 4, .inl ca1)), (ka2, .inl (cI, 144, .inl ca2)), (k05, .inr (3, [.ref k050, .int c051])), (k050, .inl (cI, 36, .inl c050))] H := hP
                replace hD : va_D A [(k, .inr (10, [.ref k0, .ref k1, .ref k2, .ref k3, .ref k4, .ref k5, .ref k6, .ref k7, .ref k8, .ref k9, .ref ka, .ref kb, .int cc])), (k0, .inr (9, [.ref k00, .ref k01, .ref k02, .ref k03, .ref k04, .ref k05, .int c06, .int c07, .int c08])), (ka0, .inl (cI, 4, .inl ca0)), (ka, .inr (6, [.ref ka0, .ref ka1, .ref ka2])), (ka1, .inl (cI, 4, .inl ca1)), (ka2, .inl (cI, 144, .inl ca2)), (k05, .inr (3, [.ref k050, .int c051])), (k050, .inl (cI, 36, .inl c050))] := hD
                have lo_r_71 := k_lo r_71
                have hi_r_71 := k_hi r_71
                refine lv_iconst (v := 1) hx hb dX10_whyNoMeeting_93 (by decide +kernel) ?_
                refine b_icmp_ne hx hb rfl zl_1 (tgt := 112) dX10_whyNoMeeting_94 (by decide +kernel) (fun c_74 => ?_) (fun c_74 => ?_)
                · refine lv_iconst (v := 0) hx hb dX10_whyNoMeeting_112 (by decide +kernel) ?_
                  refine lv_istore (lv' := [(7, .int 0), (6, .int 1), (5, .ref k05), (4, .int r_13), (0, .ref k), (1, .int a0), (2, .int a1), (3, .int a2)]) hx hb dX10_whyNoMeeting_113 hl (by decide +kernel) rfl ?_
                  clear hl
                  intro ls hl
                  refine lv_iload hx hb dX10_whyNoMeeting_115 (lv_at hl 1 rfl) ?_
                  refine b_if_ne hx hb zl_1 (tgt := 142) dX10_whyNoMeeting_117 (by decide +kernel) (fun c_75 => ?_) (fun c_75 => by exfalso; omega)
                  refine lv_iconst (v := 3) hx hb dX10_whyNoMeeting_142 (by decide +kernel) ?_
                  exact hRet () [0, 1, 3, 6, 2, 4, 5, 7] trivial hP hD (by decide +kernel) rfl hS rfl dX10_whyNoMeeting_143
                · refine lv_aload hx hb dX10_whyNoMeeting_97 (lv_at hl 1 rfl) ?_
                  refine lv_iload_n hx hb dX10_whyNoMeeting_99 rfl (lv_at hl 5 rfl) ?_
                  refine lv_iconst (v := 1) hx hb dX10_whyNoMeeting_100 (by decide +kernel) ?_
                  refine kJi (wr := [(k, .inr (10, [.ref k0, .ref k1, .ref k2, .ref k3, .ref k4, .ref k5, .ref k6, .ref k7, .ref k8, .ref k9, .ref ka, .ref kb, .int cc])), (k0, .inr (9, [.ref k00, .ref k01, .ref k02, .ref k03, .ref k04, .ref k05, .int c06, .int c07, .int c08])), (ka0, .inl (cI, 4, .inl ca0)), (ka, .inr (6, [.ref ka0, .ref ka1, .ref ka2])), (ka1, .inl (cI, 4, .inl ca1)), (ka2, .inl (cI, 144, .inl ca2))]) (va_runV (As := [.int a1, .int 1]) (rest := []) ⟨hx, hb, hml, hown, hT⟩ (c_X3_getG l D cI aK aV k05 k050 H.size c051 c050 a1 1) (cwV 2 hT (gV_in mw_726 mw_723 mw_724 mw_725 mw_4) rfl rfl rfl (by decide +kernel) ⟨Nat.le_of_ble_eq_true rfl, Nat.le_of_ble_eq_true rfl⟩) (kRecvX (q0 := 6) (ci := 3) hK hP hD hN hXS hS hA rfl rfl [6, 7] rfl (by decide +kernel)) rfl rfl hl.1 rfl (lv_room (Nat.le_of_ble_eq_true rfl)) dX10_whyNoMeeting_101 ⟨Nat.le_of_ble_eq_true rfl, Nat.le_of_ble_eq_true rfl⟩) hP hD hS hA [6, 7] [0, 1, 2, 3, 4, 5] rfl rfl (by decide +kernel) (by decide +kernel) ?_
                  clear hP hD hS
                  intro r_76 u_78 H locs w_77 hP hD hS
                  replace hP : va_P D vwCl [(k, .inr (10, [.ref k0, .ref k1, .ref k2, .ref k3, .ref k4, .ref k5, .ref k6, .ref k7, .ref k8, .ref k9, .ref ka, .ref kb, .int cc])), (k0, .inr (9, [.ref k00, .ref k01, .ref k02, .ref k03, .ref k04, .ref k05, .int c06, .int c07, .int c08])), (ka0, .inl (cI, 4, .inl ca0)), (ka, .inr (6, [.ref ka0, .ref ka1, .ref ka2])), (ka1, .inl (cI, 4, .inl ca1)), (ka2, .inl (cI, 144, .inl ca2)), (k05, .inr (3, [.ref k050, .int c051])), (k050, .inl (cI, 36, .inl c050))] H := hP
                  replace hD : va_D A [(k, .inr (10, [.ref k0, .ref k1, .ref k2, .ref k3, .ref k4, .ref k5, .ref k6, .ref k7, .ref k8, .ref k9, .ref ka, .ref kb, .int cc])), (k0, .inr (9, [.ref k00, .ref k01, .ref k02, .ref k03, .ref k04, .ref k05, .int c06, .int c07, .int c08])), (ka0, .inl (cI, 4, .inl ca0)), (ka, .inr (6, [.ref ka0, .ref ka1, .ref ka2])), (ka1, .inl (cI, 4, .inl ca1)), (ka2, .inl (cI, 144, .inl ca2)), (k05, .inr (3, [.ref k050, .int c051])), (k050, .inl (cI, 36, .inl c050))] := hD
                  have lo_r_76 := k_lo r_76
                  have hi_r_76 := k_hi r_76
                  refine lv_iconst (v := (-1)) hx hb dX10_whyNoMeeting_104 (by decide +kernel) ?_
                  refine b_icmp_ne hx hb rfl zl_m1 (tgt := 112) dX10_whyNoMeeting_105 (by decide +kernel) (fun c_79 => ?_) (fun c_79 => ?_)
                  · refine lv_iconst (v := 0) hx hb dX10_whyNoMeeting_112 (by decide +kernel) ?_
                    refine lv_istore (lv' := [(7, .int 0), (6, .int 1), (5, .ref k05), (4, .int r_13), (0, .ref k), (1, .int a0), (2, .int a1), (3, .int a2)]) hx hb dX10_whyNoMeeting_113 hl (by decide +kernel) rfl ?_
                    clear hl
                    intro ls hl
                    refine lv_iload hx hb dX10_whyNoMeeting_115 (lv_at hl 1 rfl) ?_
                    refine b_if_ne hx hb zl_1 (tgt := 142) dX10_whyNoMeeting_117 (by decide +kernel) (fun c_80 => ?_) (fun c_80 => by exfalso; omega)
                    refine lv_iconst (v := 3) hx hb dX10_whyNoMeeting_142 (by decide +kernel) ?_
                    exact hRet () [0, 1, 3, 6, 2, 4, 5, 7] trivial hP hD (by decide +kernel) rfl hS rfl dX10_whyNoMeeting_143
                  · refine lv_iconst (v := 1) hx hb dX10_whyNoMeeting_108 (by decide +kernel) ?_
                    refine lv_goto (tgt := 113) hx hb dX10_whyNoMeeting_109 (by decide +kernel) ?_
                    refine lv_istore (lv' := [(7, .int 1), (6, .int 1), (5, .ref k05), (4, .int r_13), (0, .ref k), (1, .int a0), (2, .int a1), (3, .int a2)]) hx hb dX10_whyNoMeeting_113 hl (by decide +kernel) rfl ?_
                    clear hl
                    intro ls hl
                    refine lv_iload hx hb dX10_whyNoMeeting_115 (lv_at hl 1 rfl) ?_
                    refine b_if_ne hx hb zl_1 (tgt := 142) dX10_whyNoMeeting_117 (by decide +kernel) (fun c_81 => ?_) (fun c_81 => by exfalso; omega)
                    refine lv_iconst (v := 3) hx hb dX10_whyNoMeeting_142 (by decide +kernel) ?_
                    exact hRet () [0, 1, 3, 6, 2, 4, 5, 7] trivial hP hD (by decide +kernel) rfl hS rfl dX10_whyNoMeeting_143
          · try simp only [zl_0, zl_9] at h_29
            have h_29 : allB (shv ca2 a2) 0 9 (ca1 a2.toNatClampNeg).toInt.toNat = false := h_29
            have h_29 : allB (shv ca2 a2) 0 9 (ca1 a2.toNatClampNeg).toInt.toNat = false := h_29
            obtain rfl : r_25 = 0 := hr_25.trans (by decide +kernel)
            refine b_if_ne hx hb zl_0 (tgt := 52) dX10_whyNoMeeting_47 (by decide +kernel) (fun c_82 => by exfalso; omega) (fun c_82 => ?_)
            refine lv_iconst (v := 5) hx hb dX10_whyNoMeeting_50 (by decide +kernel) ?_
            exact hRet () [0, 1, 5, 2, 4, 6, 7, 3] trivial hP hD (by decide +kernel) rfl hS rfl dX10_whyNoMeeting_51
    · exfalso; omega
  · exfalso; omega
theorem bn_cX10_meeting_0 : BN cX10_meeting 0 0xad260096e070b0e402b51583402a80385812014d8142c071b92404b7688056e040eb0802b5068056a2b688056e040e30802b5068056a2b1c8056a2b228096e1d0e0788e015a8ac1a015a8ac72015a8ad5a5300adc0c161582c029a030580c37208096e1e0e87056ad298056e051582802a5028142c0a00a700a160780534ae00ae43c1600a687c025b874382b := by
  unfold BN; decide +kernel
theorem dX10_meeting_0 : decode cX10_meeting 0 = .ok (.aload_n 0, 1) := dR0 (k := 0) (i := 0) bn_cX10_meeting_0 dop_42 (by decide +kernel)
theorem dX10_meeting_1 : decode cX10_meeting 1 = .ok (.iload_n 1, 1) := dR0 (k := 0) (i := 1) bn_cX10_meeting_0 dop_27 (by decide +kernel)
theorem dX10_meeting_2 : decode cX10_meeting 2 = .ok (.iload_n 2, 1) := dR0 (k := 0) (i := 2) bn_cX10_meeting_0 dop_28 (by decide +kernel)
theorem dX10_meeting_3 : decode cX10_meeting 3 = .ok (.invokevirtual 317, 3) := dR2 (f := Instr.invokevirtual) (k := 0) (i := 3) bn_cX10_meeting_0 dop_182 317 (by decide +kernel)
theorem dX10_meeting_6 : decode cX10_meeting 6 = .ok (.ifCond .eq 21, 3) := dR2s (f := Instr.ifCond .eq) (k := 0) (i := 6) bn_cX10_meeting_0 dop_153 21 21 (by decide +kernel)
theorem dX10_meeting_9 : decode cX10_meeting 9 = .ok (.iload_n 3, 1) := dR0 (k := 0) (i := 9) bn_cX10_meeting_0 dop_29 (by decide +kernel)
theorem dX10_meeting_10 : decode cX10_meeting 10 = .ok (.invokestatic 173, 3) := dR2 (f := Instr.invokestatic) (k := 0) (i := 10) bn_cX10_meeting_0 dop_184 173 (by decide +kernel)
theorem dX10_meeting_13 : decode cX10_meeting 13 = .ok (.ifCond .eq 14, 3) := dR2s (f := Instr.ifCond .eq) (k := 0) (i := 13) bn_cX10_meeting_0 dop_153 14 14 (by decide +kernel)
theorem dX10_meeting_16 : decode cX10_meeting 16 = .ok (.iload 4, 2) := dR1 (f := Instr.iload) (k := 0) (i := 16) bn_cX10_meeting_0 dop_21 4 (by decide +kernel)
theorem dX10_meeting_18 : decode cX10_meeting 18 = .ok (.ifCond .lt 9, 3) := dR2s (f := Instr.ifCond .lt) (k := 0) (i := 18) bn_cX10_meeting_0 dop_155 9 9 (by decide +kernel)
theorem dX10_meeting_21 : decode cX10_meeting 21 = .ok (.iload 4, 2) := dR1 (f := Instr.iload) (k := 0) (i := 21) bn_cX10_meeting_0 dop_21 4 (by decide +kernel)
theorem dX10_meeting_23 : decode cX10_meeting 23 = .ok (.iconst 1, 1) := dR0 (k := 0) (i := 23) bn_cX10_meeting_0 dop_4 (by decide +kernel)
theorem dX10_meeting_24 : decode cX10_meeting 24 = .ok (.if_icmp .le 9, 3) := dR2s (f := Instr.if_icmp .le) (k := 0) (i := 24) bn_cX10_meeting_0 dop_164 9 9 (by decide +kernel)
theorem dX10_meeting_27 : decode cX10_meeting 27 = .ok (.aload_n 0, 1) := dR0 (k := 0) (i := 27) bn_cX10_meeting_0 dop_42 (by decide +kernel)
theorem dX10_meeting_28 : decode cX10_meeting 28 = .ok (.iconst 1, 1) := dR0 (k := 0) (i := 28) bn_cX10_meeting_0 dop_4 (by decide +kernel)
theorem dX10_meeting_29 : decode cX10_meeting 29 = .ok (.invokevirtual 82, 3) := dR2 (f := Instr.invokevirtual) (k := 0) (i := 29) bn_cX10_meeting_0 dop_182 82 (by decide +kernel)
theorem dX10_meeting_32 : decode cX10_meeting 32 = .ok (.ireturn, 1) := dR0 (k := 0) (i := 32) bn_cX10_meeting_0 dop_172 (by decide +kernel)
theorem dX10_meeting_33 : decode cX10_meeting 33 = .ok (.aload_n 0, 1) := dR0 (k := 0) (i := 33) bn_cX10_meeting_0 dop_42 (by decide +kernel)
theorem dX10_meeting_34 : decode cX10_meeting 34 = .ok (.iload_n 1, 1) := dR0 (k := 0) (i := 34) bn_cX10_meeting_0 dop_27 (by decide +kernel)
theorem dX10_meeting_35 : decode cX10_meeting 35 = .ok (.iload_n 2, 1) := dR0 (k := 0) (i := 35) bn_cX10_meeting_0 dop_28 (by decide +kernel)
theorem dX10_meeting_36 : decode cX10_meeting 36 = .ok (.iload_n 3, 1) := dR0 (k := 0) (i := 36) bn_cX10_meeting_0 dop_29 (by decide +kernel)
theorem dX10_meeting_37 : decode cX10_meeting 37 = .ok (.invokevirtual 320, 3) := dR2 (f := Instr.invokevirtual) (k := 0) (i := 37) bn_cX10_meeting_0 dop_182 320 (by decide +kernel)
theorem dX10_meeting_40 : decode cX10_meeting 40 = .ok (.istore 5, 2) := dR1 (f := Instr.istore) (k := 0) (i := 40) bn_cX10_meeting_0 dop_54 5 (by decide +kernel)
theorem dX10_meeting_42 : decode cX10_meeting 42 = .ok (.iload 5, 2) := dR1 (f := Instr.iload) (k := 0) (i := 42) bn_cX10_meeting_0 dop_21 5 (by decide +kernel)
theorem dX10_meeting_44 : decode cX10_meeting 44 = .ok (.ifCond .eq 10, 3) := dR2s (f := Instr.ifCond .eq) (k := 0) (i := 44) bn_cX10_meeting_0 dop_153 10 10 (by decide +kernel)
theorem dX10_meeting_47 : decode cX10_meeting 47 = .ok (.aload_n 0, 1) := dR0 (k := 0) (i := 47) bn_cX10_meeting_0 dop_42 (by decide +kernel)
theorem dX10_meeting_48 : decode cX10_meeting 48 = .ok (.iload 5, 2) := dR1 (f := Instr.iload) (k := 0) (i := 48) bn_cX10_meeting_0 dop_21 5 (by decide +kernel)
theorem dX10_meeting_50 : decode cX10_meeting 50 = .ok (.invokevirtual 82, 3) := dR2 (f := Instr.invokevirtual) (k := 0) (i := 50) bn_cX10_meeting_0 dop_182 82 (by decide +kernel)
theorem dX10_meeting_53 : decode cX10_meeting 53 = .ok (.ireturn, 1) := dR0 (k := 0) (i := 53) bn_cX10_meeting_0 dop_172 (by decide +kernel)
theorem dX10_meeting_54 : decode cX10_meeting 54 = .ok (.aload_n 0, 1) := dR0 (k := 0) (i := 54) bn_cX10_meeting_0 dop_42 (by decide +kernel)
theorem dX10_meeting_55 : decode cX10_meeting 55 = .ok (.getfield 56, 3) := dR2 (f := Instr.getfield) (k := 0) (i := 55) bn_cX10_meeting_0 dop_180 56 (by decide +kernel)
theorem dX10_meeting_58 : decode cX10_meeting 58 = .ok (.aload_n 0, 1) := dR0 (k := 0) (i := 58) bn_cX10_meeting_0 dop_42 (by decide +kernel)
theorem dX10_meeting_59 : decode cX10_meeting 59 = .ok (.getfield 12, 3) := dR2 (f := Instr.getfield) (k := 0) (i := 59) bn_cX10_meeting_0 dop_180 12 (by decide +kernel)
theorem dX10_meeting_62 : decode cX10_meeting 62 = .ok (.aload_n 0, 1) := dR0 (k := 0) (i := 62) bn_cX10_meeting_0 dop_42 (by decide +kernel)
theorem dX10_meeting_63 : decode cX10_meeting 63 = .ok (.getfield 70, 3) := dR2 (f := Instr.getfield) (k := 0) (i := 63) bn_cX10_meeting_0 dop_180 70 (by decide +kernel)
theorem dX10_meeting_66 : decode cX10_meeting 66 = .ok (.iload_n 3, 1) := dR0 (k := 0) (i := 66) bn_cX10_meeting_0 dop_29 (by decide +kernel)
theorem dX10_meeting_67 : decode cX10_meeting 67 = .ok (.iload_n 1, 1) := dR0 (k := 0) (i := 67) bn_cX10_meeting_0 dop_27 (by decide +kernel)
theorem dX10_meeting_68 : decode cX10_meeting 68 = .ok (.iload_n 2, 1) := dR0 (k := 0) (i := 68) bn_cX10_meeting_0 dop_28 (by decide +kernel)
theorem dX10_meeting_69 : decode cX10_meeting 69 = .ok (.invokevirtual 324, 3) := dR2 (f := Instr.invokevirtual) (k := 0) (i := 69) bn_cX10_meeting_0 dop_182 324 (by decide +kernel)
theorem dX10_meeting_72 : decode cX10_meeting 72 = .ok (.aload_n 0, 1) := dR0 (k := 0) (i := 72) bn_cX10_meeting_0 dop_42 (by decide +kernel)
theorem dX10_meeting_73 : decode cX10_meeting 73 = .ok (.getfield 56, 3) := dR2 (f := Instr.getfield) (k := 0) (i := 73) bn_cX10_meeting_0 dop_180 56 (by decide +kernel)
theorem dX10_meeting_76 : decode cX10_meeting 76 = .ok (.aload_n 0, 1) := dR0 (k := 0) (i := 76) bn_cX10_meeting_0 dop_42 (by decide +kernel)
theorem dX10_meeting_77 : decode cX10_meeting 77 = .ok (.getfield 12, 3) := dR2 (f := Instr.getfield) (k := 0) (i := 77) bn_cX10_meeting_0 dop_180 12 (by decide +kernel)
theorem dX10_meeting_80 : decode cX10_meeting 80 = .ok (.getfield 193, 3) := dR2 (f := Instr.getfield) (k := 0) (i := 80) bn_cX10_meeting_0 dop_180 193 (by decide +kernel)
theorem dX10_meeting_83 : decode cX10_meeting 83 = .ok (.iload_n 1, 1) := dR0 (k := 0) (i := 83) bn_cX10_meeting_0 dop_27 (by decide +kernel)
theorem dX10_meeting_84 : decode cX10_meeting 84 = .ok (.iconst 0, 1) := dR0 (k := 0) (i := 84) bn_cX10_meeting_0 dop_3 (by decide +kernel)
theorem dX10_meeting_85 : decode cX10_meeting 85 = .ok (.invokevirtual 208, 3) := dR2 (f := Instr.invokevirtual) (k := 0) (i := 85) bn_cX10_meeting_0 dop_182 208 (by decide +kernel)
theorem dX10_meeting_88 : decode cX10_meeting 88 = .ok (.aload_n 0, 1) := dR0 (k := 0) (i := 88) bn_cX10_meeting_0 dop_42 (by decide +kernel)
theorem dX10_meeting_89 : decode cX10_meeting 89 = .ok (.getfield 12, 3) := dR2 (f := Instr.getfield) (k := 0) (i := 89) bn_cX10_meeting_0 dop_180 12 (by decide +kernel)
theorem dX10_meeting_92 : decode cX10_meeting 92 = .ok (.getfield 193, 3) := dR2 (f := Instr.getfield) (k := 0) (i := 92) bn_cX10_meeting_0 dop_180 193 (by decide +kernel)
theorem dX10_meeting_95 : decode cX10_meeting 95 = .ok (.iload_n 2, 1) := dR0 (k := 0) (i := 95) bn_cX10_meeting_0 dop_28 (by decide +kernel)
theorem dX10_meeting_96 : decode cX10_meeting 96 = .ok (.iconst 0, 1) := dR0 (k := 0) (i := 96) bn_cX10_meeting_0 dop_3 (by decide +kernel)
theorem dX10_meeting_97 : decode cX10_meeting 97 = .ok (.invokevirtual 208, 3) := dR2 (f := Instr.invokevirtual) (k := 0) (i := 97) bn_cX10_meeting_0 dop_182 208 (by decide +kernel)
theorem dX10_meeting_100 : decode cX10_meeting 100 = .ok (.invokevirtual 328, 3) := dR2 (f := Instr.invokevirtual) (k := 0) (i := 100) bn_cX10_meeting_0 dop_182 328 (by decide +kernel)
theorem dX10_meeting_103 : decode cX10_meeting 103 = .ok (.istore 6, 2) := dR1 (f := Instr.istore) (k := 0) (i := 103) bn_cX10_meeting_0 dop_54 6 (by decide +kernel)
theorem dX10_meeting_105 : decode cX10_meeting 105 = .ok (.iload 4, 2) := dR1 (f := Instr.iload) (k := 0) (i := 105) bn_cX10_meeting_0 dop_21 4 (by decide +kernel)
theorem dX10_meeting_107 : decode cX10_meeting 107 = .ok (.ifCond .ne 8, 3) := dR2s (f := Instr.ifCond .ne) (k := 0) (i := 107) bn_cX10_meeting_0 dop_154 8 8 (by decide +kernel)
theorem dX10_meeting_110 : decode cX10_meeting 110 = .ok (.iload 6, 2) := dR1 (f := Instr.iload) (k := 0) (i := 110) bn_cX10_meeting_0 dop_21 6 (by decide +kernel)
theorem dX10_meeting_112 : decode cX10_meeting 112 = .ok (.goto 12, 3) := dR2s (f := Instr.goto) (k := 0) (i := 112) bn_cX10_meeting_0 dop_167 12 12 (by decide +kernel)
theorem dX10_meeting_115 : decode cX10_meeting 115 = .ok (.aload_n 0, 1) := dR0 (k := 0) (i := 115) bn_cX10_meeting_0 dop_42 (by decide +kernel)
theorem dX10_meeting_116 : decode cX10_meeting 116 = .ok (.getfield 56, 3) := dR2 (f := Instr.getfield) (k := 0) (i := 116) bn_cX10_meeting_0 dop_180 56 (by decide +kernel)
theorem dX10_meeting_119 : decode cX10_meeting 119 = .ok (.iload 6, 2) := dR1 (f := Instr.iload) (k := 0) (i := 119) bn_cX10_meeting_0 dop_21 6 (by decide +kernel)
theorem dX10_meeting_121 : decode cX10_meeting 121 = .ok (.invokevirtual 331, 3) := dR2 (f := Instr.invokevirtual) (k := 0) (i := 121) bn_cX10_meeting_0 dop_182 331 (by decide +kernel)
theorem dX10_meeting_124 : decode cX10_meeting 124 = .ok (.ireturn, 1) := dR0 (k := 0) (i := 124) bn_cX10_meeting_0 dop_172 (by decide +kernel)
set_option maxHeartbeats 4000000 in
set_option maxRecDepth 100000 in
theorem c_X10_meetingG (l : Launch) (D : va_G) (cI : ClassId) (aK aV : Nat → Nat) (k k0 k1 k2 k3 k4 k5 k6 k7 k8 k9 ka kb k00 k01 k02 k03 k04 k05 k80 k81 ka0 ka1 ka2 k050 : Nat) (sz : Nat) (cc : Int32) (c06 : Int32) (c07 : Int32) (c08 : Int32) (cb : Nat → Int32) (c01 : Nat → Int32) (c051 : Int32) (c80 : Nat → Int32) (c81 : Nat → Int32) (ca0 : Nat → Int32) (ca1 : Nat → Int32) (ca2 : Nat → Int32) (c050 : Nat → Int32) (a0 : Int32) (a1 : Int32) (a2 : Int32) (a3 : Int32) (pre0 : ∀ k : Nat, k < 4 → 0 ≤ (ca1 k).toInt ∧ (ca1 k).toInt ≤ 36) : Met l yX10_meeting (gW yX10_meeting cX10_meeting 7 (some .int)) ({ frames := 6, cells := 0, slots := 0, locals := 143 } : Room) (kPreX D cI aK aV [.ref k, .int a0, .int a1, .int a2, .int a3] [(k, .inr (10, [.ref k0, .ref k1, .ref k2, .ref k3, .ref k4, .ref k5, .ref k6, .ref k7, .ref k8, .ref k9, .ref ka, .ref kb, .int cc])), (k0, .inr (9, [.ref k00, .ref k01, .ref k02, .ref k03, .ref k04, .ref k05, .int c06, .int c07, .int c08])), (k8, .inr (2, [.ref k80, .ref k81])), (ka, .inr (6, [.ref ka0, .ref ka1, .ref ka2])), (kb, .inl (cI, 6, .inl cb)), (k01, .inl (cI, 40, .inl c01)), (k05, .inr (3, [.ref k050, .int c051])), (k80, .inl (cI, 40, .inl c80)), (k81, .inl (cI, 40, .inl c81)), (ka0, .inl (cI, 4, .inl ca0)), (ka1, .inl (cI, 4, .inl ca1)), (ka2, .inl (cI, 144, .inl ca2)), (k050, .inl (cI, 36, .inl c050))] sz) (va_Qi (fun (r : Int32) (u : (Nat → Int32) × (Nat → Int32) × (Nat → Int32)) => True) (fun u t => kWd D cI (va_A [(k, .inr (10, [.ref k0, .ref k1, .ref k2, .ref k3, .ref k4, .ref k5, .ref k6, .ref k7, .ref k8, .ref k9, .ref ka, .ref kb, .int cc])), (k0, .inr (9, [.ref k00, .ref k01, .ref k02, .ref k03, .ref k04, .ref k05, .int c06, .int c07, .int c08])), (k8, .inr (2, [.ref k80, .ref k81])), (ka, .inr (6, [.ref ka0, .ref ka1, .ref ka2])), (kb, .inl (cI, 6, .inl cb)), (k01, .inl (cI, 40, .inl c01)), (k05, .inr (3, [.ref k050, .int c051])), (k80, .inl (cI, 40, .inl c80)), (k81, .inl (cI, 40, .inl c81)), (ka0, .inl (cI, 4, .inl ca0)), (ka1, .inl (cI, 4, .inl ca1)), (ka2, .inl (cI, 144, .inl ca2)), (k050, .inl (cI, 36, .inl c050))] sz) [(k, .inr (10, [.ref k0, .ref k1, .ref k2, .ref k3, .ref k4, .ref k5, .ref k6, .ref k7, .ref k8, .ref k9, .ref ka, .ref kb, .int cc])), (k0, .inr (9, [.ref k00, .ref k01, .ref k02, .ref k03, .ref k04, .ref k05, .int c06, .int c07, .int c08])), (k8, .inr (2, [.ref k80, .ref k81])), (ka, .inr (6, [.ref ka0, .ref ka1, .ref ka2])), (kb, .inl (cI, 6, .inl u.1)), (k01, .inl (cI, 40, .inl c01)), (k05, .inr (3, [.ref k050, .int c051])), (k80, .inl (cI, 40, .inl u.2.1)), (k81, .inl (cI, 40, .inl u.2.2)), (ka0, .inl (cI, 4, .inl ca0)), (ka1, .inl (cI, 4, .inl ca1)), (ka2, .inl (cI, 144, .inl ca2)), (k050, .inl (cI, 36, .inl c050))] t) (va_A [(k, .inr (10, [.ref k0, .ref k1, .ref k2, .ref k3, .ref k4, .ref k5, .ref k6, .ref k7, .ref k8, .ref k9, .ref ka, .ref kb, .int cc])), (k0, .inr (9, [.ref k00, .ref k01, .ref k02, .ref k03, .ref k04, .ref k05, .int c06, .int c07, .int c08])), (k8, .inr (2, [.ref k80, .ref k81])), (ka, .inr (6, [.ref ka0, .ref ka1, .ref ka2])), (kb, .inl (cI, 6, .inl cb)), (k01, .inl (cI, 40, .inl c01)), (k05, .inr (3, [.ref k050, .int c051])), (k80, .inl (cI, 40, .inl c80)), (k81, .inl (cI, 40, .inl c81)), (ka0, .inl (cI, 4, .inl ca0)), (ka1, .inl (cI, 4, .inl ca1)), (ka2, .inl (cI, 144, .inl ca2)), (k050, .inl (cI, 36, .inl c050))] sz)) 0 0 (va_A [(k, .inr (10, [.ref k0, .ref k1, .ref k2, .ref k3, .ref k4, .ref k5, .ref k6, .ref k7, .ref k8, .ref k9, .ref ka, .ref kb, .int cc])), (k0, .inr (9, [.ref k00, .ref k01, .ref k02, .ref k03, .ref k04, .ref k05, .int c06, .int c07, .int c08])), (k8, .inr (2, [.ref k80, .ref k81])), (ka, .inr (6, [.ref ka0, .ref ka1, .ref ka2])), (kb, .inl (cI, 6, .inl cb)), (k01, .inl (cI, 40, .inl c01)), (k05, .inr (3, [.ref k050, .int c051])), (k80, .inl (cI, 40, .inl c80)), (k81, .inl (cI, 40, .inl c81)), (ka0, .inl (cI, 4, .inl ca0)), (ka1, .inl (cI, 4, .inl ca1)), (ka2, .inl (cI, 144, .inl ca2)), (k050, .inl (cI, 36, .inl c050))] sz) := by
  refine kMetIX (own := RX10) (by decide +kernel) rfl (Nat.le_of_ble_eq_true rfl) ?_
  intro p e s m args below meth c hx hb hT hown hname hml A Q hK hP hD hS hA hN hXS hRet ls hl
  have hl : lv_has ls 7 [(0, .ref k), (1, .int a0), (2, .int a1), (3, .int a2), (4, .int a3)] := hl
  have lo_a0 := k_lo a0
  have hi_a0 := k_hi a0
  have lo_a1 := k_lo a1
  have hi_a1 := k_hi a1
  have lo_a2 := k_lo a2
  have hi_a2 := k_hi a2
  have lo_a3 := k_lo a3
  have hi_a3 := k_hi a3
  refine lv_aload_n hx hb dX10_meeting_0 rfl (lv_at hl 0 rfl) ?_
  refine lv_iload_n hx hb dX10_meeting_1 rfl (lv_at hl 1 rfl) ?_
  refine lv_iload_n hx hb dX10_meeting_2 rfl (lv_at hl 2 rfl) ?_
  refine kJi (wr := [(k8, .inr (2, [.ref k80, .ref k81])), (ka, .inr (6, [.ref ka0, .ref ka1, .ref ka2])), (kb, .inl (cI, 6, .inl cb)), (k01, .inl (cI, 40, .inl c01)), (k80, .inl (cI, 40, .inl c80)), (k81, .inl (cI, 40, .inl c81)), (ka0, .inl (cI, 4, .inl ca0)), (ka1, .inl (cI, 4, .inl ca1)), (ka2, .inl (cI, 144, .inl ca2)), (k050, .inl (cI, 36, .inl c050))]) (va_runV (As := [.int a0, .int a1]) (rest := []) ⟨hx, hb, hml, hown, hT⟩ (c_X10_arePartiesG l D cI aK aV k k0 k1 k2 k3 k4 k5 k6 k7 k8 k9 ka kb k00 k01 k02 k03 k04 k05 k050 s.heap.size cc c06 c07 c08 c051 a0 a1) (cwV 2 hT (gV_in mw_923 mw_920 mw_922 mw_p2_13 mw_1) rfl rfl rfl (by decide +kernel) ⟨Nat.le_of_ble_eq_true rfl, Nat.le_of_ble_eq_true rfl⟩) (kRecvX (q0 := 0) (ci := 10) hK hP hD hN hXS hS hA rfl rfl [0, 1, 6] rfl (by decide +kernel)) rfl rfl hl.1 rfl (lv_room (Nat.le_of_ble_eq_true rfl)) dX10_meeting_3 ⟨Nat.le_of_ble_eq_true rfl, Nat.le_of_ble_eq_true rfl⟩) hP hD hS hA [0, 1, 6] [2, 3, 4, 5, 7, 8, 9, 10, 11, 12] rfl rfl (by decide +kernel) (by decide +kernel) ?_
  clear hP hD hS
  intro r_1 u_3 H locs w_2 hP hD hS
  replace hP : va_P D vwCl [(k8, .inr (2, [.ref k80, .ref k81])), (ka, .inr (6, [.ref ka0, .ref ka1, .ref ka2])), (kb, .inl (cI, 6, .inl cb)), (k01, .inl (cI, 40, .inl c01)), (k80, .inl (cI, 40, .inl c80)), (k81, .inl (cI, 40, .inl c81)), (ka0, .inl (cI, 4, .inl ca0)), (ka1, .inl (cI, 4, .inl ca1)), (ka2, .inl (cI, 144, .inl ca2)), (k050, .inl (cI, 36, .inl c050)), (k, .inr (10, [.ref k0, .ref k1, .ref k2, .ref k3, .ref k4, .ref k5, .ref k6, .ref k7, .ref k8, .ref k9, .ref ka, .ref kb, .int cc])), (k0, .inr (9, [.ref k00, .ref k01, .ref k02, .ref k03, .ref k04, .ref k05, .int c06, .int c07, .int c08])), (k05, .inr (3, [.ref k050, .int c051]))] H := hP
  replace hD : va_D A [(k8, .inr (2, [.ref k80, .ref k81])), (ka, .inr (6, [.ref ka0, .ref ka1, .ref ka2])), (kb, .inl (cI, 6, .inl cb)), (k01, .inl (cI, 40, .inl c01)), (k80, .inl (cI, 40, .inl c80)), (k81, .inl (cI, 40, .inl c81)), (ka0, .inl (cI, 4, .inl ca0)), (ka1, .inl (cI, 4, .inl ca1)), (ka2, .inl (cI, 144, .inl ca2)), (k050, .inl (cI, 36, .inl c050)), (k, .inr (10, [.ref k0, .ref k1, .ref k2, .ref k3, .ref k4, .ref k5, .ref k6, .ref k7, .ref k8, .ref k9, .ref ka, .ref kb, .int cc])), (k0, .inr (9, [.ref k00, .ref k01, .ref k02, .ref k03, .ref k04, .ref k05, .int c06, .int c07, .int c08])), (k05, .inr (3, [.ref k050, .int c051]))] := hD
  have lo_r_1 := k_lo r_1
  have hi_r_1 := k_hi r_1
  refine b_if_eq hx hb rfl (tgt := 27) dX10_meeting_6 (by decide +kernel) (fun c_4 => ?_) (fun c_4 => ?_)
  · refine lv_aload_n hx hb dX10_meeting_27 rfl (lv_at hl 0 rfl) ?_
    refine lv_iconst (v := 1) hx hb dX10_meeting_28 (by decide +kernel) ?_
    refine kJi (wr := [(k8, .inr (2, [.ref k80, .ref k81])), (ka, .inr (6, [.ref ka0, .ref ka1, .ref ka2])), (k01, .inl (cI, 40, .inl c01)), (k80, .inl (cI, 40, .inl c80)), (k81, .inl (cI, 40, .inl c81)), (ka0, .inl (cI, 4, .inl ca0)), (ka1, .inl (cI, 4, .inl ca1)), (ka2, .inl (cI, 144, .inl ca2)), (k050, .inl (cI, 36, .inl c050)), (k0, .inr (9, [.ref k00, .ref k01, .ref k02, .ref k03, .ref k04, .ref k05, .int c06, .int c07, .int c08])), (k05, .inr (3, [.ref k050, .int c051]))]) (va_runV (As := [.int 1]) (rest := []) ⟨hx, hb, hml, hown, hT⟩ (c_X10_findingG l D cI aK aV k k0 k1 k2 k3 k4 k5 k6 k7 k8 k9 ka kb H.size cc cb 1) (cwV 1 hT (gV_in mw_338 mw_335 mw_337 mw_p1_0 mw_1) rfl rfl rfl (by decide +kernel) ⟨Nat.le_of_ble_eq_true rfl, Nat.le_of_ble_eq_true rfl⟩) (kRecvX (q0 := 10) (ci := 10) hK hP hD hN hXS hS hA rfl rfl [10, 2] rfl (by decide +kernel)) rfl rfl hl.1 rfl (lv_room (Nat.le_of_ble_eq_true rfl)) dX10_meeting_29 ⟨Nat.le_of_ble_eq_true rfl, Nat.le_of_ble_eq_true rfl⟩) hP hD hS hA [10, 2] [0, 1, 3, 4, 5, 6, 7, 8, 9, 11, 12] rfl rfl (by decide +kernel) (by decide +kernel) ?_
    clear hP hD hS
    intro r_5 scb_7 H locs w_6 hP hD hS
    replace hP : va_P D vwCl [(k8, .inr (2, [.ref k80, .ref k81])), (ka, .inr (6, [.ref ka0, .ref ka1, .ref ka2])), (k01, .inl (cI, 40, .inl c01)), (k80, .inl (cI, 40, .inl c80)), (k81, .inl (cI, 40, .inl c81)), (ka0, .inl (cI, 4, .inl ca0)), (ka1, .inl (cI, 4, .inl ca1)), (ka2, .inl (cI, 144, .inl ca2)), (k050, .inl (cI, 36, .inl c050)), (k0, .inr (9, [.ref k00, .ref k01, .ref k02, .ref k03, .ref k04, .ref k05, .int c06, .int c07, .int c08])), (k05, .inr (3, [.ref k050, .int c051])), (k, .inr (10, [.ref k0, .ref k1, .ref k2, .ref k3, .ref k4, .ref k5, .ref k6, .ref k7, .ref k8, .ref k9, .ref ka, .ref kb, .int cc])), (kb, .inl (cI, 6, .inl scb_7))] H := hP
    replace hD : va_D A [(k8, .inr (2, [.ref k80, .ref k81])), (ka, .inr (6, [.ref ka0, .ref ka1, .ref ka2])), (k01, .inl (cI, 40, .inl c01)), (k80, .inl (cI, 40, .inl c80)), (k81, .inl (cI, 40, .inl c81)), (ka0, .inl (cI, 4, .inl ca0)), (ka1, .inl (cI, 4, .inl ca1)), (ka2, .inl (cI, 144, .inl ca2)), (k050, .inl (cI, 36, .inl c050)), (k0, .inr (9, [.ref k00, .ref k01, .ref k02, .ref k03, .ref k04, .ref k05, .int c06, .int c07, .int c08])), (k05, .inr (3, [.ref k050, .int c051])), (k, .inr (10, [.ref k0, .ref k1, .ref k2, .ref k3, .ref k4, .ref k5, .ref k6, .ref k7, .ref k8, .ref k9, .ref ka, .ref kb, .int cc])), (kb, .inl (cI, 6, .inl scb_7))] := hD
    have hr_5 := w_6
    obtain rfl : r_5 = (-1000001) := hr_5.trans (by decide +kernel)
    exact hRet (scb_7, c80, c81) [11, 9, 0, 1, 12, 2, 10, 3, 4, 5, 6, 7, 8] trivial hP hD (by decide +kernel) rfl hS rfl dX10_meeting_32
  · refine lv_iload_n hx hb dX10_meeting_9 rfl (lv_at hl 3 rfl) ?_
    refine kJi (wr := [(k8, .inr (2, [.ref k80, .ref k81])), (ka, .inr (6, [.ref ka0, .ref ka1, .ref ka2])), (kb, .inl (cI, 6, .inl cb)), (k01, .inl (cI, 40, .inl c01)), (k80, .inl (cI, 40, .inl c80)), (k81, .inl (cI, 40, .inl c81)), (ka0, .inl (cI, 4, .inl ca0)), (ka1, .inl (cI, 4, .inl ca1)), (ka2, .inl (cI, 144, .inl ca2)), (k050, .inl (cI, 36, .inl c050)), (k, .inr (10, [.ref k0, .ref k1, .ref k2, .ref k3, .ref k4, .ref k5, .ref k6, .ref k7, .ref k8, .ref k9, .ref ka, .ref kb, .int cc])), (k0, .inr (9, [.ref k00, .ref k01, .ref k02, .ref k03, .ref k04, .ref k05, .int c06, .int c07, .int c08])), (k05, .inr (3, [.ref k050, .int c051]))]) (va_runS (As := [.int a2]) (rest := []) ⟨hx, hb, hml, hown, hT⟩ (c_X10_isSheetG l D cI aK aV H.size a2) (cwS 1 hT (gS_in mw_662 mw_660 mw_661 mw_1) rfl rfl rfl (by decide +kernel) ⟨Nat.le_of_ble_eq_true rfl, Nat.le_of_ble_eq_true rfl⟩) (kStatX hK hP hD hN hXS hS hA [] rfl (by decide +kernel)) rfl rfl hl.1 rfl (lv_room (Nat.le_of_ble_eq_true rfl)) dX10_meeting_10 ⟨Nat.le_of_ble_eq_true rfl, Nat.le_of_ble_eq_true rfl⟩) hP hD hS hA [] [0, 1, 2, 3, 4, 5, 6, 7, 8, 9, 10, 11, 12] rfl rfl (by decide +kernel) (by decide +kernel) ?_
    clear hP hD hS
    intro r_8 u_10 H locs w_9 hP hD hS
    replace hP : va_P D vwCl [(k8, .inr (2, [.ref k80, .ref k81])), (ka, .inr (6, [.ref ka0, .ref ka1, .ref ka2])), (kb, .inl (cI, 6, .inl cb)), (k01, .inl (cI, 40, .inl c01)), (k80, .inl (cI, 40, .inl c80)), (k81, .inl (cI, 40, .inl c81)), (ka0, .inl (cI, 4, .inl ca0)), (ka1, .inl (cI, 4, .inl ca1)), (ka2, .inl (cI, 144, .inl ca2)), (k050, .inl (cI, 36, .inl c050)), (k, .inr (10, [.ref k0, .ref k1, .ref k2, .ref k3, .ref k4, .ref k5, .ref k6, .ref k7, .ref k8, .ref k9, .ref ka, .ref kb, .int cc])), (k0, .inr (9, [.ref k00, .ref k01, .ref k02, .ref k03, .ref k04, .ref k05, .int c06, .int c07, .int c08])), (k05, .inr (3, [.ref k050, .int c051]))] H := hP
    replace hD : va_D A [(k8, .inr (2, [.ref k80, .ref k81])), (ka, .inr (6, [.ref ka0, .ref ka1, .ref ka2])), (kb, .inl (cI, 6, .inl cb)), (k01, .inl (cI, 40, .inl c01)), (k80, .inl (cI, 40, .inl c80)), (k81, .inl (cI, 40, .inl c81)), (ka0, .inl (cI, 4, .inl ca0)), (ka1, .inl (cI, 4, .inl ca1)), (ka2, .inl (cI, 144, .inl ca2)), (k050, .inl (cI, 36, .inl c050)), (k, .inr (10, [.ref k0, .ref k1, .ref k2, .ref k3, .ref k4, .ref k5, .ref k6, .ref k7, .ref k8, .ref k9, .ref ka, .ref kb, .int cc])), (k0, .inr (9, [.ref k00, .ref k01, .ref k02, .ref k03, .ref k04, .ref k05, .int c06, .int c07, .int c08])), (k05, .inr (3, [.ref k050, .int c051]))] := hD
    rcases w_9 with ⟨hr_8, h_11, h_12⟩ | ⟨hr_8, h_13⟩
    · have h_11 : 0 ≤ a2.toInt := h_11
      have h_12 : a2.toInt ≤ 3 := h_12
      obtain rfl : r_8 = 1 := hr_8.trans (by decide +kernel)
      refine b_if_eq hx hb zl_1 (tgt := 27) dX10_meeting_13 (by decide +kernel) (fun c_14 => by exfalso; omega) (fun c_14 => ?_)
      refine lv_iload hx hb dX10_meeting_16 (lv_at hl 4 rfl) ?_
      refine b_if_lt hx hb rfl (tgt := 27) dX10_meeting_18 (by decide +kernel) (fun c_15 => ?_) (fun c_15 => ?_)
      · refine lv_aload_n hx hb dX10_meeting_27 rfl (lv_at hl 0 rfl) ?_
        refine lv_iconst (v := 1) hx hb dX10_meeting_28 (by decide +kernel) ?_
        refine kJi (wr := [(k8, .inr (2, [.ref k80, .ref k81])), (ka, .inr (6, [.ref ka0, .ref ka1, .ref ka2])), (k01, .inl (cI, 40, .inl c01)), (k80, .inl (cI, 40, .inl c80)), (k81, .inl (cI, 40, .inl c81)), (ka0, .inl (cI, 4, .inl ca0)), (ka1, .inl (cI, 4, .inl ca1)), (ka2, .inl (cI, 144, .inl ca2)), (k050, .inl (cI, 36, .inl c050)), (k0, .inr (9, [.ref k00, .ref k01, .ref k02, .ref k03, .ref k04, .ref k05, .int c06, .int c07, .int c08])), (k05, .inr (3, [.ref k050, .int c051]))]) (va_runV (As := [.int 1]) (rest := []) ⟨hx, hb, hml, hown, hT⟩ (c_X10_findingG l D cI aK aV k k0 k1 k2 k3 k4 k5 k6 k7 k8 k9 ka kb H.size cc cb 1) (cwV 1 hT (gV_in mw_338 mw_335 mw_337 mw_p1_0 mw_1) rfl rfl rfl (by decide +kernel) ⟨Nat.le_of_ble_eq_true rfl, Nat.le_of_ble_eq_true rfl⟩) (kRecvX (q0 := 10) (ci := 10) hK hP hD hN hXS hS hA rfl rfl [10, 2] rfl (by decide +kernel)) rfl rfl hl.1 rfl (lv_room (Nat.le_of_ble_eq_true rfl)) dX10_meeting_29 ⟨Nat.le_of_ble_eq_true rfl, Nat.le_of_ble_eq_true rfl⟩) hP hD hS hA [10, 2] [0, 1, 3, 4, 5, 6, 7, 8, 9, 11, 12] rfl rfl (by decide +kernel) (by decide +kernel) ?_
        clear hP hD hS
        intro r_16 scb_18 H locs w_17 hP hD hS
        replace hP : va_P D vwCl [(k8, .inr (2, [.ref k80, .ref k81])), (ka, .inr (6, [.ref ka0, .ref ka1, .ref ka2])), (k01, .inl (cI, 40, .inl c01)), (k80, .inl (cI, 40, .inl c80)), (k81, .inl (cI, 40, .inl c81)), (ka0, .inl (cI, 4, .inl ca0)), (ka1, .inl (cI, 4, .inl ca1)), (ka2, .inl (cI, 144, .inl ca2)), (k050, .inl (cI, 36, .inl c050)), (k0, .inr (9, [.ref k00, .ref k01, .ref k02, .ref k03, .ref k04, .ref k05, .int c06, .int c07, .int c08])), (k05, .inr (3, [.ref k050, .int c051])), (k, .inr (10, [.ref k0, .ref k1, .ref k2, .ref k3, .ref k4, .ref k5, .ref k6, .ref k7, .ref k8, .ref k9, .ref ka, .ref kb, .int cc])), (kb, .inl (cI, 6, .inl scb_18))] H := hP
        replace hD : va_D A [(k8, .inr (2, [.ref k80, .ref k81])), (ka, .inr (6, [.ref ka0, .ref ka1, .ref ka2])), (k01, .inl (cI, 40, .inl c01)), (k80, .inl (cI, 40, .inl c80)), (k81, .inl (cI, 40, .inl c81)), (ka0, .inl (cI, 4, .inl ca0)), (ka1, .inl (cI, 4, .inl ca1)), (ka2, .inl (cI, 144, .inl ca2)), (k050, .inl (cI, 36, .inl c050)), (k0, .inr (9, [.ref k00, .ref k01, .ref k02, .ref k03, .ref k04, .ref k05, .int c06, .int c07, .int c08])), (k05, .inr (3, [.ref k050, .int c051])), (k, .inr (10, [.ref k0, .ref k1, .ref k2, .ref k3, .ref k4, .ref k5, .ref k6, .ref k7, .ref k8, .ref k9, .ref ka, .ref kb, .int cc])), (kb, .inl (cI, 6, .inl scb_18))] := hD
        have hr_16 := w_17
        obtain rfl : r_16 = (-1000001) := hr_16.trans (by decide +kernel)
        exact hRet (scb_18, c80, c81) [11, 9, 0, 1, 12, 2, 10, 3, 4, 5, 6, 7, 8] trivial hP hD (by decide +kernel) rfl hS rfl dX10_meeting_32
      · refine lv_iload hx hb dX10_meeting_21 (lv_at hl 4 rfl) ?_
        refine lv_iconst (v := 1) hx hb dX10_meeting_23 (by decide +kernel) ?_
        refine b_icmp_le hx hb rfl zl_1 (tgt := 33) dX10_meeting_24 (by decide +kernel) (fun c_19 => ?_) (fun c_19 => ?_)
        · refine lv_aload_n hx hb dX10_meeting_33 rfl (lv_at hl 0 rfl) ?_
          refine lv_iload_n hx hb dX10_meeting_34 rfl (lv_at hl 1 rfl) ?_
          refine lv_iload_n hx hb dX10_meeting_35 rfl (lv_at hl 2 rfl) ?_
          refine lv_iload_n hx hb dX10_meeting_36 rfl (lv_at hl 3 rfl) ?_
          refine kJi (wr := [(k8, .inr (2, [.ref k80, .ref k81])), (kb, .inl (cI, 6, .inl cb)), (k01, .inl (cI, 40, .inl c01)), (k80, .inl (cI, 40, .inl c80)), (k81, .inl (cI, 40, .inl c81))]) (va_runV (As := [.int a0, .int a1, .int a2]) (rest := []) ⟨hx, hb, hml, hown, hT⟩ (c_X10_whyNoMeetingG l D cI aK aV k k0 k1 k2 k3 k4 k5 k6 k7 k8 k9 ka kb k00 k01 k02 k03 k04 k05 ka0 ka1 ka2 k050 H.size cc c06 c07 c08 c051 ca0 ca1 ca2 c050 a0 a1 a2 (by first | omega | decide | assumption | rfl) (by first | omega | decide | assumption | rfl) (by first | omega | decide | assumption | rfl)) (cwV 3 hT (gV_in mw_927 mw_924 mw_926 mw_p2_14 mw_1) rfl rfl rfl (by decide +kernel) ⟨Nat.le_of_ble_eq_true rfl, Nat.le_of_ble_eq_true rfl⟩) (kRecvX (q0 := 10) (ci := 10) hK hP hD hN hXS hS hA rfl rfl [10, 11, 1, 12, 6, 7, 8, 9] rfl (by decide +kernel)) rfl rfl hl.1 rfl (lv_room (Nat.le_of_ble_eq_true rfl)) dX10_meeting_37 ⟨Nat.le_of_ble_eq_true rfl, Nat.le_of_ble_eq_true rfl⟩) hP hD hS hA [10, 11, 1, 12, 6, 7, 8, 9] [0, 2, 3, 4, 5] rfl rfl (by decide +kernel) (by decide +kernel) ?_
          clear hP hD hS
          intro r_20 u_22 H locs w_21 hP hD hS
          replace hP : va_P D vwCl [(k8, .inr (2, [.ref k80, .ref k81])), (kb, .inl (cI, 6, .inl cb)), (k01, .inl (cI, 40, .inl c01)), (k80, .inl (cI, 40, .inl c80)), (k81, .inl (cI, 40, .inl c81)), (k, .inr (10, [.ref k0, .ref k1, .ref k2, .ref k3, .ref k4, .ref k5, .ref k6, .ref k7, .ref k8, .ref k9, .ref ka, .ref kb, .int cc])), (k0, .inr (9, [.ref k00, .ref k01, .ref k02, .ref k03, .ref k04, .ref k05, .int c06, .int c07, .int c08])), (ka, .inr (6, [.ref ka0, .ref ka1, .ref ka2])), (k05, .inr (3, [.ref k050, .int c051])), (ka0, .inl (cI, 4, .inl ca0)), (ka1, .inl (cI, 4, .inl ca1)), (ka2, .inl (cI, 144, .inl ca2)), (k050, .inl (cI, 36, .inl c050))] H := hP
          replace hD : va_D A [(k8, .inr (2, [.ref k80, .ref k81])), (kb, .inl (cI, 6, .inl cb)), (k01, .inl (cI, 40, .inl c01)), (k80, .inl (cI, 40, .inl c80)), (k81, .inl (cI, 40, .inl c81)), (k, .inr (10, [.ref k0, .ref k1, .ref k2, .ref k3, .ref k4, .ref k5, .ref k6, .ref k7, .ref k8, .ref k9, .ref ka, .ref kb, .int cc])), (k0, .inr (9, [.ref k00, .ref k01, .ref k02, .ref k03, .ref k04, .ref k05, .int c06, .int c07, .int c08])), (ka, .inr (6, [.ref ka0, .ref ka1, .ref ka2])), (k05, .inr (3, [.ref k050, .int c051])), (ka0, .inl (cI, 4, .inl ca0)), (ka1, .inl (cI, 4, .inl ca1)), (ka2, .inl (cI, 144, .inl ca2)), (k050, .inl (cI, 36, .inl c050))] := hD
          have lo_r_20 := k_lo r_20
          have hi_r_20 := k_hi r_20
          refine lv_istore (lv' := [(5, .int r_20), (0, .ref k), (1, .int a0), (2, .int a1), (3, .int a2), (4, .int a3)]) hx hb dX10_meeting_40 hl (by decide +kernel) rfl ?_
          clear hl
          intro ls hl
          refine lv_iload hx hb dX10_meeting_42 (lv_at hl 0 rfl) ?_
          refine b_if_eq hx hb rfl (tgt := 54) dX10_meeting_44 (by decide +kernel) (fun c_23 => ?_) (fun c_23 => ?_)
          · refine lv_aload_n hx hb dX10_meeting_54 rfl (lv_at hl 1 rfl) ?_
            refine va_get (D := D) (ci := 10) (v := .ref k8) (C := RX10) (T := TX10) (N := 13) hx hb hT giX10 hown hK hP 5 rfl rfl 8 (by decide +kernel) (hT (Cond.fieldLink RX10 56 "DesertWire" "meetings" "LDesertWire$Meetings;") mw_299) (fun _ h9 => h9) rfl dX10_meeting_55 ?_
            refine lv_aload_n hx hb dX10_meeting_58 rfl (lv_at hl 1 rfl) ?_
            refine va_get (D := D) (ci := 10) (v := .ref k0) (C := RX10) (T := TX10) (N := 13) hx hb hT giX10 hown hK hP 5 rfl rfl 0 (by decide +kernel) (hT (Cond.fieldLink RX10 12 "DesertWire" "now" "LDesertWire$World;") mw_291) (fun _ h9 => h9) rfl dX10_meeting_59 ?_
            refine lv_aload_n hx hb dX10_meeting_62 rfl (lv_at hl 1 rfl) ?_
            refine va_get (D := D) (ci := 10) (v := .ref ka) (C := RX10) (T := TX10) (N := 13) hx hb hT giX10 hown hK hP 5 rfl rfl 10 (by decide +kernel) (hT (Cond.fieldLink RX10 70 "DesertWire" "sheets" "LDesertWire$Sheets;") mw_301) (fun _ h9 => h9) rfl dX10_meeting_63 ?_
            refine lv_iload_n hx hb dX10_meeting_66 rfl (lv_at hl 4 rfl) ?_
            refine lv_iload_n hx hb dX10_meeting_67 rfl (lv_at hl 2 rfl) ?_
            refine lv_iload_n hx hb dX10_meeting_68 rfl (lv_at hl 3 rfl) ?_
            refine kJv (wr := [(kb, .inl (cI, 6, .inl cb)), (k, .inr (10, [.ref k0, .ref k1, .ref k2, .ref k3, .ref k4, .ref k5, .ref k6, .ref k7, .ref k8, .ref k9, .ref ka, .ref kb, .int cc])), (ka0, .inl (cI, 4, .inl ca0))]) (va_runV (As := [.ref k0, .ref ka, .int a2, .int a0, .int a1]) (rest := []) ⟨hx, hb, hml, hown, hT⟩ (c_X2_weighG l D cI aK aV k8 k0 ka k80 k81 k00 k01 k02 k03 k04 k05 k050 ka0 ka1 ka2 H.size c80 c81 c06 c07 c08 c01 c051 c050 ca1 ca2 a2 a0 a1 (by first | omega | decide | assumption | rfl)) (cwV 5 hT (gV_in mw_931 mw_928 mw_929 mw_930 mw_9) rfl rfl rfl (by decide +kernel) ⟨Nat.le_of_ble_eq_true rfl, Nat.le_of_ble_eq_true rfl⟩) (kRecvX (q0 := 0) (ci := 2) hK hP hD hN hXS hS hA rfl rfl [0, 3, 4, 6, 2, 8, 12, 7, 10, 11] rfl (by decide +kernel)) rfl rfl hl.1 rfl (lv_room (Nat.le_of_ble_eq_true rfl)) dX10_meeting_69 ⟨Nat.le_of_ble_eq_true rfl, Nat.le_of_ble_eq_true rfl⟩) hP hD hS hA [0, 3, 4, 6, 2, 8, 12, 7, 10, 11] [1, 5, 9] rfl rfl (by decide +kernel) (by decide +kernel) ?_
            clear hP hD hS
            intro u_28 H locs w_25 hP hD hS
            obtain ⟨sc0_26, sc1_27⟩ := u_28
            replace hP : va_P D vwCl [(kb, .inl (cI, 6, .inl cb)), (k, .inr (10, [.ref k0, .ref k1, .ref k2, .ref k3, .ref k4, .ref k5, .ref k6, .ref k7, .ref k8, .ref k9, .ref ka, .ref kb, .int cc])), (ka0, .inl (cI, 4, .inl ca0)), (k8, .inr (2, [.ref k80, .ref k81])), (k80, .inl (cI, 40, .inl sc0_26)), (k81, .inl (cI, 40, .inl sc1_27)), (k0, .inr (9, [.ref k00, .ref k01, .ref k02, .ref k03, .ref k04, .ref k05, .int c06, .int c07, .int c08])), (k01, .inl (cI, 40, .inl c01)), (k05, .inr (3, [.ref k050, .int c051])), (k050, .inl (cI, 36, .inl c050)), (ka, .inr (6, [.ref ka0, .ref ka1, .ref ka2])), (ka1, .inl (cI, 4, .inl ca1)), (ka2, .inl (cI, 144, .inl ca2))] H := hP
            replace hD : va_D A [(kb, .inl (cI, 6, .inl cb)), (k, .inr (10, [.ref k0, .ref k1, .ref k2, .ref k3, .ref k4, .ref k5, .ref k6, .ref k7, .ref k8, .ref k9, .ref ka, .ref kb, .int cc])), (ka0, .inl (cI, 4, .inl ca0)), (k8, .inr (2, [.ref k80, .ref k81])), (k80, .inl (cI, 40, .inl sc0_26)), (k81, .inl (cI, 40, .inl sc1_27)), (k0, .inr (9, [.ref k00, .ref k01, .ref k02, .ref k03, .ref k04, .ref k05, .int c06, .int c07, .int c08])), (k01, .inl (cI, 40, .inl c01)), (k05, .inr (3, [.ref k050, .int c051])), (k050, .inl (cI, 36, .inl c050)), (ka, .inr (6, [.ref ka0, .ref ka1, .ref ka2])), (ka1, .inl (cI, 4, .inl ca1)), (ka2, .inl (cI, 144, .inl ca2))] := hD
            refine lv_aload_n hx hb dX10_meeting_72 rfl (lv_at hl 1 rfl) ?_
            refine va_get (D := D) (ci := 10) (v := .ref k8) (C := RX10) (T := TX10) (N := 13) hx hb hT giX10 hown hK hP 1 rfl rfl 8 (by decide +kernel) (hT (Cond.fieldLink RX10 56 "DesertWire" "meetings" "LDesertWire$Meetings;") mw_299) (fun _ h9 => h9) rfl dX10_meeting_73 ?_
            refine lv_aload_n hx hb dX10_meeting_76 rfl (lv_at hl 1 rfl) ?_
            refine va_get (D := D) (ci := 10) (v := .ref k0) (C := RX10) (T := TX10) (N := 13) hx hb hT giX10 hown hK hP 1 rfl rfl 0 (by decide +kernel) (hT (Cond.fieldLink RX10 12 "DesertWire" "now" "LDesertWire$World;") mw_291) (fun _ h9 => h9) rfl dX10_meeting_77 ?_
            refine va_get (D := D) (ci := 9) (v := .ref k05) (C := RX9) (T := TX9) (N := 9) hx hb hT giX9 hown hK hP 6 rfl rfl 5 (by decide +kernel) (hT (Cond.fieldLink RX10 193 "DesertWire$World" "parties" "LDesertWire$Parties;") mw_102) (fun _ h9 => h9) rfl dX10_meeting_80 ?_
            refine lv_iload_n hx hb dX10_meeting_83 rfl (lv_at hl 2 rfl) ?_
            refine lv_iconst (v := 0) hx hb dX10_meeting_84 (by decide +kernel) ?_
            refine kJi (wr := [(kb, .inl (cI, 6, .inl cb)), (k, .inr (10, [.ref k0, .ref k1, .ref k2, .ref k3, .ref k4, .ref k5, .ref k6, .ref k7, .ref k8, .ref k9, .ref ka, .ref kb, .int cc])), (ka0, .inl (cI, 4, .inl ca0)), (k8, .inr (2, [.ref k80, .ref k81])), (k80, .inl (cI, 40, .inl sc0_26)), (k81, .inl (cI, 40, .inl sc1_27)), (k0, .inr (9, [.ref k00, .ref k01, .ref k02, .ref k03, .ref k04, .ref k05, .int c06, .int c07, .int c08])), (k01, .inl (cI, 40, .inl c01)), (ka, .inr (6, [.ref ka0, .ref ka1, .ref ka2])), (ka1, .inl (cI, 4, .inl ca1)), (ka2, .inl (cI, 144, .inl ca2))]) (va_runV (As := [.int a0, .int 0]) (rest := [.ref k8]) ⟨hx, hb, hml, hown, hT⟩ (c_X3_getG l D cI aK aV k05 k050 H.size c051 c050 a0 0) (cwV 2 hT (gV_in mw_726 mw_723 mw_724 mw_725 mw_4) rfl rfl rfl (by decide +kernel) ⟨Nat.le_of_ble_eq_true rfl, Nat.le_of_ble_eq_true rfl⟩) (kRecvX (q0 := 8) (ci := 3) hK hP hD hN hXS hS hA rfl rfl [8, 9] rfl (by decide +kernel)) rfl rfl hl.1 rfl (lv_room (Nat.le_of_ble_eq_true rfl)) dX10_meeting_85 ⟨Nat.le_of_ble_eq_true rfl, Nat.le_of_ble_eq_true rfl⟩) hP hD hS hA [8, 9] [0, 1, 2, 3, 4, 5, 6, 7, 10, 11, 12] rfl rfl (by decide +kernel) (by decide +kernel) ?_
            clear hP hD hS
            intro r_29 u_31 H locs w_30 hP hD hS
            replace hP : va_P D vwCl [(kb, .inl (cI, 6, .inl cb)), (k, .inr (10, [.ref k0, .ref k1, .ref k2, .ref k3, .ref k4, .ref k5, .ref k6, .ref k7, .ref k8, .ref k9, .ref ka, .ref kb, .int cc])), (ka0, .inl (cI, 4, .inl ca0)), (k8, .inr (2, [.ref k80, .ref k81])), (k80, .inl (cI, 40, .inl sc0_26)), (k81, .inl (cI, 40, .inl sc1_27)), (k0, .inr (9, [.ref k00, .ref k01, .ref k02, .ref k03, .ref k04, .ref k05, .int c06, .int c07, .int c08])), (k01, .inl (cI, 40, .inl c01)), (ka, .inr (6, [.ref ka0, .ref ka1, .ref ka2])), (ka1, .inl (cI, 4, .inl ca1)), (ka2, .inl (cI, 144, .inl ca2)), (k05, .inr (3, [.ref k050, .int c051])), (k050, .inl (cI, 36, .inl c050))] H := hP
            replace hD : va_D A [(kb, .inl (cI, 6, .inl cb)), (k, .inr (10, [.ref k0, .ref k1, .ref k2, .ref k3, .ref k4, .ref k5, .ref k6, .ref k7, .ref k8, .ref k9, .ref ka, .ref kb, .int cc])), (ka0, .inl (cI, 4, .inl ca0)), (k8, .inr (2, [.ref k80, .ref k81])), (k80, .inl (cI, 40, .inl sc0_26)), (k81, .inl (cI, 40, .inl sc1_27)), (k0, .inr (9, [.ref k00, .ref k01, .ref k02, .ref k03, .ref k04, .ref k05, .int c06, .int c07, .int c08])), (k01, .inl (cI, 40, .inl c01)), (ka, .inr (6, [.ref ka0, .ref ka1, .ref ka2])), (ka1, .inl (cI, 4, .inl ca1)), (ka2, .inl (cI, 144, .inl ca2)), (k05, .inr (3, [.ref k050, .int c051])), (k050, .inl (cI, 36, .inl c050))] := hD
            have lo_r_29 := k_lo r_29
            have hi_r_29 := k_hi r_29
            refine lv_aload_n hx hb dX10_meeting_88 rfl (lv_at hl 1 rfl) ?_
            refine va_get (D := D) (ci := 10) (v := .ref k0) (C := RX10) (T := TX10) (N := 13) hx hb hT giX10 hown hK hP 1 rfl rfl 0 (by decide +kernel) (hT (Cond.fieldLink RX10 12 "DesertWire" "now" "LDesertWire$World;") mw_291) (fun _ h9 => h9) rfl dX10_meeting_89 ?_
            refine va_get (D := D) (ci := 9) (v := .ref k05) (C := RX9) (T := TX9) (N := 9) hx hb hT giX9 hown hK hP 6 rfl rfl 5 (by decide +kernel) (hT (Cond.fieldLink RX10 193 "DesertWire$World" "parties" "LDesertWire$Parties;") mw_102) (fun _ h9 => h9) rfl dX10_meeting_92 ?_
            refine lv_iload_n hx hb dX10_meeting_95 rfl (lv_at hl 3 rfl) ?_
            refine lv_iconst (v := 0) hx hb dX10_meeting_96 (by decide +kernel) ?_
            refine kJi (wr := [(kb, .inl (cI, 6, .inl cb)), (k, .inr (10, [.ref k0, .ref k1, .ref k2, .ref k3, .ref k4, .ref k5, .ref k6, .ref k7, .ref k8, .ref k9, .ref ka, .ref kb, .int cc])), (ka0, .inl (cI, 4, .inl ca0)), (k8, .inr (2, [.ref k80, .ref k81])), (k80, .inl (cI, 40, .inl sc0_26)), (k81, .inl (cI, 40, .inl sc1_27)), (k0, .inr (9, [.ref k00, .ref k01, .ref k02, .ref k03, .ref k04, .ref k05, .int c06, .int c07, .int c08])), (k01, .inl (cI, 40, .inl c01)), (ka, .inr (6, [.ref ka0, .ref ka1, .ref ka2])), (ka1, .inl (cI, 4, .inl ca1)), (ka2, .inl (cI, 144, .inl ca2))]) (va_runV (As := [.int a1, .int 0]) (rest := [.int r_29, .ref k8]) ⟨hx, hb, hml, hown, hT⟩ (c_X3_getG l D cI aK aV k05 k050 H.size c051 c050 a1 0) (cwV 2 hT (gV_in mw_726 mw_723 mw_724 mw_725 mw_4) rfl rfl rfl (by decide +kernel) ⟨Nat.le_of_ble_eq_true rfl, Nat.le_of_ble_eq_true rfl⟩) (kRecvX (q0 := 11) (ci := 3) hK hP hD hN hXS hS hA rfl rfl [11, 12] rfl (by decide +kernel)) rfl rfl hl.1 rfl (lv_room (Nat.le_of_ble_eq_true rfl)) dX10_meeting_97 ⟨Nat.le_of_ble_eq_true rfl, Nat.le_of_ble_eq_true rfl⟩) hP hD hS hA [11, 12] [0, 1, 2, 3, 4, 5, 6, 7, 8, 9, 10] rfl rfl (by decide +kernel) (by decide +kernel) ?_
            clear hP hD hS
            intro r_32 u_34 H locs w_33 hP hD hS
            replace hP : va_P D vwCl [(kb, .inl (cI, 6, .inl cb)), (k, .inr (10, [.ref k0, .ref k1, .ref k2, .ref k3, .ref k4, .ref k5, .ref k6, .ref k7, .ref k8, .ref k9, .ref ka, .ref kb, .int cc])), (ka0, .inl (cI, 4, .inl ca0)), (k8, .inr (2, [.ref k80, .ref k81])), (k80, .inl (cI, 40, .inl sc0_26)), (k81, .inl (cI, 40, .inl sc1_27)), (k0, .inr (9, [.ref k00, .ref k01, .ref k02, .ref k03, .ref k04, .ref k05, .int c06, .int c07, .int c08])), (k01, .inl (cI, 40, .inl c01)), (ka, .inr (6, [.ref ka0, .ref ka1, .ref ka2])), (ka1, .inl (cI, 4, .inl ca1)), (ka2, .inl (cI, 144, .inl ca2)), (k05, .inr (3, [.ref k050, .int c051])), (k050, .inl (cI, 36, .inl c050))] H := hP
            replace hD : va_D A [(kb, .inl (cI, 6, .inl cb)), (k, .inr (10, [.ref k0, .ref k1, .ref k2, .ref k3, .ref k4, .ref k5, .ref k6, .ref k7, .ref k8, .ref k9, .ref ka, .ref kb, .int cc])), (ka0, .inl (cI, 4, .inl ca0)), (k8, .inr (2, [.ref k80, .ref k81])), (k80, .inl (cI, 40, .inl sc0_26)), (k81, .inl (cI, 40, .inl sc1_27)), (k0, .inr (9, [.ref k00, .ref k01, .ref k02, .ref k03, .ref k04, .ref k05, .int c06, .int c07, .int c08])), (k01, .inl (cI, 40, .inl c01)), (ka, .inr (6, [.ref ka0, .ref ka1, .ref ka2])), (ka1, .inl (cI, 4, .inl ca1)), (ka2, .inl (cI, 144, .inl ca2)), (k05, .inr (3, [.ref k050, .int c051])), (k050, .inl (cI, 36, .inl c050))] := hD
            have lo_r_32 := k_lo r_32
            have hi_r_32 := k_hi r_32
            refine kJi (wr := [(kb, .inl (cI, 6, .inl cb)), (k, .inr (10, [.ref k0, .ref k1, .ref k2, .ref k3, .ref k4, .ref k5, .ref k6, .ref k7, .ref k8, .ref k9, .ref ka, .ref kb, .int cc])), (ka0, .inl (cI, 4, .inl ca0)), (k80, .inl (cI, 40, .inl sc0_26)), (k0, .inr (9, [.ref k00, .ref k01, .ref k02, .ref k03, .ref k04, .ref k05, .int c06, .int c07, .int c08])), (k01, .inl (cI, 40, .inl c01)), (ka, .inr (6, [.ref ka0, .ref ka1, .ref ka2])), (ka1, .inl (cI, 4, .inl ca1)), (ka2, .inl (cI, 144, .inl ca2)), (k05, .inr (3, [.ref k050, .int c051])), (k050, .inl (cI, 36, .inl c050))]) (va_runV (As := [.int r_29, .int r_32]) (rest := []) ⟨hx, hb, hml, hown, hT⟩ (c_X2_bestG l D cI aK aV k8 k80 k81 H.size sc1_27 r_29 r_32) (cwV 2 hT (gV_in mw_950 mw_947 mw_948 mw_949 mw_9) rfl rfl rfl (by decide +kernel) ⟨Nat.le_of_ble_eq_true rfl, Nat.le_of_ble_eq_true rfl⟩) (kRecvX (q0 := 3) (ci := 2) hK hP hD hN hXS hS hA rfl rfl [3, 5] rfl (by decide +kernel)) rfl rfl hl.1 rfl (lv_room (Nat.le_of_ble_eq_true rfl)) dX10_meeting_100 ⟨Nat.le_of_ble_eq_true rfl, Nat.le_of_ble_eq_true rfl⟩) hP hD hS hA [3, 5] [0, 1, 2, 4, 6, 7, 8, 9, 10, 11, 12] rfl rfl (by decide +kernel) (by decide +kernel) ?_
            clear hP hD hS
            intro r_35 u_37 H locs w_36 hP hD hS
            replace hP : va_P D vwCl [(kb, .inl (cI, 6, .inl cb)), (k, .inr (10, [.ref k0, .ref k1, .ref k2, .ref k3, .ref k4, .ref k5, .ref k6, .ref k7, .ref k8, .ref k9, .ref ka, .ref kb, .int cc])), (ka0, .inl (cI, 4, .inl ca0)), (k80, .inl (cI, 40, .inl sc0_26)), (k0, .inr (9, [.ref k00, .ref k01, .ref k02, .ref k03, .ref k04, .ref k05, .int c06, .int c07, .int c08])), (k01, .inl (cI, 40, .inl c01)), (ka, .inr (6, [.ref ka0, .ref ka1, .ref ka2])), (ka1, .inl (cI, 4, .inl ca1)), (ka2, .inl (cI, 144, .inl ca2)), (k05, .inr (3, [.ref k050, .int c051])), (k050, .inl (cI, 36, .inl c050)), (k8, .inr (2, [.ref k80, .ref k81])), (k81, .inl (cI, 40, .inl sc1_27))] H := hP
            replace hD : va_D A [(kb, .inl (cI, 6, .inl cb)), (k, .inr (10, [.ref k0, .ref k1, .ref k2, .ref k3, .ref k4, .ref k5, .ref k6, .ref k7, .ref k8, .ref k9, .ref ka, .ref kb, .int cc])), (ka0, .inl (cI, 4, .inl ca0)), (k80, .inl (cI, 40, .inl sc0_26)), (k0, .inr (9, [.ref k00, .ref k01, .ref k02, .ref k03, .ref k04, .ref k05, .int c06, .int c07, .int c08])), (k01, .inl (cI, 40, .inl c01)), (ka, .inr (6, [.ref ka0, .ref ka1, .ref ka2])), (ka1, .inl (cI, 4, .inl ca1)), (ka2, .inl (cI, 144, .inl ca2)), (k05, .inr (3, [.ref k050, .int c051])), (k050, .inl (cI, 36, .inl c050)), (k8, .inr (2, [.ref k80, .ref k81])), (k81, .inl (cI, 40, .inl sc1_27))] := hD
            have lo_r_35 := k_lo r_35
            have hi_r_35 := k_hi r_35
            refine lv_istore (lv' := [(6, .int r_35), (5, .int r_20), (0, .ref k), (1, .int a0), (2, .int a1), (3, .int a2), (4, .int a3)]) hx hb dX10_meeting_103 hl (by decide +kernel) rfl ?_
            clear hl
            intro ls hl
            refine lv_iload hx hb dX10_meeting_105 (lv_at hl 6 rfl) ?_
            refine b_if_ne hx hb rfl (tgt := 115) dX10_meeting_107 (by decide +kernel) (fun c_38 => ?_) (fun c_38 => ?_)
            · refine lv_aload_n hx hb dX10_meeting_115 rfl (lv_at hl 2 rfl) ?_
              refine va_get (D := D) (ci := 10) (v := .ref k8) (C := RX10) (T := TX10) (N := 13) hx hb hT giX10 hown hK hP 1 rfl rfl 8 (by decide +kernel) (hT (Cond.fieldLink RX10 56 "DesertWire" "meetings" "LDesertWire$Meetings;") mw_299) (fun _ h9 => h9) rfl dX10_meeting_116 ?_
              refine lv_iload hx hb dX10_meeting_119 (lv_at hl 0 rfl) ?_
              refine kJi (wr := [(kb, .inl (cI, 6, .inl cb)), (k, .inr (10, [.ref k0, .ref k1, .ref k2, .ref k3, .ref k4, .ref k5, .ref k6, .ref k7, .ref k8, .ref k9, .ref ka, .ref kb, .int cc])), (ka0, .inl (cI, 4, .inl ca0)), (k80, .inl (cI, 40, .inl sc0_26)), (k0, .inr (9, [.ref k00, .ref k01, .ref k02, .ref k03, .ref k04, .ref k05, .int c06, .int c07, .int c08])), (k01, .inl (cI, 40, .inl c01)), (ka, .inr (6, [.ref ka0, .ref ka1, .ref ka2])), (ka1, .inl (cI, 4, .inl ca1)), (ka2, .inl (cI, 144, .inl ca2)), (k05, .inr (3, [.ref k050, .int c051])), (k050, .inl (cI, 36, .inl c050))]) (va_runV (As := [.int r_35]) (rest := []) ⟨hx, hb, hml, hown, hT⟩ (c_X2_worstAtG l D cI aK aV k8 k80 k81 H.size sc1_27 r_35) (cwV 1 hT (gV_in mw_954 mw_955 mw_952 mw_953 mw_9) rfl rfl rfl (by decide +kernel) ⟨Nat.le_of_ble_eq_true rfl, Nat.le_of_ble_eq_true rfl⟩) (kRecvX (q0 := 11) (ci := 2) hK hP hD hN hXS hS hA rfl rfl [11, 12] rfl (by decide +kernel)) rfl rfl hl.1 rfl (lv_room (Nat.le_of_ble_eq_true rfl)) dX10_meeting_121 ⟨Nat.le_of_ble_eq_true rfl, Nat.le_of_ble_eq_true rfl⟩) hP hD hS hA [11, 12] [0, 1, 2, 3, 4, 5, 6, 7, 8, 9, 10] rfl rfl (by decide +kernel) (by decide +kernel) ?_
              clear hP hD hS
              intro r_39 u_41 H locs w_40 hP hD hS
              replace hP : va_P D vwCl [(kb, .inl (cI, 6, .inl cb)), (k, .inr (10, [.ref k0, .ref k1, .ref k2, .ref k3, .ref k4, .ref k5, .ref k6, .ref k7, .ref k8, .ref k9, .ref ka, .ref kb, .int cc])), (ka0, .inl (cI, 4, .inl ca0)), (k80, .inl (cI, 40, .inl sc0_26)), (k0, .inr (9, [.ref k00, .ref k01, .ref k02, .ref k03, .ref k04, .ref k05, .int c06, .int c07, .int c08])), (k01, .inl (cI, 40, .inl c01)), (ka, .inr (6, [.ref ka0, .ref ka1, .ref ka2])), (ka1, .inl (cI, 4, .inl ca1)), (ka2, .inl (cI, 144, .inl ca2)), (k05, .inr (3, [.ref k050, .int c051])), (k050, .inl (cI, 36, .inl c050)), (k8, .inr (2, [.ref k80, .ref k81])), (k81, .inl (cI, 40, .inl sc1_27))] H := hP
              replace hD : va_D A [(kb, .inl (cI, 6, .inl cb)), (k, .inr (10, [.ref k0, .ref k1, .ref k2, .ref k3, .ref k4, .ref k5, .ref k6, .ref k7, .ref k8, .ref k9, .ref ka, .ref kb, .int cc])), (ka0, .inl (cI, 4, .inl ca0)), (k80, .inl (cI, 40, .inl sc0_26)), (k0, .inr (9, [.ref k00, .ref k01, .ref k02, .ref k03, .ref k04, .ref k05, .int c06, .int c07, .int c08])), (k01, .inl (cI, 40, .inl c01)), (ka, .inr (6, [.ref ka0, .ref ka1, .ref ka2])), (ka1, .inl (cI, 4, .inl ca1)), (ka2, .inl (cI, 144, .inl ca2)), (k05, .inr (3, [.ref k050, .int c051])), (k050, .inl (cI, 36, .inl c050)), (k8, .inr (2, [.ref k80, .ref k81])), (k81, .inl (cI, 40, .inl sc1_27))] := hD
              have lo_r_39 := k_lo r_39
              have hi_r_39 := k_hi r_39
              exact hRet (cb, sc0_26, sc1_27) [1, 4, 11, 6, 0, 5, 9, 3, 12, 2, 7, 8, 10] trivial hP hD (by decide +kernel) rfl hS rfl dX10_meeting_124
            · refine lv_iload hx hb dX10_meeting_110 (lv_at hl 0 rfl) ?_
              refine lv_goto (tgt := 124) hx hb dX10_meeting_112 (by decide +kernel) ?_
              exact hRet (cb, sc0_26, sc1_27) [1, 4, 11, 6, 0, 5, 9, 3, 12, 2, 7, 8, 10] trivial hP hD (by decide +kernel) rfl hS rfl dX10_meeting_124
          · refine lv_aload_n hx hb dX10_meeting_47 rfl (lv_at hl 1 rfl) ?_
            refine lv_iload hx hb dX10_meeting_48 (lv_at hl 0 rfl) ?_
            refine kJi (wr := [(k8, .inr (2, [.ref k80, .ref k81])), (k01, .inl (cI, 40, .inl c01)), (k80, .inl (cI, 40, .inl c80)), (k81, .inl (cI, 40, .inl c81)), (k0, .inr (9, [.ref k00, .ref k01, .ref k02, .ref k03, .ref k04, .ref k05, .int c06, .int c07, .int c08])), (ka, .inr (6, [.ref ka0, .ref ka1, .ref ka2])), (k05, .inr (3, [.ref k050, .int c051])), (ka0, .inl (cI, 4, .inl ca0)), (ka1, .inl (cI, 4, .inl ca1)), (ka2, .inl (cI, 144, .inl ca2)), (k050, .inl (cI, 36, .inl c050))]) (va_runV (As := [.int r_20]) (rest := []) ⟨hx, hb, hml, hown, hT⟩ (c_X10_findingG l D cI aK aV k k0 k1 k2 k3 k4 k5 k6 k7 k8 k9 ka kb H.size cc cb r_20) (cwV 1 hT (gV_in mw_338 mw_335 mw_337 mw_p1_0 mw_1) rfl rfl rfl (by decide +kernel) ⟨Nat.le_of_ble_eq_true rfl, Nat.le_of_ble_eq_true rfl⟩) (kRecvX (q0 := 5) (ci := 10) hK hP hD hN hXS hS hA rfl rfl [5, 1] rfl (by decide +kernel)) rfl rfl hl.1 rfl (lv_room (Nat.le_of_ble_eq_true rfl)) dX10_meeting_50 ⟨Nat.le_of_ble_eq_true rfl, Nat.le_of_ble_eq_true rfl⟩) hP hD hS hA [5, 1] [0, 2, 3, 4, 6, 7, 8, 9, 10, 11, 12] rfl rfl (by decide +kernel) (by decide +kernel) ?_
            clear hP hD hS
            intro r_42 scb_44 H locs w_43 hP hD hS
            replace hP : va_P D vwCl [(k8, .inr (2, [.ref k80, .ref k81])), (k01, .inl (cI, 40, .inl c01)), (k80, .inl (cI, 40, .inl c80)), (k81, .inl (cI, 40, .inl c81)), (k0, .inr (9, [.ref k00, .ref k01, .ref k02, .ref k03, .ref k04, .ref k05, .int c06, .int c07, .int c08])), (ka, .inr (6, [.ref ka0, .ref ka1, .ref ka2])), (k05, .inr (3, [.ref k050, .int c051])), (ka0, .inl (cI, 4, .inl ca0)), (ka1, .inl (cI, 4, .inl ca1)), (ka2, .inl (cI, 144, .inl ca2)), (k050, .inl (cI, 36, .inl c050)), (k, .inr (10, [.ref k0, .ref k1, .ref k2, .ref k3, .ref k4, .ref k5, .ref k6, .ref k7, .ref k8, .ref k9, .ref ka, .ref kb, .int cc])), (kb, .inl (cI, 6, .inl scb_44))] H := hP
            replace hD : va_D A [(k8, .inr (2, [.ref k80, .ref k81])), (k01, .inl (cI, 40, .inl c01)), (k80, .inl (cI, 40, .inl c80)), (k81, .inl (cI, 40, .inl c81)), (k0, .inr (9, [.ref k00, .ref k01, .ref k02, .ref k03, .ref k04, .ref k05, .int c06, .int c07, .int c08])), (ka, .inr (6, [.ref ka0, .ref ka1, .ref ka2])), (k05, .inr (3, [.ref k050, .int c051])), (ka0, .inl (cI, 4, .inl ca0)), (ka1, .inl (cI, 4, .inl ca1)), (ka2, .inl (cI, 144, .inl ca2)), (k050, .inl (cI, 36, .inl c050)), (k, .inr (10, [.ref k0, .ref k1, .ref k2, .ref k3, .ref k4, .ref k5, .ref k6, .ref k7, .ref k8, .ref k9, .ref ka, .ref kb, .int cc])), (kb, .inl (cI, 6, .inl scb_44))] := hD
            have hr_42 := w_43
            have hr_42 : r_42 = (-1000000) - r_20 := hr_42
            have lo_r_42 := k_lo r_42
            have hi_r_42 := k_hi r_42
            exact hRet (scb_44, c80, c81) [11, 4, 0, 5, 12, 1, 6, 2, 3, 7, 8, 9, 10] trivial hP hD (by decide +kernel) rfl hS rfl dX10_meeting_53
        · refine lv_aload_n hx hb dX10_meeting_27 rfl (lv_at hl 0 rfl) ?_
          refine lv_iconst (v := 1) hx hb dX10_meeting_28 (by decide +kernel) ?_
          refine kJi (wr := [(k8, .inr (2, [.ref k80, .ref k81])), (ka, .inr (6, [.ref ka0, .ref ka1, .ref ka2])), (k01, .inl (cI, 40, .inl c01)), (k80, .inl (cI, 40, .inl c80)), (k81, .inl (cI, 40, .inl c81)), (ka0, .inl (cI, 4, .inl ca0)), (ka1, .inl (cI, 4, .inl ca1)), (ka2, .inl (cI, 144, .inl ca2)), (k050, .inl (cI, 36, .inl c050)), (k0, .inr (9, [.ref k00, .ref k01, .ref k02, .ref k03, .ref k04, .ref k05, .int c06, .int c07, .int c08])), (k05, .inr (3, [.ref k050, .int c051]))]) (va_runV (As := [.int 1]) (rest := []) ⟨hx, hb, hml, hown, hT⟩ (c_X10_findingG l D cI aK aV k k0 k1 k2 k3 k4 k5 k6 k7 k8 k9 ka kb H.size cc cb 1) (cwV 1 hT (gV_in mw_338 mw_335 mw_337 mw_p1_0 mw_1) rfl rfl rfl (by decide +kernel) ⟨Nat.le_of_ble_eq_true rfl, Nat.le_of_ble_eq_true rfl⟩) (kRecvX (q0 := 10) (ci := 10) hK hP hD hN hXS hS hA rfl rfl [10, 2] rfl (by decide +kernel)) rfl rfl hl.1 rfl (lv_room (Nat.le_of_ble_eq_true rfl)) dX10_meeting_29 ⟨Nat.le_of_ble_eq_true rfl, Nat.le_of_ble_eq_true rfl⟩) hP hD hS hA [10, 2] [0, 1, 3, 4, 5, 6, 7, 8, 9, 11, 12] rfl rfl (by decide +kernel) (by decide +kernel) ?_
          clear hP hD hS
          intro r_45 scb_47 H locs w_46 hP hD hS
          replace hP : va_P D vwCl [(k8, .inr (2, [.ref k80, .ref k81])), (ka, .inr (6, [.ref ka0, .ref ka1, .ref ka2])), (k01, .inl (cI, 40, .inl c01)), (k80, .inl (cI, 40, .inl c80)), (k81, .inl (cI, 40, .inl c81)), (ka0, .inl (cI, 4, .inl ca0)), (ka1, .inl (cI, 4, .inl ca1)), (ka2, .inl (cI, 144, .inl ca2)), (k050, .inl (cI, 36, .inl c050)), (k0, .inr (9, [.ref k00, .ref k01, .ref k02, .ref k03, .ref k04, .ref k05, .int c06, .int c07, .int c08])), (k05, .inr (3, [.ref k050, .int c051])), (k, .inr (10, [.ref k0, .ref k1, .ref k2, .ref k3, .ref k4, .ref k5, .ref k6, .ref k7, .ref k8, .ref k9, .ref ka, .ref kb, .int cc])), (kb, .inl (cI, 6, .inl scb_47))] H := hP
          replace hD : va_D A [(k8, .inr (2, [.ref k80, .ref k81])), (ka, .inr (6, [.ref ka0, .ref ka1, .ref ka2])), (k01, .inl (cI, 40, .inl c01)), (k80, .inl (cI, 40, .inl c80)), (k81, .inl (cI, 40, .inl c81)), (ka0, .inl (cI, 4, .inl ca0)), (ka1, .inl (cI, 4, .inl ca1)), (ka2, .inl (cI, 144, .inl ca2)), (k050, .inl (cI, 36, .inl c050)), (k0, .inr (9, [.ref k00, .ref k01, .ref k02, .ref k03, .ref k04, .ref k05, .int c06, .int c07, .int c08])), (k05, .inr (3, [.ref k050, .int c051])), (k, .inr (10, [.ref k0, .ref k1, .ref k2, .ref k3, .ref k4, .ref k5, .ref k6, .ref k7, .ref k8, .ref k9, .ref ka, .ref kb, .int cc])), (kb, .inl (cI, 6, .inl scb_47))] := hD
          have hr_45 := w_46
          obtain rfl : r_45 = (-1000001) := hr_45.trans (by decide +kernel)
          exact hRet (scb_47, c80, c81) [11, 9, 0, 1, 12, 2, 10, 3, 4, 5, 6, 7, 8] trivial hP hD (by decide +kernel) rfl hS rfl dX10_meeting_32
    · have h_13 : a2.toInt < 0 ∨ 3 < a2.toInt := h_13
      obtain rfl : r_8 = 0 := hr_8.trans (by decide +kernel)
      refine b_if_eq hx hb zl_0 (tgt := 27) dX10_meeting_13 (by decide +kernel) (fun c_48 => ?_) (fun c_48 => by exfalso; omega)
      refine lv_aload_n hx hb dX10_meeting_27 rfl (lv_at hl 0 rfl) ?_
      refine lv_iconst (v := 1) hx hb dX10_meeting_28 (by decide +kernel) ?_
      refine kJi (wr := [(k8, .inr (2, [.ref k80, .ref k81])), (ka, .inr (6, [.ref ka0, .ref ka1, .ref ka2])), (k01, .inl (cI, 40, .inl c01)), (k80, .inl (cI, 40, .inl c80)), (k81, .inl (cI, 40, .inl c81)), (ka0, .inl (cI, 4, .inl ca0)), (ka1, .inl (cI, 4, .inl ca1)), (ka2, .inl (cI, 144, .inl ca2)), (k050, .inl (cI, 36, .inl c050)), (k0, .inr (9, [.ref k00, .ref k01, .ref k02, .ref k03, .ref k04, .ref k05, .int c06, .int c07, .int c08])), (k05, .inr (3, [.ref k050, .int c051]))]) (va_runV (As := [.int 1]) (rest := []) ⟨hx, hb, hml, hown, hT⟩ (c_X10_findingG l D cI aK aV k k0 k1 k2 k3 k4 k5 k6 k7 k8 k9 ka kb H.size cc cb 1) (cwV 1 hT (gV_in mw_338 mw_335 mw_337 mw_p1_0 mw_1) rfl rfl rfl (by decide +kernel) ⟨Nat.le_of_ble_eq_true rfl, Nat.le_of_ble_eq_true rfl⟩) (kRecvX (q0 := 10) (ci := 10) hK hP hD hN hXS hS hA rfl rfl [10, 2] rfl (by decide +kernel)) rfl rfl hl.1 rfl (lv_room (Nat.le_of_ble_eq_true rfl)) dX10_meeting_29 ⟨Nat.le_of_ble_eq_true rfl, Nat.le_of_ble_eq_true rfl⟩) hP hD hS hA [10, 2] [0, 1, 3, 4, 5, 6, 7, 8, 9, 11, 12] rfl rfl (by decide +kernel) (by decide +kernel) ?_
      clear hP hD hS
      intro r_49 scb_51 H locs w_50 hP hD hS
      replace hP : va_P D vwCl [(k8, .inr (2, [.ref k80, .ref k81])), (ka, .inr (6, [.ref ka0, .ref ka1, .ref ka2])), (k01, .inl (cI, 40, .inl c01)), (k80, .inl (cI, 40, .inl c80)), (k81, .inl (cI, 40, .inl c81)), (ka0, .inl (cI, 4, .inl ca0)), (ka1, .inl (cI, 4, .inl ca1)), (ka2, .inl (cI, 144, .inl ca2)), (k050, .inl (cI, 36, .inl c050)), (k0, .inr (9, [.ref k00, .ref k01, .ref k02, .ref k03, .ref k04, .ref k05, .int c06, .int c07, .int c08])), (k05, .inr (3, [.ref k050, .int c051])), (k, .inr (10, [.ref k0, .ref k1, .ref k2, .ref k3, .ref k4, .ref k5, .ref k6, .ref k7, .ref k8, .ref k9, .ref ka, .ref kb, .int cc])), (kb, .inl (cI, 6, .inl scb_51))] H := hP
      replace hD : va_D A [(k8, .inr (2, [.ref k80, .ref k81])), (ka, .inr (6, [.ref ka0, .ref ka1, .ref ka2])), (k01, .inl (cI, 40, .inl c01)), (k80, .inl (cI, 40, .inl c80)), (k81, .inl (cI, 40, .inl c81)), (ka0, .inl (cI, 4, .inl ca0)), (ka1, .inl (cI, 4, .inl ca1)), (ka2, .inl (cI, 144, .inl ca2)), (k050, .inl (cI, 36, .inl c050)), (k0, .inr (9, [.ref k00, .ref k01, .ref k02, .ref k03, .ref k04, .ref k05, .int c06, .int c07, .int c08])), (k05, .inr (3, [.ref k050, .int c051])), (k, .inr (10, [.ref k0, .ref k1, .ref k2, .ref k3, .ref k4, .ref k5, .ref k6, .ref k7, .ref k8, .ref k9, .ref ka, .ref kb, .int cc])), (kb, .inl (cI, 6, .inl scb_51))] := hD
      have hr_49 := w_50
      obtain rfl : r_49 = (-1000001) := hr_49.trans (by decide +kernel)
      exact hRet (scb_51, c80, c81) [11, 9, 0, 1, 12, 2, 10, 3, 4, 5, 6, 7, 8] trivial hP hD (by decide +kernel) rfl hS rfl dX10_meeting_32
theorem bn_cX10_judge_0 : BN cX10_judge 0 0x30055003040054a060b0202c081b93004b70285872015a8ac8a025b874381e238056a2b068056a2b1c8056a2b5694c02b7028ac14015134402b70207584015a83402b5158142c1500a89a2015b81038c200ad41a015a8ac0a165694c02b703858560b00a680e16038dc82025b8783a1c15ab4a6015b814560a00a942028090182c0c00a700c160880534ae00ae43c1800a687c025b874382b := by
  unfold BN; decide +kernel
theorem dX10_judge_0 : decode cX10_judge 0 = .ok (.aload_n 0, 1) := dR0 (k := 0) (i := 0) bn_cX10_judge_0 dop_42 (by decide +kernel)
theorem dX10_judge_1 : decode cX10_judge 1 = .ok (.iload_n 1, 1) := dR0 (k := 0) (i := 1) bn_cX10_judge_0 dop_27 (by decide +kernel)
theorem dX10_judge_2 : decode cX10_judge 2 = .ok (.iload_n 2, 1) := dR0 (k := 0) (i := 2) bn_cX10_judge_0 dop_28 (by decide +kernel)
theorem dX10_judge_3 : decode cX10_judge 3 = .ok (.invokevirtual 317, 3) := dR2 (f := Instr.invokevirtual) (k := 0) (i := 3) bn_cX10_judge_0 dop_182 317 (by decide +kernel)
theorem dX10_judge_6 : decode cX10_judge 6 = .ok (.ifCond .eq 23, 3) := dR2s (f := Instr.ifCond .eq) (k := 0) (i := 6) bn_cX10_judge_0 dop_153 23 23 (by decide +kernel)
theorem dX10_judge_9 : decode cX10_judge 9 = .ok (.iload_n 3, 1) := dR0 (k := 0) (i := 9) bn_cX10_judge_0 dop_29 (by decide +kernel)
theorem dX10_judge_10 : decode cX10_judge 10 = .ok (.invokestatic 173, 3) := dR2 (f := Instr.invokestatic) (k := 0) (i := 10) bn_cX10_judge_0 dop_184 173 (by decide +kernel)
theorem dX10_judge_13 : decode cX10_judge 13 = .ok (.ifCond .eq 16, 3) := dR2s (f := Instr.ifCond .eq) (k := 0) (i := 13) bn_cX10_judge_0 dop_153 16 16 (by decide +kernel)
theorem dX10_judge_16 : decode cX10_judge 16 = .ok (.iload 5, 2) := dR1 (f := Instr.iload) (k := 0) (i := 16) bn_cX10_judge_0 dop_21 5 (by decide +kernel)
theorem dX10_judge_18 : decode cX10_judge 18 = .ok (.ifCond .lt 11, 3) := dR2s (f := Instr.ifCond .lt) (k := 0) (i := 18) bn_cX10_judge_0 dop_155 11 11 (by decide +kernel)
theorem dX10_judge_21 : decode cX10_judge 21 = .ok (.iload 5, 2) := dR1 (f := Instr.iload) (k := 0) (i := 21) bn_cX10_judge_0 dop_21 5 (by decide +kernel)
theorem dX10_judge_23 : decode cX10_judge 23 = .ok (.sipush 9999, 3) := dR2s (f := Instr.sipush) (k := 0) (i := 23) bn_cX10_judge_0 dop_17 9999 9999 (by decide +kernel)
theorem dX10_judge_26 : decode cX10_judge 26 = .ok (.if_icmp .le 9, 3) := dR2s (f := Instr.if_icmp .le) (k := 0) (i := 26) bn_cX10_judge_0 dop_164 9 9 (by decide +kernel)
theorem dX10_judge_29 : decode cX10_judge 29 = .ok (.aload_n 0, 1) := dR0 (k := 0) (i := 29) bn_cX10_judge_0 dop_42 (by decide +kernel)
theorem dX10_judge_30 : decode cX10_judge 30 = .ok (.iconst 1, 1) := dR0 (k := 0) (i := 30) bn_cX10_judge_0 dop_4 (by decide +kernel)
theorem dX10_judge_31 : decode cX10_judge 31 = .ok (.invokevirtual 82, 3) := dR2 (f := Instr.invokevirtual) (k := 0) (i := 31) bn_cX10_judge_0 dop_182 82 (by decide +kernel)
theorem dX10_judge_34 : decode cX10_judge 34 = .ok (.ireturn, 1) := dR0 (k := 0) (i := 34) bn_cX10_judge_0 dop_172 (by decide +kernel)
theorem dX10_judge_35 : decode cX10_judge 35 = .ok (.aload_n 0, 1) := dR0 (k := 0) (i := 35) bn_cX10_judge_0 dop_42 (by decide +kernel)
theorem dX10_judge_36 : decode cX10_judge 36 = .ok (.iload_n 1, 1) := dR0 (k := 0) (i := 36) bn_cX10_judge_0 dop_27 (by decide +kernel)
theorem dX10_judge_37 : decode cX10_judge 37 = .ok (.iload_n 2, 1) := dR0 (k := 0) (i := 37) bn_cX10_judge_0 dop_28 (by decide +kernel)
theorem dX10_judge_38 : decode cX10_judge 38 = .ok (.iload_n 3, 1) := dR0 (k := 0) (i := 38) bn_cX10_judge_0 dop_29 (by decide +kernel)
theorem dX10_judge_39 : decode cX10_judge 39 = .ok (.invokevirtual 320, 3) := dR2 (f := Instr.invokevirtual) (k := 0) (i := 39) bn_cX10_judge_0 dop_182 320 (by decide +kernel)
theorem dX10_judge_42 : decode cX10_judge 42 = .ok (.istore 6, 2) := dR1 (f := Instr.istore) (k := 0) (i := 42) bn_cX10_judge_0 dop_54 6 (by decide +kernel)
theorem dX10_judge_44 : decode cX10_judge 44 = .ok (.iload 6, 2) := dR1 (f := Instr.iload) (k := 0) (i := 44) bn_cX10_judge_0 dop_21 6 (by decide +kernel)
theorem dX10_judge_46 : decode cX10_judge 46 = .ok (.ifCond .eq 10, 3) := dR2s (f := Instr.ifCond .eq) (k := 0) (i := 46) bn_cX10_judge_0 dop_153 10 10 (by decide +kernel)
theorem dX10_judge_49 : decode cX10_judge 49 = .ok (.aload_n 0, 1) := dR0 (k := 0) (i := 49) bn_cX10_judge_0 dop_42 (by decide +kernel)
theorem dX10_judge_50 : decode cX10_judge 50 = .ok (.iload 6, 2) := dR1 (f := Instr.iload) (k := 0) (i := 50) bn_cX10_judge_0 dop_21 6 (by decide +kernel)
theorem dX10_judge_52 : decode cX10_judge 52 = .ok (.invokevirtual 82, 3) := dR2 (f := Instr.invokevirtual) (k := 0) (i := 52) bn_cX10_judge_0 dop_182 82 (by decide +kernel)
theorem dX10_judge_55 : decode cX10_judge 55 = .ok (.ireturn, 1) := dR0 (k := 0) (i := 55) bn_cX10_judge_0 dop_172 (by decide +kernel)
theorem dX10_judge_56 : decode cX10_judge 56 = .ok (.iload 4, 2) := dR1 (f := Instr.iload) (k := 0) (i := 56) bn_cX10_judge_0 dop_21 4 (by decide +kernel)
theorem dX10_judge_58 : decode cX10_judge 58 = .ok (.aload_n 0, 1) := dR0 (k := 0) (i := 58) bn_cX10_judge_0 dop_42 (by decide +kernel)
theorem dX10_judge_59 : decode cX10_judge 59 = .ok (.getfield 12, 3) := dR2 (f := Instr.getfield) (k := 0) (i := 59) bn_cX10_judge_0 dop_180 12 (by decide +kernel)
theorem dX10_judge_62 : decode cX10_judge 62 = .ok (.getfield 193, 3) := dR2 (f := Instr.getfield) (k := 0) (i := 62) bn_cX10_judge_0 dop_180 193 (by decide +kernel)
theorem dX10_judge_65 : decode cX10_judge 65 = .ok (.iload_n 1, 1) := dR0 (k := 0) (i := 65) bn_cX10_judge_0 dop_27 (by decide +kernel)
theorem dX10_judge_66 : decode cX10_judge 66 = .ok (.iconst 0, 1) := dR0 (k := 0) (i := 66) bn_cX10_judge_0 dop_3 (by decide +kernel)
theorem dX10_judge_67 : decode cX10_judge 67 = .ok (.invokevirtual 208, 3) := dR2 (f := Instr.invokevirtual) (k := 0) (i := 67) bn_cX10_judge_0 dop_182 208 (by decide +kernel)
theorem dX10_judge_70 : decode cX10_judge 70 = .ok (.if_icmp .lt 20, 3) := dR2s (f := Instr.if_icmp .lt) (k := 0) (i := 70) bn_cX10_judge_0 dop_161 20 20 (by decide +kernel)
theorem dX10_judge_73 : decode cX10_judge 73 = .ok (.iload 4, 2) := dR1 (f := Instr.iload) (k := 0) (i := 73) bn_cX10_judge_0 dop_21 4 (by decide +kernel)
theorem dX10_judge_75 : decode cX10_judge 75 = .ok (.aload_n 0, 1) := dR0 (k := 0) (i := 75) bn_cX10_judge_0 dop_42 (by decide +kernel)
theorem dX10_judge_76 : decode cX10_judge 76 = .ok (.getfield 12, 3) := dR2 (f := Instr.getfield) (k := 0) (i := 76) bn_cX10_judge_0 dop_180 12 (by decide +kernel)
theorem dX10_judge_79 : decode cX10_judge 79 = .ok (.getfield 193, 3) := dR2 (f := Instr.getfield) (k := 0) (i := 79) bn_cX10_judge_0 dop_180 193 (by decide +kernel)
theorem dX10_judge_82 : decode cX10_judge 82 = .ok (.iload_n 2, 1) := dR0 (k := 0) (i := 82) bn_cX10_judge_0 dop_28 (by decide +kernel)
theorem dX10_judge_83 : decode cX10_judge 83 = .ok (.iconst 0, 1) := dR0 (k := 0) (i := 83) bn_cX10_judge_0 dop_3 (by decide +kernel)
theorem dX10_judge_84 : decode cX10_judge 84 = .ok (.invokevirtual 208, 3) := dR2 (f := Instr.invokevirtual) (k := 0) (i := 84) bn_cX10_judge_0 dop_182 208 (by decide +kernel)
theorem dX10_judge_87 : decode cX10_judge 87 = .ok (.if_icmp .lt 9, 3) := dR2s (f := Instr.if_icmp .lt) (k := 0) (i := 87) bn_cX10_judge_0 dop_161 9 9 (by decide +kernel)
theorem dX10_judge_90 : decode cX10_judge 90 = .ok (.aload_n 0, 1) := dR0 (k := 0) (i := 90) bn_cX10_judge_0 dop_42 (by decide +kernel)
theorem dX10_judge_91 : decode cX10_judge 91 = .ok (.iconst 1, 1) := dR0 (k := 0) (i := 91) bn_cX10_judge_0 dop_4 (by decide +kernel)
theorem dX10_judge_92 : decode cX10_judge 92 = .ok (.invokevirtual 82, 3) := dR2 (f := Instr.invokevirtual) (k := 0) (i := 92) bn_cX10_judge_0 dop_182 82 (by decide +kernel)
theorem dX10_judge_95 : decode cX10_judge 95 = .ok (.ireturn, 1) := dR0 (k := 0) (i := 95) bn_cX10_judge_0 dop_172 (by decide +kernel)
theorem dX10_judge_96 : decode cX10_judge 96 = .ok (.aload_n 0, 1) := dR0 (k := 0) (i := 96) bn_cX10_judge_0 dop_42 (by decide +kernel)
theorem dX10_judge_97 : decode cX10_judge 97 = .ok (.getfield 56, 3) := dR2 (f := Instr.getfield) (k := 0) (i := 97) bn_cX10_judge_0 dop_180 56 (by decide +kernel)
theorem dX10_judge_100 : decode cX10_judge 100 = .ok (.aload_n 0, 1) := dR0 (k := 0) (i := 100) bn_cX10_judge_0 dop_42 (by decide +kernel)
theorem dX10_judge_101 : decode cX10_judge 101 = .ok (.getfield 12, 3) := dR2 (f := Instr.getfield) (k := 0) (i := 101) bn_cX10_judge_0 dop_180 12 (by decide +kernel)
theorem dX10_judge_104 : decode cX10_judge 104 = .ok (.aload_n 0, 1) := dR0 (k := 0) (i := 104) bn_cX10_judge_0 dop_42 (by decide +kernel)
theorem dX10_judge_105 : decode cX10_judge 105 = .ok (.getfield 70, 3) := dR2 (f := Instr.getfield) (k := 0) (i := 105) bn_cX10_judge_0 dop_180 70 (by decide +kernel)
theorem dX10_judge_108 : decode cX10_judge 108 = .ok (.iload_n 3, 1) := dR0 (k := 0) (i := 108) bn_cX10_judge_0 dop_29 (by decide +kernel)
theorem dX10_judge_109 : decode cX10_judge 109 = .ok (.iload_n 1, 1) := dR0 (k := 0) (i := 109) bn_cX10_judge_0 dop_27 (by decide +kernel)
theorem dX10_judge_110 : decode cX10_judge 110 = .ok (.iload_n 2, 1) := dR0 (k := 0) (i := 110) bn_cX10_judge_0 dop_28 (by decide +kernel)
theorem dX10_judge_111 : decode cX10_judge 111 = .ok (.invokevirtual 324, 3) := dR2 (f := Instr.invokevirtual) (k := 0) (i := 111) bn_cX10_judge_0 dop_182 324 (by decide +kernel)
theorem dX10_judge_114 : decode cX10_judge 114 = .ok (.aload_n 0, 1) := dR0 (k := 0) (i := 114) bn_cX10_judge_0 dop_42 (by decide +kernel)
theorem dX10_judge_115 : decode cX10_judge 115 = .ok (.getfield 56, 3) := dR2 (f := Instr.getfield) (k := 0) (i := 115) bn_cX10_judge_0 dop_180 56 (by decide +kernel)
theorem dX10_judge_118 : decode cX10_judge 118 = .ok (.iload 4, 2) := dR1 (f := Instr.iload) (k := 0) (i := 118) bn_cX10_judge_0 dop_21 4 (by decide +kernel)
theorem dX10_judge_120 : decode cX10_judge 120 = .ok (.invokevirtual 331, 3) := dR2 (f := Instr.invokevirtual) (k := 0) (i := 120) bn_cX10_judge_0 dop_182 331 (by decide +kernel)
theorem dX10_judge_123 : decode cX10_judge 123 = .ok (.istore 7, 2) := dR1 (f := Instr.istore) (k := 0) (i := 123) bn_cX10_judge_0 dop_54 7 (by decide +kernel)
theorem dX10_judge_125 : decode cX10_judge 125 = .ok (.iload 7, 2) := dR1 (f := Instr.iload) (k := 0) (i := 125) bn_cX10_judge_0 dop_21 7 (by decide +kernel)
theorem dX10_judge_127 : decode cX10_judge 127 = .ok (.iload 5, 2) := dR1 (f := Instr.iload) (k := 0) (i := 127) bn_cX10_judge_0 dop_21 5 (by decide +kernel)
theorem bn_cX10_judge_128 : BN cX10_judge 128 0x2b41016030055003040054a06 := by
  unfold BN; decide +kernel
theorem dX10_judge_129 : decode cX10_judge 129 = .ok (.if_icmp .le 7, 3) := dR2s (f := Instr.if_icmp .le) (k := 128) (i := 1) bn_cX10_judge_128 dop_164 7 7 (by decide +kernel)
theorem dX10_judge_132 : decode cX10_judge 132 = .ok (.iconst (-1), 1) := dR0 (k := 128) (i := 4) bn_cX10_judge_128 dop_2 (by decide +kernel)
theorem dX10_judge_133 : decode cX10_judge 133 = .ok (.goto 5, 3) := dR2s (f := Instr.goto) (k := 128) (i := 5) bn_cX10_judge_128 dop_167 5 5 (by decide +kernel)
theorem dX10_judge_136 : decode cX10_judge 136 = .ok (.iload 7, 2) := dR1 (f := Instr.iload) (k := 128) (i := 8) bn_cX10_judge_128 dop_21 7 (by decide +kernel)
theorem dX10_judge_138 : decode cX10_judge 138 = .ok (.ireturn, 1) := dR0 (k := 128) (i := 10) bn_cX10_judge_128 dop_172 (by decide +kernel)
set_option maxHeartbeats 4000000 in
set_option maxRecDepth 100000 in
theorem c_X10_judgeG (l : Launch) (D : va_G) (cI : ClassId) (aK aV : Nat → Nat) (k k0 k1 k2 k3 k4 k5 k6 k7 k8 k9 ka kb k00 k01 k02 k03 k04 k05 k80 k81 ka0 ka1 ka2 k050 : Nat) (sz : Nat) (cc : Int32) (c06 : Int32) (c07 : Int32) (c08 : Int32) (cb : Nat → Int32) (c01 : Nat → Int32) (c051 : Int32) (c80 : Nat → Int32) (c81 : Nat → Int32) (ca0 : Nat → Int32) (ca1 : Nat → Int32) (ca2 : Nat → Int32) (c050 : Nat → Int32) (a0 : Int32) (a1 : Int32) (a2 : Int32) (a3 : Int32) (a4 : Int32) (pre0 : ∀ k : Nat, k < 4 → 0 ≤ (ca1 k).toInt ∧ (ca1 k).toInt ≤ 36) : Met l yX10_judge (gW yX10_judge cX10_judge 8 (some .int)) ({ frames := 6, cells := 0, slots := 0, locals := 143 } : Room) (kPreX D cI aK aV [.ref k, .int a0, .int a1, .int a2, .int a3, .int a4] [(k, .inr (10, [.ref k0, .ref k1, .ref k2, .ref k3, .ref k4, .ref k5, .ref k6, .ref k7, .ref k8, .ref k9, .ref ka, .ref kb, .int cc])), (k0, .inr (9, [.ref k00, .ref k01, .ref k02, .ref k03, .ref k04, .ref k05, .int c06, .int c07, .int c08])), (k8, .inr (2, [.ref k80, .ref k81])), (ka, .inr (6, [.ref ka0, .ref ka1, .ref ka2])), (kb, .inl (cI, 6, .inl cb)), (k01, .inl (cI, 40, .inl c01)), (k05, .inr (3, [.ref k050, .int c051])), (k80, .inl (cI, 40, .inl c80)), (k81, .inl (cI, 40, .inl c81)), (ka0, .inl (cI, 4, .inl ca0)), (ka1, .inl (cI, 4, .inl ca1)), (ka2, .inl (cI, 144, .inl ca2)), (k050, .inl (cI, 36, .inl c050))] sz) (va_Qi (fun (r : Int32) (u : (Nat → Int32) × (Nat → Int32) × (Nat → Int32)) => True) (fun u t => kWd D cI (va_A [(k, .inr (10, [.ref k0, .ref k1, .ref k2, .ref k3, .ref k4, .ref k5, .ref k6, .ref k7, .ref k8, .ref k9, .ref ka, .ref kb, .int cc])), (k0, .inr (9, [.ref k00, .ref k01, .ref k02, .ref k03, .ref k04, .ref k05, .int c06, .int c07, .int c08])), (k8, .inr (2, [.ref k80, .ref k81])), (ka, .inr (6, [.ref ka0, .ref ka1, .ref ka2])), (kb, .inl (cI, 6, .inl cb)), (k01, .inl (cI, 40, .inl c01)), (k05, .inr (3, [.ref k050, .int c051])), (k80, .inl (cI, 40, .inl c80)), (k81, .inl (cI, 40, .inl c81)), (ka0, .inl (cI, 4, .inl ca0)), (ka1, .inl (cI, 4, .inl ca1)), (ka2, .inl (cI, 144, .inl ca2)), (k050, .inl (cI, 36, .inl c050))] sz) [(k, .inr (10, [.ref k0, .ref k1, .ref k2, .ref k3, .ref k4, .ref k5, .ref k6, .ref k7, .ref k8, .ref k9, .ref ka, .ref kb, .int cc])), (k0, .inr (9, [.ref k00, .ref k01, .ref k02, .ref k03, .ref k04, .ref k05, .int c06, .int c07, .int c08])), (k8, .inr (2, [.ref k80, .ref k81])), (ka, .inr (6, [.ref ka0, .ref ka1, .ref ka2])), (kb, .inl (cI, 6, .inl u.1)), (k01, .inl (cI, 40, .inl c01)), (k05, .inr (3, [.ref k050, .int c051])), (k80, .inl (cI, 40, .inl u.2.1)), (k81, .inl (cI, 40, .inl u.2.2)), (ka0, .inl (cI, 4, .inl ca0)), (ka1, .inl (cI, 4, .inl ca1)), (ka2, .inl (cI, 144, .inl ca2)), (k050, .inl (cI, 36, .inl c050))] t) (va_A [(k, .inr (10, [.ref k0, .ref k1, .ref k2, .ref k3, .ref k4, .ref k5, .ref k6, .ref k7, .ref k8, .ref k9, .ref ka, .ref kb, .int cc])), (k0, .inr (9, [.ref k00, .ref k01, .ref k02, .ref k03, .ref k04, .ref k05, .int c06, .int c07, .int c08])), (k8, .inr (2, [.ref k80, .ref k81])), (ka, .inr (6, [.ref ka0, .ref ka1, .ref ka2])), (kb, .inl (cI, 6, .inl cb)), (k01, .inl (cI, 40, .inl c01)), (k05, .inr (3, [.ref k050, .int c051])), (k80, .inl (cI, 40, .inl c80)), (k81, .inl (cI, 40, .inl c81)), (ka0, .inl (cI, 4, .inl ca0)), (ka1, .inl (cI, 4, .inl ca1)), (ka2, .inl (cI, 144, .inl ca2)), (k050, .inl (cI, 36, .inl c050))] sz)) 0 0 (va_A [(k, .inr (10, [.ref k0, .ref k1, .ref k2, .ref k3, .ref k4, .ref k5, .ref k6, .ref k7, .ref k8, .ref k9, .ref ka, .ref kb, .int cc])), (k0, .inr (9, [.ref k00, .ref k01, .ref k02, .ref k03, .ref k04, .ref k05, .int c06, .int c07, .int c08])), (k8, .inr (2, [.ref k80, .ref k81])), (ka, .inr (6, [.ref ka0, .ref ka1, .ref ka2])), (kb, .inl (cI, 6, .inl cb)), (k01, .inl (cI, 40, .inl c01)), (k05, .inr (3, [.ref k050, .int c051])), (k80, .inl (cI, 40, .inl c80)), (k81, .inl (cI, 40, .inl c81)), (ka0, .inl (cI, 4, .inl ca0)), (ka1, .inl (cI, 4, .inl ca1)), (ka2, .inl (cI, 144, .inl ca2)), (k050, .inl (cI, 36, .inl c050))] sz) := by
  refine kMetIX (own := RX10) (by decide +kernel) rfl (Nat.le_of_ble_eq_true rfl) ?_
  intro p e s m args below meth c hx hb hT hown hname hml A Q hK hP hD hS hA hN hXS hRet ls hl
  have hl : lv_has ls 8 [(0, .ref k), (1, .int a0), (2, .int a1), (3, .int a2), (4, .int a3), (5, .int a4)] := hl
  have lo_a0 := k_lo a0
  have hi_a0 := k_hi a0
  have lo_a1 := k_lo a1
  have hi_a1 := k_hi a1
  have lo_a2 := k_lo a2
  have hi_a2 := k_hi a2
  have lo_a3 := k_lo a3
  have hi_a3 := k_hi a3
  have lo_a4 := k_lo a4
  have hi_a4 := k_hi a4
  refine lv_aload_n hx hb dX10_judge_0 rfl (lv_at hl 0 rfl) ?_
  refine lv_iload_n hx hb dX10_judge_1 rfl (lv_at hl 1 rfl) ?_
  refine lv_iload_n hx hb dX10_judge_2 rfl (lv_at hl 2 rfl) ?_
  refine kJi (wr := [(k8, .inr (2, [.ref k80, .ref k81])), (ka, .inr (6, [.ref ka0, .ref ka1, .ref ka2])), (kb, .inl (cI, 6, .inl cb)), (k01, .inl (cI, 40, .inl c01)), (k80, .inl (cI, 40, .inl c80)), (k81, .inl (cI, 40, .inl c81)), (ka0, .inl (cI, 4, .inl ca0)), (ka1, .inl (cI, 4, .inl ca1)), (ka2, .inl (cI, 144, .inl ca2)), (k050, .inl (cI, 36, .inl c050))]) (va_runV (As := [.int a0, .int a1]) (rest := []) ⟨hx, hb, hml, hown, hT⟩ (c_X10_arePartiesG l D cI aK aV k k0 k1 k2 k3 k4 k5 k6 k7 k8 k9 ka kb k00 k01 k02 k03 k04 k05 k050 s.heap.size cc c06 c07 c08 c051 a0 a1) (cwV 2 hT (gV_in mw_923 mw_920 mw_922 mw_p2_13 mw_1) rfl rfl rfl (by decide +kernel) ⟨Nat.le_of_ble_eq_true rfl, Nat.le_of_ble_eq_true rfl⟩) (kRecvX (q0 := 0) (ci := 10) hK hP hD hN hXS hS hA rfl rfl [0, 1, 6] rfl (by decide +kernel)) rfl rfl hl.1 rfl (lv_room (Nat.le_of_ble_eq_true rfl)) dX10_judge_3 ⟨Nat.le_of_ble_eq_true rfl, Nat.le_of_ble_eq_true rfl⟩) hP hD hS hA [0, 1, 6] [2, 3, 4, 5, 7, 8, 9, 10, 11, 12] rfl rfl (by decide +kernel) (by decide +kernel) ?_
  clear hP hD hS
  intro r_1 u_3 H locs w_2 hP hD hS
  replace hP : va_P D vwCl [(k8, .inr (2, [.ref k80, .ref k81])), (ka, .inr (6, [.ref ka0, .ref ka1, .ref ka2])), (kb, .inl (cI, 6, .inl cb)), (k01, .inl (cI, 40, .inl c01)), (k80, .inl (cI, 40, .inl c80)), (k81, .inl (cI, 40, .inl c81)), (ka0, .inl (cI, 4, .inl ca0)), (ka1, .inl (cI, 4, .inl ca1)), (ka2, .inl (cI, 144, .inl ca2)), (k050, .inl (cI, 36, .inl c050)), (k, .inr (10, [.ref k0, .ref k1, .ref k2, .ref k3, .ref k4, .ref k5, .ref k6, .ref k7, .ref k8, .ref k9, .ref ka, .ref kb, .int cc])), (k0, .inr (9, [.ref k00, .ref k01, .ref k02, .ref k03, .ref k04, .ref k05, .int c06, .int c07, .int c08])), (k05, .inr (3, [.ref k050, .int c051]))] H := hP
  replace hD : va_D A [(k8, .inr (2, [.ref k80, .ref k81])), (ka, .inr (6, [.ref ka0, .ref ka1, .ref ka2])), (kb, .inl (cI, 6, .inl cb)), (k01, .inl (cI, 40, .inl c01)), (k80, .inl (cI, 40, .inl c80)), (k81, .inl (cI, 40, .inl c81)), (ka0, .inl (cI, 4, .inl ca0)), (ka1, .inl (cI, 4, .inl ca1)), (ka2, .inl (cI, 144, .inl ca2)), (k050, .inl (cI, 36, .inl c050)), (k, .inr (10, [.ref k0, .ref k1, .ref k2, .ref k3, .ref k4, .ref k5, .ref k6, .ref k7, .ref k8, .ref k9, .ref ka, .ref kb, .int cc])), (k0, .inr (9, [.ref k00, .ref k01, .ref k02, .ref k03, .ref k04, .ref k05, .int c06, .int c07, .int c08])), (k05, .inr (3, [.ref k050, .int c051]))] := hD
  have lo_r_1 := k_lo r_1
  have hi_r_1 := k_hi r_1
  refine b_if_eq hx hb rfl (tgt := 29) dX10_judge_6 (by decide +kernel) (fun c_4 => ?_) (fun c_4 => ?_)
  · refine lv_aload_n hx hb dX10_judge_29 rfl (lv_at hl 0 rfl) ?_
    refine lv_iconst (v := 1) hx hb dX10_judge_30 (by decide +kernel) ?_
    refine kJi (wr := [(k8, .inr (2, [.ref k80, .ref k81])), (ka, .inr (6, [.ref ka0, .ref ka1, .ref ka2])), (k01, .inl (cI, 40, .inl c01)), (k80, .inl (cI, 40, .inl c80)), (k81, .inl (cI, 40, .inl c81)), (ka0, .inl (cI, 4, .inl ca0)), (ka1, .inl (cI, 4, .inl ca1)), (ka2, .inl (cI, 144, .inl ca2)), (k050, .inl (cI, 36, .inl c050)), (k0, .inr (9, [.ref k00, .ref k01, .ref k02, .ref k03, .ref k04, .ref k05, .int c06, .int c07, .int c08])), (k05, .inr (3, [.ref k050, .int c051]))]) (va_runV (As := [.int 1]) (rest := []) ⟨hx, hb, hml, hown, hT⟩ (c_X10_findingG l D cI aK aV k k0 k1 k2 k3 k4 k5 k6 k7 k8 k9 ka kb H.size cc cb 1) (cwV 1 hT (gV_in mw_338 mw_335 mw_337 mw_p1_0 mw_1) rfl rfl rfl (by decide +kernel) ⟨Nat.le_of_ble_eq_true rfl, Nat.le_of_ble_eq_true rfl⟩) (kRecvX (q0 := 10) (ci := 10) hK hP hD hN hXS hS hA rfl rfl [10, 2] rfl (by decide +kernel)) rfl rfl hl.1 rfl (lv_room (Nat.le_of_ble_eq_true rfl)) dX10_judge_31 ⟨Nat.le_of_ble_eq_true rfl, Nat.le_of_ble_eq_true rfl⟩) hP hD hS hA [10, 2] [0, 1, 3, 4, 5, 6, 7, 8, 9, 11, 12] rfl rfl (by decide +kernel) (by decide +kernel) ?_
    clear hP hD hS
    intro r_5 scb_7 H locs w_6 hP hD hS
    replace hP : va_P D vwCl [(k8, .inr (2, [.ref k80, .ref k81])), (ka, .inr (6, [.ref ka0, .ref ka1, .ref ka2])), (k01, .inl (cI, 40, .inl c01)), (k80, .inl (cI, 40, .inl c80)), (k81, .inl (cI, 40, .inl c81)), (ka0, .inl (cI, 4, .inl ca0)), (ka1, .inl (cI, 4, .inl ca1)), (ka2, .inl (cI, 144, .inl ca2)), (k050, .inl (cI, 36, .inl c050)), (k0, .inr (9, [.ref k00, .ref k01, .ref k02, .ref k03, .ref k04, .ref k05, .int c06, .int c07, .int c08])), (k05, .inr (3, [.ref k050, .int c051])), (k, .inr (10, [.ref k0, .ref k1, .ref k2, .ref k3, .ref k4, .ref k5, .ref k6, .ref k7, .ref k8, .ref k9, .ref ka, .ref kb, .int cc])), (kb, .inl (cI, 6, .inl scb_7))] H := hP
    replace hD : va_D A [(k8, .inr (2, [.ref k80, .ref k81])), (ka, .inr (6, [.ref ka0, .ref ka1, .ref ka2])), (k01, .inl (cI, 40, .inl c01)), (k80, .inl (cI, 40, .inl c80)), (k81, .inl (cI, 40, .inl c81)), (ka0, .inl (cI, 4, .inl ca0)), (ka1, .inl (cI, 4, .inl ca1)), (ka2, .inl (cI, 144, .inl ca2)), (k050, .inl (cI, 36, .inl c050)), (k0, .inr (9, [.ref k00, .ref k01, .ref k02, .ref k03, .ref k04, .ref k05, .int c06, .int c07, .int c08])), (k05, .inr (3, [.ref k050, .int c051])), (k, .inr (10, [.ref k0, .ref k1, .ref k2, .ref k3, .ref k4, .ref k5, .ref k6, .ref k7, .ref k8, .ref k9, .ref ka, .ref kb, .int cc])), (kb, .inl (cI, 6, .inl scb_7))] := hD
    have hr_5 := w_6
    obtain rfl : r_5 = (-1000001) := hr_5.trans (by decide +kernel)
    exact hRet (scb_7, c80, c81) [11, 9, 0, 1, 12, 2, 10, 3, 4, 5, 6, 7, 8] trivial hP hD (by decide +kernel) rfl hS rfl dX10_judge_34
  · refine lv_iload_n hx hb dX10_judge_9 rfl (lv_at hl 3 rfl) ?_
    refine kJi (wr := [(k8, .inr (2, [.ref k80, .ref k81])), (ka, .inr (6, [.ref ka0, .ref ka1, .ref ka2])), (kb, .inl (cI, 6, .inl cb)), (k01, .inl (cI, 40, .inl c01)), (k80, .inl (cI, 40, .inl c80)), (k81, .inl (cI, 40, .inl c81)), (ka0, .inl (cI, 4, .inl ca0)), (ka1, .inl (cI, 4, .inl ca1)), (ka2, .inl (cI, 144, .inl ca2)), (k050, .inl (cI, 36, .inl c050)), (k, .inr (10, [.ref k0, .ref k1, .ref k2, .ref k3, .ref k4, .ref k5, .ref k6, .ref k7, .ref k8, .ref k9, .ref ka, .ref kb, .int cc])), (k0, .inr (9, [.ref k00, .ref k01, .ref k02, .ref k03, .ref k04, .ref k05, .int c06, .int c07, .int c08])), (k05, .inr (3, [.ref k050, .int c051]))]) (va_runS (As := [.int a2]) (rest := []) ⟨hx, hb, hml, hown, hT⟩ (c_X10_isSheetG l D cI aK aV H.size a2) (cwS 1 hT (gS_in mw_662 mw_660 mw_661 mw_1) rfl rfl rfl (by decide +kernel) ⟨Nat.le_of_ble_eq_true rfl, Nat.le_of_ble_eq_true rfl⟩) (kStatX hK hP hD hN hXS hS hA [] rfl (by decide +kernel)) rfl rfl hl.1 rfl (lv_room (Nat.le_of_ble_eq_true rfl)) dX10_judge_10 ⟨Nat.le_of_ble_eq_true rfl, Nat.le_of_ble_eq_true rfl⟩) hP hD hS hA [] [0, 1, 2, 3, 4, 5, 6, 7, 8, 9, 10, 11, 12] rfl rfl (by decide +kernel) (by decide +kernel) ?_
    clear hP hD hS
    intro r_8 u_10 H locs w_9 hP hD hS
    replace hP : va_P D vwCl [(k8, .inr (2, [.ref k80, .ref k81])), (ka, .inr (6, [.ref ka0, .ref ka1, .ref ka2])), (kb, .inl (cI, 6, .inl cb)), (k01, .inl (cI, 40, .inl c01)), (k80, .inl (cI, 40, .inl c80)), (k81, .inl (cI, 40, .inl c81)), (ka0, .inl (cI, 4, .inl ca0)), (ka1, .inl (cI, 4, .inl ca1)), (ka2, .inl (cI, 144, .inl ca2)), (k050, .inl (cI, 36, .inl c050)), (k, .inr (10, [.ref k0, .ref k1, .ref k2, .ref k3, .ref k4, .ref k5, .ref k6, .ref k7, .ref k8, .ref k9, .ref ka, .ref kb, .int cc])), (k0, .inr (9, [.ref k00, .ref k01, .ref k02, .ref k03, .ref k04, .ref k05, .int c06, .int c07, .int c08])), (k05, .inr (3, [.ref k050, .int c051]))] H := hP
    replace hD : va_D A [(k8, .inr (2, [.ref k80, .ref k81])), (ka, .inr (6, [.ref ka0, .ref ka1, .ref ka2])), (kb, .inl (cI, 6, .inl cb)), (k01, .inl (cI, 40, .inl c01)), (k80, .inl (cI, 40, .inl c80)), (k81, .inl (cI, 40, .inl c81)), (ka0, .inl (cI, 4, .inl ca0)), (ka1, .inl (cI, 4, .inl ca1)), (ka2, .inl (cI, 144, .inl ca2)), (k050, .inl (cI, 36, .inl c050)), (k, .inr (10, [.ref k0, .ref k1, .ref k2, .ref k3, .ref k4, .ref k5, .ref k6, .ref k7, .ref k8, .ref k9, .ref ka, .ref kb, .int cc])), (k0, .inr (9, [.ref k00, .ref k01, .ref k02, .ref k03, .ref k04, .ref k05, .int c06, .int c07, .int c08])), (k05, .inr (3, [.ref k050, .int c051]))] := hD
    rcases w_9 with ⟨hr_8, h_11, h_12⟩ | ⟨hr_8, h_13⟩
    · have h_11 : 0 ≤ a2.toInt := h_11
      have h_12 : a2.toInt ≤ 3 := h_12
      obtain rfl : r_8 = 1 := hr_8.trans (by decide +kernel)
      refine b_if_eq hx hb zl_1 (tgt := 29) dX10_judge_13 (by decide +kernel) (fun c_14 => by exfalso; omega) (fun c_14 => ?_)
      refine lv_iload hx hb dX10_judge_16 (lv_at hl 5 rfl) ?_
      refine b_if_lt hx hb rfl (tgt := 29) dX10_judge_18 (by decide +kernel) (fun c_15 => ?_) (fun c_15 => ?_)
      · refine lv_aload_n hx hb dX10_judge_29 rfl (lv_at hl 0 rfl) ?_
        refine lv_iconst (v := 1) hx hb dX10_judge_30 (by decide +kernel) ?_
        refine kJi (wr := [(k8, .inr (2, [.ref k80, .ref k81])), (ka, .inr (6, [.ref ka0, .ref ka1, .ref ka2])), (k01, .inl (cI, 40, .inl c01)), (k80, .inl (cI, 40, .inl c80)), (k81, .inl (cI, 40, .inl c81)), (ka0, .inl (cI, 4, .inl ca0)), (ka1, .inl (cI, 4, .inl ca1)), (ka2, .inl (cI, 144, .inl ca2)), (k050, .inl (cI, 36, .inl c050)), (k0, .inr (9, [.ref k00, .ref k01, .ref k02, .ref k03, .ref k04, .ref k05, .int c06, .int c07, .int c08])), (k05, .inr (3, [.ref k050, .int c051]))]) (va_runV (As := [.int 1]) (rest := []) ⟨hx, hb, hml, hown, hT⟩ (c_X10_findingG l D cI aK aV k k0 k1 k2 k3 k4 k5 k6 k7 k8 k9 ka kb H.size cc cb 1) (cwV 1 hT (gV_in mw_338 mw_335 mw_337 mw_p1_0 mw_1) rfl rfl rfl (by decide +kernel) ⟨Nat.le_of_ble_eq_true rfl, Nat.le_of_ble_eq_true rfl⟩) (kRecvX (q0 := 10) (ci := 10) hK hP hD hN hXS hS hA rfl rfl [10, 2] rfl (by decide +kernel)) rfl rfl hl.1 rfl (lv_room (Nat.le_of_ble_eq_true rfl)) dX10_judge_31 ⟨Nat.le_of_ble_eq_true rfl, Nat.le_of_ble_eq_true rfl⟩) hP hD hS hA [10, 2] [0, 1, 3, 4, 5, 6, 7, 8, 9, 11, 12] rfl rfl (by decide +kernel) (by decide +kernel) ?_
        clear hP hD hS
        intro r_16 scb_18 H locs w_17 hP hD hS
        replace hP : va_P D vwCl [(k8, .inr (2, [.ref k80, .ref k81])), (ka, .inr (6, [.ref ka0, .ref ka1, .ref ka2])), (k01, .inl (cI, 40, .inl c01)), (k80, .inl (cI, 40, .inl c80)), (k81, .inl (cI, 40, .inl c81)), (ka0, .inl (cI, 4, .inl ca0)), (ka1, .inl (cI, 4, .inl ca1)), (ka2, .inl (cI, 144, .inl ca2)), (k050, .inl (cI, 36, .inl c050)), (k0, .inr (9, [.ref k00, .ref k01, .ref k02, .ref k03, .ref k04, .ref k05, .int c06, .int c07, .int c08])), (k05, .inr (3, [.ref k050, .int c051])), (k, .inr (10, [.ref k0, .ref k1, .ref k2, .ref k3, .ref k4, .ref k5, .ref k6, .ref k7, .ref k8, .ref k9, .ref ka, .ref kb, .int cc])), (kb, .inl (cI, 6, .inl scb_18))] H := hP
        replace hD : va_D A [(k8, .inr (2, [.ref k80, .ref k81])), (ka, .inr (6, [.ref ka0, .ref ka1, .ref ka2])), (k01, .inl (cI, 40, .inl c01)), (k80, .inl (cI, 40, .inl c80)), (k81, .inl (cI, 40, .inl c81)), (ka0, .inl (cI, 4, .inl ca0)), (ka1, .inl (cI, 4, .inl ca1)), (ka2, .inl (cI, 144, .inl ca2)), (k050, .inl (cI, 36, .inl c050)), (k0, .inr (9, [.ref k00, .ref k01, .ref k02, .ref k03, .ref k04, .ref k05, .int c06, .int c07, .int c08])), (k05, .inr (3, [.ref k050, .int c051])), (k, .inr (10, [.ref k0, .ref k1, .ref k2, .ref k3, .ref k4, .ref k5, .ref k6, .ref k7, .ref k8, .ref k9, .ref ka, .ref kb, .int cc])), (kb, .inl (cI, 6, .inl scb_18))] := hD
        have hr_16 := w_17
        obtain rfl : r_16 = (-1000001) := hr_16.trans (by decide +kernel)
        exact hRet (scb_18, c80, c81) [11, 9, 0, 1, 12, 2, 10, 3, 4, 5, 6, 7, 8] trivial hP hD (by decide +kernel) rfl hS rfl dX10_judge_34
      · refine lv_iload hx hb dX10_judge_21 (lv_at hl 5 rfl) ?_
        refine lv_sipush (v := 9999) hx hb dX10_judge_23 (by decide +kernel) ?_
        refine b_icmp_le hx hb rfl zl_9999 (tgt := 35) dX10_judge_26 (by decide +kernel) (fun c_19 => ?_) (fun c_19 => ?_)
        · refine lv_aload_n hx hb dX10_judge_35 rfl (lv_at hl 0 rfl) ?_
          refine lv_iload_n hx hb dX10_judge_36 rfl (lv_at hl 1 rfl) ?_
          refine lv_iload_n hx hb dX10_judge_37 rfl (lv_at hl 2 rfl) ?_
          refine lv_iload_n hx hb dX10_judge_38 rfl (lv_at hl 3 rfl) ?_
          refine kJi (wr := [(k8, .inr (2, [.ref k80, .ref k81])), (kb, .inl (cI, 6, .inl cb)), (k01, .inl (cI, 40, .inl c01)), (k80, .inl (cI, 40, .inl c80)), (k81, .inl (cI, 40, .inl c81))]) (va_runV (As := [.int a0, .int a1, .int a2]) (rest := []) ⟨hx, hb, hml, hown, hT⟩ (c_X10_whyNoMeetingG l D cI aK aV k k0 k1 k2 k3 k4 k5 k6 k7 k8 k9 ka kb k00 k01 k02 k03 k04 k05 ka0 ka1 ka2 k050 H.size cc c06 c07 c08 c051 ca0 ca1 ca2 c050 a0 a1 a2 (by first | omega | decide | assumption | rfl) (by first | omega | decide | assumption | rfl) (by first | omega | decide | assumption | rfl)) (cwV 3 hT (gV_in mw_927 mw_924 mw_926 mw_p2_14 mw_1) rfl rfl rfl (by decide +kernel) ⟨Nat.le_of_ble_eq_true rfl, Nat.le_of_ble_eq_true rfl⟩) (kRecvX (q0 := 10) (ci := 10) hK hP hD hN hXS hS hA rfl rfl [10, 11, 1, 12, 6, 7, 8, 9] rfl (by decide +kernel)) rfl rfl hl.1 rfl (lv_room (Nat.le_of_ble_eq_true rfl)) dX10_judge_39 ⟨Nat.le_of_ble_eq_true rfl, Nat.le_of_ble_eq_true rfl⟩) hP hD hS hA [10, 11, 1, 12, 6, 7, 8, 9] [0, 2, 3, 4, 5] rfl rfl (by decide +kernel) (by decide +kernel) ?_
          clear hP hD hS
          intro r_20 u_22 H locs w_21 hP hD hS
          replace hP : va_P D vwCl [(k8, .inr (2, [.ref k80, .ref k81])), (kb, .inl (cI, 6, .inl cb)), (k01, .inl (cI, 40, .inl c01)), (k80, .inl (cI, 40, .inl c80)), (k81, .inl (cI, 40, .inl c81)), (k, .inr (10, [.ref k0, .ref k1, .ref k2, .ref k3, .ref k4, .ref k5, .ref k6, .ref k7, .ref k8, .ref k9, .ref ka, .ref kb, .int cc])), (k0, .inr (9, [.ref k00, .ref k01, .ref k02, .ref k03, .ref k04, .ref k05, .int c06, .int c07, .int c08])), (ka, .inr (6, [.ref ka0, .ref ka1, .ref ka2])), (k05, .inr (3, [.ref k050, .int c051])), (ka0, .inl (cI, 4, .inl ca0)), (ka1, .inl (cI, 4, .inl ca1)), (ka2, .inl (cI, 144, .inl ca2)), (k050, .inl (cI, 36, .inl c050))] H := hP
          replace hD : va_D A [(k8, .inr (2, [.ref k80, .ref k81])), (kb, .inl (cI, 6, .inl cb)), (k01, .inl (cI, 40, .inl c01)), (k80, .inl (cI, 40, .inl c80)), (k81, .inl (cI, 40, .inl c81)), (k, .inr (10, [.ref k0, .ref k1, .ref k2, .ref k3, .ref k4, .ref k5, .ref k6, .ref k7, .ref k8, .ref k9, .ref ka, .ref kb, .int cc])), (k0, .inr (9, [.ref k00, .ref k01, .ref k02, .ref k03, .ref k04, .ref k05, .int c06, .int c07, .int c08])), (ka, .inr (6, [.ref ka0, .ref ka1, .ref ka2])), (k05, .inr (3, [.ref k050, .int c051])), (ka0, .inl (cI, 4, .inl ca0)), (ka1, .inl (cI, 4, .inl ca1)), (ka2, .inl (cI, 144, .inl ca2)), (k050, .inl (cI, 36, .inl c050))] := hD
          have lo_r_20 := k_lo r_20
          have hi_r_20 := k_hi r_20
          refine lv_istore (lv' := [(6, .int r_20), (0, .ref k), (1, .int a0), (2, .int a1), (3, .int a2), (4, .int a3), (5, .int a4)]) hx hb dX10_judge_42 hl (by decide +kernel) rfl ?_
          clear hl
          intro ls hl
          refine lv_iload hx hb dX10_judge_44 (lv_at hl 0 rfl) ?_
          refine b_if_eq hx hb rfl (tgt := 56) dX10_judge_46 (by decide +kernel) (fun c_23 => ?_) (fun c_23 => ?_)
          · refine lv_iload hx hb dX10_judge_56 (lv_at hl 5 rfl) ?_
            refine lv_aload_n hx hb dX10_judge_58 rfl (lv_at hl 1 rfl) ?_
            refine va_get (D := D) (ci := 10) (v := .ref k0) (C := RX10) (T := TX10) (N := 13) hx hb hT giX10 hown hK hP 5 rfl rfl 0 (by decide +kernel) (hT (Cond.fieldLink RX10 12 "DesertWire" "now" "LDesertWire$World;") mw_291) (fun _ h9 => h9) rfl dX10_judge_59 ?_
            refine va_get (D := D) (ci := 9) (v := .ref k05) (C := RX9) (T := TX9) (N := 9) hx hb hT giX9 hown hK hP 6 rfl rfl 5 (by decide +kernel) (hT (Cond.fieldLink RX10 193 "DesertWire$World" "parties" "LDesertWire$Parties;") mw_102) (fun _ h9 => h9) rfl dX10_judge_62 ?_
            refine lv_iload_n hx hb dX10_judge_65 rfl (lv_at hl 2 rfl) ?_
            refine lv_iconst (v := 0) hx hb dX10_judge_66 (by decide +kernel) ?_
            refine kJi (wr := [(k8, .inr (2, [.ref k80, .ref k81])), (kb, .inl (cI, 6, .inl cb)), (k01, .inl (cI, 40, .inl c01)), (k80, .inl (cI, 40, .inl c80)), (k81, .inl (cI, 40, .inl c81)), (k, .inr (10, [.ref k0, .ref k1, .ref k2, .ref k3, .ref k4, .ref k5, .ref k6, .ref k7, .ref k8, .ref k9, .ref ka, .ref kb, .int cc])), (k0, .inr (9, [.ref k00, .ref k01, .ref k02, .ref k03, .ref k04, .ref k05, .int c06, .int c07, .int c08])), (ka, .inr (6, [.ref ka0, .ref ka1, .ref ka2])), (ka0, .inl (cI, 4, .inl ca0)), (ka1, .inl (cI, 4, .inl ca1)), (ka2, .inl (cI, 144, .inl ca2))]) (va_runV (As := [.int a0, .int 0]) (rest := [.int a3]) ⟨hx, hb, hml, hown, hT⟩ (c_X3_getG l D cI aK aV k05 k050 H.size c051 c050 a0 0) (cwV 2 hT (gV_in mw_726 mw_723 mw_724 mw_725 mw_4) rfl rfl rfl (by decide +kernel) ⟨Nat.le_of_ble_eq_true rfl, Nat.le_of_ble_eq_true rfl⟩) (kRecvX (q0 := 8) (ci := 3) hK hP hD hN hXS hS hA rfl rfl [8, 12] rfl (by decide +kernel)) rfl rfl hl.1 rfl (lv_room (Nat.le_of_ble_eq_true rfl)) dX10_judge_67 ⟨Nat.le_of_ble_eq_true rfl, Nat.le_of_ble_eq_true rfl⟩) hP hD hS hA [8, 12] [0, 1, 2, 3, 4, 5, 6, 7, 9, 10, 11] rfl rfl (by decide +kernel) (by decide +kernel) ?_
            clear hP hD hS
            intro r_24 u_26 H locs w_25 hP hD hS
            replace hP : va_P D vwCl [(k8, .inr (2, [.ref k80, .ref k81])), (kb, .inl (cI, 6, .inl cb)), (k01, .inl (cI, 40, .inl c01)), (k80, .inl (cI, 40, .inl c80)), (k81, .inl (cI, 40, .inl c81)), (k, .inr (10, [.ref k0, .ref k1, .ref k2, .ref k3, .ref k4, .ref k5, .ref k6, .ref k7, .ref k8, .ref k9, .ref ka, .ref kb, .int cc])), (k0, .inr (9, [.ref k00, .ref k01, .ref k02, .ref k03, .ref k04, .ref k05, .int c06, .int c07, .int c08])), (ka, .inr (6, [.ref ka0, .ref ka1, .ref ka2])), (ka0, .inl (cI, 4, .inl ca0)), (ka1, .inl (cI, 4, .inl ca1)), (ka2, .inl (cI, 144, .inl ca2)), (k05, .inr (3, [.ref k050, .int c051])), (k050, .inl (cI, 36, .inl c050))] H := hP
            replace hD : va_D A [(k8, .inr (2, [.ref k80, .ref k81])), (kb, .inl (cI, 6, .inl cb)), (k01, .inl (cI, 40, .inl c01)), (k80, .inl (cI, 40, .inl c80)), (k81, .inl (cI, 40, .inl c81)), (k, .inr (10, [.ref k0, .ref k1, .ref k2, .ref k3, .ref k4, .ref k5, .ref k6, .ref k7, .ref k8, .ref k9, .ref ka, .ref kb, .int cc])), (k0, .inr (9, [.ref k00, .ref k01, .ref k02, .ref k03, .ref k04, .ref k05, .int c06, .int c07, .int c08])), (ka, .inr (6, [.ref ka0, .ref ka1, .ref ka2])), (ka0, .inl (cI, 4, .inl ca0)), (ka1, .inl (cI, 4, .inl ca1)), (ka2, .inl (cI, 144, .inl ca2)), (k05, .inr (3, [.ref k050, .int c051])), (k050, .inl (cI, 36, .inl c050))] := hD
            have lo_r_24 := k_lo r_24
            have hi_r_24 := k_hi r_24
            refine b_icmp_lt hx hb rfl rfl (tgt := 90) dX10_judge_70 (by decide +kernel) (fun c_27 => ?_) (fun c_27 => ?_)
            · refine lv_aload_n hx hb dX10_judge_90 rfl (lv_at hl 1 rfl) ?_
              refine lv_iconst (v := 1) hx hb dX10_judge_91 (by decide +kernel) ?_
              refine kJi (wr := [(k8, .inr (2, [.ref k80, .ref k81])), (k01, .inl (cI, 40, .inl c01)), (k80, .inl (cI, 40, .inl c80)), (k81, .inl (cI, 40, .inl c81)), (k0, .inr (9, [.ref k00, .ref k01, .ref k02, .ref k03, .ref k04, .ref k05, .int c06, .int c07, .int c08])), (ka, .inr (6, [.ref ka0, .ref ka1, .ref ka2])), (ka0, .inl (cI, 4, .inl ca0)), (ka1, .inl (cI, 4, .inl ca1)), (ka2, .inl (cI, 144, .inl ca2)), (k05, .inr (3, [.ref k050, .int c051])), (k050, .inl (cI, 36, .inl c050))]) (va_runV (As := [.int 1]) (rest := []) ⟨hx, hb, hml, hown, hT⟩ (c_X10_findingG l D cI aK aV k k0 k1 k2 k3 k4 k5 k6 k7 k8 k9 ka kb H.size cc cb 1) (cwV 1 hT (gV_in mw_338 mw_335 mw_337 mw_p1_0 mw_1) rfl rfl rfl (by decide +kernel) ⟨Nat.le_of_ble_eq_true rfl, Nat.le_of_ble_eq_true rfl⟩) (kRecvX (q0 := 5) (ci := 10) hK hP hD hN hXS hS hA rfl rfl [5, 1] rfl (by decide +kernel)) rfl rfl hl.1 rfl (lv_room (Nat.le_of_ble_eq_true rfl)) dX10_judge_92 ⟨Nat.le_of_ble_eq_true rfl, Nat.le_of_ble_eq_true rfl⟩) hP hD hS hA [5, 1] [0, 2, 3, 4, 6, 7, 8, 9, 10, 11, 12] rfl rfl (by decide +kernel) (by decide +kernel) ?_
              clear hP hD hS
              intro r_28 scb_30 H locs w_29 hP hD hS
              replace hP : va_P D vwCl [(k8, .inr (2, [.ref k80, .ref k81])), (k01, .inl (cI, 40, .inl c01)), (k80, .inl (cI, 40, .inl c80)), (k81, .inl (cI, 40, .inl c81)), (k0, .inr (9, [.ref k00, .ref k01, .ref k02, .ref k03, .ref k04, .ref k05, .int c06, .int c07, .int c08])), (ka, .inr (6, [.ref ka0, .ref ka1, .ref ka2])), (ka0, .inl (cI, 4, .inl ca0)), (ka1, .inl (cI, 4, .inl ca1)), (ka2, .inl (cI, 144, .inl ca2)), (k05, .inr (3, [.ref k050, .int c051])), (k050, .inl (cI, 36, .inl c050)), (k, .inr (10, [.ref k0, .ref k1, .ref k2, .ref k3, .ref k4, .ref k5, .ref k6, .ref k7, .ref k8, .ref k9, .ref ka, .ref kb, .int cc])), (kb, .inl (cI, 6, .inl scb_30))] H := hP
              replace hD : va_D A [(k8, .inr (2, [.ref k80, .ref k81])), (k01, .inl (cI, 40, .inl c01)), (k80, .inl (cI, 40, .inl c80)), (k81, .inl (cI, 40, .inl c81)), (k0, .inr (9, [.ref k00, .ref k01, .ref k02, .ref k03, .ref k04, .ref k05, .int c06, .int c07, .int c08])), (ka, .inr (6, [.ref ka0, .ref ka1, .ref ka2])), (ka0, .inl (cI, 4, .inl ca0)), (ka1, .inl (cI, 4, .inl ca1)), (ka2, .inl (cI, 144, .inl ca2)), (k05, .inr (3, [.ref k050, .int c051])), (k050, .inl (cI, 36, .inl c050)), (k, .inr (10, [.ref k0, .ref k1, .ref k2, .ref k3, .ref k4, .ref k5, .ref k6, .ref k7, .ref k8, .ref k9, .ref ka, .ref kb, .int cc])), (kb, .inl (cI, 6, .inl scb_30))] := hD
              have hr_28 := w_29
              obtain rfl : r_28 = (-1000001) := hr_28.trans (by decide +kernel)
              exact hRet (scb_30, c80, c81) [11, 4, 0, 5, 12, 1, 9, 2, 3, 6, 7, 8, 10] trivial hP hD (by decide +kernel) rfl hS rfl dX10_judge_95
            · refine lv_iload hx hb dX10_judge_73 (lv_at hl 5 rfl) ?_
              refine lv_aload_n hx hb dX10_judge_75 rfl (lv_at hl 1 rfl) ?_
              refine va_get (D := D) (ci := 10) (v := .ref k0) (C := RX10) (T := TX10) (N := 13) hx hb hT giX10 hown hK hP 5 rfl rfl 0 (by decide +kernel) (hT (Cond.fieldLink RX10 12 "DesertWire" "now" "LDesertWire$World;") mw_291) (fun _ h9 => h9) rfl dX10_judge_76 ?_
              refine va_get (D := D) (ci := 9) (v := .ref k05) (C := RX9) (T := TX9) (N := 9) hx hb hT giX9 hown hK hP 6 rfl rfl 5 (by decide +kernel) (hT (Cond.fieldLink RX10 193 "DesertWire$World" "parties" "LDesertWire$Parties;") mw_102) (fun _ h9 => h9) rfl dX10_judge_79 ?_
              refine lv_iload_n hx hb dX10_judge_82 rfl (lv_at hl 3 rfl) ?_
              refine lv_iconst (v := 0) hx hb dX10_judge_83 (by decide +kernel) ?_
              refine kJi (wr := [(k8, .inr (2, [.ref k80, .ref k81])), (kb, .inl (cI, 6, .inl cb)), (k01, .inl (cI, 40, .inl c01)), (k80, .inl (cI, 40, .inl c80)), (k81, .inl (cI, 40, .inl c81)), (k, .inr (10, [.ref k0, .ref k1, .ref k2, .ref k3, .ref k4, .ref k5, .ref k6, .ref k7, .ref k8, .ref k9, .ref ka, .ref kb, .int cc])), (k0, .inr (9, [.ref k00, .ref k01, .ref k02, .ref k03, .ref k04, .ref k05, .int c06, .int c07, .int c08])), (ka, .inr (6, [.ref ka0, .ref ka1, .ref ka2])), (ka0, .inl (cI, 4, .inl ca0)), (ka1, .inl (cI, 4, .inl ca1)), (ka2, .inl (cI, 144, .inl ca2))]) (va_runV (As := [.int a1, .int 0]) (rest := [.int a3]) ⟨hx, hb, hml, hown, hT⟩ (c_X3_getG l D cI aK aV k05 k050 H.size c051 c050 a1 0) (cwV 2 hT (gV_in mw_726 mw_723 mw_724 mw_725 mw_4) rfl rfl rfl (by decide +kernel) ⟨Nat.le_of_ble_eq_true rfl, Nat.le_of_ble_eq_true rfl⟩) (kRecvX (q0 := 11) (ci := 3) hK hP hD hN hXS hS hA rfl rfl [11, 12] rfl (by decide +kernel)) rfl rfl hl.1 rfl (lv_room (Nat.le_of_ble_eq_true rfl)) dX10_judge_84 ⟨Nat.le_of_ble_eq_true rfl, Nat.le_of_ble_eq_true rfl⟩) hP hD hS hA [11, 12] [0, 1, 2, 3, 4, 5, 6, 7, 8, 9, 10] rfl rfl (by decide +kernel) (by decide +kernel) ?_
              clear hP hD hS
              intro r_31 u_33 H locs w_32 hP hD hS
              replace hP : va_P D vwCl [(k8, .inr (2, [.ref k80, .ref k81])), (kb, .inl (cI, 6, .inl cb)), (k01, .inl (cI, 40, .inl c01)), (k80, .inl (cI, 40, .inl c80)), (k81, .inl (cI, 40, .inl c81)), (k, .inr (10, [.ref k0, .ref k1, .ref k2, .ref k3, .ref k4, .ref k5, .ref k6, .ref k7, .ref k8, .ref k9, .ref ka, .ref kb, .int cc])), (k0, .inr (9, [.ref k00, .ref k01, .ref k02, .ref k03, .ref k04, .ref k05, .int c06, .int c07, .int c08])), (ka, .inr (6, [.ref ka0, .ref ka1, .ref ka2])), (ka0, .inl (cI, 4, .inl ca0)), (ka1, .inl (cI, 4, .inl ca1)), (ka2, .inl (cI, 144, .inl ca2)), (k05, .inr (3, [.ref k050, .int c051])), (k050, .inl (cI, 36, .inl c050))] H := hP
              replace hD : va_D A [(k8, .inr (2, [.ref k80, .ref k81])), (kb, .inl (cI, 6, .inl cb)), (k01, .inl (cI, 40, .inl c01)), (k80, .inl (cI, 40, .inl c80)), (k81, .inl (cI, 40, .inl c81)), (k, .inr (10, [.ref k0, .ref k1, .ref k2, .ref k3, .ref k4, .ref k5, .ref k6, .ref k7, .ref k8, .ref k9, .ref ka, .ref kb, .int cc])), (k0, .inr (9, [.ref k00, .ref k01, .ref k02, .ref k03, .ref k04, .ref k05, .int c06, .int c07, .int c08])), (ka, .inr (6, [.ref ka0, .ref ka1, .ref ka2])), (ka0, .inl (cI, 4, .inl ca0)), (ka1, .inl (cI, 4, .inl ca1)), (ka2, .inl (cI, 144, .inl ca2)), (k05, .inr (3, [.ref k050, .int c051])), (k050, .inl (cI, 36, .inl c050))] := hD
              have lo_r_31 := k_lo r_31
              have hi_r_31 := k_hi r_31
              refine b_icmp_lt hx hb rfl rfl (tgt := 96) dX10_judge_87 (by decide +kernel) (fun c_34 => ?_) (fun c_34 => ?_)
              · refine lv_aload_n hx hb dX10_judge_96 rfl (lv_at hl 1 rfl) ?_
                refine va_get (D := D) (ci := 10) (v := .ref k8) (C := RX10) (T := TX10) (N := 13) hx hb hT giX10 hown hK hP 5 rfl rfl 8 (by decide +kernel) (hT (Cond.fieldLink RX10 56 "DesertWire" "meetings" "LDesertWire$Meetings;") mw_299) (fun _ h9 => h9) rfl dX10_judge_97 ?_
                refine lv_aload_n hx hb dX10_judge_100 rfl (lv_at hl 1 rfl) ?_
                refine va_get (D := D) (ci := 10) (v := .ref k0) (C := RX10) (T := TX10) (N := 13) hx hb hT giX10 hown hK hP 5 rfl rfl 0 (by decide +kernel) (hT (Cond.fieldLink RX10 12 "DesertWire" "now" "LDesertWire$World;") mw_291) (fun _ h9 => h9) rfl dX10_judge_101 ?_
                refine lv_aload_n hx hb dX10_judge_104 rfl (lv_at hl 1 rfl) ?_
                refine va_get (D := D) (ci := 10) (v := .ref ka) (C := RX10) (T := TX10) (N := 13) hx hb hT giX10 hown hK hP 5 rfl rfl 10 (by decide +kernel) (hT (Cond.fieldLink RX10 70 "DesertWire" "sheets" "LDesertWire$Sheets;") mw_301) (fun _ h9 => h9) rfl dX10_judge_105 ?_
                refine lv_iload_n hx hb dX10_judge_108 rfl (lv_at hl 4 rfl) ?_
                refine lv_iload_n hx hb dX10_judge_109 rfl (lv_at hl 2 rfl) ?_
                refine lv_iload_n hx hb dX10_judge_110 rfl (lv_at hl 3 rfl) ?_
                refine kJv (wr := [(kb, .inl (cI, 6, .inl cb)), (k, .inr (10, [.ref k0, .ref k1, .ref k2, .ref k3, .ref k4, .ref k5, .ref k6, .ref k7, .ref k8, .ref k9, .ref ka, .ref kb, .int cc])), (ka0, .inl (cI, 4, .inl ca0))]) (va_runV (As := [.ref k0, .ref ka, .int a2, .int a0, .int a1]) (rest := []) ⟨hx, hb, hml, hown, hT⟩ (c_X2_weighG l D cI aK aV k8 k0 ka k80 k81 k00 k01 k02 k03 k04 k05 k050 ka0 ka1 ka2 H.size c80 c81 c06 c07 c08 c01 c051 c050 ca1 ca2 a2 a0 a1 (by first | omega | decide | assumption | rfl)) (cwV 5 hT (gV_in mw_931 mw_928 mw_929 mw_930 mw_9) rfl rfl rfl (by decide +kernel) ⟨Nat.le_of_ble_eq_true rfl, Nat.le_of_ble_eq_true rfl⟩) (kRecvX (q0 := 0) (ci := 2) hK hP hD hN hXS hS hA rfl rfl [0, 3, 4, 6, 2, 11, 12, 7, 9, 10] rfl (by decide +kernel)) rfl rfl hl.1 rfl (lv_room (Nat.le_of_ble_eq_true rfl)) dX10_judge_111 ⟨Nat.le_of_ble_eq_true rfl, Nat.le_of_ble_eq_true rfl⟩) hP hD hS hA [0, 3, 4, 6, 2, 11, 12, 7, 9, 10] [1, 5, 8] rfl rfl (by decide +kernel) (by decide +kernel) ?_
                clear hP hD hS
                intro u_39 H locs w_36 hP hD hS
                obtain ⟨sc0_37, sc1_38⟩ := u_39
                replace hP : va_P D vwCl [(kb, .inl (cI, 6, .inl cb)), (k, .inr (10, [.ref k0, .ref k1, .ref k2, .ref k3, .ref k4, .ref k5, .ref k6, .ref k7, .ref k8, .ref k9, .ref ka, .ref kb, .int cc])), (ka0, .inl (cI, 4, .inl ca0)), (k8, .inr (2, [.ref k80, .ref k81])), (k80, .inl (cI, 40, .inl sc0_37)), (k81, .inl (cI, 40, .inl sc1_38)), (k0, .inr (9, [.ref k00, .ref k01, .ref k02, .ref k03, .ref k04, .ref k05, .int c06, .int c07, .int c08])), (k01, .inl (cI, 40, .inl c01)), (k05, .inr (3, [.ref k050, .int c051])), (k050, .inl (cI, 36, .inl c050)), (ka, .inr (6, [.ref ka0, .ref ka1, .ref ka2])), (ka1, .inl (cI, 4, .inl ca1)), (ka2, .inl (cI, 144, .inl ca2))] H := hP
                replace hD : va_D A [(kb, .inl (cI, 6, .inl cb)), (k, .inr (10, [.ref k0, .ref k1, .ref k2, .ref k3, .ref k4, .ref k5, .ref k6, .ref k7, .ref k8, .ref k9, .ref ka, .ref kb, .int cc])), (ka0, .inl (cI, 4, .inl ca0)), (k8, .inr (2, [.ref k80, .ref k81])), (k80, .inl (cI, 40, .inl sc0_37)), (k81, .inl (cI, 40, .inl sc1_38)), (k0, .inr (9, [.ref k00, .ref k01, .ref k02, .ref k03, .ref k04, .ref k05, .int c06, .int c07, .int c08])), (k01, .inl (cI, 40, .inl c01)), (k05, .inr (3, [.ref k050, .int c051])), (k050, .inl (cI, 36, .inl c050)), (ka, .inr (6, [.ref ka0, .ref ka1, .ref ka2])), (ka1, .inl (cI, 4, .inl ca1)), (ka2, .inl (cI, 144, .inl ca2))] := hD
                refine lv_aload_n hx hb dX10_judge_114 rfl (lv_at hl 1 rfl) ?_
                refine va_get (D := D) (ci := 10) (v := .ref k8) (C := RX10) (T := TX10) (N := 13) hx hb hT giX10 hown hK hP 1 rfl rfl 8 (by decide +kernel) (hT (Cond.fieldLink RX10 56 "DesertWire" "meetings" "LDesertWire$Meetings;") mw_299) (fun _ h9 => h9) rfl dX10_judge_115 ?_
                refine lv_iload hx hb dX10_judge_118 (lv_at hl 5 rfl) ?_
                refine kJi (wr := [(kb, .inl (cI, 6, .inl cb)), (k, .inr (10, [.ref k0, .ref k1, .ref k2, .ref k3, .ref k4, .ref k5, .ref k6, .ref k7, .ref k8, .ref k9, .ref ka, .ref kb, .int cc])), (ka0, .inl (cI, 4, .inl ca0)), (k80, .inl (cI, 40, .inl sc0_37)), (k0, .inr (9, [.ref k00, .ref k01, .ref k02, .ref k03, .ref k04, .ref k05, .int c06, .int c07, .int c08])), (k01, .inl (cI, 40, .inl c01)), (k05, .inr (3, [.ref k050, .int c051])), (k050, .inl (cI, 36, .inl c050)), (ka, .inr (6, [.ref ka0, .ref ka1, .ref ka2])), (ka1, .inl (cI, 4, .inl ca1)), (ka2, .inl (cI, 144, .inl ca2))]) (va_runV (As := [.int a3]) (rest := []) ⟨hx, hb, hml, hown, hT⟩ (c_X2_worstAtG l D cI aK aV k8 k80 k81 H.size sc1_38 a3) (cwV 1 hT (gV_in mw_954 mw_955 mw_952 mw_953 mw_9) rfl rfl rfl (by decide +kernel) ⟨Nat.le_of_ble_eq_true rfl, Nat.le_of_ble_eq_true rfl⟩) (kRecvX (q0 := 3) (ci := 2) hK hP hD hN hXS hS hA rfl rfl [3, 5] rfl (by decide +kernel)) rfl rfl hl.1 rfl (lv_room (Nat.le_of_ble_eq_true rfl)) dX10_judge_120 ⟨Nat.le_of_ble_eq_true rfl, Nat.le_of_ble_eq_true rfl⟩) hP hD hS hA [3, 5] [0, 1, 2, 4, 6, 7, 8, 9, 10, 11, 12] rfl rfl (by decide +kernel) (by decide +kernel) ?_
                clear hP hD hS
                intro r_40 u_42 H locs w_41 hP hD hS
                replace hP : va_P D vwCl [(kb, .inl (cI, 6, .inl cb)), (k, .inr (10, [.ref k0, .ref k1, .ref k2, .ref k3, .ref k4, .ref k5, .ref k6, .ref k7, .ref k8, .ref k9, .ref ka, .ref kb, .int cc])), (ka0, .inl (cI, 4, .inl ca0)), (k80, .inl (cI, 40, .inl sc0_37)), (k0, .inr (9, [.ref k00, .ref k01, .ref k02, .ref k03, .ref k04, .ref k05, .int c06, .int c07, .int c08])), (k01, .inl (cI, 40, .inl c01)), (k05, .inr (3, [.ref k050, .int c051])), (k050, .inl (cI, 36, .inl c050)), (ka, .inr (6, [.ref ka0, .ref ka1, .ref ka2])), (ka1, .inl (cI, 4, .inl ca1)), (ka2, .inl (cI, 144, .inl ca2)), (k8, .inr (2, [.ref k80, .ref k81])), (k81, .inl (cI, 40, .inl sc1_38))] H := hP
                replace hD : va_D A [(kb, .inl (cI, 6, .inl cb)), (k, .inr (10, [.ref k0, .ref k1, .ref k2, .ref k3, .ref k4, .ref k5, .ref k6, .ref k7, .ref k8, .ref k9, .ref ka, .ref kb, .int cc])), (ka0, .inl (cI, 4, .inl ca0)), (k80, .inl (cI, 40, .inl sc0_37)), (k0, .inr (9, [.ref k00, .ref k01, .ref k02, .ref k03, .ref k04, .ref k05, .int c06, .int c07, .int c08])), (k01, .inl (cI, 40, .inl c01)), (k05, .inr (3, [.ref k050, .int c051])), (k050, .inl (cI, 36, .inl c050)), (ka, .inr (6, [.ref ka0, .ref ka1, .ref ka2])), (ka1, .inl (cI, 4, .inl ca1)), (ka2, .inl (cI, 144, .inl ca2)), (k8, .inr (2, [.ref k80, .ref k81])), (k81, .inl (cI, 40, .inl sc1_38))] := hD
                have lo_r_40 := k_lo r_40
                have hi_r_40 := k_hi r_40
                refine lv_istore (lv' := [(7, .int r_40), (6, .int r_20), (0, .ref k), (1, .int a0), (2, .int a1), (3, .int a2), (4, .int a3), (5, .int a4)]) hx hb dX10_judge_123 hl (by decide +kernel) rfl ?_
                clear hl
                intro ls hl
                refine lv_iload hx hb dX10_judge_125 (lv_at hl 0 rfl) ?_
                refine lv_iload hx hb dX10_judge_127 (lv_at hl 7 rfl) ?_
                refine b_icmp_le hx hb rfl rfl (tgt := 136) dX10_judge_129 (by decide +kernel) (fun c_43 => ?_) (fun c_43 => ?_)
                · refine lv_iload hx hb dX10_judge_136 (lv_at hl 0 rfl) ?_
                  exact hRet (cb, sc0_37, sc1_38) [1, 4, 11, 8, 0, 5, 6, 3, 12, 2, 9, 10, 7] trivial hP hD (by decide +kernel) rfl hS rfl dX10_judge_138
                · refine lv_iconst (v := (-1)) hx hb dX10_judge_132 (by decide +kernel) ?_
                  refine lv_goto (tgt := 138) hx hb dX10_judge_133 (by decide +kernel) ?_
                  exact hRet (cb, sc0_37, sc1_38) [1, 4, 11, 8, 0, 5, 6, 3, 12, 2, 9, 10, 7] trivial hP hD (by decide +kernel) rfl hS rfl dX10_judge_138
              · refine lv_aload_n hx hb dX10_judge_90 rfl (lv_at hl 1 rfl) ?_
                refine lv_iconst (v := 1) hx hb dX10_judge_91 (by decide +kernel) ?_
                refine kJi (wr := [(k8, .inr (2, [.ref k80, .ref k81])), (k01, .inl (cI, 40, .inl c01)), (k80, .inl (cI, 40, .inl c80)), (k81, .inl (cI, 40, .inl c81)), (k0, .inr (9, [.ref k00, .ref k01, .ref k02, .ref k03, .ref k04, .ref k05, .int c06, .int c07, .int c08])), (ka, .inr (6, [.ref ka0, .ref ka1, .ref ka2])), (ka0, .inl (cI, 4, .inl ca0)), (ka1, .inl (cI, 4, .inl ca1)), (ka2, .inl (cI, 144, .inl ca2)), (k05, .inr (3, [.ref k050, .int c051])), (k050, .inl (cI, 36, .inl c050))]) (va_runV (As := [.int 1]) (rest := []) ⟨hx, hb, hml, hown, hT⟩ (c_X10_findingG l D cI aK aV k k0 k1 k2 k3 k4 k5 k6 k7 k8 k9 ka kb H.size cc cb 1) (cwV 1 hT (gV_in mw_338 mw_335 mw_337 mw_p1_0 mw_1) rfl rfl rfl (by decide +kernel) ⟨Nat.le_of_ble_eq_true rfl, Nat.le_of_ble_eq_true rfl⟩) (kRecvX (q0 := 5) (ci := 10) hK hP hD hN hXS hS hA rfl rfl [5, 1] rfl (by decide +kernel)) rfl rfl hl.1 rfl (lv_room (Nat.le_of_ble_eq_true rfl)) dX10_judge_92 ⟨Nat.le_of_ble_eq_true rfl, Nat.le_of_ble_eq_true rfl⟩) hP hD hS hA [5, 1] [0, 2, 3, 4, 6, 7, 8, 9, 10, 11, 12] rfl rfl (by decide +kernel) (by decide +kernel) ?_
                clear hP hD hS
                intro r_44 scb_46 H locs w_45 hP hD hS
                replace hP : va_P D vwCl [(k8, .inr (2, [.ref k80, .ref k81])), (k01, .inl (cI, 40, .inl c01)), (k80, .inl (cI, 40, .inl c80)), (k81, .inl (cI, 40, .inl c81)), (k0, .inr (9, [.ref k00, .ref k01, .ref k02, .ref k03, .ref k04, .ref k05, .int c06, .int c07, .int c08])), (ka, .inr (6, [.ref ka0, .ref ka1, .ref ka2])), (ka0, .inl (cI, 4, .inl ca0)), (ka1, .inl (cI, 4, .inl ca1)), (ka2, .inl (cI, 144, .inl ca2)), (k05, .inr (3, [.ref k050, .int c051])), (k050, .inl (cI, 36, .inl c050)), (k, .inr (10, [.ref k0, .ref k1, .ref k2, .ref k3, .ref k4, .ref k5, .ref k6, .ref k7, .ref k8, .ref k9, .ref ka, .ref kb, .int cc])), (kb, .inl (cI, 6, .inl scb_46))] H := hP
                replace hD : va_D A [(k8, .inr (2, [.ref k80, .ref k81])), (k01, .inl (cI, 40, .inl c01)), (k80, .inl (cI, 40, .inl c80)), (k81, .inl (cI, 40, .inl c81)), (k0, .inr (9, [.ref k00, .ref k01, .ref k02, .ref k03, .ref k04, .ref k05, .int c06, .int c07, .int c08])), (ka, .inr (6, [.ref ka0, .ref ka1, .ref ka2])), (ka0, .inl (cI, 4, .inl ca0)), (ka1, .inl (cI, 4, .inl ca1)), (ka2, .inl (cI, 144, .inl ca2)), (k05, .inr (3, [.ref k050, .int c051])), (k050, .inl (cI, 36, .inl c050)), (k, .inr (10, [.ref k0, .ref k1, .ref k2, .ref k3, .ref k4, .ref k5, .ref k6, .ref k7, .ref k8, .ref k9, .ref ka, .ref kb, .int cc])), (kb, .inl (cI, 6, .inl scb_46))] := hD
                have hr_44 := w_45
                obtain rfl : r_44 = (-1000001) := hr_44.trans (by decide +kernel)
                exact hRet (scb_46, c80, c81) [11, 4, 0, 5, 12, 1, 9, 2, 3, 6, 7, 8, 10] trivial hP hD (by decide +kernel) rfl hS rfl dX10_judge_95
          · refine lv_aload_n hx hb dX10_judge_49 rfl (lv_at hl 1 rfl) ?_
            refine lv_iload hx hb dX10_judge_50 (lv_at hl 0 rfl) ?_
            refine kJi (wr := [(k8, .inr (2, [.ref k80, .ref k81])), (k01, .inl (cI, 40, .inl c01)), (k80, .inl (cI, 40, .inl c80)), (k81, .inl (cI, 40, .inl c81)), (k0, .inr (9, [.ref k00, .ref k01, .ref k02, .ref k03, .ref k04, .ref k05, .int c06, .int c07, .int c08])), (ka, .inr (6, [.ref ka0, .ref ka1, .ref ka2])), (k05, .inr (3, [.ref k050, .int c051])), (ka0, .inl (cI, 4, .inl ca0)), (ka1, .inl (cI, 4, .inl ca1)), (ka2, .inl (cI, 144, .inl ca2)), (k050, .inl (cI, 36, .inl c050))]) (va_runV (As := [.int r_20]) (rest := []) ⟨hx, hb, hml, hown, hT⟩ (c_X10_findingG l D cI aK aV k k0 k1 k2 k3 k4 k5 k6 k7 k8 k9 ka kb H.size cc cb r_20) (cwV 1 hT (gV_in mw_338 mw_335 mw_337 mw_p1_0 mw_1) rfl rfl rfl (by decide +kernel) ⟨Nat.le_of_ble_eq_true rfl, Nat.le_of_ble_eq_true rfl⟩) (kRecvX (q0 := 5) (ci := 10) hK hP hD hN hXS hS hA rfl rfl [5, 1] rfl (by decide +kernel)) rfl rfl hl.1 rfl (lv_room (Nat.le_of_ble_eq_true rfl)) dX10_judge_52 ⟨Nat.le_of_ble_eq_true rfl, Nat.le_of_ble_eq_true rfl⟩) hP hD hS hA [5, 1] [0, 2, 3, 4, 6, 7, 8, 9, 10, 11, 12] rfl rfl (by decide +kernel) (by decide +kernel) ?_
            clear hP hD hS
            intro r_47 scb_49 H locs w_48 hP hD hS
            replace hP : va_P D vwCl [(k8, .inr (2, [.ref k80, .ref k81])), (k01, .inl (cI, 40, .inl c01)), (k80, .inl (cI, 40, .inl c80)), (k81, .inl (cI, 40, .inl c81)), (k0, .inr (9, [.ref k00, .ref k01, .ref k02, .ref k03, .ref k04, .ref k05, .int c06, .int c07, .int c08])), (ka, .inr (6, [.ref ka0, .ref ka1, .ref ka2])), (k05, .inr (3, [.ref k050, .int c051])), (ka0, .inl (cI, 4, .inl ca0)), (ka1, .inl (cI, 4, .inl ca1)), (ka2, .inl (cI, 144, .inl ca2)), (k050, .inl (cI, 36, .inl c050)), (k, .inr (10, [.ref k0, .ref k1, .ref k2, .ref k3, .ref k4, .ref k5, .ref k6, .ref k7, .ref k8, .ref k9, .ref ka, .ref kb, .int cc])), (kb, .inl (cI, 6, .inl scb_49))] H := hP
            replace hD : va_D A [(k8, .inr (2, [.ref k80, .ref k81])), (k01, .inl (cI, 40, .inl c01)), (k80, .inl (cI, 40, .inl c80)), (k81, .inl (cI, 40, .inl c81)), (k0, .inr (9, [.ref k00, .ref k01, .ref k02, .ref k03, .ref k04, .ref k05, .int c06, .int c07, .int c08])), (ka, .inr (6, [.ref ka0, .ref ka1, .ref ka2])), (k05, .inr (3, [.ref k050, .int c051])), (ka0, .inl (cI, 4, .inl ca0)), (ka1, .inl (cI, 4, .inl ca1)), (ka2, .inl (cI, 144, .inl ca2)), (k050, .inl (cI, 36, .inl c050)), (k, .inr (10, [.ref k0, .ref k1, .ref k2, .ref k3, .ref k4, .ref k5, .ref k6, .ref k7, .ref k8, .ref k9, .ref ka, .ref kb, .int cc])), (kb, .inl (cI, 6, .inl scb_49))] := hD
            have hr_47 := w_48
            have hr_47 : r_47 = (-1000000) - r_20 := hr_47
            have lo_r_47 := k_lo r_47
            have hi_r_47 := k_hi r_47
            exact hRet (scb_49, c80, c81) [11, 4, 0, 5, 12, 1, 6, 2, 3, 7, 8, 9, 10] trivial hP hD (by decide +kernel) rfl hS rfl dX10_judge_55
        · refine lv_aload_n hx hb dX10_judge_29 rfl (lv_at hl 0 rfl) ?_
          refine lv_iconst (v := 1) hx hb dX10_judge_30 (by decide +kernel) ?_
          refine kJi (wr := [(k8, .inr (2, [.ref k80, .ref k81])), (ka, .inr (6, [.ref ka0, .ref ka1, .ref ka2])), (k01, .inl (cI, 40, .inl c01)), (k80, .inl (cI, 40, .inl c80)), (k81, .inl (cI, 40, .inl c81)), (ka0, .inl (cI, 4, .inl ca0)), (ka1, .inl (cI, 4, .inl ca1)), (ka2, .inl (cI, 144, .inl ca2)), (k050, .inl (cI, 36, .inl c050)), (k0, .inr (9, [.ref k00, .ref k01, .ref k02, .ref k03, .ref k04, .ref k05, .int c06, .int c07, .int c08])), (k05, .inr (3, [.ref k050, .int c051]))]) (va_runV (As := [.int 1]) (rest := []) ⟨hx, hb, hml, hown, hT⟩ (c_X10_findingG l D cI aK aV k k0 k1 k2 k3 k4 k5 k6 k7 k8 k9 ka kb H.size cc cb 1) (cwV 1 hT (gV_in mw_338 mw_335 mw_337 mw_p1_0 mw_1) rfl rfl rfl (by decide +kernel) ⟨Nat.le_of_ble_eq_true rfl, Nat.le_of_ble_eq_true rfl⟩) (kRecvX (q0 := 10) (ci := 10) hK hP hD hN hXS hS hA rfl rfl [10, 2] rfl (by decide +kernel)) rfl rfl hl.1 rfl (lv_room (Nat.le_of_ble_eq_true rfl)) dX10_judge_31 ⟨Nat.le_of_ble_eq_true rfl, Nat.le_of_ble_eq_true rfl⟩) hP hD hS hA [10, 2] [0, 1, 3, 4, 5, 6, 7, 8, 9, 11, 12] rfl rfl (by decide +kernel) (by decide +kernel) ?_
          clear hP hD hS
          intro r_50 scb_52 H locs w_51 hP hD hS
          replace hP : va_P D vwCl [(k8, .inr (2, [.ref k80, .ref k81])), (ka, .inr (6, [.ref ka0, .ref ka1, .ref ka2])), (k01, .inl (cI, 40, .inl c01)), (k80, .inl (cI, 40, .inl c80)), (k81, .inl (cI, 40, .inl c81)), (ka0, .inl (cI, 4, .inl ca0)), (ka1, .inl (cI, 4, .inl ca1)), (ka2, .inl (cI, 144, .inl ca2)), (k050, .inl (cI, 36, .inl c050)), (k0, .inr (9, [.ref k00, .ref k01, .ref k02, .ref k03, .ref k04, .ref k05, .int c06, .int c07, .int c08])), (k05, .inr (3, [.ref k050, .int c051])), (k, .inr (10, [.ref k0, .ref k1, .ref k2, .ref k3, .ref k4, .ref k5, .ref k6, .ref k7, .ref k8, .ref k9, .ref ka, .ref kb, .int cc])), (kb, .inl (cI, 6, .inl scb_52))] H := hP
          replace hD : va_D A [(k8, .inr (2, [.ref k80, .ref k81])), (ka, .inr (6, [.ref ka0, .ref ka1, .ref ka2])), (k01, .inl (cI, 40, .inl c01)), (k80, .inl (cI, 40, .inl c80)), (k81, .inl (cI, 40, .inl c81)), (ka0, .inl (cI, 4, .inl ca0)), (ka1, .inl (cI, 4, .inl ca1)), (ka2, .inl (cI, 144, .inl ca2)), (k050, .inl (cI, 36, .inl c050)), (k0, .inr (9, [.ref k00, .ref k01, .ref k02, .ref k03, .ref k04, .ref k05, .int c06, .int c07, .int c08])), (k05, .inr (3, [.ref k050, .int c051])), (k, .inr (10, [.ref k0, .ref k1, .ref k2, .ref k3, .ref k4, .ref k5, .ref k6, .ref k7, .ref k8, .ref k9, .ref ka, .ref kb, .int cc])), (kb, .inl (cI, 6, .inl scb_52))] := hD
          have hr_50 := w_51
          obtain rfl : r_50 = (-1000001) := hr_50.trans (by decide +kernel)
          exact hRet (scb_52, c80, c81) [11, 9, 0, 1, 12, 2, 10, 3, 4, 5, 6, 7, 8] trivial hP hD (by decide +kernel) rfl hS rfl dX10_judge_34
    · have h_13 : a2.toInt < 0 ∨ 3 < a2.toInt := h_13
      obtain rfl : r_8 = 0 := hr_8.trans (by decide +kernel)
      refine b_if_eq hx hb zl_0 (tgt := 29) dX10_judge_13 (by decide +kernel) (fun c_53 => ?_) (fun c_53 => by exfalso; omega)
      refine lv_aload_n hx hb dX10_judge_29 rfl (lv_at hl 0 rfl) ?_
      refine lv_iconst (v := 1) hx hb dX10_judge_30 (by decide +kernel) ?_
      refine kJi (wr := [(k8, .inr (2, [.ref k80, .ref k81])), (ka, .inr (6, [.ref ka0, .ref ka1, .ref ka2])), (k01, .inl (cI, 40, .inl c01)), (k80, .inl (cI, 40, .inl c80)), (k81, .inl (cI, 40, .inl c81)), (ka0, .inl (cI, 4, .inl ca0)), (ka1, .inl (cI, 4, .inl ca1)), (ka2, .inl (cI, 144, .inl ca2)), (k050, .inl (cI, 36, .inl c050)), (k0, .inr (9, [.ref k00, .ref k01, .ref k02, .ref k03, .ref k04, .ref k05, .int c06, .int c07, .int c08])), (k05, .inr (3, [.ref k050, .int c051]))]) (va_runV (As := [.int 1]) (rest := []) ⟨hx, hb, hml, hown, hT⟩ (c_X10_findingG l D cI aK aV k k0 k1 k2 k3 k4 k5 k6 k7 k8 k9 ka kb H.size cc cb 1) (cwV 1 hT (gV_in mw_338 mw_335 mw_337 mw_p1_0 mw_1) rfl rfl rfl (by decide +kernel) ⟨Nat.le_of_ble_eq_true rfl, Nat.le_of_ble_eq_true rfl⟩) (kRecvX (q0 := 10) (ci := 10) hK hP hD hN hXS hS hA rfl rfl [10, 2] rfl (by decide +kernel)) rfl rfl hl.1 rfl (lv_room (Nat.le_of_ble_eq_true rfl)) dX10_judge_31 ⟨Nat.le_of_ble_eq_true rfl, Nat.le_of_ble_eq_true rfl⟩) hP hD hS hA [10, 2] [0, 1, 3, 4, 5, 6, 7, 8, 9, 11, 12] rfl rfl (by decide +kernel) (by decide +kernel) ?_
      clear hP hD hS
      intro r_54 scb_56 H locs w_55 hP hD hS
      replace hP : va_P D vwCl [(k8, .inr (2, [.ref k80, .ref k81])), (ka, .inr (6, [.ref ka0, .ref ka1, .ref ka2])), (k01, .inl (cI, 40, .inl c01)), (k80, .inl (cI, 40, .inl c80)), (k81, .inl (cI, 40, .inl c81)), (ka0, .inl (cI, 4, .inl ca0)), (ka1, .inl (cI, 4, .inl ca1)), (ka2, .inl (cI, 144, .inl ca2)), (k050, .inl (cI, 36, .inl c050)), (k0, .inr (9, [.ref k00, .ref k01, .ref k02, .ref k03, .ref k04, .ref k05, .int c06, .int c07, .int c08])), (k05, .inr (3, [.ref k050, .int c051])), (k, .inr (10, [.ref k0, .ref k1, .ref k2, .ref k3, .ref k4, .ref k5, .ref k6, .ref k7, .ref k8, .ref k9, .ref ka, .ref kb, .int cc])), (kb, .inl (cI, 6, .inl scb_56))] H := hP
      replace hD : va_D A [(k8, .inr (2, [.ref k80, .ref k81])), (ka, .inr (6, [.ref ka0, .ref ka1, .ref ka2])), (k01, .inl (cI, 40, .inl c01)), (k80, .inl (cI, 40, .inl c80)), (k81, .inl (cI, 40, .inl c81)), (ka0, .inl (cI, 4, .inl ca0)), (ka1, .inl (cI, 4, .inl ca1)), (ka2, .inl (cI, 144, .inl ca2)), (k050, .inl (cI, 36, .inl c050)), (k0, .inr (9, [.ref k00, .ref k01, .ref k02, .ref k03, .ref k04, .ref k05, .int c06, .int c07, .int c08])), (k05, .inr (3, [.ref k050, .int c051])), (k, .inr (10, [.ref k0, .ref k1, .ref k2, .ref k3, .ref k4, .ref k5, .ref k6, .ref k7, .ref k8, .ref k9, .ref ka, .ref kb, .int cc])), (kb, .inl (cI, 6, .inl scb_56))] := hD
      have hr_54 := w_55
      obtain rfl : r_54 = (-1000001) := hr_54.trans (by decide +kernel)
      exact hRet (scb_56, c80, c81) [11, 9, 0, 1, 12, 2, 10, 3, 4, 5, 6, 7, 8] trivial hP hD (by decide +kernel) rfl hS rfl dX10_judge_34
theorem bn_cX10_force_0 : BN cX10_force 0 0x568780a015414c02b7030ac18014e8787e1e012dc3a1c0d0056a2b5694c02b7028ac14014d82804b90e82c029a03809721c := by
  unfold BN; decide +kernel
theorem dX10_force_0 : decode cX10_force 0 = .ok (.iload_n 1, 1) := dR0 (k := 0) (i := 0) bn_cX10_force_0 dop_27 (by decide +kernel)
theorem dX10_force_1 : decode cX10_force 1 = .ok (.invokestatic 262, 3) := dR2 (f := Instr.invokestatic) (k := 0) (i := 1) bn_cX10_force_0 dop_184 262 (by decide +kernel)
theorem dX10_force_4 : decode cX10_force 4 = .ok (.ifCond .eq 10, 3) := dR2s (f := Instr.ifCond .eq) (k := 0) (i := 4) bn_cX10_force_0 dop_153 10 10 (by decide +kernel)
theorem dX10_force_7 : decode cX10_force 7 = .ok (.iload_n 2, 1) := dR0 (k := 0) (i := 7) bn_cX10_force_0 dop_28 (by decide +kernel)
theorem dX10_force_8 : decode cX10_force 8 = .ok (.invokestatic 265, 3) := dR2 (f := Instr.invokestatic) (k := 0) (i := 8) bn_cX10_force_0 dop_184 265 (by decide +kernel)
theorem dX10_force_11 : decode cX10_force 11 = .ok (.ifCond .ne 9, 3) := dR2s (f := Instr.ifCond .ne) (k := 0) (i := 11) bn_cX10_force_0 dop_154 9 9 (by decide +kernel)
theorem dX10_force_14 : decode cX10_force 14 = .ok (.aload_n 0, 1) := dR0 (k := 0) (i := 14) bn_cX10_force_0 dop_42 (by decide +kernel)
theorem dX10_force_15 : decode cX10_force 15 = .ok (.iconst 1, 1) := dR0 (k := 0) (i := 15) bn_cX10_force_0 dop_4 (by decide +kernel)
theorem dX10_force_16 : decode cX10_force 16 = .ok (.invokevirtual 82, 3) := dR2 (f := Instr.invokevirtual) (k := 0) (i := 16) bn_cX10_force_0 dop_182 82 (by decide +kernel)
theorem dX10_force_19 : decode cX10_force 19 = .ok (.ireturn, 1) := dR0 (k := 0) (i := 19) bn_cX10_force_0 dop_172 (by decide +kernel)
theorem dX10_force_20 : decode cX10_force 20 = .ok (.aload_n 0, 1) := dR0 (k := 0) (i := 20) bn_cX10_force_0 dop_42 (by decide +kernel)
theorem dX10_force_21 : decode cX10_force 21 = .ok (.getfield 25, 3) := dR2 (f := Instr.getfield) (k := 0) (i := 21) bn_cX10_force_0 dop_180 25 (by decide +kernel)
theorem dX10_force_24 : decode cX10_force 24 = .ok (.iload_n 1, 1) := dR0 (k := 0) (i := 24) bn_cX10_force_0 dop_27 (by decide +kernel)
theorem dX10_force_25 : decode cX10_force 25 = .ok (.iload_n 2, 1) := dR0 (k := 0) (i := 25) bn_cX10_force_0 dop_28 (by decide +kernel)
theorem dX10_force_26 : decode cX10_force 26 = .ok (.invokevirtual 285, 3) := dR2 (f := Instr.invokevirtual) (k := 0) (i := 26) bn_cX10_force_0 dop_182 285 (by decide +kernel)
theorem dX10_force_29 : decode cX10_force 29 = .ok (.istore_n 3, 1) := dR0 (k := 0) (i := 29) bn_cX10_force_0 dop_62 (by decide +kernel)
theorem dX10_force_30 : decode cX10_force 30 = .ok (.iload_n 3, 1) := dR0 (k := 0) (i := 30) bn_cX10_force_0 dop_29 (by decide +kernel)
theorem dX10_force_31 : decode cX10_force 31 = .ok (.ifCond .ge 11, 3) := dR2s (f := Instr.ifCond .ge) (k := 0) (i := 31) bn_cX10_force_0 dop_156 11 11 (by decide +kernel)
theorem dX10_force_34 : decode cX10_force 34 = .ok (.aload_n 0, 1) := dR0 (k := 0) (i := 34) bn_cX10_force_0 dop_42 (by decide +kernel)
theorem dX10_force_35 : decode cX10_force 35 = .ok (.iconst 2, 1) := dR0 (k := 0) (i := 35) bn_cX10_force_0 dop_5 (by decide +kernel)
theorem dX10_force_36 : decode cX10_force 36 = .ok (.invokevirtual 82, 3) := dR2 (f := Instr.invokevirtual) (k := 0) (i := 36) bn_cX10_force_0 dop_182 82 (by decide +kernel)
theorem dX10_force_39 : decode cX10_force 39 = .ok (.goto 4, 3) := dR2s (f := Instr.goto) (k := 0) (i := 39) bn_cX10_force_0 dop_167 4 4 (by decide +kernel)
theorem dX10_force_42 : decode cX10_force 42 = .ok (.iload_n 3, 1) := dR0 (k := 0) (i := 42) bn_cX10_force_0 dop_29 (by decide +kernel)
theorem dX10_force_43 : decode cX10_force 43 = .ok (.ireturn, 1) := dR0 (k := 0) (i := 43) bn_cX10_force_0 dop_172 (by decide +kernel)
set_option maxHeartbeats 4000000 in
set_option maxRecDepth 100000 in
theorem c_X10_forceG (l : Launch) (D : va_G) (cI : ClassId) (aK aV : Nat → Nat) (k k0 k1 k2 k3 k4 k5 k6 k7 k8 k9 ka kb k30 k31 k32 k33 k34 : Nat) (sz : Nat) (cc : Int32) (c35 : Int32) (c36 : Int32) (cb : Nat → Int32) (c33 : Nat → Int32) (c34 : Nat → Int32) (a0 : Int32) (a1 : Int32) (pre0 : 0 ≤ c36.toInt) (pre1 : c36.toInt ≤ 12) : Met l yX10_force (gW yX10_force cX10_force 4 (some .int)) ({ frames := 1, cells := 0, slots := 0, locals := 23 } : Room) (kPreX D cI aK aV [.ref k, .int a0, .int a1] [(k, .inr (10, [.ref k0, .ref k1, .ref k2, .ref k3, .ref k4, .ref k5, .ref k6, .ref k7, .ref k8, .ref k9, .ref ka, .ref kb, .int cc])), (k3, .inr (4, [.ref k30, .ref k31, .ref k32, .ref k33, .ref k34, .int c35, .int c36])), (kb, .inl (cI, 6, .inl cb)), (k33, .inl (cI, 12, .inl c33)), (k34, .inl (cI, 12, .inl c34))] sz) (va_Qi (fun (r : Int32) (u : (Nat → Int32)) => r.toInt = fcR (inF c33 c34 a0 a1 c36.toInt.toNat) a0 a1) (fun u t => kWd D cI (va_A [(k, .inr (10, [.ref k0, .ref k1, .ref k2, .ref k3, .ref k4, .ref k5, .ref k6, .ref k7, .ref k8, .ref k9, .ref ka, .ref kb, .int cc])), (k3, .inr (4, [.ref k30, .ref k31, .ref k32, .ref k33, .ref k34, .int c35, .int c36])), (kb, .inl (cI, 6, .inl cb)), (k33, .inl (cI, 12, .inl c33)), (k34, .inl (cI, 12, .inl c34))] sz) [(k, .inr (10, [.ref k0, .ref k1, .ref k2, .ref k3, .ref k4, .ref k5, .ref k6, .ref k7, .ref k8, .ref k9, .ref ka, .ref kb, .int cc])), (k3, .inr (4, [.ref k30, .ref k31, .ref k32, .ref k33, .ref k34, .int c35, .int c36])), (kb, .inl (cI, 6, .inl u)), (k33, .inl (cI, 12, .inl c33)), (k34, .inl (cI, 12, .inl c34))] t) (va_A [(k, .inr (10, [.ref k0, .ref k1, .ref k2, .ref k3, .ref k4, .ref k5, .ref k6, .ref k7, .ref k8, .ref k9, .ref ka, .ref kb, .int cc])), (k3, .inr (4, [.ref k30, .ref k31, .ref k32, .ref k33, .ref k34, .int c35, .int c36])), (kb, .inl (cI, 6, .inl cb)), (k33, .inl (cI, 12, .inl c33)), (k34, .inl (cI, 12, .inl c34))] sz)) 0 0 (va_A [(k, .inr (10, [.ref k0, .ref k1, .ref k2, .ref k3, .ref k4, .ref k5, .ref k6, .ref k7, .ref k8, .ref k9, .ref ka, .ref kb, .int cc])), (k3, .inr (4, [.ref k30, .ref k31, .ref k32, .ref k33, .ref k34, .int c35, .int c36])), (kb, .inl (cI, 6, .inl cb)), (k33, .inl (cI, 12, .inl c33)), (k34, .inl (cI, 12, .inl c34))] sz) := by
  refine kMetIX (own := RX10) (by decide +kernel) rfl (Nat.le_of_ble_eq_true rfl) ?_
  intro p e s m args below meth c hx hb hT hown hname hml A Q hK hP hD hS hA hN hXS hRet ls hl
  have hl : lv_has ls 4 [(0, .ref k), (1, .int a0), (2, .int a1)] := hl
  have lo_a0 := k_lo a0
  have hi_a0 := k_hi a0
  have lo_a1 := k_lo a1
  have hi_a1 := k_hi a1
  have lo_c36 := k_lo c36
  have hi_c36 := k_hi c36
  refine lv_iload_n hx hb dX10_force_0 rfl (lv_at hl 1 rfl) ?_
  refine kJi (wr := [(k, .inr (10, [.ref k0, .ref k1, .ref k2, .ref k3, .ref k4, .ref k5, .ref k6, .ref k7, .ref k8, .ref k9, .ref ka, .ref kb, .int cc])), (k3, .inr (4, [.ref k30, .ref k31, .ref k32, .ref k33, .ref k34, .int c35, .int c36])), (kb, .inl (cI, 6, .inl cb)), (k33, .inl (cI, 12, .inl c33)), (k34, .inl (cI, 12, .inl c34))]) (va_runS (As := [.int a0]) (rest := []) ⟨hx, hb, hml, hown, hT⟩ (c_X10_isUseG l D cI aK aV s.heap.size a0) (cwS 1 hT (gS_in mw_846 mw_844 mw_845 mw_1) rfl rfl rfl (by decide +kernel) ⟨Nat.le_of_ble_eq_true rfl, Nat.le_of_ble_eq_true rfl⟩) (kStatX hK hP hD hN hXS hS hA [] rfl (by decide +kernel)) rfl rfl hl.1 rfl (lv_room (Nat.le_of_ble_eq_true rfl)) dX10_force_1 ⟨Nat.le_of_ble_eq_true rfl, Nat.le_of_ble_eq_true rfl⟩) hP hD hS hA [] [0, 1, 2, 3, 4] rfl rfl (by decide +kernel) (by decide +kernel) ?_
  clear hP hD hS
  intro r_1 u_3 H locs w_2 hP hD hS
  replace hP : va_P D vwCl [(k, .inr (10, [.ref k0, .ref k1, .ref k2, .ref k3, .ref k4, .ref k5, .ref k6, .ref k7, .ref k8, .ref k9, .ref ka, .ref kb, .int cc])), (k3, .inr (4, [.ref k30, .ref k31, .ref k32, .ref k33, .ref k34, .int c35, .int c36])), (kb, .inl (cI, 6, .inl cb)), (k33, .inl (cI, 12, .inl c33)), (k34, .inl (cI, 12, .inl c34))] H := hP
  replace hD : va_D A [(k, .inr (10, [.ref k0, .ref k1, .ref k2, .ref k3, .ref k4, .ref k5, .ref k6, .ref k7, .ref k8, .ref k9, .ref ka, .ref kb, .int cc])), (k3, .inr (4, [.ref k30, .ref k31, .ref k32, .ref k33, .ref k34, .int c35, .int c36])), (kb, .inl (cI, 6, .inl cb)), (k33, .inl (cI, 12, .inl c33)), (k34, .inl (cI, 12, .inl c34))] := hD
  rcases w_2 with ⟨hr_1, h_4, h_5⟩ | ⟨hr_1, h_6⟩
  · have h_4 : 0 ≤ a0.toInt := h_4
    have h_5 : a0.toInt ≤ 2 := h_5
    obtain rfl : r_1 = 1 := hr_1.trans (by decide +kernel)
    refine b_if_eq hx hb zl_1 (tgt := 14) dX10_force_4 (by decide +kernel) (fun c_7 => by exfalso; omega) (fun c_7 => ?_)
    refine lv_iload_n hx hb dX10_force_7 rfl (lv_at hl 2 rfl) ?_
    refine kJi (wr := [(k, .inr (10, [.ref k0, .ref k1, .ref k2, .ref k3, .ref k4, .ref k5, .ref k6, .ref k7, .ref k8, .ref k9, .ref ka, .ref kb, .int cc])), (k3, .inr (4, [.ref k30, .ref k31, .ref k32, .ref k33, .ref k34, .int c35, .int c36])), (kb, .inl (cI, 6, .inl cb)), (k33, .inl (cI, 12, .inl c33)), (k34, .inl (cI, 12, .inl c34))]) (va_runS (As := [.int a1]) (rest := []) ⟨hx, hb, hml, hown, hT⟩ (c_X10_isDayG l D cI aK aV H.size a1) (cwS 1 hT (gS_in mw_849 mw_847 mw_848 mw_1) rfl rfl rfl (by decide +kernel) ⟨Nat.le_of_ble_eq_true rfl, Nat.le_of_ble_eq_true rfl⟩) (kStatX hK hP hD hN hXS hS hA [] rfl (by decide +kernel)) rfl rfl hl.1 rfl (lv_room (Nat.le_of_ble_eq_true rfl)) dX10_force_8 ⟨Nat.le_of_ble_eq_true rfl, Nat.le_of_ble_eq_true rfl⟩) hP hD hS hA [] [0, 1, 2, 3, 4] rfl rfl (by decide +kernel) (by decide +kernel) ?_
    clear hP hD hS
    intro r_8 u_10 H locs w_9 hP hD hS
    replace hP : va_P D vwCl [(k, .inr (10, [.ref k0, .ref k1, .ref k2, .ref k3, .ref k4, .ref k5, .ref k6, .ref k7, .ref k8, .ref k9, .ref ka, .ref kb, .int cc])), (k3, .inr (4, [.ref k30, .ref k31, .ref k32, .ref k33, .ref k34, .int c35, .int c36])), (kb, .inl (cI, 6, .inl cb)), (k33, .inl (cI, 12, .inl c33)), (k34, .inl (cI, 12, .inl c34))] H := hP
    replace hD : va_D A [(k, .inr (10, [.ref k0, .ref k1, .ref k2, .ref k3, .ref k4, .ref k5, .ref k6, .ref k7, .ref k8, .ref k9, .ref ka, .ref kb, .int cc])), (k3, .inr (4, [.ref k30, .ref k31, .ref k32, .ref k33, .ref k34, .int c35, .int c36])), (kb, .inl (cI, 6, .inl cb)), (k33, .inl (cI, 12, .inl c33)), (k34, .inl (cI, 12, .inl c34))] := hD
    rcases w_9 with ⟨hr_8, h_11, h_12⟩ | ⟨hr_8, h_13⟩
    · have h_11 : 0 ≤ a1.toInt := h_11
      have h_12 : a1.toInt ≤ 2000 := h_12
      obtain rfl : r_8 = 1 := hr_8.trans (by decide +kernel)
      refine b_if_ne hx hb zl_1 (tgt := 20) dX10_force_11 (by decide +kernel) (fun c_14 => ?_) (fun c_14 => by exfalso; omega)
      refine lv_aload_n hx hb dX10_force_20 rfl (lv_at hl 0 rfl) ?_
      refine va_get (D := D) (ci := 10) (v := .ref k3) (C := RX10) (T := TX10) (N := 13) hx hb hT giX10 hown hK hP 0 rfl rfl 3 (by decide +kernel) (hT (Cond.fieldLink RX10 25 "DesertWire" "rates" "LDesertWire$Rates;") mw_294) (fun _ h9 => h9) rfl dX10_force_21 ?_
      refine lv_iload_n hx hb dX10_force_24 rfl (lv_at hl 1 rfl) ?_
      refine lv_iload_n hx hb dX10_force_25 rfl (lv_at hl 2 rfl) ?_
      refine kJi (wr := [(k, .inr (10, [.ref k0, .ref k1, .ref k2, .ref k3, .ref k4, .ref k5, .ref k6, .ref k7, .ref k8, .ref k9, .ref ka, .ref kb, .int cc])), (kb, .inl (cI, 6, .inl cb))]) (va_runV (As := [.int a0, .int a1]) (rest := []) ⟨hx, hb, hml, hown, hT⟩ (c_X4_inForceG l D cI aK aV k3 k30 k31 k32 k33 k34 H.size c35 c36 c33 c34 a0 a1 (by first | omega | decide | assumption | rfl) (by first | omega | decide | assumption | rfl)) (cwV 2 hT (gV_in mw_444 mw_441 mw_442 mw_443 mw_5) rfl rfl rfl (by decide +kernel) ⟨Nat.le_of_ble_eq_true rfl, Nat.le_of_ble_eq_true rfl⟩) (kRecvX (q0 := 1) (ci := 4) hK hP hD hN hXS hS hA rfl rfl [1, 3, 4] rfl (by decide +kernel)) rfl rfl hl.1 rfl (lv_room (Nat.le_of_ble_eq_true rfl)) dX10_force_26 ⟨Nat.le_of_ble_eq_true rfl, Nat.le_of_ble_eq_true rfl⟩) hP hD hS hA [1, 3, 4] [0, 2] rfl rfl (by decide +kernel) (by decide +kernel) ?_
      clear hP hD hS
      intro r_15 u_17 H locs w_16 hP hD hS
      replace hP : va_P D vwCl [(k, .inr (10, [.ref k0, .ref k1, .ref k2, .ref k3, .ref k4, .ref k5, .ref k6, .ref k7, .ref k8, .ref k9, .ref ka, .ref kb, .int cc])), (kb, .inl (cI, 6, .inl cb)), (k3, .inr (4, [.ref k30, .ref k31, .ref k32, .ref k33, .ref k34, .int c35, .int c36])), (k33, .inl (cI, 12, .inl c33)), (k34, .inl (cI, 12, .inl c34))] H := hP
      replace hD : va_D A [(k, .inr (10, [.ref k0, .ref k1, .ref k2, .ref k3, .ref k4, .ref k5, .ref k6, .ref k7, .ref k8, .ref k9, .ref ka, .ref kb, .int cc])), (kb, .inl (cI, 6, .inl cb)), (k3, .inr (4, [.ref k30, .ref k31, .ref k32, .ref k33, .ref k34, .int c35, .int c36])), (k33, .inl (cI, 12, .inl c33)), (k34, .inl (cI, 12, .inl c34))] := hD
      obtain ⟨h_18, h_19, h_20⟩ := w_16
      have h_18 : r_15.toInt = inF c33 c34 a0 a1 c36.toInt.toNat := h_18
      have h_18 : r_15.toInt = inF c33 c34 a0 a1 c36.toInt.toNat := h_18
      have h_19 : -1 ≤ r_15.toInt := h_19
      have h_20 : r_15.toInt + 1 ≤ c36.toInt := h_20
      have lo_r_15 := k_lo r_15
      have hi_r_15 := k_hi r_15
      refine lv_istore_n (lv' := [(3, .int r_15), (0, .ref k), (1, .int a0), (2, .int a1)]) hx hb dX10_force_29 rfl hl (by decide +kernel) rfl ?_
      clear hl
      intro ls hl
      refine lv_iload_n hx hb dX10_force_30 rfl (lv_at hl 0 rfl) ?_
      refine b_if_ge hx hb rfl (tgt := 42) dX10_force_31 (by decide +kernel) (fun c_21 => ?_) (fun c_21 => ?_)
      · refine lv_iload_n hx hb dX10_force_42 rfl (lv_at hl 0 rfl) ?_
        exact hRet cb [0, 2, 1, 3, 4] (by (try dsimp only); unfold fcR; (repeat (first | rw [if_pos (by omega)] | rw [if_neg (by omega)])); first | done | exact (by omega)) hP hD (by decide +kernel) rfl hS rfl dX10_force_43
      · refine lv_aload_n hx hb dX10_force_34 rfl (lv_at hl 1 rfl) ?_
        refine lv_iconst (v := 2) hx hb dX10_force_35 (by decide +kernel) ?_
        refine kJi (wr := [(k3, .inr (4, [.ref k30, .ref k31, .ref k32, .ref k33, .ref k34, .int c35, .int c36])), (k33, .inl (cI, 12, .inl c33)), (k34, .inl (cI, 12, .inl c34))]) (va_runV (As := [.int 2]) (rest := []) ⟨hx, hb, hml, hown, hT⟩ (c_X10_findingG l D cI aK aV k k0 k1 k2 k3 k4 k5 k6 k7 k8 k9 ka kb H.size cc cb 2) (cwV 1 hT (gV_in mw_338 mw_335 mw_337 mw_p1_0 mw_1) rfl rfl rfl (by decide +kernel) ⟨Nat.le_of_ble_eq_true rfl, Nat.le_of_ble_eq_true rfl⟩) (kRecvX (q0 := 0) (ci := 10) hK hP hD hN hXS hS hA rfl rfl [0, 1] rfl (by decide +kernel)) rfl rfl hl.1 rfl (lv_room (Nat.le_of_ble_eq_true rfl)) dX10_force_36 ⟨Nat.le_of_ble_eq_true rfl, Nat.le_of_ble_eq_true rfl⟩) hP hD hS hA [0, 1] [2, 3, 4] rfl rfl (by decide +kernel) (by decide +kernel) ?_
        clear hP hD hS
        intro r_22 scb_24 H locs w_23 hP hD hS
        replace hP : va_P D vwCl [(k3, .inr (4, [.ref k30, .ref k31, .ref k32, .ref k33, .ref k34, .int c35, .int c36])), (k33, .inl (cI, 12, .inl c33)), (k34, .inl (cI, 12, .inl c34)), (k, .inr (10, [.ref k0, .ref k1, .ref k2, .ref k3, .ref k4, .ref k5, .ref k6, .ref k7, .ref k8, .ref k9, .ref ka, .ref kb, .int cc])), (kb, .inl (cI, 6, .inl scb_24))] H := hP
        replace hD : va_D A [(k3, .inr (4, [.ref k30, .ref k31, .ref k32, .ref k33, .ref k34, .int c35, .int c36])), (k33, .inl (cI, 12, .inl c33)), (k34, .inl (cI, 12, .inl c34)), (k, .inr (10, [.ref k0, .ref k1, .ref k2, .ref k3, .ref k4, .ref k5, .ref k6, .ref k7, .ref k8, .ref k9, .ref ka, .ref kb, .int cc])), (kb, .inl (cI, 6, .inl scb_24))] := hD
        have hr_22 := w_23
        obtain rfl : r_22 = (-1000002) := hr_22.trans (by decide +kernel)
        refine lv_goto (tgt := 43) hx hb dX10_force_39 (by decide +kernel) ?_
        exact hRet scb_24 [3, 0, 4, 1, 2] (by (try dsimp only); rw [zl_m1000002]; unfold fcR; (repeat (first | rw [if_pos (by omega)] | rw [if_neg (by omega)])); first | done | exact (by omega)) hP hD (by decide +kernel) rfl hS rfl dX10_force_43
    · have h_13 : a1.toInt < 0 ∨ 2000 < a1.toInt := h_13
      obtain rfl : r_8 = 0 := hr_8.trans (by decide +kernel)
      refine b_if_ne hx hb zl_0 (tgt := 20) dX10_force_11 (by decide +kernel) (fun c_25 => by exfalso; omega) (fun c_25 => ?_)
      refine lv_aload_n hx hb dX10_force_14 rfl (lv_at hl 0 rfl) ?_
      refine lv_iconst (v := 1) hx hb dX10_force_15 (by decide +kernel) ?_
      refine kJi (wr := [(k3, .inr (4, [.ref k30, .ref k31, .ref k32, .ref k33, .ref k34, .int c35, .int c36])), (k33, .inl (cI, 12, .inl c33)), (k34, .inl (cI, 12, .inl c34))]) (va_runV (As := [.int 1]) (rest := []) ⟨hx, hb, hml, hown, hT⟩ (c_X10_findingG l D cI aK aV k k0 k1 k2 k3 k4 k5 k6 k7 k8 k9 ka kb H.size cc cb 1) (cwV 1 hT (gV_in mw_338 mw_335 mw_337 mw_p1_0 mw_1) rfl rfl rfl (by decide +kernel) ⟨Nat.le_of_ble_eq_true rfl, Nat.le_of_ble_eq_true rfl⟩) (kRecvX (q0 := 0) (ci := 10) hK hP hD hN hXS hS hA rfl rfl [0, 2] rfl (by decide +kernel)) rfl rfl hl.1 rfl (lv_room (Nat.le_of_ble_eq_true rfl)) dX10_force_16 ⟨Nat.le_of_ble_eq_true rfl, Nat.le_of_ble_eq_true rfl⟩) hP hD hS hA [0, 2] [1, 3, 4] rfl rfl (by decide +kernel) (by decide +kernel) ?_
      clear hP hD hS
      intro r_26 scb_28 H locs w_27 hP hD hS
      replace hP : va_P D vwCl [(k3, .inr (4, [.ref k30, .ref k31, .ref k32, .ref k33, .ref k34, .int c35, .int c36])), (k33, .inl (cI, 12, .inl c33)), (k34, .inl (cI, 12, .inl c34)), (k, .inr (10, [.ref k0, .ref k1, .ref k2, .ref k3, .ref k4, .ref k5, .ref k6, .ref k7, .ref k8, .ref k9, .ref ka, .ref kb, .int cc])), (kb, .inl (cI, 6, .inl scb_28))] H := hP
      replace hD : va_D A [(k3, .inr (4, [.ref k30, .ref k31, .ref k32, .ref k33, .ref k34, .int c35, .int c36])), (k33, .inl (cI, 12, .inl c33)), (k34, .inl (cI, 12, .inl c34)), (k, .inr (10, [.ref k0, .ref k1, .ref k2, .ref k3, .ref k4, .ref k5, .ref k6, .ref k7, .ref k8, .ref k9, .ref ka, .ref kb, .int cc])), (kb, .inl (cI, 6, .inl scb_28))] := hD
      have hr_26 := w_27
      obtain rfl : r_26 = (-1000001) := hr_26.trans (by decide +kernel)
      exact hRet scb_28 [3, 0, 4, 1, 2] (by (try dsimp only); rw [zl_m1000001]; unfold fcR; (repeat (first | rw [if_pos (by omega)] | rw [if_neg (by omega)])); first | done | exact (by omega)) hP hD (by decide +kernel) rfl hS rfl dX10_force_19
  · have h_6 : a0.toInt < 0 ∨ 2 < a0.toInt := h_6
    obtain rfl : r_1 = 0 := hr_1.trans (by decide +kernel)
    refine b_if_eq hx hb zl_0 (tgt := 14) dX10_force_4 (by decide +kernel) (fun c_29 => ?_) (fun c_29 => by exfalso; omega)
    refine lv_aload_n hx hb dX10_force_14 rfl (lv_at hl 0 rfl) ?_
    refine lv_iconst (v := 1) hx hb dX10_force_15 (by decide +kernel) ?_
    refine kJi (wr := [(k3, .inr (4, [.ref k30, .ref k31, .ref k32, .ref k33, .ref k34, .int c35, .int c36])), (k33, .inl (cI, 12, .inl c33)), (k34, .inl (cI, 12, .inl c34))]) (va_runV (As := [.int 1]) (rest := []) ⟨hx, hb, hml, hown, hT⟩ (c_X10_findingG l D cI aK aV k k0 k1 k2 k3 k4 k5 k6 k7 k8 k9 ka kb H.size cc cb 1) (cwV 1 hT (gV_in mw_338 mw_335 mw_337 mw_p1_0 mw_1) rfl rfl rfl (by decide +kernel) ⟨Nat.le_of_ble_eq_true rfl, Nat.le_of_ble_eq_true rfl⟩) (kRecvX (q0 := 0) (ci := 10) hK hP hD hN hXS hS hA rfl rfl [0, 2] rfl (by decide +kernel)) rfl rfl hl.1 rfl (lv_room (Nat.le_of_ble_eq_true rfl)) dX10_force_16 ⟨Nat.le_of_ble_eq_true rfl, Nat.le_of_ble_eq_true rfl⟩) hP hD hS hA [0, 2] [1, 3, 4] rfl rfl (by decide +kernel) (by decide +kernel) ?_
    clear hP hD hS
    intro r_30 scb_32 H locs w_31 hP hD hS
    replace hP : va_P D vwCl [(k3, .inr (4, [.ref k30, .ref k31, .ref k32, .ref k33, .ref k34, .int c35, .int c36])), (k33, .inl (cI, 12, .inl c33)), (k34, .inl (cI, 12, .inl c34)), (k, .inr (10, [.ref k0, .ref k1, .ref k2, .ref k3, .ref k4, .ref k5, .ref k6, .ref k7, .ref k8, .ref k9, .ref ka, .ref kb, .int cc])), (kb, .inl (cI, 6, .inl scb_32))] H := hP
    replace hD : va_D A [(k3, .inr (4, [.ref k30, .ref k31, .ref k32, .ref k33, .ref k34, .int c35, .int c36])), (k33, .inl (cI, 12, .inl c33)), (k34, .inl (cI, 12, .inl c34)), (k, .inr (10, [.ref k0, .ref k1, .ref k2, .ref k3, .ref k4, .ref k5, .ref k6, .ref k7, .ref k8, .ref k9, .ref ka, .ref kb, .int cc])), (kb, .inl (cI, 6, .inl scb_32))] := hD
    have hr_30 := w_31
    obtain rfl : r_30 = (-1000001) := hr_30.trans (by decide +kernel)
    exact hRet scb_32 [3, 0, 4, 1, 2] (by (try dsimp only); rw [zl_m1000001]; unfold fcR; (repeat (first | rw [if_pos (by omega)] | rw [if_neg (by omega)])); first | done | exact (by omega)) hP hD (by decide +kernel) rfl hS rfl dX10_force_19
