theorem bn_cX11_load_0 : BN cX11_load 0 0x568bc3c2900ad4560a00aa1b4015a8ac160150bfc221e0b80550d700ad4560b00a84061e720056e693e8056e070e0ac1a110e8ad5a4100adcbe131582c02a23681c5e1d0d0056a2b0f2b482015b950262b0580536e100adc3a2b5690402b73984c560b00a6c5e1d0b8056a2b5690402b72004c560b00a8dfe110f028029a38005721d08805347a00adc382b := by
  unfold BN; decide +kernel
theorem dX11_load_0 : decode cX11_load 0 = .ok (.aload_n 0, 1) := dR0 (k := 0) (i := 0) bn_cX11_load_0 dop_42 (by decide +kernel)
theorem dX11_load_1 : decode cX11_load 1 = .ok (.iload_n 1, 1) := dR0 (k := 0) (i := 1) bn_cX11_load_0 dop_27 (by decide +kernel)
theorem dX11_load_2 : decode cX11_load 2 = .ok (.invokevirtual 121, 3) := dR2 (f := Instr.invokevirtual) (k := 0) (i := 2) bn_cX11_load_0 dop_182 121 (by decide +kernel)
theorem dX11_load_5 : decode cX11_load 5 = .ok (.ifCond .eq 16, 3) := dR2s (f := Instr.ifCond .eq) (k := 0) (i := 5) bn_cX11_load_0 dop_153 16 16 (by decide +kernel)
theorem dX11_load_8 : decode cX11_load 8 = .ok (.iload_n 2, 1) := dR0 (k := 0) (i := 8) bn_cX11_load_0 dop_28 (by decide +kernel)
theorem dX11_load_9 : decode cX11_load 9 = .ok (.invokestatic 111, 3) := dR2 (f := Instr.invokestatic) (k := 0) (i := 9) bn_cX11_load_0 dop_184 111 (by decide +kernel)
theorem dX11_load_12 : decode cX11_load 12 = .ok (.ifCond .eq 9, 3) := dR2s (f := Instr.ifCond .eq) (k := 0) (i := 12) bn_cX11_load_0 dop_153 9 9 (by decide +kernel)
theorem dX11_load_15 : decode cX11_load 15 = .ok (.iload_n 3, 1) := dR0 (k := 0) (i := 15) bn_cX11_load_0 dop_29 (by decide +kernel)
theorem dX11_load_16 : decode cX11_load 16 = .ok (.bipush (-2), 2) := dR1s (f := Instr.bipush) (k := 0) (i := 16) bn_cX11_load_0 dop_16 254 (-2) (by decide +kernel)
theorem dX11_load_18 : decode cX11_load 18 = .ok (.if_icmp .ge 10, 3) := dR2s (f := Instr.if_icmp .ge) (k := 0) (i := 18) bn_cX11_load_0 dop_162 10 10 (by decide +kernel)
theorem dX11_load_21 : decode cX11_load 21 = .ok (.aload_n 0, 1) := dR0 (k := 0) (i := 21) bn_cX11_load_0 dop_42 (by decide +kernel)
theorem dX11_load_22 : decode cX11_load 22 = .ok (.ldc 63, 2) := dR1 (f := Instr.ldc) (k := 0) (i := 22) bn_cX11_load_0 dop_18 63 (by decide +kernel)
theorem dX11_load_24 : decode cX11_load 24 = .ok (.invokevirtual 64, 3) := dR2 (f := Instr.invokevirtual) (k := 0) (i := 24) bn_cX11_load_0 dop_182 64 (by decide +kernel)
theorem dX11_load_27 : decode cX11_load 27 = .ok (.ireturn, 1) := dR0 (k := 0) (i := 27) bn_cX11_load_0 dop_172 (by decide +kernel)
theorem dX11_load_28 : decode cX11_load 28 = .ok (.aload_n 0, 1) := dR0 (k := 0) (i := 28) bn_cX11_load_0 dop_42 (by decide +kernel)
theorem dX11_load_29 : decode cX11_load 29 = .ok (.getfield 22, 3) := dR2 (f := Instr.getfield) (k := 0) (i := 29) bn_cX11_load_0 dop_180 22 (by decide +kernel)
theorem dX11_load_32 : decode cX11_load 32 = .ok (.iload_n 2, 1) := dR0 (k := 0) (i := 32) bn_cX11_load_0 dop_28 (by decide +kernel)
theorem dX11_load_33 : decode cX11_load 33 = .ok (.iaload, 1) := dR0 (k := 0) (i := 33) bn_cX11_load_0 dop_46 (by decide +kernel)
theorem dX11_load_34 : decode cX11_load 34 = .ok (.ifCond .ne 10, 3) := dR2s (f := Instr.ifCond .ne) (k := 0) (i := 34) bn_cX11_load_0 dop_154 10 10 (by decide +kernel)
theorem dX11_load_37 : decode cX11_load 37 = .ok (.aload_n 0, 1) := dR0 (k := 0) (i := 37) bn_cX11_load_0 dop_42 (by decide +kernel)
theorem dX11_load_38 : decode cX11_load 38 = .ok (.ldc 114, 2) := dR1 (f := Instr.ldc) (k := 0) (i := 38) bn_cX11_load_0 dop_18 114 (by decide +kernel)
theorem dX11_load_40 : decode cX11_load 40 = .ok (.invokevirtual 64, 3) := dR2 (f := Instr.invokevirtual) (k := 0) (i := 40) bn_cX11_load_0 dop_182 64 (by decide +kernel)
theorem dX11_load_43 : decode cX11_load 43 = .ok (.ireturn, 1) := dR0 (k := 0) (i := 43) bn_cX11_load_0 dop_172 (by decide +kernel)
theorem dX11_load_44 : decode cX11_load 44 = .ok (.aload_n 0, 1) := dR0 (k := 0) (i := 44) bn_cX11_load_0 dop_42 (by decide +kernel)
theorem dX11_load_45 : decode cX11_load 45 = .ok (.iload_n 2, 1) := dR0 (k := 0) (i := 45) bn_cX11_load_0 dop_28 (by decide +kernel)
theorem dX11_load_46 : decode cX11_load 46 = .ok (.invokevirtual 224, 3) := dR2 (f := Instr.invokevirtual) (k := 0) (i := 46) bn_cX11_load_0 dop_182 224 (by decide +kernel)
theorem dX11_load_49 : decode cX11_load 49 = .ok (.ifCond .ne 10, 3) := dR2s (f := Instr.ifCond .ne) (k := 0) (i := 49) bn_cX11_load_0 dop_154 10 10 (by decide +kernel)
theorem dX11_load_52 : decode cX11_load 52 = .ok (.aload_n 0, 1) := dR0 (k := 0) (i := 52) bn_cX11_load_0 dop_42 (by decide +kernel)
theorem dX11_load_53 : decode cX11_load 53 = .ok (.ldc 83, 2) := dR1 (f := Instr.ldc) (k := 0) (i := 53) bn_cX11_load_0 dop_18 83 (by decide +kernel)
theorem dX11_load_55 : decode cX11_load 55 = .ok (.invokevirtual 64, 3) := dR2 (f := Instr.invokevirtual) (k := 0) (i := 55) bn_cX11_load_0 dop_182 64 (by decide +kernel)
theorem dX11_load_58 : decode cX11_load 58 = .ok (.ireturn, 1) := dR0 (k := 0) (i := 58) bn_cX11_load_0 dop_172 (by decide +kernel)
theorem dX11_load_59 : decode cX11_load 59 = .ok (.iload_n 3, 1) := dR0 (k := 0) (i := 59) bn_cX11_load_0 dop_29 (by decide +kernel)
theorem dX11_load_60 : decode cX11_load 60 = .ok (.aload_n 0, 1) := dR0 (k := 0) (i := 60) bn_cX11_load_0 dop_42 (by decide +kernel)
theorem dX11_load_61 : decode cX11_load 61 = .ok (.getfield 25, 3) := dR2 (f := Instr.getfield) (k := 0) (i := 61) bn_cX11_load_0 dop_180 25 (by decide +kernel)
theorem dX11_load_64 : decode cX11_load 64 = .ok (.iload_n 2, 1) := dR0 (k := 0) (i := 64) bn_cX11_load_0 dop_28 (by decide +kernel)
theorem dX11_load_65 : decode cX11_load 65 = .ok (.iaload, 1) := dR0 (k := 0) (i := 65) bn_cX11_load_0 dop_46 (by decide +kernel)
theorem dX11_load_66 : decode cX11_load 66 = .ok (.iconst 3, 1) := dR0 (k := 0) (i := 66) bn_cX11_load_0 dop_6 (by decide +kernel)
theorem dX11_load_67 : decode cX11_load 67 = .ok (.idiv, 1) := dR0 (k := 0) (i := 67) bn_cX11_load_0 dop_108 (by decide +kernel)
theorem dX11_load_68 : decode cX11_load 68 = .ok (.if_icmp .lt 10, 3) := dR2s (f := Instr.if_icmp .lt) (k := 0) (i := 68) bn_cX11_load_0 dop_161 10 10 (by decide +kernel)
theorem dX11_load_71 : decode cX11_load 71 = .ok (.aload_n 0, 1) := dR0 (k := 0) (i := 71) bn_cX11_load_0 dop_42 (by decide +kernel)
theorem dX11_load_72 : decode cX11_load 72 = .ok (.ldc 94, 2) := dR1 (f := Instr.ldc) (k := 0) (i := 72) bn_cX11_load_0 dop_18 94 (by decide +kernel)
theorem dX11_load_74 : decode cX11_load 74 = .ok (.invokevirtual 64, 3) := dR2 (f := Instr.invokevirtual) (k := 0) (i := 74) bn_cX11_load_0 dop_182 64 (by decide +kernel)
theorem dX11_load_77 : decode cX11_load 77 = .ok (.ireturn, 1) := dR0 (k := 0) (i := 77) bn_cX11_load_0 dop_172 (by decide +kernel)
theorem dX11_load_78 : decode cX11_load 78 = .ok (.aload_n 0, 1) := dR0 (k := 0) (i := 78) bn_cX11_load_0 dop_42 (by decide +kernel)
theorem dX11_load_79 : decode cX11_load 79 = .ok (.iload_n 2, 1) := dR0 (k := 0) (i := 79) bn_cX11_load_0 dop_28 (by decide +kernel)
theorem dX11_load_80 : decode cX11_load 80 = .ok (.bipush 12, 2) := dR1s (f := Instr.bipush) (k := 0) (i := 80) bn_cX11_load_0 dop_16 12 12 (by decide +kernel)
theorem dX11_load_82 : decode cX11_load 82 = .ok (.aload_n 0, 1) := dR0 (k := 0) (i := 82) bn_cX11_load_0 dop_42 (by decide +kernel)
theorem dX11_load_83 : decode cX11_load 83 = .ok (.iload_n 1, 1) := dR0 (k := 0) (i := 83) bn_cX11_load_0 dop_27 (by decide +kernel)
theorem dX11_load_84 : decode cX11_load 84 = .ok (.iconst 3, 1) := dR0 (k := 0) (i := 84) bn_cX11_load_0 dop_6 (by decide +kernel)
theorem dX11_load_85 : decode cX11_load 85 = .ok (.invokevirtual 124, 3) := dR2 (f := Instr.invokevirtual) (k := 0) (i := 85) bn_cX11_load_0 dop_182 124 (by decide +kernel)
theorem dX11_load_88 : decode cX11_load 88 = .ok (.imul, 1) := dR0 (k := 0) (i := 88) bn_cX11_load_0 dop_104 (by decide +kernel)
theorem dX11_load_89 : decode cX11_load 89 = .ok (.invokevirtual 227, 3) := dR2 (f := Instr.invokevirtual) (k := 0) (i := 89) bn_cX11_load_0 dop_182 227 (by decide +kernel)
theorem dX11_load_92 : decode cX11_load 92 = .ok (.iload_n 3, 1) := dR0 (k := 0) (i := 92) bn_cX11_load_0 dop_29 (by decide +kernel)
theorem dX11_load_93 : decode cX11_load 93 = .ok (.iconst (-1), 1) := dR0 (k := 0) (i := 93) bn_cX11_load_0 dop_2 (by decide +kernel)
theorem dX11_load_94 : decode cX11_load 94 = .ok (.if_icmp .ne 10, 3) := dR2s (f := Instr.if_icmp .ne) (k := 0) (i := 94) bn_cX11_load_0 dop_160 10 10 (by decide +kernel)
theorem dX11_load_97 : decode cX11_load 97 = .ok (.aload_n 0, 1) := dR0 (k := 0) (i := 97) bn_cX11_load_0 dop_42 (by decide +kernel)
theorem dX11_load_98 : decode cX11_load 98 = .ok (.getfield 214, 3) := dR2 (f := Instr.getfield) (k := 0) (i := 98) bn_cX11_load_0 dop_180 214 (by decide +kernel)
theorem dX11_load_101 : decode cX11_load 101 = .ok (.goto 22, 3) := dR2s (f := Instr.goto) (k := 0) (i := 101) bn_cX11_load_0 dop_167 22 22 (by decide +kernel)
theorem dX11_load_104 : decode cX11_load 104 = .ok (.iload_n 3, 1) := dR0 (k := 0) (i := 104) bn_cX11_load_0 dop_29 (by decide +kernel)
theorem dX11_load_105 : decode cX11_load 105 = .ok (.bipush (-2), 2) := dR1s (f := Instr.bipush) (k := 0) (i := 105) bn_cX11_load_0 dop_16 254 (-2) (by decide +kernel)
theorem dX11_load_107 : decode cX11_load 107 = .ok (.if_icmp .ne 10, 3) := dR2s (f := Instr.if_icmp .ne) (k := 0) (i := 107) bn_cX11_load_0 dop_160 10 10 (by decide +kernel)
theorem dX11_load_110 : decode cX11_load 110 = .ok (.aload_n 0, 1) := dR0 (k := 0) (i := 110) bn_cX11_load_0 dop_42 (by decide +kernel)
theorem dX11_load_111 : decode cX11_load 111 = .ok (.getfield 217, 3) := dR2 (f := Instr.getfield) (k := 0) (i := 111) bn_cX11_load_0 dop_180 217 (by decide +kernel)
theorem dX11_load_114 : decode cX11_load 114 = .ok (.goto 9, 3) := dR2s (f := Instr.goto) (k := 0) (i := 114) bn_cX11_load_0 dop_167 9 9 (by decide +kernel)
theorem dX11_load_117 : decode cX11_load 117 = .ok (.aload_n 0, 1) := dR0 (k := 0) (i := 117) bn_cX11_load_0 dop_42 (by decide +kernel)
theorem dX11_load_118 : decode cX11_load 118 = .ok (.getfield 40, 3) := dR2 (f := Instr.getfield) (k := 0) (i := 118) bn_cX11_load_0 dop_180 40 (by decide +kernel)
theorem dX11_load_121 : decode cX11_load 121 = .ok (.iload_n 3, 1) := dR0 (k := 0) (i := 121) bn_cX11_load_0 dop_29 (by decide +kernel)
theorem dX11_load_122 : decode cX11_load 122 = .ok (.iaload, 1) := dR0 (k := 0) (i := 122) bn_cX11_load_0 dop_46 (by decide +kernel)
theorem dX11_load_123 : decode cX11_load 123 = .ok (.ireturn, 1) := dR0 (k := 0) (i := 123) bn_cX11_load_0 dop_172 (by decide +kernel)
set_option maxHeartbeats 4000000 in
set_option maxRecDepth 100000 in
theorem c_X11_loadG (l : Launch) (D : va_G) (cI : ClassId) (aK aV : Nat → Nat) (k k0 k1 k2 k4 k5 k6 k7 k8 ka kb kl ko : Nat) (sz : Nat) (c3 : Int32) (c9 : Int32) (cc : Int32) (cd : Int32) (ce : Int32) (cf : Int32) (cg : Int32) (ch : Int32) (ci : Int32) (cj : Int32) (ck : Int32) (cm : Int32) (cn : Int32) (c0 : Nat → Int32) (c4 : Nat → Int32) (c5 : Nat → Int32) (c6 : Nat → Int32) (c7 : Nat → Int32) (cl : Nat → Int32) (a0 : Int32) (a1 : Int32) (a2 : Int32) (pre0 : SB c0) (pre1 : ∀ k : Nat, k < 4 → 0 ≤ (c6 k).toInt ∧ (c6 k).toInt ≤ 36) : Met l yX11_load (gW yX11_load cX11_load 4 (some .int)) ({ frames := 2, cells := 0, slots := 0, locals := 52 } : Room) (kPreX D cI aK aV [.ref k, .int a0, .int a1, .int a2] [(k, .inr (11, [.ref k0, .ref k1, .ref k2, .int c3, .ref k4, .ref k5, .ref k6, .ref k7, .ref k8, .int c9, .ref ka, .ref kb, .int cc, .int cd, .int ce, .int cf, .int cg, .int ch, .int ci, .int cj, .int ck, .ref kl, .int cm, .int cn, .ref ko])), (k0, .inl (cI, 1201, .inl c0)), (k4, .inl (cI, 6, .inl c4)), (k5, .inl (cI, 4, .inl c5)), (k6, .inl (cI, 4, .inl c6)), (k7, .inl (cI, 144, .inl c7)), (kl, .inl (cI, 8, .inl cl))] sz) (va_Qi (fun (r : Int32) (u : Int32 × Int32 × (Nat → Int32) × (Nat → Int32)) => True) (fun u t => kWd D cI (va_A [(k, .inr (11, [.ref k0, .ref k1, .ref k2, .int c3, .ref k4, .ref k5, .ref k6, .ref k7, .ref k8, .int c9, .ref ka, .ref kb, .int cc, .int cd, .int ce, .int cf, .int cg, .int ch, .int ci, .int cj, .int ck, .ref kl, .int cm, .int cn, .ref ko])), (k0, .inl (cI, 1201, .inl c0)), (k4, .inl (cI, 6, .inl c4)), (k5, .inl (cI, 4, .inl c5)), (k6, .inl (cI, 4, .inl c6)), (k7, .inl (cI, 144, .inl c7)), (kl, .inl (cI, 8, .inl cl))] sz) [(k, .inr (11, [.ref k0, .ref k1, .ref k2, .int c3, .ref k4, .ref k5, .ref k6, .ref k7, .ref k8, .int c9, .ref ka, .ref kb, .int cc, .int cd, .int ce, .int cf, .int cg, .int ch, .int ci, .int cj, .int ck, .ref kl, .int u.1, .int u.2.1, .ref ko])), (k0, .inl (cI, 1201, .inl c0)), (k4, .inl (cI, 6, .inl u.2.2.1)), (k5, .inl (cI, 4, .inl c5)), (k6, .inl (cI, 4, .inl c6)), (k7, .inl (cI, 144, .inl c7)), (kl, .inl (cI, 8, .inl u.2.2.2))] t) (va_A [(k, .inr (11, [.ref k0, .ref k1, .ref k2, .int c3, .ref k4, .ref k5, .ref k6, .ref k7, .ref k8, .int c9, .ref ka, .ref kb, .int cc, .int cd, .int ce, .int cf, .int cg, .int ch, .int ci, .int cj, .int ck, .ref kl, .int cm, .int cn, .ref ko])), (k0, .inl (cI, 1201, .inl c0)), (k4, .inl (cI, 6, .inl c4)), (k5, .inl (cI, 4, .inl c5)), (k6, .inl (cI, 4, .inl c6)), (k7, .inl (cI, 144, .inl c7)), (kl, .inl (cI, 8, .inl cl))] sz)) 0 0 (va_A [(k, .inr (11, [.ref k0, .ref k1, .ref k2, .int c3, .ref k4, .ref k5, .ref k6, .ref k7, .ref k8, .int c9, .ref ka, .ref kb, .int cc, .int cd, .int ce, .int cf, .int cg, .int ch, .int ci, .int cj, .int ck, .ref kl, .int cm, .int cn, .ref ko])), (k0, .inl (cI, 1201, .inl c0)), (k4, .inl (cI, 6, .inl c4)), (k5, .inl (cI, 4, .inl c5)), (k6, .inl (cI, 4, .inl c6)), (k7, .inl (cI, 144, .inl c7)), (kl, .inl (cI, 8, .inl cl))] sz) := by
  refine kMetIX (own := RX11) (by decide +kernel) rfl (Nat.le_of_ble_eq_true rfl) ?_
  intro p e s m args below meth c hx hb hT hown hname hml A Q hK hP hD hS hA hN hXS hRet ls hl
  have hl : lv_has ls 4 [(0, .ref k), (1, .int a0), (2, .int a1), (3, .int a2)] := hl
  have lo_a0 := k_lo a0
  have hi_a0 := k_hi a0
  have lo_a1 := k_lo a1
  have hi_a1 := k_hi a1
  have lo_a2 := k_lo a2
  have hi_a2 := k_hi a2
  have lo_ci := k_lo ci
  have hi_ci := k_hi ci
  have pre0 : SB c0 := pre0
  have nb_1 : 0 ≤ (c0 0).toInt ∧ (c0 0).toInt ≤ 2000 := SB.n0 pre0
  have nb_2 : 0 ≤ (c0 1).toInt ∧ (c0 1).toInt ≤ 60 := SB.n1 pre0
  have nb_3 : 0 ≤ (c0 2).toInt ∧ (c0 2).toInt ≤ 4 := SB.n2 pre0
  refine lv_aload_n hx hb dX11_load_0 rfl (lv_at hl 0 rfl) ?_
  refine lv_iload_n hx hb dX11_load_1 rfl (lv_at hl 1 rfl) ?_
  refine kJi (wr := [(k4, .inl (cI, 6, .inl c4)), (k5, .inl (cI, 4, .inl c5)), (k6, .inl (cI, 4, .inl c6)), (k7, .inl (cI, 144, .inl c7)), (kl, .inl (cI, 8, .inl cl))]) (va_runV (As := [.int a0]) (rest := []) ⟨hx, hb, hml, hown, hT⟩ (c_X11_isPartyG l D cI aK aV k k0 k1 k2 k4 k5 k6 k7 k8 ka kb kl ko s.heap.size c3 c9 cc cd ce cf cg ch ci cj ck cm cn c0 a0 pre0) (cwV 1 hT (gV_in mw_1412 mw_1409 mw_1411 mw_p5_4 mw_12) rfl rfl rfl (by decide +kernel) ⟨Nat.le_of_ble_eq_true rfl, Nat.le_of_ble_eq_true rfl⟩) (kRecvX (q0 := 0) (ci := 11) hK hP hD hN hXS hS hA rfl rfl [0, 1] rfl (by decide +kernel)) rfl rfl hl.1 rfl (lv_room (Nat.le_of_ble_eq_true rfl)) dX11_load_2 ⟨Nat.le_of_ble_eq_true rfl, Nat.le_of_ble_eq_true rfl⟩) hP hD hS hA [0, 1] [2, 3, 4, 5, 6] rfl rfl (by decide +kernel) (by decide +kernel) ?_
  clear hP hD hS
  intro r_4 u_6 H locs w_5 hP hD hS
  replace hP : va_P D vwCl [(k4, .inl (cI, 6, .inl c4)), (k5, .inl (cI, 4, .inl c5)), (k6, .inl (cI, 4, .inl c6)), (k7, .inl (cI, 144, .inl c7)), (kl, .inl (cI, 8, .inl cl)), (k, .inr (11, [.ref k0, .ref k1, .ref k2, .int c3, .ref k4, .ref k5, .ref k6, .ref k7, .ref k8, .int c9, .ref ka, .ref kb, .int cc, .int cd, .int ce, .int cf, .int cg, .int ch, .int ci, .int cj, .int ck, .ref kl, .int cm, .int cn, .ref ko])), (k0, .inl (cI, 1201, .inl c0))] H := hP
  replace hD : va_D A [(k4, .inl (cI, 6, .inl c4)), (k5, .inl (cI, 4, .inl c5)), (k6, .inl (cI, 4, .inl c6)), (k7, .inl (cI, 144, .inl c7)), (kl, .inl (cI, 8, .inl cl)), (k, .inr (11, [.ref k0, .ref k1, .ref k2, .int c3, .ref k4, .ref k5, .ref k6, .ref k7, .ref k8, .int c9, .ref ka, .ref kb, .int cc, .int cd, .int ce, .int cf, .int cg, .int ch, .int ci, .int cj, .int ck, .ref kl, .int cm, .int cn, .ref ko])), (k0, .inl (cI, 1201, .inl c0))] := hD
  rcases w_5 with ⟨hr_4, h_7, h_8⟩ | ⟨hr_4, h_9⟩
  · have h_7 : 0 ≤ a0.toInt := h_7
    have h_8 : a0.toInt < (c0 2).toInt := h_8
    obtain rfl : r_4 = 1 := hr_4.trans (by decide +kernel)
    refine b_if_eq hx hb zl_1 (tgt := 21) dX11_load_5 (by decide +kernel) (fun c_10 => by exfalso; omega) (fun c_10 => ?_)
    refine lv_iload_n hx hb dX11_load_8 rfl (lv_at hl 2 rfl) ?_
    refine kJi (wr := [(k4, .inl (cI, 6, .inl c4)), (k5, .inl (cI, 4, .inl c5)), (k6, .inl (cI, 4, .inl c6)), (k7, .inl (cI, 144, .inl c7)), (kl, .inl (cI, 8, .inl cl)), (k, .inr (11, [.ref k0, .ref k1, .ref k2, .int c3, .ref k4, .ref k5, .ref k6, .ref k7, .ref k8, .int c9, .ref ka, .ref kb, .int cc, .int cd, .int ce, .int cf, .int cg, .int ch, .int ci, .int cj, .int ck, .ref kl, .int cm, .int cn, .ref ko])), (k0, .inl (cI, 1201, .inl c0))]) (va_runS (As := [.int a1]) (rest := []) ⟨hx, hb, hml, hown, hT⟩ (c_X11_isSheetG l D cI aK aV H.size a1) (cwS 1 hT (gS_in mw_1391 mw_1389 mw_1390 mw_12) rfl rfl rfl (by decide +kernel) ⟨Nat.le_of_ble_eq_true rfl, Nat.le_of_ble_eq_true rfl⟩) (kStatX hK hP hD hN hXS hS hA [] rfl (by decide +kernel)) rfl rfl hl.1 rfl (lv_room (Nat.le_of_ble_eq_true rfl)) dX11_load_9 ⟨Nat.le_of_ble_eq_true rfl, Nat.le_of_ble_eq_true rfl⟩) hP hD hS hA [] [0, 1, 2, 3, 4, 5, 6] rfl rfl (by decide +kernel) (by decide +kernel) ?_
    clear hP hD hS
    intro r_11 u_13 H locs w_12 hP hD hS
    replace hP : va_P D vwCl [(k4, .inl (cI, 6, .inl c4)), (k5, .inl (cI, 4, .inl c5)), (k6, .inl (cI, 4, .inl c6)), (k7, .inl (cI, 144, .inl c7)), (kl, .inl (cI, 8, .inl cl)), (k, .inr (11, [.ref k0, .ref k1, .ref k2, .int c3, .ref k4, .ref k5, .ref k6, .ref k7, .ref k8, .int c9, .ref ka, .ref kb, .int cc, .int cd, .int ce, .int cf, .int cg, .int ch, .int ci, .int cj, .int ck, .ref kl, .int cm, .int cn, .ref ko])), (k0, .inl (cI, 1201, .inl c0))] H := hP
    replace hD : va_D A [(k4, .inl (cI, 6, .inl c4)), (k5, .inl (cI, 4, .inl c5)), (k6, .inl (cI, 4, .inl c6)), (k7, .inl (cI, 144, .inl c7)), (kl, .inl (cI, 8, .inl cl)), (k, .inr (11, [.ref k0, .ref k1, .ref k2, .int c3, .ref k4, .ref k5, .ref k6, .ref k7, .ref k8, .int c9, .ref ka, .ref kb, .int cc, .int cd, .int ce, .int cf, .int cg, .int ch, .int ci, .int cj, .int ck, .ref kl, .int cm, .int cn, .ref ko])), (k0, .inl (cI, 1201, .inl c0))] := hD
    rcases w_12 with ⟨hr_11, h_14, h_15⟩ | ⟨hr_11, h_16⟩
    · have h_14 : 0 ≤ a1.toInt := h_14
      have h_15 : a1.toInt ≤ 3 := h_15
      obtain rfl : r_11 = 1 := hr_11.trans (by decide +kernel)
      refine b_if_eq hx hb zl_1 (tgt := 21) dX11_load_12 (by decide +kernel) (fun c_17 => by exfalso; omega) (fun c_17 => ?_)
      refine lv_iload_n hx hb dX11_load_15 rfl (lv_at hl 3 rfl) ?_
      refine lv_bipush (v := (-2)) hx hb dX11_load_16 (by decide +kernel) ?_
      refine b_icmp_ge hx hb rfl zl_m2 (tgt := 28) dX11_load_18 (by decide +kernel) (fun c_18 => ?_) (fun c_18 => ?_)
      · refine lv_aload_n hx hb dX11_load_28 rfl (lv_at hl 0 rfl) ?_
        refine va_get (D := D) (ci := 11) (v := .ref k5) (C := RX11) (T := TX11) (N := 25) hx hb hT giX11 hown hK hP 5 rfl rfl 5 (by decide +kernel) (hT (Cond.fieldLink RX11 22 "DesertWireModel" "bits" "[I") mw_1161) (fun _ h9 => h9) rfl dX11_load_29 ?_
        refine lv_iload_n hx hb dX11_load_32 rfl (lv_at hl 2 rfl) ?_
        refine k_iald (v := (c5 a1.toNatClampNeg)) hx hb hK hP 1 0 rfl rfl (k_in (by omega) (by omega)) rfl dX11_load_33 ?_
        refine lv_topi (fun v_19 ev_19 => ?_)
        have lo_v_19 := k_lo v_19
        have hi_v_19 := k_hi v_19
        have tv_19 : v_19.toInt = (c5 a1.toNatClampNeg).toInt := by rw [ev_19]
        refine b_if_ne hx hb rfl (tgt := 44) dX11_load_34 (by decide +kernel) (fun c_20 => ?_) (fun c_20 => ?_)
        · refine lv_aload_n hx hb dX11_load_44 rfl (lv_at hl 0 rfl) ?_
          refine lv_iload_n hx hb dX11_load_45 rfl (lv_at hl 2 rfl) ?_
          refine kJi (wr := [(k4, .inl (cI, 6, .inl c4)), (k5, .inl (cI, 4, .inl c5)), (kl, .inl (cI, 8, .inl cl)), (k0, .inl (cI, 1201, .inl c0))]) (va_runV (As := [.int a1]) (rest := []) ⟨hx, hb, hml, hown, hT⟩ (c_X11_areThingsG l D cI aK aV k k0 k1 k2 k4 k5 k6 k7 k8 ka kb kl ko H.size c3 c9 cc cd ce cf cg ch ci cj ck cm cn c6 c7 a1 pre1 (by first | omega | decide | assumption | rfl) (by first | omega | decide | assumption | rfl)) (cwV 1 hT (gV_in mw_1499 mw_1496 mw_1498 mw_p5_9 mw_12) rfl rfl rfl (by decide +kernel) ⟨Nat.le_of_ble_eq_true rfl, Nat.le_of_ble_eq_true rfl⟩) (kRecvX (q0 := 5) (ci := 11) hK hP hD hN hXS hS hA rfl rfl [5, 2, 3] rfl (by decide +kernel)) rfl rfl hl.1 rfl (lv_room (Nat.le_of_ble_eq_true rfl)) dX11_load_46 ⟨Nat.le_of_ble_eq_true rfl, Nat.le_of_ble_eq_true rfl⟩) hP hD hS hA [5, 2, 3] [0, 1, 4, 6] rfl rfl (by decide +kernel) (by decide +kernel) ?_
          clear hP hD hS
          intro r_21 u_23 H locs w_22 hP hD hS
          replace hP : va_P D vwCl [(k4, .inl (cI, 6, .inl c4)), (k5, .inl (cI, 4, .inl c5)), (kl, .inl (cI, 8, .inl cl)), (k0, .inl (cI, 1201, .inl c0)), (k, .inr (11, [.ref k0, .ref k1, .ref k2, .int c3, .ref k4, .ref k5, .ref k6, .ref k7, .ref k8, .int c9, .ref ka, .ref kb, .int cc, .int cd, .int ce, .int cf, .int cg, .int ch, .int ci, .int cj, .int ck, .ref kl, .int cm, .int cn, .ref ko])), (k6, .inl (cI, 4, .inl c6)), (k7, .inl (cI, 144, .inl c7))] H := hP
          replace hD : va_D A [(k4, .inl (cI, 6, .inl c4)), (k5, .inl (cI, 4, .inl c5)), (kl, .inl (cI, 8, .inl cl)), (k0, .inl (cI, 1201, .inl c0)), (k, .inr (11, [.ref k0, .ref k1, .ref k2, .int c3, .ref k4, .ref k5, .ref k6, .ref k7, .ref k8, .int c9, .ref ka, .ref kb, .int cc, .int cd, .int ce, .int cf, .int cg, .int ch, .int ci, .int cj, .int ck, .ref kl, .int cm, .int cn, .ref ko])), (k6, .inl (cI, 4, .inl c6)), (k7, .inl (cI, 144, .inl c7))] := hD
          rcases w_22 with ⟨hr_21, h_24, h_25⟩ | hr_21
          · have h_24 : 3 ≤ (c6 a1.toNatClampNeg).toInt := h_24
            have h_25 : (c6 a1.toNatClampNeg).toInt ≤ 24 := h_25
            obtain rfl : r_21 = 1 := hr_21.trans (by decide +kernel)
            refine b_if_ne hx hb zl_1 (tgt := 59) dX11_load_49 (by decide +kernel) (fun c_26 => ?_) (fun c_26 => by exfalso; omega)
            refine lv_iload_n hx hb dX11_load_59 rfl (lv_at hl 3 rfl) ?_
            refine lv_aload_n hx hb dX11_load_60 rfl (lv_at hl 0 rfl) ?_
            refine va_get (D := D) (ci := 11) (v := .ref k6) (C := RX11) (T := TX11) (N := 25) hx hb hT giX11 hown hK hP 4 rfl rfl 6 (by decide +kernel) (hT (Cond.fieldLink RX11 25 "DesertWireModel" "size" "[I") mw_1162) (fun _ h9 => h9) rfl dX11_load_61 ?_
            refine lv_iload_n hx hb dX11_load_64 rfl (lv_at hl 2 rfl) ?_
            refine k_iald (v := (c6 a1.toNatClampNeg)) hx hb hK hP 5 0 rfl rfl (k_in (by omega) (by omega)) rfl dX11_load_65 ?_
            refine lv_topi (fun v_27 ev_27 => ?_)
            have lo_v_27 := k_lo v_27
            have hi_v_27 := k_hi v_27
            have tv_27 : v_27.toInt = (c6 a1.toNatClampNeg).toInt := by rw [ev_27]
            have b_28 : 0 ≤ v_27.toInt ∧ v_27.toInt ≤ 36 := by rw [tv_27]; exact pre1 a1.toNatClampNeg (by rw [k_clamp]; omega)
            refine lv_iconst (v := 3) hx hb dX11_load_66 (by decide +kernel) ?_
            refine lv_idiv hx hb dX11_load_67 (by decide +kernel) ?_
            refine lv_topi (fun v_29 ev_29 => ?_)
            have tv_29 : v_29.toInt = v_27.toInt / 3 := k_divv (w := 0) ev_29 zl_3 (by omega) (by decide +kernel)
            have lo_v_29 := k_lo v_29
            have hi_v_29 := k_hi v_29
            refine b_icmp_lt hx hb rfl rfl (tgt := 78) dX11_load_68 (by decide +kernel) (fun c_30 => ?_) (fun c_30 => ?_)
            · refine lv_aload_n hx hb dX11_load_78 rfl (lv_at hl 0 rfl) ?_
              refine lv_iload_n hx hb dX11_load_79 rfl (lv_at hl 2 rfl) ?_
              refine lv_bipush (v := 12) hx hb dX11_load_80 (by decide +kernel) ?_
              refine lv_aload_n hx hb dX11_load_82 rfl (lv_at hl 0 rfl) ?_
              refine lv_iload_n hx hb dX11_load_83 rfl (lv_at hl 1 rfl) ?_
              refine lv_iconst (v := 3) hx hb dX11_load_84 (by decide +kernel) ?_
              refine kJi (wr := [(k4, .inl (cI, 6, .inl c4)), (k5, .inl (cI, 4, .inl c5)), (kl, .inl (cI, 8, .inl cl)), (k6, .inl (cI, 4, .inl c6)), (k7, .inl (cI, 144, .inl c7))]) (va_runV (As := [.int a0, .int 3]) (rest := [.int 12, .int a1, .ref k]) ⟨hx, hb, hml, hown, hT⟩ (c_X11_partyG3 l D cI aK aV k k0 k1 k2 k4 k5 k6 k7 k8 ka kb kl ko H.size c3 c9 cc cd ce cf cg ch ci cj ck cm cn c0 a0 3 (by first | omega | (simp only [zl_3]; first | done | omega) | decide | assumption | rfl) (by first | omega | (simp only [zl_3]; first | done | omega) | decide | assumption | rfl) (by first | omega | (simp only [zl_3]; first | done | omega) | decide | assumption | rfl)) (cwV 2 hT (gV_in mw_1416 mw_1413 mw_1415 mw_p5_5 mw_12) rfl rfl rfl (by decide +kernel) ⟨Nat.le_of_ble_eq_true rfl, Nat.le_of_ble_eq_true rfl⟩) (kRecvX (q0 := 4) (ci := 11) hK hP hD hN hXS hS hA rfl rfl [4, 3] rfl (by decide +kernel)) rfl rfl hl.1 rfl (lv_room (Nat.le_of_ble_eq_true rfl)) dX11_load_85 ⟨Nat.le_of_ble_eq_true rfl, Nat.le_of_ble_eq_true rfl⟩) hP hD hS hA [4, 3] [0, 1, 2, 5, 6] rfl rfl (by decide +kernel) (by decide +kernel) ?_
              clear hP hD hS
              intro r_31 u_33 H locs w_32 hP hD hS
              replace hP : va_P D vwCl [(k4, .inl (cI, 6, .inl c4)), (k5, .inl (cI, 4, .inl c5)), (kl, .inl (cI, 8, .inl cl)), (k6, .inl (cI, 4, .inl c6)), (k7, .inl (cI, 144, .inl c7)), (k, .inr (11, [.ref k0, .ref k1, .ref k2, .int c3, .ref k4, .ref k5, .ref k6, .ref k7, .ref k8, .int c9, .ref ka, .ref kb, .int cc, .int cd, .int ce, .int cf, .int cg, .int ch, .int ci, .int cj, .int ck, .ref kl, .int cm, .int cn, .ref ko])), (k0, .inl (cI, 1201, .inl c0))] H := hP
              replace hD : va_D A [(k4, .inl (cI, 6, .inl c4)), (k5, .inl (cI, 4, .inl c5)), (kl, .inl (cI, 8, .inl cl)), (k6, .inl (cI, 4, .inl c6)), (k7, .inl (cI, 144, .inl c7)), (k, .inr (11, [.ref k0, .ref k1, .ref k2, .int c3, .ref k4, .ref k5, .ref k6, .ref k7, .ref k8, .int c9, .ref ka, .ref kb, .int cc, .int cd, .int ce, .int cf, .int cg, .int ch, .int ci, .int cj, .int ck, .ref kl, .int cm, .int cn, .ref ko])), (k0, .inl (cI, 1201, .inl c0))] := hD
              have h_34 := w_32
              have h_34 : r_31 = pW c0 a0 3 := h_34
              have t_35 : r_31.toInt = (pW c0 a0 3).toInt := by rw [h_34]
              have b_36 : 0 ≤ r_31.toInt ∧ r_31.toInt ≤ 50 := by rw [h_34]; exact SB.p3 pre0 (by omega) (by omega)
              have lo_r_31 := k_lo r_31
              have hi_r_31 := k_hi r_31
              refine lv_imul hx hb dX11_load_88 ?_
              refine lv_topi (fun v_37 ev_37 => ?_)
              have tv_37 : v_37.toInt = 12 * r_31.toInt := by rw [ev_37]; exact k_mulv zl_12 rfl (by omega) (by omega)
              refine kJv (wr := [(k4, .inl (cI, 6, .inl c4)), (k5, .inl (cI, 4, .inl c5)), (k0, .inl (cI, 1201, .inl c0))]) (va_runV (As := [.int a1, .int v_37]) (rest := []) ⟨hx, hb, hml, hown, hT⟩ (c_X11_findLoadG l D cI aK aV k k0 k1 k2 k4 k5 k6 k7 k8 ka kb kl ko H.size c3 c9 cc cd ce cf cg ch ci cj ck cm cn c6 c7 cl a1 v_37 pre1 (by first | omega | decide | assumption | rfl) (by first | omega | decide | assumption | rfl) (by first | omega | decide | assumption | rfl) (by first | omega | decide | assumption | rfl)) (cwV 2 hT (gV_in mw_1503 mw_1500 mw_1502 mw_p5_10 mw_12) rfl rfl rfl (by decide +kernel) ⟨Nat.le_of_ble_eq_true rfl, Nat.le_of_ble_eq_true rfl⟩) (kRecvX (q0 := 5) (ci := 11) hK hP hD hN hXS hS hA rfl rfl [5, 3, 4, 2] rfl (by decide +kernel)) rfl rfl hl.1 rfl (lv_room (Nat.le_of_ble_eq_true rfl)) dX11_load_89 ⟨Nat.le_of_ble_eq_true rfl, Nat.le_of_ble_eq_true rfl⟩) hP hD hS hA [5, 3, 4, 2] [0, 1, 6] rfl rfl (by decide +kernel) (by decide +kernel) ?_
              clear hP hD hS
              intro u_43 H locs w_39 hP hD hS
              obtain ⟨scm_40, scn_41, scl_42⟩ := u_43
              replace hP : va_P D vwCl [(k4, .inl (cI, 6, .inl c4)), (k5, .inl (cI, 4, .inl c5)), (k0, .inl (cI, 1201, .inl c0)), (k, .inr (11, [.ref k0, .ref k1, .ref k2, .int c3, .ref k4, .ref k5, .ref k6, .ref k7, .ref k8, .int c9, .ref ka, .ref kb, .int cc, .int cd, .int ce, .int cf, .int cg, .int ch, .int ci, .int cj, .int ck, .ref kl, .int scm_40, .int scn_41, .ref ko])), (k6, .inl (cI, 4, .inl c6)), (k7, .inl (cI, 144, .inl c7)), (kl, .inl (cI, 8, .inl scl_42))] H := hP
              replace hD : va_D A [(k4, .inl (cI, 6, .inl c4)), (k5, .inl (cI, 4, .inl c5)), (k0, .inl (cI, 1201, .inl c0)), (k, .inr (11, [.ref k0, .ref k1, .ref k2, .int c3, .ref k4, .ref k5, .ref k6, .ref k7, .ref k8, .int c9, .ref ka, .ref kb, .int cc, .int cd, .int ce, .int cf, .int cg, .int ch, .int ci, .int cj, .int ck, .ref kl, .int scm_40, .int scn_41, .ref ko])), (k6, .inl (cI, 4, .inl c6)), (k7, .inl (cI, 144, .inl c7)), (kl, .inl (cI, 8, .inl scl_42))] := hD
              have lo_scm_40 := k_lo scm_40
              have hi_scm_40 := k_hi scm_40
              have lo_scn_41 := k_lo scn_41
              have hi_scn_41 := k_hi scn_41
              refine lv_iload_n hx hb dX11_load_92 rfl (lv_at hl 3 rfl) ?_
              refine lv_iconst (v := (-1)) hx hb dX11_load_93 (by decide +kernel) ?_
              refine b_icmp_ne hx hb rfl zl_m1 (tgt := 104) dX11_load_94 (by decide +kernel) (fun c_44 => ?_) (fun c_44 => ?_)
              · refine lv_iload_n hx hb dX11_load_104 rfl (lv_at hl 3 rfl) ?_
                refine lv_bipush (v := (-2)) hx hb dX11_load_105 (by decide +kernel) ?_
                refine b_icmp_ne hx hb rfl zl_m2 (tgt := 117) dX11_load_107 (by decide +kernel) (fun c_45 => ?_) (fun c_45 => ?_)
                · refine lv_aload_n hx hb dX11_load_117 rfl (lv_at hl 0 rfl) ?_
                  refine va_get (D := D) (ci := 11) (v := .ref kl) (C := RX11) (T := TX11) (N := 25) hx hb hT giX11 hown hK hP 3 rfl rfl 21 (by decide +kernel) (hT (Cond.fieldLink RX11 40 "DesertWireModel" "best" "[I") mw_1177) (fun _ h9 => h9) rfl dX11_load_118 ?_
                  refine lv_iload_n hx hb dX11_load_121 rfl (lv_at hl 3 rfl) ?_
                  refine k_iald (v := (scl_42 a2.toNatClampNeg)) hx hb hK hP 6 0 rfl rfl (k_in (by omega) (by omega)) rfl dX11_load_122 ?_
                  refine lv_topi (fun v_46 ev_46 => ?_)
                  have lo_v_46 := k_lo v_46
                  have hi_v_46 := k_hi v_46
                  have tv_46 : v_46.toInt = (scl_42 a2.toNatClampNeg).toInt := by rw [ev_46]
                  exact hRet (scm_40, scn_41, c4, scl_42) [3, 2, 0, 1, 4, 5, 6] trivial hP hD (by decide +kernel) rfl hS rfl dX11_load_123
                · refine lv_aload_n hx hb dX11_load_110 rfl (lv_at hl 0 rfl) ?_
                  refine va_get (D := D) (ci := 11) (v := .int scn_41) (C := RX11) (T := TX11) (N := 25) hx hb hT giX11 hown hK hP 3 rfl rfl 23 (by decide +kernel) (hT (Cond.fieldLink RX11 217 "DesertWireModel" "bestWeight" "I") mw_1179) (fun _ h9 => h9) rfl dX11_load_111 ?_
                  refine lv_goto (tgt := 123) hx hb dX11_load_114 (by decide +kernel) ?_
                  exact hRet (scm_40, scn_41, c4, scl_42) [3, 2, 0, 1, 4, 5, 6] trivial hP hD (by decide +kernel) rfl hS rfl dX11_load_123
              · refine lv_aload_n hx hb dX11_load_97 rfl (lv_at hl 0 rfl) ?_
                refine va_get (D := D) (ci := 11) (v := .int scm_40) (C := RX11) (T := TX11) (N := 25) hx hb hT giX11 hown hK hP 3 rfl rfl 22 (by decide +kernel) (hT (Cond.fieldLink RX11 214 "DesertWireModel" "bestWorth" "I") mw_1178) (fun _ h9 => h9) rfl dX11_load_98 ?_
                refine lv_goto (tgt := 123) hx hb dX11_load_101 (by decide +kernel) ?_
                exact hRet (scm_40, scn_41, c4, scl_42) [3, 2, 0, 1, 4, 5, 6] trivial hP hD (by decide +kernel) rfl hS rfl dX11_load_123
            · refine lv_aload_n hx hb dX11_load_71 rfl (lv_at hl 0 rfl) ?_
              refine lv_ldc (v := (-1000003)) hx hb hown (hT _ mw_1356) dX11_load_72 ?_
              refine kJi (wr := [(k5, .inl (cI, 4, .inl c5)), (kl, .inl (cI, 8, .inl cl)), (k0, .inl (cI, 1201, .inl c0)), (k6, .inl (cI, 4, .inl c6)), (k7, .inl (cI, 144, .inl c7))]) (va_runV (As := [.int (-1000003)]) (rest := []) ⟨hx, hb, hml, hown, hT⟩ (c_X11_findingG l D cI aK aV k k0 k1 k2 k4 k5 k6 k7 k8 ka kb kl ko H.size c3 c9 cc cd ce cf cg ch ci cj ck cm cn c4 (-1000003) (by first | omega | (simp only [zl_m1000003]; first | done | omega) | decide | assumption | rfl) (by first | omega | (simp only [zl_m1000003]; first | done | omega) | decide | assumption | rfl)) (cwV 1 hT (gV_in mw_1243 mw_1240 mw_1242 mw_p3_8 mw_12) rfl rfl rfl (by decide +kernel) ⟨Nat.le_of_ble_eq_true rfl, Nat.le_of_ble_eq_true rfl⟩) (kRecvX (q0 := 4) (ci := 11) hK hP hD hN hXS hS hA rfl rfl [4, 0] rfl (by decide +kernel)) rfl rfl hl.1 rfl (lv_room (Nat.le_of_ble_eq_true rfl)) dX11_load_74 ⟨Nat.le_of_ble_eq_true rfl, Nat.le_of_ble_eq_true rfl⟩) hP hD hS hA [4, 0] [1, 2, 3, 5, 6] rfl rfl (by decide +kernel) (by decide +kernel) ?_
              clear hP hD hS
              intro r_47 sc4_49 H locs w_48 hP hD hS
              replace hP : va_P D vwCl [(k5, .inl (cI, 4, .inl c5)), (kl, .inl (cI, 8, .inl cl)), (k0, .inl (cI, 1201, .inl c0)), (k6, .inl (cI, 4, .inl c6)), (k7, .inl (cI, 144, .inl c7)), (k, .inr (11, [.ref k0, .ref k1, .ref k2, .int c3, .ref k4, .ref k5, .ref k6, .ref k7, .ref k8, .int c9, .ref ka, .ref kb, .int cc, .int cd, .int ce, .int cf, .int cg, .int ch, .int ci, .int cj, .int ck, .ref kl, .int cm, .int cn, .ref ko])), (k4, .inl (cI, 6, .inl sc4_49))] H := hP
              replace hD : va_D A [(k5, .inl (cI, 4, .inl c5)), (kl, .inl (cI, 8, .inl cl)), (k0, .inl (cI, 1201, .inl c0)), (k6, .inl (cI, 4, .inl c6)), (k7, .inl (cI, 144, .inl c7)), (k, .inr (11, [.ref k0, .ref k1, .ref k2, .int c3, .ref k4, .ref k5, .ref k6, .ref k7, .ref k8, .int c9, .ref ka, .ref kb, .int cc, .int cd, .int ce, .int cf, .int cg, .int ch, .int ci, .int cj, .int ck, .ref kl, .int cm, .int cn, .ref ko])), (k4, .inl (cI, 6, .inl sc4_49))] := hD
              have hr_47 := w_48
              obtain rfl : r_47 = (-1000003) := hr_47.trans (by decide +kernel)
              exact hRet (cm, cn, sc4_49, cl) [5, 2, 6, 0, 3, 4, 1] trivial hP hD (by decide +kernel) rfl hS rfl dX11_load_77
          · obtain rfl : r_21 = 0 := hr_21.trans (by decide +kernel)
            refine b_if_ne hx hb zl_0 (tgt := 59) dX11_load_49 (by decide +kernel) (fun c_50 => by exfalso; omega) (fun c_50 => ?_)
            refine lv_aload_n hx hb dX11_load_52 rfl (lv_at hl 0 rfl) ?_
            refine lv_ldc (v := (-1000005)) hx hb hown (hT _ mw_1283) dX11_load_53 ?_
            refine kJi (wr := [(k5, .inl (cI, 4, .inl c5)), (kl, .inl (cI, 8, .inl cl)), (k0, .inl (cI, 1201, .inl c0)), (k6, .inl (cI, 4, .inl c6)), (k7, .inl (cI, 144, .inl c7))]) (va_runV (As := [.int (-1000005)]) (rest := []) ⟨hx, hb, hml, hown, hT⟩ (c_X11_findingG l D cI aK aV k k0 k1 k2 k4 k5 k6 k7 k8 ka kb kl ko H.size c3 c9 cc cd ce cf cg ch ci cj ck cm cn c4 (-1000005) (by first | omega | (simp only [zl_m1000005]; first | done | omega) | decide | assumption | rfl) (by first | omega | (simp only [zl_m1000005]; first | done | omega) | decide | assumption | rfl)) (cwV 1 hT (gV_in mw_1243 mw_1240 mw_1242 mw_p3_8 mw_12) rfl rfl rfl (by decide +kernel) ⟨Nat.le_of_ble_eq_true rfl, Nat.le_of_ble_eq_true rfl⟩) (kRecvX (q0 := 4) (ci := 11) hK hP hD hN hXS hS hA rfl rfl [4, 0] rfl (by decide +kernel)) rfl rfl hl.1 rfl (lv_room (Nat.le_of_ble_eq_true rfl)) dX11_load_55 ⟨Nat.le_of_ble_eq_true rfl, Nat.le_of_ble_eq_true rfl⟩) hP hD hS hA [4, 0] [1, 2, 3, 5, 6] rfl rfl (by decide +kernel) (by decide +kernel) ?_
            clear hP hD hS
            intro r_51 sc4_53 H locs w_52 hP hD hS
            replace hP : va_P D vwCl [(k5, .inl (cI, 4, .inl c5)), (kl, .inl (cI, 8, .inl cl)), (k0, .inl (cI, 1201, .inl c0)), (k6, .inl (cI, 4, .inl c6)), (k7, .inl (cI, 144, .inl c7)), (k, .inr (11, [.ref k0, .ref k1, .ref k2, .int c3, .ref k4, .ref k5, .ref k6, .ref k7, .ref k8, .int c9, .ref ka, .ref kb, .int cc, .int cd, .int ce, .int cf, .int cg, .int ch, .int ci, .int cj, .int ck, .ref kl, .int cm, .int cn, .ref ko])), (k4, .inl (cI, 6, .inl sc4_53))] H := hP
            replace hD : va_D A [(k5, .inl (cI, 4, .inl c5)), (kl, .inl (cI, 8, .inl cl)), (k0, .inl (cI, 1201, .inl c0)), (k6, .inl (cI, 4, .inl c6)), (k7, .inl (cI, 144, .inl c7)), (k, .inr (11, [.ref k0, .ref k1, .ref k2, .int c3, .ref k4, .ref k5, .ref k6, .ref k7, .ref k8, .int c9, .ref ka, .ref kb, .int cc, .int cd, .int ce, .int cf, .int cg, .int ch, .int ci, .int cj, .int ck, .ref kl, .int cm, .int cn, .ref ko])), (k4, .inl (cI, 6, .inl sc4_53))] := hD
            have hr_51 := w_52
            obtain rfl : r_51 = (-1000005) := hr_51.trans (by decide +kernel)
            exact hRet (cm, cn, sc4_53, cl) [5, 2, 6, 0, 3, 4, 1] trivial hP hD (by decide +kernel) rfl hS rfl dX11_load_58
        · refine lv_aload_n hx hb dX11_load_37 rfl (lv_at hl 0 rfl) ?_
          refine lv_ldc (v := (-1000002)) hx hb hown (hT _ mw_1392) dX11_load_38 ?_
          refine kJi (wr := [(k5, .inl (cI, 4, .inl c5)), (k6, .inl (cI, 4, .inl c6)), (k7, .inl (cI, 144, .inl c7)), (kl, .inl (cI, 8, .inl cl)), (k0, .inl (cI, 1201, .inl c0))]) (va_runV (As := [.int (-1000002)]) (rest := []) ⟨hx, hb, hml, hown, hT⟩ (c_X11_findingG l D cI aK aV k k0 k1 k2 k4 k5 k6 k7 k8 ka kb kl ko H.size c3 c9 cc cd ce cf cg ch ci cj ck cm cn c4 (-1000002) (by first | omega | (simp only [zl_m1000002]; first | done | omega) | decide | assumption | rfl) (by first | omega | (simp only [zl_m1000002]; first | done | omega) | decide | assumption | rfl)) (cwV 1 hT (gV_in mw_1243 mw_1240 mw_1242 mw_p3_8 mw_12) rfl rfl rfl (by decide +kernel) ⟨Nat.le_of_ble_eq_true rfl, Nat.le_of_ble_eq_true rfl⟩) (kRecvX (q0 := 5) (ci := 11) hK hP hD hN hXS hS hA rfl rfl [5, 0] rfl (by decide +kernel)) rfl rfl hl.1 rfl (lv_room (Nat.le_of_ble_eq_true rfl)) dX11_load_40 ⟨Nat.le_of_ble_eq_true rfl, Nat.le_of_ble_eq_true rfl⟩) hP hD hS hA [5, 0] [1, 2, 3, 4, 6] rfl rfl (by decide +kernel) (by decide +kernel) ?_
          clear hP hD hS
          intro r_54 sc4_56 H locs w_55 hP hD hS
          replace hP : va_P D vwCl [(k5, .inl (cI, 4, .inl c5)), (k6, .inl (cI, 4, .inl c6)), (k7, .inl (cI, 144, .inl c7)), (kl, .inl (cI, 8, .inl cl)), (k0, .inl (cI, 1201, .inl c0)), (k, .inr (11, [.ref k0, .ref k1, .ref k2, .int c3, .ref k4, .ref k5, .ref k6, .ref k7, .ref k8, .int c9, .ref ka, .ref kb, .int cc, .int cd, .int ce, .int cf, .int cg, .int ch, .int ci, .int cj, .int ck, .ref kl, .int cm, .int cn, .ref ko])), (k4, .inl (cI, 6, .inl sc4_56))] H := hP
          replace hD : va_D A [(k5, .inl (cI, 4, .inl c5)), (k6, .inl (cI, 4, .inl c6)), (k7, .inl (cI, 144, .inl c7)), (kl, .inl (cI, 8, .inl cl)), (k0, .inl (cI, 1201, .inl c0)), (k, .inr (11, [.ref k0, .ref k1, .ref k2, .int c3, .ref k4, .ref k5, .ref k6, .ref k7, .ref k8, .int c9, .ref ka, .ref kb, .int cc, .int cd, .int ce, .int cf, .int cg, .int ch, .int ci, .int cj, .int ck, .ref kl, .int cm, .int cn, .ref ko])), (k4, .inl (cI, 6, .inl sc4_56))] := hD
          have hr_54 := w_55
          obtain rfl : r_54 = (-1000002) := hr_54.trans (by decide +kernel)
          exact hRet (cm, cn, sc4_56, cl) [5, 4, 6, 0, 1, 2, 3] trivial hP hD (by decide +kernel) rfl hS rfl dX11_load_43
      · refine lv_aload_n hx hb dX11_load_21 rfl (lv_at hl 0 rfl) ?_
        refine lv_ldc (v := (-1000001)) hx hb hown (hT _ mw_1239) dX11_load_22 ?_
        refine kJi (wr := [(k5, .inl (cI, 4, .inl c5)), (k6, .inl (cI, 4, .inl c6)), (k7, .inl (cI, 144, .inl c7)), (kl, .inl (cI, 8, .inl cl)), (k0, .inl (cI, 1201, .inl c0))]) (va_runV (As := [.int (-1000001)]) (rest := []) ⟨hx, hb, hml, hown, hT⟩ (c_X11_findingG l D cI aK aV k k0 k1 k2 k4 k5 k6 k7 k8 ka kb kl ko H.size c3 c9 cc cd ce cf cg ch ci cj ck cm cn c4 (-1000001) (by first | omega | (simp only [zl_m1000001]; first | done | omega) | decide | assumption | rfl) (by first | omega | (simp only [zl_m1000001]; first | done | omega) | decide | assumption | rfl)) (cwV 1 hT (gV_in mw_1243 mw_1240 mw_1242 mw_p3_8 mw_12) rfl rfl rfl (by decide +kernel) ⟨Nat.le_of_ble_eq_true rfl, Nat.le_of_ble_eq_true rfl⟩) (kRecvX (q0 := 5) (ci := 11) hK hP hD hN hXS hS hA rfl rfl [5, 0] rfl (by decide +kernel)) rfl rfl hl.1 rfl (lv_room (Nat.le_of_ble_eq_true rfl)) dX11_load_24 ⟨Nat.le_of_ble_eq_true rfl, Nat.le_of_ble_eq_true rfl⟩) hP hD hS hA [5, 0] [1, 2, 3, 4, 6] rfl rfl (by decide +kernel) (by decide +kernel) ?_
        clear hP hD hS
        intro r_57 sc4_59 H locs w_58 hP hD hS
        replace hP : va_P D vwCl [(k5, .inl (cI, 4, .inl c5)), (k6, .inl (cI, 4, .inl c6)), (k7, .inl (cI, 144, .inl c7)), (kl, .inl (cI, 8, .inl cl)), (k0, .inl (cI, 1201, .inl c0)), (k, .inr (11, [.ref k0, .ref k1, .ref k2, .int c3, .ref k4, .ref k5, .ref k6, .ref k7, .ref k8, .int c9, .ref ka, .ref kb, .int cc, .int cd, .int ce, .int cf, .int cg, .int ch, .int ci, .int cj, .int ck, .ref kl, .int cm, .int cn, .ref ko])), (k4, .inl (cI, 6, .inl sc4_59))] H := hP
        replace hD : va_D A [(k5, .inl (cI, 4, .inl c5)), (k6, .inl (cI, 4, .inl c6)), (k7, .inl (cI, 144, .inl c7)), (kl, .inl (cI, 8, .inl cl)), (k0, .inl (cI, 1201, .inl c0)), (k, .inr (11, [.ref k0, .ref k1, .ref k2, .int c3, .ref k4, .ref k5, .ref k6, .ref k7, .ref k8, .int c9, .ref ka, .ref kb, .int cc, .int cd, .int ce, .int cf, .int cg, .int ch, .int ci, .int cj, .int ck, .ref kl, .int cm, .int cn, .ref ko])), (k4, .inl (cI, 6, .inl sc4_59))] := hD
        have hr_57 := w_58
        obtain rfl : r_57 = (-1000001) := hr_57.trans (by decide +kernel)
        exact hRet (cm, cn, sc4_59, cl) [5, 4, 6, 0, 1, 2, 3] trivial hP hD (by decide +kernel) rfl hS rfl dX11_load_27
    · have h_16 : a1.toInt < 0 ∨ 3 < a1.toInt := h_16
      obtain rfl : r_11 = 0 := hr_11.trans (by decide +kernel)
      refine b_if_eq hx hb zl_0 (tgt := 21) dX11_load_12 (by decide +kernel) (fun c_60 => ?_) (fun c_60 => by exfalso; omega)
      refine lv_aload_n hx hb dX11_load_21 rfl (lv_at hl 0 rfl) ?_
      refine lv_ldc (v := (-1000001)) hx hb hown (hT _ mw_1239) dX11_load_22 ?_
      refine kJi (wr := [(k5, .inl (cI, 4, .inl c5)), (k6, .inl (cI, 4, .inl c6)), (k7, .inl (cI, 144, .inl c7)), (kl, .inl (cI, 8, .inl cl)), (k0, .inl (cI, 1201, .inl c0))]) (va_runV (As := [.int (-1000001)]) (rest := []) ⟨hx, hb, hml, hown, hT⟩ (c_X11_findingG l D cI aK aV k k0 k1 k2 k4 k5 k6 k7 k8 ka kb kl ko H.size c3 c9 cc cd ce cf cg ch ci cj ck cm cn c4 (-1000001) (by first | omega | (simp only [zl_m1000001]; first | done | omega) | decide | assumption | rfl) (by first | omega | (simp only [zl_m1000001]; first | done | omega) | decide | assumption | rfl)) (cwV 1 hT (gV_in mw_1243 mw_1240 mw_1242 mw_p3_8 mw_12) rfl rfl rfl (by decide +kernel) ⟨Nat.le_of_ble_eq_true rfl, Nat.le_of_ble_eq_true rfl⟩) (kRecvX (q0 := 5) (ci := 11) hK hP hD hN hXS hS hA rfl rfl [5, 0] rfl (by decide +kernel)) rfl rfl hl.1 rfl (lv_room (Nat.le_of_ble_eq_true rfl)) dX11_load_24 ⟨Nat.le_of_ble_eq_true rfl, Nat.le_of_ble_eq_true rfl⟩) hP hD hS hA [5, 0] [1, 2, 3, 4, 6] rfl rfl (by decide +kernel) (by decide +kernel) ?_
      clear hP hD hS
      intro r_61 sc4_63 H locs w_62 hP hD hS
      replace hP : va_P D vwCl [(k5, .inl (cI, 4, .inl c5)), (k6, .inl (cI, 4, .inl c6)), (k7, .inl (cI, 144, .inl c7)), (kl, .inl (cI, 8, .inl cl)), (k0, .inl (cI, 1201, .inl c0)), (k, .inr (11, [.ref k0, .ref k1, .ref k2, .int c3, .ref k4, .ref k5, .ref k6, .ref k7, .ref k8, .int c9, .ref ka, .ref kb, .int cc, .int cd, .int ce, .int cf, .int cg, .int ch, .int ci, .int cj, .int ck, .ref kl, .int cm, .int cn, .ref ko])), (k4, .inl (cI, 6, .inl sc4_63))] H := hP
      replace hD : va_D A [(k5, .inl (cI, 4, .inl c5)), (k6, .inl (cI, 4, .inl c6)), (k7, .inl (cI, 144, .inl c7)), (kl, .inl (cI, 8, .inl cl)), (k0, .inl (cI, 1201, .inl c0)), (k, .inr (11, [.ref k0, .ref k1, .ref k2, .int c3, .ref k4, .ref k5, .ref k6, .ref k7, .ref k8, .int c9, .ref ka, .ref kb, .int cc, .int cd, .int ce, .int cf, .int cg, .int ch, .int ci, .int cj, .int ck, .ref kl, .int cm, .int cn, .ref ko])), (k4, .inl (cI, 6, .inl sc4_63))] := hD
      have hr_61 := w_62
      obtain rfl : r_61 = (-1000001) := hr_61.trans (by decide +kernel)
      exact hRet (cm, cn, sc4_63, cl) [5, 4, 6, 0, 1, 2, 3] trivial hP hD (by decide +kernel) rfl hS rfl dX11_load_27
  · have h_9 : a0.toInt < 0 ∨ (c0 2).toInt ≤ a0.toInt := h_9
    obtain rfl : r_4 = 0 := hr_4.trans (by decide +kernel)
    refine b_if_eq hx hb zl_0 (tgt := 21) dX11_load_5 (by decide +kernel) (fun c_64 => ?_) (fun c_64 => by exfalso; omega)
    refine lv_aload_n hx hb dX11_load_21 rfl (lv_at hl 0 rfl) ?_
    refine lv_ldc (v := (-1000001)) hx hb hown (hT _ mw_1239) dX11_load_22 ?_
    refine kJi (wr := [(k5, .inl (cI, 4, .inl c5)), (k6, .inl (cI, 4, .inl c6)), (k7, .inl (cI, 144, .inl c7)), (kl, .inl (cI, 8, .inl cl)), (k0, .inl (cI, 1201, .inl c0))]) (va_runV (As := [.int (-1000001)]) (rest := []) ⟨hx, hb, hml, hown, hT⟩ (c_X11_findingG l D cI aK aV k k0 k1 k2 k4 k5 k6 k7 k8 ka kb kl ko H.size c3 c9 cc cd ce cf cg ch ci cj ck cm cn c4 (-1000001) (by first | omega | (simp only [zl_m1000001]; first | done | omega) | decide | assumption | rfl) (by first | omega | (simp only [zl_m1000001]; first | done | omega) | decide | assumption | rfl)) (cwV 1 hT (gV_in mw_1243 mw_1240 mw_1242 mw_p3_8 mw_12) rfl rfl rfl (by decide +kernel) ⟨Nat.le_of_ble_eq_true rfl, Nat.le_of_ble_eq_true rfl⟩) (kRecvX (q0 := 5) (ci := 11) hK hP hD hN hXS hS hA rfl rfl [5, 0] rfl (by decide +kernel)) rfl rfl hl.1 rfl (lv_room (Nat.le_of_ble_eq_true rfl)) dX11_load_24 ⟨Nat.le_of_ble_eq_true rfl, Nat.le_of_ble_eq_true rfl⟩) hP hD hS hA [5, 0] [1, 2, 3, 4, 6] rfl rfl (by decide +kernel) (by decide +kernel) ?_
    clear hP hD hS
    intro r_65 sc4_67 H locs w_66 hP hD hS
    replace hP : va_P D vwCl [(k5, .inl (cI, 4, .inl c5)), (k6, .inl (cI, 4, .inl c6)), (k7, .inl (cI, 144, .inl c7)), (kl, .inl (cI, 8, .inl cl)), (k0, .inl (cI, 1201, .inl c0)), (k, .inr (11, [.ref k0, .ref k1, .ref k2, .int c3, .ref k4, .ref k5, .ref k6, .ref k7, .ref k8, .int c9, .ref ka, .ref kb, .int cc, .int cd, .int ce, .int cf, .int cg, .int ch, .int ci, .int cj, .int ck, .ref kl, .int cm, .int cn, .ref ko])), (k4, .inl (cI, 6, .inl sc4_67))] H := hP
    replace hD : va_D A [(k5, .inl (cI, 4, .inl c5)), (k6, .inl (cI, 4, .inl c6)), (k7, .inl (cI, 144, .inl c7)), (kl, .inl (cI, 8, .inl cl)), (k0, .inl (cI, 1201, .inl c0)), (k, .inr (11, [.ref k0, .ref k1, .ref k2, .int c3, .ref k4, .ref k5, .ref k6, .ref k7, .ref k8, .int c9, .ref ka, .ref kb, .int cc, .int cd, .int ce, .int cf, .int cg, .int ch, .int ci, .int cj, .int ck, .ref kl, .int cm, .int cn, .ref ko])), (k4, .inl (cI, 6, .inl sc4_67))] := hD
    have hr_65 := w_66
    obtain rfl : r_65 = (-1000001) := hr_65.trans (by decide +kernel)
    exact hRet (cm, cn, sc4_67, cl) [5, 4, 6, 0, 1, 2, 3] trivial hP hD (by decide +kernel) rfl hS rfl dX11_load_27

set_option maxHeartbeats 4000000 in
set_option maxRecDepth 100000 in
theorem c_X11_effortH (l : Launch) (D : va_G) (cI : ClassId) (aK aV : Nat → Nat) (k k0 k1 k2 k4 k5 k6 k7 k8 ka kb kl ko : Nat) (sz : Nat) (c3 : Int32) (c9 : Int32) (cc : Int32) (cd : Int32) (ce : Int32) (cf : Int32) (cg : Int32) (ch : Int32) (ci : Int32) (cj : Int32) (ck : Int32) (cm : Int32) (cn : Int32) (c0 : Nat → Int32) (a0 : Int32) (a1 : Int32) (pre0 : SB c0) (pre1 : 0 ≤ a0.toInt) (pre2 : a0.toInt ≤ 39) (pre3 : 0 ≤ a1.toInt) (pre4 : a1.toInt ≤ 9) : Met l yX11_effort (gW yX11_effort cX11_effort 4 (some .int)) ({ frames := 0, cells := 0, slots := 0, locals := 0 } : Room) (kPreX D cI aK aV [.ref k, .int a0, .int a1] [(k, .inr (11, [.ref k0, .ref k1, .ref k2, .int c3, .ref k4, .ref k5, .ref k6, .ref k7, .ref k8, .int c9, .ref ka, .ref kb, .int cc, .int cd, .int ce, .int cf, .int cg, .int ch, .int ci, .int cj, .int ck, .ref kl, .int cm, .int cn, .ref ko])), (k0, .inl (cI, 1201, .inl c0))] sz) (va_Qi (fun (r : Int32) (u : Unit) => 10 ≤ r.toInt ∧ r.toInt ≤ 110) (fun u t => kWd D cI (va_A [(k, .inr (11, [.ref k0, .ref k1, .ref k2, .int c3, .ref k4, .ref k5, .ref k6, .ref k7, .ref k8, .int c9, .ref ka, .ref kb, .int cc, .int cd, .int ce, .int cf, .int cg, .int ch, .int ci, .int cj, .int ck, .ref kl, .int cm, .int cn, .ref ko])), (k0, .inl (cI, 1201, .inl c0))] sz) [(k, .inr (11, [.ref k0, .ref k1, .ref k2, .int c3, .ref k4, .ref k5, .ref k6, .ref k7, .ref k8, .int c9, .ref ka, .ref kb, .int cc, .int cd, .int ce, .int cf, .int cg, .int ch, .int ci, .int cj, .int ck, .ref kl, .int cm, .int cn, .ref ko])), (k0, .inl (cI, 1201, .inl c0))] t) (va_A [(k, .inr (11, [.ref k0, .ref k1, .ref k2, .int c3, .ref k4, .ref k5, .ref k6, .ref k7, .ref k8, .int c9, .ref ka, .ref kb, .int cc, .int cd, .int ce, .int cf, .int cg, .int ch, .int ci, .int cj, .int ck, .ref kl, .int cm, .int cn, .ref ko])), (k0, .inl (cI, 1201, .inl c0))] sz)) 0 0 (va_A [(k, .inr (11, [.ref k0, .ref k1, .ref k2, .int c3, .ref k4, .ref k5, .ref k6, .ref k7, .ref k8, .int c9, .ref ka, .ref kb, .int cc, .int cd, .int ce, .int cf, .int cg, .int ch, .int ci, .int cj, .int ck, .ref kl, .int cm, .int cn, .ref ko])), (k0, .inl (cI, 1201, .inl c0))] sz) := by
  refine kMetIX (own := RX11) (by decide +kernel) rfl (Nat.le_of_ble_eq_true rfl) ?_
  intro p e s m args below meth c hx hb hT hown hname hml A Q hK hP hD hS hA hN hXS hRet ls hl
  have hl : lv_has ls 4 [(0, .ref k), (1, .int a0), (2, .int a1)] := hl
  have lo_a0 := k_lo a0
  have hi_a0 := k_hi a0
  have lo_a1 := k_lo a1
  have hi_a1 := k_hi a1
  have lo_ci := k_lo ci
  have hi_ci := k_hi ci
  have pre0 : SB c0 := pre0
  have nb_1 : 0 ≤ (c0 0).toInt ∧ (c0 0).toInt ≤ 2000 := SB.n0 pre0
  have nb_2 : 0 ≤ (c0 1).toInt ∧ (c0 1).toInt ≤ 60 := SB.n1 pre0
  have nb_3 : 0 ≤ (c0 2).toInt ∧ (c0 2).toInt ≤ 4 := SB.n2 pre0
  refine lv_aload_n hx hb dX11_effort_0 rfl (lv_at hl 0 rfl) ?_
  refine va_get (D := D) (ci := 11) (v := .ref k0) (C := RX11) (T := TX11) (N := 25) hx hb hT giX11 hown hK hP 0 rfl rfl 0 (by decide +kernel) (hT (Cond.fieldLink RX11 9 "DesertWireModel" "s" "[I") mw_1156) (fun _ h9 => h9) rfl dX11_effort_1 ?_
  refine lv_bipush (v := 19) hx hb dX11_effort_4 (by decide +kernel) ?_
  refine lv_iload_n hx hb dX11_effort_6 rfl (lv_at hl 1 rfl) ?_
  refine lv_iadd hx hb dX11_effort_7 ?_
  refine lv_topi (fun v_4 ev_4 => ?_)
  have tv_4 : v_4.toInt = 19 + a0.toInt := by rw [ev_4]; exact k_addv zl_19 rfl (by omega) (by omega)
  refine k_iald (v := (c0 v_4.toNatClampNeg)) hx hb hK hP 1 0 rfl rfl (k_in (by omega) (by omega)) rfl dX11_effort_8 ?_
  refine lv_topi (fun v_5 ev_5 => ?_)
  have lo_v_5 := k_lo v_5
  have hi_v_5 := k_hi v_5
  have tv_5 : v_5.toInt = (c0 v_4.toNatClampNeg).toInt := by rw [ev_5]
  refine lv_istore_n (lv' := [(3, .int v_5), (0, .ref k), (1, .int a0), (2, .int a1)]) hx hb dX11_effort_9 rfl hl (by decide +kernel) rfl ?_
  clear hl
  intro ls hl
  refine lv_iload_n hx hb dX11_effort_10 rfl (lv_at hl 0 rfl) ?_
  refine b_if_ne hx hb rfl (tgt := 19) dX11_effort_11 (by decide +kernel) (fun c_6 => ?_) (fun c_6 => ?_)
  · refine lv_iload_n hx hb dX11_effort_19 rfl (lv_at hl 0 rfl) ?_
    refine lv_iconst (v := 1) hx hb dX11_effort_20 (by decide +kernel) ?_
    refine b_icmp_ne hx hb rfl zl_1 (tgt := 29) dX11_effort_21 (by decide +kernel) (fun c_7 => ?_) (fun c_7 => ?_)
    · refine lv_bipush (v := 20) hx hb dX11_effort_29 (by decide +kernel) ?_
      refine lv_bipush (v := 10) hx hb dX11_effort_31 (by decide +kernel) ?_
      refine lv_iload_n hx hb dX11_effort_33 rfl (lv_at hl 3 rfl) ?_
      refine lv_imul hx hb dX11_effort_34 ?_
      refine lv_topi (fun v_8 ev_8 => ?_)
      have tv_8 : v_8.toInt = 10 * a1.toInt := by rw [ev_8]; exact k_mulv zl_10 rfl (by omega) (by omega)
      refine lv_iadd hx hb dX11_effort_35 ?_
      refine lv_topi (fun v_9 ev_9 => ?_)
      have tv_9 : v_9.toInt = 20 + v_8.toInt := by rw [ev_9]; exact k_addv zl_20 rfl (by omega) (by omega)
      exact hRet () [0, 1] ⟨(by first | omega | decide | assumption | rfl), (by first | omega | decide | assumption | rfl)⟩ hP hD (by decide +kernel) rfl hS rfl dX11_effort_36
    · refine lv_bipush (v := 40) hx hb dX11_effort_24 (by decide +kernel) ?_
      refine lv_goto (tgt := 36) hx hb dX11_effort_26 (by decide +kernel) ?_
      exact hRet () [0, 1] ⟨(by first | omega | (simp only [zl_40]; first | done | omega) | decide | assumption | rfl), (by first | omega | (simp only [zl_40]; first | done | omega) | decide | assumption | rfl)⟩ hP hD (by decide +kernel) rfl hS rfl dX11_effort_36
  · refine lv_bipush (v := 10) hx hb dX11_effort_14 (by decide +kernel) ?_
    refine lv_goto (tgt := 36) hx hb dX11_effort_16 (by decide +kernel) ?_
    exact hRet () [0, 1] ⟨(by first | omega | (simp only [zl_10]; first | done | omega) | decide | assumption | rfl), (by first | omega | (simp only [zl_10]; first | done | omega) | decide | assumption | rfl)⟩ hP hD (by decide +kernel) rfl hS rfl dX11_effort_36
theorem bn_cX11_doneIn_0 : BN cX11_doneIn 0 0x569945e04050056a2b030596500540246e61038581216030dcc26d04058ca05308202c6a00adc14160485856060b0286e7400adcc27106844da1f088182c69028581a110f0ac0c37308140a01540101001509f402b70207056090b0182c4d00a80c2070b0741216048dcfa015b810382b040dcfa015b818382b038dcfa015b814382b030dc5e04050056a2b := by
  unfold BN; decide +kernel
theorem dX11_doneIn_0 : decode cX11_doneIn 0 = .ok (.aload_n 0, 1) := dR0 (k := 0) (i := 0) bn_cX11_doneIn_0 dop_42 (by decide +kernel)
theorem dX11_doneIn_1 : decode cX11_doneIn 1 = .ok (.getfield 9, 3) := dR2 (f := Instr.getfield) (k := 0) (i := 1) bn_cX11_doneIn_0 dop_180 9 (by decide +kernel)
theorem dX11_doneIn_4 : decode cX11_doneIn 4 = .ok (.iconst 0, 1) := dR0 (k := 0) (i := 4) bn_cX11_doneIn_0 dop_3 (by decide +kernel)
theorem dX11_doneIn_5 : decode cX11_doneIn 5 = .ok (.iaload, 1) := dR0 (k := 0) (i := 5) bn_cX11_doneIn_0 dop_46 (by decide +kernel)
theorem dX11_doneIn_6 : decode cX11_doneIn 6 = .ok (.istore 5, 2) := dR1 (f := Instr.istore) (k := 0) (i := 6) bn_cX11_doneIn_0 dop_54 5 (by decide +kernel)
theorem dX11_doneIn_8 : decode cX11_doneIn 8 = .ok (.aload_n 0, 1) := dR0 (k := 0) (i := 8) bn_cX11_doneIn_0 dop_42 (by decide +kernel)
theorem dX11_doneIn_9 : decode cX11_doneIn 9 = .ok (.iload_n 1, 1) := dR0 (k := 0) (i := 9) bn_cX11_doneIn_0 dop_27 (by decide +kernel)
theorem dX11_doneIn_10 : decode cX11_doneIn 10 = .ok (.iconst 1, 1) := dR0 (k := 0) (i := 10) bn_cX11_doneIn_0 dop_4 (by decide +kernel)
theorem dX11_doneIn_11 : decode cX11_doneIn 11 = .ok (.invokevirtual 124, 3) := dR2 (f := Instr.invokevirtual) (k := 0) (i := 11) bn_cX11_doneIn_0 dop_182 124 (by decide +kernel)
theorem dX11_doneIn_14 : decode cX11_doneIn 14 = .ok (.istore 6, 2) := dR1 (f := Instr.istore) (k := 0) (i := 14) bn_cX11_doneIn_0 dop_54 6 (by decide +kernel)
theorem dX11_doneIn_16 : decode cX11_doneIn 16 = .ok (.aload_n 0, 1) := dR0 (k := 0) (i := 16) bn_cX11_doneIn_0 dop_42 (by decide +kernel)
theorem dX11_doneIn_17 : decode cX11_doneIn 17 = .ok (.iload_n 1, 1) := dR0 (k := 0) (i := 17) bn_cX11_doneIn_0 dop_27 (by decide +kernel)
theorem dX11_doneIn_18 : decode cX11_doneIn 18 = .ok (.iconst 2, 1) := dR0 (k := 0) (i := 18) bn_cX11_doneIn_0 dop_5 (by decide +kernel)
theorem dX11_doneIn_19 : decode cX11_doneIn 19 = .ok (.invokevirtual 124, 3) := dR2 (f := Instr.invokevirtual) (k := 0) (i := 19) bn_cX11_doneIn_0 dop_182 124 (by decide +kernel)
theorem dX11_doneIn_22 : decode cX11_doneIn 22 = .ok (.istore 7, 2) := dR1 (f := Instr.istore) (k := 0) (i := 22) bn_cX11_doneIn_0 dop_54 7 (by decide +kernel)
theorem dX11_doneIn_24 : decode cX11_doneIn 24 = .ok (.aload_n 0, 1) := dR0 (k := 0) (i := 24) bn_cX11_doneIn_0 dop_42 (by decide +kernel)
theorem dX11_doneIn_25 : decode cX11_doneIn 25 = .ok (.iload_n 1, 1) := dR0 (k := 0) (i := 25) bn_cX11_doneIn_0 dop_27 (by decide +kernel)
theorem dX11_doneIn_26 : decode cX11_doneIn 26 = .ok (.iconst 0, 1) := dR0 (k := 0) (i := 26) bn_cX11_doneIn_0 dop_3 (by decide +kernel)
theorem dX11_doneIn_27 : decode cX11_doneIn 27 = .ok (.invokevirtual 124, 3) := dR2 (f := Instr.invokevirtual) (k := 0) (i := 27) bn_cX11_doneIn_0 dop_182 124 (by decide +kernel)
theorem dX11_doneIn_30 : decode cX11_doneIn 30 = .ok (.istore 8, 2) := dR1 (f := Instr.istore) (k := 0) (i := 30) bn_cX11_doneIn_0 dop_54 8 (by decide +kernel)
theorem dX11_doneIn_32 : decode cX11_doneIn 32 = .ok (.iload 8, 2) := dR1 (f := Instr.iload) (k := 0) (i := 32) bn_cX11_doneIn_0 dop_21 8 (by decide +kernel)
theorem dX11_doneIn_34 : decode cX11_doneIn 34 = .ok (.iload_n 2, 1) := dR0 (k := 0) (i := 34) bn_cX11_doneIn_0 dop_28 (by decide +kernel)
theorem dX11_doneIn_35 : decode cX11_doneIn 35 = .ok (.iload 6, 2) := dR1 (f := Instr.iload) (k := 0) (i := 35) bn_cX11_doneIn_0 dop_21 6 (by decide +kernel)
theorem dX11_doneIn_37 : decode cX11_doneIn 37 = .ok (.iadd, 1) := dR0 (k := 0) (i := 37) bn_cX11_doneIn_0 dop_96 (by decide +kernel)
theorem dX11_doneIn_38 : decode cX11_doneIn 38 = .ok (.if_icmp .eq 76, 3) := dR2s (f := Instr.if_icmp .eq) (k := 0) (i := 38) bn_cX11_doneIn_0 dop_159 76 76 (by decide +kernel)
theorem dX11_doneIn_41 : decode cX11_doneIn 41 = .ok (.iload 5, 2) := dR1 (f := Instr.iload) (k := 0) (i := 41) bn_cX11_doneIn_0 dop_21 5 (by decide +kernel)
theorem dX11_doneIn_43 : decode cX11_doneIn 43 = .ok (.iload 8, 2) := dR1 (f := Instr.iload) (k := 0) (i := 43) bn_cX11_doneIn_0 dop_21 8 (by decide +kernel)
theorem dX11_doneIn_45 : decode cX11_doneIn 45 = .ok (.aload_n 0, 1) := dR0 (k := 0) (i := 45) bn_cX11_doneIn_0 dop_42 (by decide +kernel)
theorem dX11_doneIn_46 : decode cX11_doneIn 46 = .ok (.iload_n 1, 1) := dR0 (k := 0) (i := 46) bn_cX11_doneIn_0 dop_27 (by decide +kernel)
theorem dX11_doneIn_47 : decode cX11_doneIn 47 = .ok (.iconst 0, 1) := dR0 (k := 0) (i := 47) bn_cX11_doneIn_0 dop_3 (by decide +kernel)
theorem dX11_doneIn_48 : decode cX11_doneIn 48 = .ok (.invokevirtual 124, 3) := dR2 (f := Instr.invokevirtual) (k := 0) (i := 48) bn_cX11_doneIn_0 dop_182 124 (by decide +kernel)
theorem dX11_doneIn_51 : decode cX11_doneIn 51 = .ok (.if_icmp .ne 7, 3) := dR2s (f := Instr.if_icmp .ne) (k := 0) (i := 51) bn_cX11_doneIn_0 dop_160 7 7 (by decide +kernel)
theorem dX11_doneIn_54 : decode cX11_doneIn 54 = .ok (.iconst 0, 1) := dR0 (k := 0) (i := 54) bn_cX11_doneIn_0 dop_3 (by decide +kernel)
theorem dX11_doneIn_55 : decode cX11_doneIn 55 = .ok (.goto 4, 3) := dR2s (f := Instr.goto) (k := 0) (i := 55) bn_cX11_doneIn_0 dop_167 4 4 (by decide +kernel)
theorem dX11_doneIn_58 : decode cX11_doneIn 58 = .ok (.iconst 1, 1) := dR0 (k := 0) (i := 58) bn_cX11_doneIn_0 dop_4 (by decide +kernel)
theorem dX11_doneIn_59 : decode cX11_doneIn 59 = .ok (.iadd, 1) := dR0 (k := 0) (i := 59) bn_cX11_doneIn_0 dop_96 (by decide +kernel)
theorem dX11_doneIn_60 : decode cX11_doneIn 60 = .ok (.istore 5, 2) := dR1 (f := Instr.istore) (k := 0) (i := 60) bn_cX11_doneIn_0 dop_54 5 (by decide +kernel)
theorem dX11_doneIn_62 : decode cX11_doneIn 62 = .ok (.aload_n 0, 1) := dR0 (k := 0) (i := 62) bn_cX11_doneIn_0 dop_42 (by decide +kernel)
theorem dX11_doneIn_63 : decode cX11_doneIn 63 = .ok (.iload_n 3, 1) := dR0 (k := 0) (i := 63) bn_cX11_doneIn_0 dop_29 (by decide +kernel)
theorem dX11_doneIn_64 : decode cX11_doneIn 64 = .ok (.bipush 12, 2) := dR1s (f := Instr.bipush) (k := 0) (i := 64) bn_cX11_doneIn_0 dop_16 12 12 (by decide +kernel)
theorem dX11_doneIn_66 : decode cX11_doneIn 66 = .ok (.iload 4, 2) := dR1 (f := Instr.iload) (k := 0) (i := 66) bn_cX11_doneIn_0 dop_21 4 (by decide +kernel)
theorem dX11_doneIn_68 : decode cX11_doneIn 68 = .ok (.imul, 1) := dR0 (k := 0) (i := 68) bn_cX11_doneIn_0 dop_104 (by decide +kernel)
theorem dX11_doneIn_69 : decode cX11_doneIn 69 = .ok (.iload 5, 2) := dR1 (f := Instr.iload) (k := 0) (i := 69) bn_cX11_doneIn_0 dop_21 5 (by decide +kernel)
theorem dX11_doneIn_71 : decode cX11_doneIn 71 = .ok (.bipush 30, 2) := dR1s (f := Instr.bipush) (k := 0) (i := 71) bn_cX11_doneIn_0 dop_16 30 30 (by decide +kernel)
theorem dX11_doneIn_73 : decode cX11_doneIn 73 = .ok (.idiv, 1) := dR0 (k := 0) (i := 73) bn_cX11_doneIn_0 dop_108 (by decide +kernel)
theorem dX11_doneIn_74 : decode cX11_doneIn 74 = .ok (.bipush 12, 2) := dR1s (f := Instr.bipush) (k := 0) (i := 74) bn_cX11_doneIn_0 dop_16 12 12 (by decide +kernel)
theorem dX11_doneIn_76 : decode cX11_doneIn 76 = .ok (.irem, 1) := dR0 (k := 0) (i := 76) bn_cX11_doneIn_0 dop_112 (by decide +kernel)
theorem dX11_doneIn_77 : decode cX11_doneIn 77 = .ok (.iadd, 1) := dR0 (k := 0) (i := 77) bn_cX11_doneIn_0 dop_96 (by decide +kernel)
theorem dX11_doneIn_78 : decode cX11_doneIn 78 = .ok (.invokevirtual 115, 3) := dR2 (f := Instr.invokevirtual) (k := 0) (i := 78) bn_cX11_doneIn_0 dop_182 115 (by decide +kernel)
theorem dX11_doneIn_81 : decode cX11_doneIn 81 = .ok (.istore 9, 2) := dR1 (f := Instr.istore) (k := 0) (i := 81) bn_cX11_doneIn_0 dop_54 9 (by decide +kernel)
theorem dX11_doneIn_83 : decode cX11_doneIn 83 = .ok (.iload 5, 2) := dR1 (f := Instr.iload) (k := 0) (i := 83) bn_cX11_doneIn_0 dop_21 5 (by decide +kernel)
theorem dX11_doneIn_85 : decode cX11_doneIn 85 = .ok (.aload_n 0, 1) := dR0 (k := 0) (i := 85) bn_cX11_doneIn_0 dop_42 (by decide +kernel)
theorem dX11_doneIn_86 : decode cX11_doneIn 86 = .ok (.iload 8, 2) := dR1 (f := Instr.iload) (k := 0) (i := 86) bn_cX11_doneIn_0 dop_21 8 (by decide +kernel)
theorem dX11_doneIn_88 : decode cX11_doneIn 88 = .ok (.iload 9, 2) := dR1 (f := Instr.iload) (k := 0) (i := 88) bn_cX11_doneIn_0 dop_21 9 (by decide +kernel)
theorem dX11_doneIn_90 : decode cX11_doneIn 90 = .ok (.invokevirtual 105, 3) := dR2 (f := Instr.invokevirtual) (k := 0) (i := 90) bn_cX11_doneIn_0 dop_182 105 (by decide +kernel)
theorem dX11_doneIn_93 : decode cX11_doneIn 93 = .ok (.iload 7, 2) := dR1 (f := Instr.iload) (k := 0) (i := 93) bn_cX11_doneIn_0 dop_21 7 (by decide +kernel)
theorem dX11_doneIn_95 : decode cX11_doneIn 95 = .ok (.iadd, 1) := dR0 (k := 0) (i := 95) bn_cX11_doneIn_0 dop_96 (by decide +kernel)
theorem dX11_doneIn_96 : decode cX11_doneIn 96 = .ok (.iconst 1, 1) := dR0 (k := 0) (i := 96) bn_cX11_doneIn_0 dop_4 (by decide +kernel)
theorem dX11_doneIn_97 : decode cX11_doneIn 97 = .ok (.isub, 1) := dR0 (k := 0) (i := 97) bn_cX11_doneIn_0 dop_100 (by decide +kernel)
theorem dX11_doneIn_98 : decode cX11_doneIn 98 = .ok (.iload 7, 2) := dR1 (f := Instr.iload) (k := 0) (i := 98) bn_cX11_doneIn_0 dop_21 7 (by decide +kernel)
theorem dX11_doneIn_100 : decode cX11_doneIn 100 = .ok (.idiv, 1) := dR0 (k := 0) (i := 100) bn_cX11_doneIn_0 dop_108 (by decide +kernel)
theorem dX11_doneIn_101 : decode cX11_doneIn 101 = .ok (.iadd, 1) := dR0 (k := 0) (i := 101) bn_cX11_doneIn_0 dop_96 (by decide +kernel)
theorem dX11_doneIn_102 : decode cX11_doneIn 102 = .ok (.istore 5, 2) := dR1 (f := Instr.istore) (k := 0) (i := 102) bn_cX11_doneIn_0 dop_54 5 (by decide +kernel)
theorem dX11_doneIn_104 : decode cX11_doneIn 104 = .ok (.iload 8, 2) := dR1 (f := Instr.iload) (k := 0) (i := 104) bn_cX11_doneIn_0 dop_21 8 (by decide +kernel)
theorem dX11_doneIn_106 : decode cX11_doneIn 106 = .ok (.iload 6, 2) := dR1 (f := Instr.iload) (k := 0) (i := 106) bn_cX11_doneIn_0 dop_21 6 (by decide +kernel)
theorem dX11_doneIn_108 : decode cX11_doneIn 108 = .ok (.iadd, 1) := dR0 (k := 0) (i := 108) bn_cX11_doneIn_0 dop_96 (by decide +kernel)
theorem dX11_doneIn_109 : decode cX11_doneIn 109 = .ok (.istore 8, 2) := dR1 (f := Instr.istore) (k := 0) (i := 109) bn_cX11_doneIn_0 dop_54 8 (by decide +kernel)
theorem dX11_doneIn_111 : decode cX11_doneIn 111 = .ok (.goto (-79), 3) := dR2s (f := Instr.goto) (k := 0) (i := 111) bn_cX11_doneIn_0 dop_167 65457 (-79) (by decide +kernel)
theorem dX11_doneIn_114 : decode cX11_doneIn 114 = .ok (.iload 5, 2) := dR1 (f := Instr.iload) (k := 0) (i := 114) bn_cX11_doneIn_0 dop_21 5 (by decide +kernel)
theorem dX11_doneIn_116 : decode cX11_doneIn 116 = .ok (.aload_n 0, 1) := dR0 (k := 0) (i := 116) bn_cX11_doneIn_0 dop_42 (by decide +kernel)
theorem dX11_doneIn_117 : decode cX11_doneIn 117 = .ok (.getfield 9, 3) := dR2 (f := Instr.getfield) (k := 0) (i := 117) bn_cX11_doneIn_0 dop_180 9 (by decide +kernel)
theorem dX11_doneIn_120 : decode cX11_doneIn 120 = .ok (.iconst 0, 1) := dR0 (k := 0) (i := 120) bn_cX11_doneIn_0 dop_3 (by decide +kernel)
theorem dX11_doneIn_121 : decode cX11_doneIn 121 = .ok (.iaload, 1) := dR0 (k := 0) (i := 121) bn_cX11_doneIn_0 dop_46 (by decide +kernel)
theorem dX11_doneIn_122 : decode cX11_doneIn 122 = .ok (.isub, 1) := dR0 (k := 0) (i := 122) bn_cX11_doneIn_0 dop_100 (by decide +kernel)
theorem dX11_doneIn_123 : decode cX11_doneIn 123 = .ok (.ireturn, 1) := dR0 (k := 0) (i := 123) bn_cX11_doneIn_0 dop_172 (by decide +kernel)
set_option maxHeartbeats 4000000 in
set_option maxRecDepth 100000 in
theorem c_X11_doneInGp (l : Launch) (D : va_G) (cI : ClassId) (aK aV : Nat → Nat) (k k0 k1 k2 k4 k5 k6 k7 k8 ka kb kl ko : Nat) (sz : Nat) (c3 : Int32) (c9 : Int32) (cc : Int32) (cd : Int32) (ce : Int32) (cf : Int32) (cg : Int32) (ch : Int32) (ci : Int32) (cj : Int32) (ck : Int32) (cm : Int32) (cn : Int32) (c0 : Nat → Int32) (c6 : Nat → Int32) (c7 : Nat → Int32) (a0 : Int32) (a1 : Int32) (a2 : Int32) (a3 : Int32) (pre0 : SB c0) (pre1 : 0 ≤ a0.toInt) (pre2 : a0.toInt ≤ 3) (pre3 : (pW c0 a0 1).toInt = 1) (pre4 : 1 ≤ (pW c0 a0 2).toInt) (pre5 : 0 ≤ a2.toInt) (pre6 : a2.toInt ≤ 3) (pre7 : 0 ≤ a3.toInt) (pre8 : a3.toInt ≤ 2) (pre9 : 12 * a3.toInt + 12 ≤ (c6 a2.toNatClampNeg).toInt) (pre10 : ∀ k : Nat, (k : Int) < (c6 a2.toNatClampNeg).toInt → 0 ≤ (c7 (36 * a2.toInt.toNat + k)).toInt ∧ (c7 (36 * a2.toInt.toNat + k)).toInt ≤ 9) (pre11 : (pW c0 a0 0).toInt ≤ a1.toInt) (pre12 : a1.toInt ≤ 39) : Met l yX11_doneIn (gW yX11_doneIn cX11_doneIn 10 (some .int)) ({ frames := 1, cells := 0, slots := 0, locals := 23 } : Room) (kPreX D cI aK aV [.ref k, .int a0, .int a1, .int a2, .int a3] [(k, .inr (11, [.ref k0, .ref k1, .ref k2, .int c3, .ref k4, .ref k5, .ref k6, .ref k7, .ref k8, .int c9, .ref ka, .ref kb, .int cc, .int cd, .int ce, .int cf, .int cg, .int ch, .int ci, .int cj, .int ck, .ref kl, .int cm, .int cn, .ref ko])), (k0, .inl (cI, 1201, .inl c0)), (k6, .inl (cI, 4, .inl c6)), (k7, .inl (cI, 144, .inl c7))] sz) (va_Qi (fun (r : Int32) (u : Unit) => True) (fun u t => kWd D cI (va_A [(k, .inr (11, [.ref k0, .ref k1, .ref k2, .int c3, .ref k4, .ref k5, .ref k6, .ref k7, .ref k8, .int c9, .ref ka, .ref kb, .int cc, .int cd, .int ce, .int cf, .int cg, .int ch, .int ci, .int cj, .int ck, .ref kl, .int cm, .int cn, .ref ko])), (k0, .inl (cI, 1201, .inl c0)), (k6, .inl (cI, 4, .inl c6)), (k7, .inl (cI, 144, .inl c7))] sz) [(k, .inr (11, [.ref k0, .ref k1, .ref k2, .int c3, .ref k4, .ref k5, .ref k6, .ref k7, .ref k8, .int c9, .ref ka, .ref kb, .int cc, .int cd, .int ce, .int cf, .int cg, .int ch, .int ci, .int cj, .int ck, .ref kl, .int cm, .int cn, .ref ko])), (k0, .inl (cI, 1201, .inl c0)), (k6, .inl (cI, 4, .inl c6)), (k7, .inl (cI, 144, .inl c7))] t) (va_A [(k, .inr (11, [.ref k0, .ref k1, .ref k2, .int c3, .ref k4, .ref k5, .ref k6, .ref k7, .ref k8, .int c9, .ref ka, .ref kb, .int cc, .int cd, .int ce, .int cf, .int cg, .int ch, .int ci, .int cj, .int ck, .ref kl, .int cm, .int cn, .ref ko])), (k0, .inl (cI, 1201, .inl c0)), (k6, .inl (cI, 4, .inl c6)), (k7, .inl (cI, 144, .inl c7))] sz)) 0 0 (va_A [(k, .inr (11, [.ref k0, .ref k1, .ref k2, .int c3, .ref k4, .ref k5, .ref k6, .ref k7, .ref k8, .int c9, .ref ka, .ref kb, .int cc, .int cd, .int ce, .int cf, .int cg, .int ch, .int ci, .int cj, .int ck, .ref kl, .int cm, .int cn, .ref ko])), (k0, .inl (cI, 1201, .inl c0)), (k6, .inl (cI, 4, .inl c6)), (k7, .inl (cI, 144, .inl c7))] sz) := by
  refine kMetIX (own := RX11) (by decide +kernel) rfl (Nat.le_of_ble_eq_true rfl) ?_
  intro p e s m args below meth c hx hb hT hown hname hml A Q hK hP hD hS hA hN hXS hRet ls hl
  have hl : lv_has ls 10 [(0, .ref k), (1, .int a0), (2, .int a1), (3, .int a2), (4, .int a3)] := hl
  have lo_a0 := k_lo a0
  have hi_a0 := k_hi a0
  have lo_a1 := k_lo a1
  have hi_a1 := k_hi a1
  have lo_a2 := k_lo a2
  have hi_a2 := k_hi a2
  have lo_a3 := k_lo a3
  have hi_a3 := k_hi a3
  have lo_ci := k_lo ci
  have hi_ci := k_hi ci
  have pre0 : SB c0 := pre0
  have nb_1 : 0 ≤ (c0 0).toInt ∧ (c0 0).toInt ≤ 2000 := SB.n0 pre0
  have nb_2 : 0 ≤ (c0 1).toInt ∧ (c0 1).toInt ≤ 60 := SB.n1 pre0
  have nb_3 : 0 ≤ (c0 2).toInt ∧ (c0 2).toInt ≤ 4 := SB.n2 pre0
  refine lv_aload_n hx hb dX11_doneIn_0 rfl (lv_at hl 0 rfl) ?_
  refine va_get (D := D) (ci := 11) (v := .ref k0) (C := RX11) (T := TX11) (N := 25) hx hb hT giX11 hown hK hP 0 rfl rfl 0 (by decide +kernel) (hT (Cond.fieldLink RX11 9 "DesertWireModel" "s" "[I") mw_1156) (fun _ h9 => h9) rfl dX11_doneIn_1 ?_
  refine lv_iconst (v := 0) hx hb dX11_doneIn_4 (by decide +kernel) ?_
  refine k_iald (v := (c0 0)) hx hb hK hP 1 0 rfl rfl (k_inl (by decide +kernel)) rfl dX11_doneIn_5 ?_
  refine lv_topi (fun v_4 ev_4 => ?_)
  have lo_v_4 := k_lo v_4
  have hi_v_4 := k_hi v_4
  have tv_4 : v_4.toInt = (c0 0).toInt := by rw [ev_4]
  have b_5 : 0 ≤ v_4.toInt ∧ v_4.toInt ≤ 2000 := by first | (rw [tv_4]; exact SB.n0 pre0) | exact SB.n0 pre0 | omega
  refine lv_istore (lv' := [(5, .int v_4), (0, .ref k), (1, .int a0), (2, .int a1), (3, .int a2), (4, .int a3)]) hx hb dX11_doneIn_6 hl (by decide +kernel) rfl ?_
  clear hl
  intro ls hl
  refine lv_aload_n hx hb dX11_doneIn_8 rfl (lv_at hl 1 rfl) ?_
  refine lv_iload_n hx hb dX11_doneIn_9 rfl (lv_at hl 2 rfl) ?_
  refine lv_iconst (v := 1) hx hb dX11_doneIn_10 (by decide +kernel) ?_
  refine kJi (wr := [(k6, .inl (cI, 4, .inl c6)), (k7, .inl (cI, 144, .inl c7))]) (va_runV (As := [.int a0, .int 1]) (rest := []) ⟨hx, hb, hml, hown, hT⟩ (c_X11_partyG1 l D cI aK aV k k0 k1 k2 k4 k5 k6 k7 k8 ka kb kl ko s.heap.size c3 c9 cc cd ce cf cg ch ci cj ck cm cn c0 a0 1 (by first | omega | (simp only [zl_1]; first | done | omega) | decide | assumption | rfl) (by first | omega | (simp only [zl_1]; first | done | omega) | decide | assumption | rfl) (by first | omega | (simp only [zl_1]; first | done | omega) | decide | assumption | rfl)) (cwV 2 hT (gV_in mw_1416 mw_1413 mw_1415 mw_p5_5 mw_12) rfl rfl rfl (by decide +kernel) ⟨Nat.le_of_ble_eq_true rfl, Nat.le_of_ble_eq_true rfl⟩) (kRecvX (q0 := 0) (ci := 11) hK hP hD hN hXS hS hA rfl rfl [0, 1] rfl (by decide +kernel)) rfl rfl hl.1 rfl (lv_room (Nat.le_of_ble_eq_true rfl)) dX11_doneIn_11 ⟨Nat.le_of_ble_eq_true rfl, Nat.le_of_ble_eq_true rfl⟩) hP hD hS hA [0, 1] [2, 3] rfl rfl (by decide +kernel) (by decide +kernel) ?_
  clear hP hD hS
  intro r_6 u_8 H locs w_7 hP hD hS
  replace hP : va_P D vwCl [(k6, .inl (cI, 4, .inl c6)), (k7, .inl (cI, 144, .inl c7)), (k, .inr (11, [.ref k0, .ref k1, .ref k2, .int c3, .ref k4, .ref k5, .ref k6, .ref k7, .ref k8, .int c9, .ref ka, .ref kb, .int cc, .int cd, .int ce, .int cf, .int cg, .int ch, .int ci, .int cj, .int ck, .ref kl, .int cm, .int cn, .ref ko])), (k0, .inl (cI, 1201, .inl c0))] H := hP
  replace hD : va_D A [(k6, .inl (cI, 4, .inl c6)), (k7, .inl (cI, 144, .inl c7)), (k, .inr (11, [.ref k0, .ref k1, .ref k2, .int c3, .ref k4, .ref k5, .ref k6, .ref k7, .ref k8, .int c9, .ref ka, .ref kb, .int cc, .int cd, .int ce, .int cf, .int cg, .int ch, .int ci, .int cj, .int ck, .ref kl, .int cm, .int cn, .ref ko])), (k0, .inl (cI, 1201, .inl c0))] := hD
  have h_9 := w_7
  have h_9 : r_6 = pW c0 a0 1 := h_9
  have t_10 : r_6.toInt = (pW c0 a0 1).toInt := by rw [h_9]
  have lo_r_6 := k_lo r_6
  have hi_r_6 := k_hi r_6
  refine lv_istore (lv' := [(6, .int r_6), (5, .int v_4), (0, .ref k), (1, .int a0), (2, .int a1), (3, .int a2), (4, .int a3)]) hx hb dX11_doneIn_14 hl (by decide +kernel) rfl ?_
  clear hl
  intro ls hl
  refine lv_aload_n hx hb dX11_doneIn_16 rfl (lv_at hl 2 rfl) ?_
  refine lv_iload_n hx hb dX11_doneIn_17 rfl (lv_at hl 3 rfl) ?_
  refine lv_iconst (v := 2) hx hb dX11_doneIn_18 (by decide +kernel) ?_
  refine kJi (wr := [(k6, .inl (cI, 4, .inl c6)), (k7, .inl (cI, 144, .inl c7))]) (va_runV (As := [.int a0, .int 2]) (rest := []) ⟨hx, hb, hml, hown, hT⟩ (c_X11_partyG2 l D cI aK aV k k0 k1 k2 k4 k5 k6 k7 k8 ka kb kl ko H.size c3 c9 cc cd ce cf cg ch ci cj ck cm cn c0 a0 2 (by first | omega | (simp only [zl_2]; first | done | omega) | decide | assumption | rfl) (by first | omega | (simp only [zl_2]; first | done | omega) | decide | assumption | rfl) (by first | omega | (simp only [zl_2]; first | done | omega) | decide | assumption | rfl)) (cwV 2 hT (gV_in mw_1416 mw_1413 mw_1415 mw_p5_5 mw_12) rfl rfl rfl (by decide +kernel) ⟨Nat.le_of_ble_eq_true rfl, Nat.le_of_ble_eq_true rfl⟩) (kRecvX (q0 := 2) (ci := 11) hK hP hD hN hXS hS hA rfl rfl [2, 3] rfl (by decide +kernel)) rfl rfl hl.1 rfl (lv_room (Nat.le_of_ble_eq_true rfl)) dX11_doneIn_19 ⟨Nat.le_of_ble_eq_true rfl, Nat.le_of_ble_eq_true rfl⟩) hP hD hS hA [2, 3] [0, 1] rfl rfl (by decide +kernel) (by decide +kernel) ?_
  clear hP hD hS
  intro r_11 u_13 H locs w_12 hP hD hS
  replace hP : va_P D vwCl [(k6, .inl (cI, 4, .inl c6)), (k7, .inl (cI, 144, .inl c7)), (k, .inr (11, [.ref k0, .ref k1, .ref k2, .int c3, .ref k4, .ref k5, .ref k6, .ref k7, .ref k8, .int c9, .ref ka, .ref kb, .int cc, .int cd, .int ce, .int cf, .int cg, .int ch, .int ci, .int cj, .int ck, .ref kl, .int cm, .int cn, .ref ko])), (k0, .inl (cI, 1201, .inl c0))] H := hP
  replace hD : va_D A [(k6, .inl (cI, 4, .inl c6)), (k7, .inl (cI, 144, .inl c7)), (k, .inr (11, [.ref k0, .ref k1, .ref k2, .int c3, .ref k4, .ref k5, .ref k6, .ref k7, .ref k8, .int c9, .ref ka, .ref kb, .int cc, .int cd, .int ce, .int cf, .int cg, .int ch, .int ci, .int cj, .int ck, .ref kl, .int cm, .int cn, .ref ko])), (k0, .inl (cI, 1201, .inl c0))] := hD
  have h_14 := w_12
  have h_14 : r_11 = pW c0 a0 2 := h_14
  have t_15 : r_11.toInt = (pW c0 a0 2).toInt := by rw [h_14]
  have b_16 : 0 ≤ r_11.toInt ∧ r_11.toInt ≤ 50 := by rw [h_14]; exact SB.p2 pre0 (by omega) (by omega)
  have lo_r_11 := k_lo r_11
  have hi_r_11 := k_hi r_11
  refine lv_istore (lv' := [(7, .int r_11), (6, .int r_6), (5, .int v_4), (0, .ref k), (1, .int a0), (2, .int a1), (3, .int a2), (4, .int a3)]) hx hb dX11_doneIn_22 hl (by decide +kernel) rfl ?_
  clear hl
  intro ls hl
  refine lv_aload_n hx hb dX11_doneIn_24 rfl (lv_at hl 3 rfl) ?_
  refine lv_iload_n hx hb dX11_doneIn_25 rfl (lv_at hl 4 rfl) ?_
  refine lv_iconst (v := 0) hx hb dX11_doneIn_26 (by decide +kernel) ?_
  refine kJi (wr := [(k6, .inl (cI, 4, .inl c6)), (k7, .inl (cI, 144, .inl c7))]) (va_runV (As := [.int a0, .int 0]) (rest := []) ⟨hx, hb, hml, hown, hT⟩ (c_X11_partyG0 l D cI aK aV k k0 k1 k2 k4 k5 k6 k7 k8 ka kb kl ko H.size c3 c9 cc cd ce cf cg ch ci cj ck cm cn c0 a0 0 (by first | omega | (simp only [zl_0]; first | done | omega) | decide | assumption | rfl) (by first | omega | (simp only [zl_0]; first | done | omega) | decide | assumption | rfl) (by first | omega | (simp only [zl_0]; first | done | omega) | decide | assumption | rfl)) (cwV 2 hT (gV_in mw_1416 mw_1413 mw_1415 mw_p5_5 mw_12) rfl rfl rfl (by decide +kernel) ⟨Nat.le_of_ble_eq_true rfl, Nat.le_of_ble_eq_true rfl⟩) (kRecvX (q0 := 2) (ci := 11) hK hP hD hN hXS hS hA rfl rfl [2, 3] rfl (by decide +kernel)) rfl rfl hl.1 rfl (lv_room (Nat.le_of_ble_eq_true rfl)) dX11_doneIn_27 ⟨Nat.le_of_ble_eq_true rfl, Nat.le_of_ble_eq_true rfl⟩) hP hD hS hA [2, 3] [0, 1] rfl rfl (by decide +kernel) (by decide +kernel) ?_
  clear hP hD hS
  intro r_17 u_19 H locs w_18 hP hD hS
  replace hP : va_P D vwCl [(k6, .inl (cI, 4, .inl c6)), (k7, .inl (cI, 144, .inl c7)), (k, .inr (11, [.ref k0, .ref k1, .ref k2, .int c3, .ref k4, .ref k5, .ref k6, .ref k7, .ref k8, .int c9, .ref ka, .ref kb, .int cc, .int cd, .int ce, .int cf, .int cg, .int ch, .int ci, .int cj, .int ck, .ref kl, .int cm, .int cn, .ref ko])), (k0, .inl (cI, 1201, .inl c0))] H := hP
  replace hD : va_D A [(k6, .inl (cI, 4, .inl c6)), (k7, .inl (cI, 144, .inl c7)), (k, .inr (11, [.ref k0, .ref k1, .ref k2, .int c3, .ref k4, .ref k5, .ref k6, .ref k7, .ref k8, .int c9, .ref ka, .ref kb, .int cc, .int cd, .int ce, .int cf, .int cg, .int ch, .int ci, .int cj, .int ck, .ref kl, .int cm, .int cn, .ref ko])), (k0, .inl (cI, 1201, .inl c0))] := hD
  have h_20 := w_18
  have h_20 : r_17 = pW c0 a0 0 := h_20
  have t_21 : r_17.toInt = (pW c0 a0 0).toInt := by rw [h_20]
  have b_22 : 0 ≤ r_17.toInt ∧ r_17.toInt ≤ 39 := by rw [h_20]; exact SB.p0 pre0 (by omega) (by omega)
  have lo_r_17 := k_lo r_17
  have hi_r_17 := k_hi r_17
  refine lv_istore (lv' := [(8, .int r_17), (7, .int r_11), (6, .int r_6), (5, .int v_4), (0, .ref k), (1, .int a0), (2, .int a1), (3, .int a2), (4, .int a3)]) hx hb dX11_doneIn_30 hl (by decide +kernel) rfl ?_
  clear hl
  intro ls hl
  have hloop_32 : ∀ (fu_ : Nat) (l32_5 : Int32) (l32_8 : Int32), v_4.toInt ≤ l32_5.toInt → r_17.toInt ≤ l32_8.toInt → (pW c0 a0 0).toInt ≤ l32_8.toInt → l32_8.toInt ≤ a1.toInt + 1 → 0 ≤ l32_5.toInt → l32_5.toInt + 111 * (pW c0 a0 0).toInt ≤ 2000 + 111 * l32_8.toInt → (a1.toInt + 1 - l32_8.toInt).toNat < fu_ → ∀ (ls : Array Slot) (H : Heap) (locs : List Loc), lv_has ls 10 [(8, .int l32_8), (7, .int r_11), (6, .int r_6), (5, .int l32_5), (0, .ref k), (1, .int a0), (2, .int a1), (3, .int a2), (4, .int a3)] → va_P D vwCl [(k6, .inl (cI, 4, .inl c6)), (k7, .inl (cI, 144, .inl c7)), (k, .inr (11, [.ref k0, .ref k1, .ref k2, .int c3, .ref k4, .ref k5, .ref k6, .ref k7, .ref k8, .int c9, .ref ka, .ref kb, .int cc, .int cd, .int ce, .int cf, .int cg, .int ch, .int ci, .int cj, .int ck, .ref kl, .int cm, .int cn, .ref ko])), (k0, .inl (cI, 1201, .inl c0))] H → va_D A [(k6, .inl (cI, 4, .inl c6)), (k7, .inl (cI, 144, .inl c7)), (k, .inr (11, [.ref k0, .ref k1, .ref k2, .int c3, .ref k4, .ref k5, .ref k6, .ref k7, .ref k8, .int c9, .ref ka, .ref kb, .int cc, .int cd, .int ce, .int cf, .int cg, .int ch, .int ci, .int cj, .int ck, .ref kl, .int cm, .int cn, .ref ko])), (k0, .inl (cI, 1201, .inl c0))] → va_S A s.heap H locs → W p l e ({ frames := 1, cells := 0, slots := 0, locals := 23 } : Room) s m args below meth c H locs 0 0 Q (F0 m 32 ls []) := by
    intro fu_; induction fu_ with
    | zero => intro l32_5 l32_8 i32_0 i32_1 i32_2 i32_3 i32_4 i32_5 hm; exact absurd hm (by omega)
    | succ fu_ ih32 =>
        intro l32_5 l32_8 i32_0 i32_1 i32_2 i32_3 i32_4 i32_5 hm ls H locs hl hP hD hS
        have lo_l32_5 := k_lo l32_5
        have hi_l32_5 := k_hi l32_5
        have lo_l32_8 := k_lo l32_8
        have hi_l32_8 := k_hi l32_8
        refine lv_iload hx hb dX11_doneIn_32 (lv_at hl 0 rfl) ?_
        refine lv_iload_n hx hb dX11_doneIn_34 rfl (lv_at hl 6 rfl) ?_
        refine lv_iload hx hb dX11_doneIn_35 (lv_at hl 2 rfl) ?_
        refine lv_iadd hx hb dX11_doneIn_37 ?_
        refine lv_topi (fun v_23 ev_23 => ?_)
        have tv_23 : v_23.toInt = a1.toInt + r_6.toInt := by rw [ev_23]; exact k_addv rfl rfl (by omega) (by omega)
        refine b_icmp_eq hx hb rfl rfl (tgt := 114) dX11_doneIn_38 (by decide +kernel) (fun c_24 => ?_) (fun c_24 => ?_)
        · refine lv_iload hx hb dX11_doneIn_114 (lv_at hl 3 rfl) ?_
          refine lv_aload_n hx hb dX11_doneIn_116 rfl (lv_at hl 4 rfl) ?_
          refine va_get (D := D) (ci := 11) (v := .ref k0) (C := RX11) (T := TX11) (N := 25) hx hb hT giX11 hown hK hP 2 rfl rfl 0 (by decide +kernel) (hT (Cond.fieldLink RX11 9 "DesertWireModel" "s" "[I") mw_1156) (fun _ h9 => h9) rfl dX11_doneIn_117 ?_
          refine lv_iconst (v := 0) hx hb dX11_doneIn_120 (by decide +kernel) ?_
          refine k_iald (v := (c0 0)) hx hb hK hP 3 0 rfl rfl (k_inl (by decide +kernel)) rfl dX11_doneIn_121 ?_
          refine lv_topi (fun v_25 ev_25 => ?_)
          have lo_v_25 := k_lo v_25
          have hi_v_25 := k_hi v_25
          have tv_25 : v_25.toInt = (c0 0).toInt := by rw [ev_25]
          have b_26 : 0 ≤ v_25.toInt ∧ v_25.toInt ≤ 2000 := by first | (rw [tv_25]; exact SB.n0 pre0) | exact SB.n0 pre0 | omega
          refine lv_isub hx hb dX11_doneIn_122 ?_
          refine lv_topi (fun v_27 ev_27 => ?_)
          have tv_27 : v_27.toInt = l32_5.toInt - v_25.toInt := by rw [ev_27]; exact k_subv rfl rfl (by omega) (by omega)
          exact hRet () [2, 3, 0, 1] trivial hP hD (by decide +kernel) rfl hS rfl dX11_doneIn_123
        · refine lv_iload hx hb dX11_doneIn_41 (lv_at hl 3 rfl) ?_
          refine lv_iload hx hb dX11_doneIn_43 (lv_at hl 0 rfl) ?_
          refine lv_aload_n hx hb dX11_doneIn_45 rfl (lv_at hl 4 rfl) ?_
          refine lv_iload_n hx hb dX11_doneIn_46 rfl (lv_at hl 5 rfl) ?_
          refine lv_iconst (v := 0) hx hb dX11_doneIn_47 (by decide +kernel) ?_
          refine kJi (wr := [(k6, .inl (cI, 4, .inl c6)), (k7, .inl (cI, 144, .inl c7))]) (va_runV (As := [.int a0, .int 0]) (rest := [.int l32_8, .int l32_5]) ⟨hx, hb, hml, hown, hT⟩ (c_X11_partyG0 l D cI aK aV k k0 k1 k2 k4 k5 k6 k7 k8 ka kb kl ko H.size c3 c9 cc cd ce cf cg ch ci cj ck cm cn c0 a0 0 (by first | omega | (simp only [zl_0]; first | done | omega) | decide | assumption | rfl) (by first | omega | (simp only [zl_0]; first | done | omega) | decide | assumption | rfl) (by first | omega | (simp only [zl_0]; first | done | omega) | decide | assumption | rfl)) (cwV 2 hT (gV_in mw_1416 mw_1413 mw_1415 mw_p5_5 mw_12) rfl rfl rfl (by decide +kernel) ⟨Nat.le_of_ble_eq_true rfl, Nat.le_of_ble_eq_true rfl⟩) (kRecvX (q0 := 2) (ci := 11) hK hP hD hN hXS hS hA rfl rfl [2, 3] rfl (by decide +kernel)) rfl rfl hl.1 rfl (lv_room (Nat.le_of_ble_eq_true rfl)) dX11_doneIn_48 ⟨Nat.le_of_ble_eq_true rfl, Nat.le_of_ble_eq_true rfl⟩) hP hD hS hA [2, 3] [0, 1] rfl rfl (by decide +kernel) (by decide +kernel) ?_
          clear hP hD hS
          intro r_28 u_30 H locs w_29 hP hD hS
          replace hP : va_P D vwCl [(k6, .inl (cI, 4, .inl c6)), (k7, .inl (cI, 144, .inl c7)), (k, .inr (11, [.ref k0, .ref k1, .ref k2, .int c3, .ref k4, .ref k5, .ref k6, .ref k7, .ref k8, .int c9, .ref ka, .ref kb, .int cc, .int cd, .int ce, .int cf, .int cg, .int ch, .int ci, .int cj, .int ck, .ref kl, .int cm, .int cn, .ref ko])), (k0, .inl (cI, 1201, .inl c0))] H := hP
          replace hD : va_D A [(k6, .inl (cI, 4, .inl c6)), (k7, .inl (cI, 144, .inl c7)), (k, .inr (11, [.ref k0, .ref k1, .ref k2, .int c3, .ref k4, .ref k5, .ref k6, .ref k7, .ref k8, .int c9, .ref ka, .ref kb, .int cc, .int cd, .int ce, .int cf, .int cg, .int ch, .int ci, .int cj, .int ck, .ref kl, .int cm, .int cn, .ref ko])), (k0, .inl (cI, 1201, .inl c0))] := hD
          have h_31 := w_29
          have h_31 : r_28 = pW c0 a0 0 := h_31
          have t_32 : r_28.toInt = (pW c0 a0 0).toInt := by rw [h_31]
          have b_33 : 0 ≤ r_28.toInt ∧ r_28.toInt ≤ 39 := by rw [h_31]; exact SB.p0 pre0 (by omega) (by omega)
          have lo_r_28 := k_lo r_28
          have hi_r_28 := k_hi r_28
          refine b_icmp_ne hx hb rfl rfl (tgt := 58) dX11_doneIn_51 (by decide +kernel) (fun c_34 => ?_) (fun c_34 => ?_)
          · refine lv_iconst (v := 1) hx hb dX11_doneIn_58 (by decide +kernel) ?_
            refine lv_iadd hx hb dX11_doneIn_59 ?_
            refine lv_topi (fun v_35 ev_35 => ?_)
            have tv_35 : v_35.toInt = l32_5.toInt + 1 := by rw [ev_35]; exact k_addv rfl zl_1 (by omega) (by omega)
            refine lv_istore (lv' := [(5, .int v_35), (8, .int l32_8), (7, .int r_11), (6, .int r_6), (0, .ref k), (1, .int a0), (2, .int a1), (3, .int a2), (4, .int a3)]) hx hb dX11_doneIn_60 hl (by decide +kernel) rfl ?_
            clear hl
            intro ls hl
            refine lv_aload_n hx hb dX11_doneIn_62 rfl (lv_at hl 4 rfl) ?_
            refine lv_iload_n hx hb dX11_doneIn_63 rfl (lv_at hl 7 rfl) ?_
            refine lv_bipush (v := 12) hx hb dX11_doneIn_64 (by decide +kernel) ?_
            refine lv_iload hx hb dX11_doneIn_66 (lv_at hl 8 rfl) ?_
            refine lv_imul hx hb dX11_doneIn_68 ?_
            refine lv_topi (fun v_36 ev_36 => ?_)
            have tv_36 : v_36.toInt = 12 * a3.toInt := by rw [ev_36]; exact k_mulv zl_12 rfl (by omega) (by omega)
            refine lv_iload hx hb dX11_doneIn_69 (lv_at hl 0 rfl) ?_
            refine lv_bipush (v := 30) hx hb dX11_doneIn_71 (by decide +kernel) ?_
            refine lv_idiv hx hb dX11_doneIn_73 (by decide +kernel) ?_
            refine lv_topi (fun v_37 ev_37 => ?_)
            have tv_37 : v_37.toInt = v_35.toInt / 30 := k_divv (w := 0) ev_37 zl_30 (by omega) (by decide +kernel)
            have lo_v_37 := k_lo v_37
            have hi_v_37 := k_hi v_37
            refine lv_bipush (v := 12) hx hb dX11_doneIn_74 (by decide +kernel) ?_
            refine lv_irem hx hb dX11_doneIn_76 (by decide +kernel) ?_
            refine lv_topi (fun v_38 ev_38 => ?_)
            have tv_38 : v_38.toInt = v_37.toInt % 12 := k_remv (w := 0) ev_38 zl_12 (by omega) (by decide +kernel)
            have lo_v_38 := k_lo v_38
            have hi_v_38 := k_hi v_38
            refine lv_iadd hx hb dX11_doneIn_77 ?_
            refine lv_topi (fun v_39 ev_39 => ?_)
            have tv_39 : v_39.toInt = v_36.toInt + v_38.toInt := by rw [ev_39]; exact k_addv rfl rfl (by omega) (by omega)
            refine kJi (wr := [(k6, .inl (cI, 4, .inl c6)), (k0, .inl (cI, 1201, .inl c0))]) (va_runV (As := [.int a2, .int v_39]) (rest := []) ⟨hx, hb, hml, hown, hT⟩ (c_X11_atG l D cI aK aV k k0 k1 k2 k4 k5 k6 k7 k8 ka kb kl ko H.size c3 c9 cc cd ce cf cg ch ci cj ck cm cn c7 a2 v_39 (by first | omega | decide | assumption | rfl) (by first | omega | decide | assumption | rfl) (by first | omega | decide | assumption | rfl) (by first | omega | decide | assumption | rfl)) (cwV 2 hT (gV_in mw_1396 mw_1393 mw_1395 mw_p5_2 mw_12) rfl rfl rfl (by decide +kernel) ⟨Nat.le_of_ble_eq_true rfl, Nat.le_of_ble_eq_true rfl⟩) (kRecvX (q0 := 2) (ci := 11) hK hP hD hN hXS hS hA rfl rfl [2, 1] rfl (by decide +kernel)) rfl rfl hl.1 rfl (lv_room (Nat.le_of_ble_eq_true rfl)) dX11_doneIn_78 ⟨Nat.le_of_ble_eq_true rfl, Nat.le_of_ble_eq_true rfl⟩) hP hD hS hA [2, 1] [0, 3] rfl rfl (by decide +kernel) (by decide +kernel) ?_
            clear hP hD hS
            intro r_40 u_42 H locs w_41 hP hD hS
            replace hP : va_P D vwCl [(k6, .inl (cI, 4, .inl c6)), (k0, .inl (cI, 1201, .inl c0)), (k, .inr (11, [.ref k0, .ref k1, .ref k2, .int c3, .ref k4, .ref k5, .ref k6, .ref k7, .ref k8, .int c9, .ref ka, .ref kb, .int cc, .int cd, .int ce, .int cf, .int cg, .int ch, .int ci, .int cj, .int ck, .ref kl, .int cm, .int cn, .ref ko])), (k7, .inl (cI, 144, .inl c7))] H := hP
            replace hD : va_D A [(k6, .inl (cI, 4, .inl c6)), (k0, .inl (cI, 1201, .inl c0)), (k, .inr (11, [.ref k0, .ref k1, .ref k2, .int c3, .ref k4, .ref k5, .ref k6, .ref k7, .ref k8, .int c9, .ref ka, .ref kb, .int cc, .int cd, .int ce, .int cf, .int cg, .int ch, .int ci, .int cj, .int ck, .ref kl, .int cm, .int cn, .ref ko])), (k7, .inl (cI, 144, .inl c7))] := hD
            have h_43 := w_41
            have h_43 : r_40 = c7 (36 * a2.toInt.toNat + v_39.toInt.toNat) := h_43
            have h_43 : r_40 = c7 (36 * a2.toInt.toNat + v_39.toInt.toNat) := h_43
            have b_44 : 0 ≤ r_40.toInt ∧ r_40.toInt ≤ 9 := by rw [h_43]; exact pre10 v_39.toInt.toNat (by omega)
            have lo_r_40 := k_lo r_40
            have hi_r_40 := k_hi r_40
            refine lv_istore (lv' := [(9, .int r_40), (5, .int v_35), (8, .int l32_8), (7, .int r_11), (6, .int r_6), (0, .ref k), (1, .int a0), (2, .int a1), (3, .int a2), (4, .int a3)]) hx hb dX11_doneIn_81 hl (by decide +kernel) rfl ?_
            clear hl
            intro ls hl
            refine lv_iload hx hb dX11_doneIn_83 (lv_at hl 1 rfl) ?_
            refine lv_aload_n hx hb dX11_doneIn_85 rfl (lv_at hl 5 rfl) ?_
            refine lv_iload hx hb dX11_doneIn_86 (lv_at hl 2 rfl) ?_
            refine lv_iload hx hb dX11_doneIn_88 (lv_at hl 0 rfl) ?_
            refine kJi (wr := [(k6, .inl (cI, 4, .inl c6)), (k7, .inl (cI, 144, .inl c7))]) (va_runV (As := [.int l32_8, .int r_40]) (rest := [.int v_35]) ⟨hx, hb, hml, hown, hT⟩ (c_X11_effortH l D cI aK aV k k0 k1 k2 k4 k5 k6 k7 k8 ka kb kl ko H.size c3 c9 cc cd ce cf cg ch ci cj ck cm cn c0 l32_8 r_40 pre0 (by first | omega | decide | assumption | rfl) (by first | omega | decide | assumption | rfl) (by first | omega | decide | assumption | rfl) (by first | omega | decide | assumption | rfl)) (cwV 2 hT (gV_in mw_1380 mw_1377 mw_1379 mw_p5_0 mw_12) rfl rfl rfl (by decide +kernel) ⟨Nat.le_of_ble_eq_true rfl, Nat.le_of_ble_eq_true rfl⟩) (kRecvX (q0 := 2) (ci := 11) hK hP hD hN hXS hS hA rfl rfl [2, 1] rfl (by decide +kernel)) rfl rfl hl.1 rfl (lv_room (Nat.le_of_ble_eq_true rfl)) dX11_doneIn_90 ⟨Nat.le_of_ble_eq_true rfl, Nat.le_of_ble_eq_true rfl⟩) hP hD hS hA [2, 1] [0, 3] rfl rfl (by decide +kernel) (by decide +kernel) ?_
            clear hP hD hS
            intro r_45 u_47 H locs w_46 hP hD hS
            replace hP : va_P D vwCl [(k6, .inl (cI, 4, .inl c6)), (k7, .inl (cI, 144, .inl c7)), (k, .inr (11, [.ref k0, .ref k1, .ref k2, .int c3, .ref k4, .ref k5, .ref k6, .ref k7, .ref k8, .int c9, .ref ka, .ref kb, .int cc, .int cd, .int ce, .int cf, .int cg, .int ch, .int ci, .int cj, .int ck, .ref kl, .int cm, .int cn, .ref ko])), (k0, .inl (cI, 1201, .inl c0))] H := hP
            replace hD : va_D A [(k6, .inl (cI, 4, .inl c6)), (k7, .inl (cI, 144, .inl c7)), (k, .inr (11, [.ref k0, .ref k1, .ref k2, .int c3, .ref k4, .ref k5, .ref k6, .ref k7, .ref k8, .int c9, .ref ka, .ref kb, .int cc, .int cd, .int ce, .int cf, .int cg, .int ch, .int ci, .int cj, .int ck, .ref kl, .int cm, .int cn, .ref ko])), (k0, .inl (cI, 1201, .inl c0))] := hD
            obtain ⟨h_48, h_49⟩ := w_46
            have h_48 : 10 ≤ r_45.toInt := h_48
            have h_49 : r_45.toInt ≤ 110 := h_49
            have lo_r_45 := k_lo r_45
            have hi_r_45 := k_hi r_45
            refine lv_iload hx hb dX11_doneIn_93 (lv_at hl 3 rfl) ?_
            refine lv_iadd hx hb dX11_doneIn_95 ?_
            refine lv_topi (fun v_50 ev_50 => ?_)
            have tv_50 : v_50.toInt = r_45.toInt + r_11.toInt := by rw [ev_50]; exact k_addv rfl rfl (by omega) (by omega)
            refine lv_iconst (v := 1) hx hb dX11_doneIn_96 (by decide +kernel) ?_
            refine lv_isub hx hb dX11_doneIn_97 ?_
            refine lv_topi (fun v_51 ev_51 => ?_)
            have tv_51 : v_51.toInt = v_50.toInt - 1 := by rw [ev_51]; exact k_subv rfl zl_1 (by omega) (by omega)
            refine lv_iload hx hb dX11_doneIn_98 (lv_at hl 3 rfl) ?_
            refine lv_idiv hx hb dX11_doneIn_100 (k_ne0 (by omega)) ?_
            refine lv_topi (fun v_52 ev_52 => ?_)
            have lo_v_52 := k_lo v_52
            have hi_v_52 := k_hi v_52
            have q_53 := k_ceil (e := r_45) ev_52 (by omega) (by omega) (by omega)
            refine lv_iadd hx hb dX11_doneIn_101 ?_
            refine lv_topi (fun v_54 ev_54 => ?_)
            have tv_54 : v_54.toInt = v_35.toInt + v_52.toInt := by rw [ev_54]; exact k_addv rfl rfl (by omega) (by omega)
            refine lv_istore (lv' := [(5, .int v_54), (9, .int r_40), (8, .int l32_8), (7, .int r_11), (6, .int r_6), (0, .ref k), (1, .int a0), (2, .int a1), (3, .int a2), (4, .int a3)]) hx hb dX11_doneIn_102 hl (by decide +kernel) rfl ?_
            clear hl
            intro ls hl
            refine lv_iload hx hb dX11_doneIn_104 (lv_at hl 2 rfl) ?_
            refine lv_iload hx hb dX11_doneIn_106 (lv_at hl 4 rfl) ?_
            refine lv_iadd hx hb dX11_doneIn_108 ?_
            refine lv_topi (fun v_55 ev_55 => ?_)
            have tv_55 : v_55.toInt = l32_8.toInt + r_6.toInt := by rw [ev_55]; exact k_addv rfl rfl (by omega) (by omega)
            refine lv_istore (lv' := [(8, .int v_55), (5, .int v_54), (9, .int r_40), (7, .int r_11), (6, .int r_6), (0, .ref k), (1, .int a0), (2, .int a1), (3, .int a2), (4, .int a3)]) hx hb dX11_doneIn_109 hl (by decide +kernel) rfl ?_
            clear hl
            intro ls hl
            refine lv_goto (tgt := 32) hx hb dX11_doneIn_111 (by decide +kernel) ?_
            exact ih32 v_54 v_55 (by first | omega | decide | assumption | rfl) (by first | omega | decide | assumption | rfl) (by first | omega | decide | assumption | rfl) (by first | omega | decide | assumption | rfl) (by first | omega | decide | assumption | rfl) (by first | omega | decide | assumption | rfl) (by omega) ls _ _ (lv_sub hl [0, 3, 4, 1, 5, 6, 7, 8, 9] rfl) (hP.sub [0, 1, 2, 3] rfl) (hD.sub [0, 1, 2, 3] (by decide +kernel) rfl) hS
          · refine lv_iconst (v := 0) hx hb dX11_doneIn_54 (by decide +kernel) ?_
            refine lv_goto (tgt := 59) hx hb dX11_doneIn_55 (by decide +kernel) ?_
            refine lv_iadd hx hb dX11_doneIn_59 ?_
            refine lv_topi (fun v_56 ev_56 => ?_)
            have tv_56 : v_56.toInt = l32_5.toInt + 0 := by rw [ev_56]; exact k_addv rfl zl_0 (by omega) (by omega)
            refine lv_istore (lv' := [(5, .int v_56), (8, .int l32_8), (7, .int r_11), (6, .int r_6), (0, .ref k), (1, .int a0), (2, .int a1), (3, .int a2), (4, .int a3)]) hx hb dX11_doneIn_60 hl (by decide +kernel) rfl ?_
            clear hl
            intro ls hl
            refine lv_aload_n hx hb dX11_doneIn_62 rfl (lv_at hl 4 rfl) ?_
            refine lv_iload_n hx hb dX11_doneIn_63 rfl (lv_at hl 7 rfl) ?_
            refine lv_bipush (v := 12) hx hb dX11_doneIn_64 (by decide +kernel) ?_
            refine lv_iload hx hb dX11_doneIn_66 (lv_at hl 8 rfl) ?_
            refine lv_imul hx hb dX11_doneIn_68 ?_
            refine lv_topi (fun v_57 ev_57 => ?_)
            have tv_57 : v_57.toInt = 12 * a3.toInt := by rw [ev_57]; exact k_mulv zl_12 rfl (by omega) (by omega)
            refine lv_iload hx hb dX11_doneIn_69 (lv_at hl 0 rfl) ?_
            refine lv_bipush (v := 30) hx hb dX11_doneIn_71 (by decide +kernel) ?_
            refine lv_idiv hx hb dX11_doneIn_73 (by decide +kernel) ?_
            refine lv_topi (fun v_58 ev_58 => ?_)
            have tv_58 : v_58.toInt = v_56.toInt / 30 := k_divv (w := 0) ev_58 zl_30 (by omega) (by decide +kernel)
            have lo_v_58 := k_lo v_58
            have hi_v_58 := k_hi v_58
            refine lv_bipush (v := 12) hx hb dX11_doneIn_74 (by decide +kernel) ?_
            refine lv_irem hx hb dX11_doneIn_76 (by decide +kernel) ?_
            refine lv_topi (fun v_59 ev_59 => ?_)
            have tv_59 : v_59.toInt = v_58.toInt % 12 := k_remv (w := 0) ev_59 zl_12 (by omega) (by decide +kernel)
            have lo_v_59 := k_lo v_59
            have hi_v_59 := k_hi v_59
            refine lv_iadd hx hb dX11_doneIn_77 ?_
            refine lv_topi (fun v_60 ev_60 => ?_)
            have tv_60 : v_60.toInt = v_57.toInt + v_59.toInt := by rw [ev_60]; exact k_addv rfl rfl (by omega) (by omega)
            refine kJi (wr := [(k6, .inl (cI, 4, .inl c6)), (k0, .inl (cI, 1201, .inl c0))]) (va_runV (As := [.int a2, .int v_60]) (rest := []) ⟨hx, hb, hml, hown, hT⟩ (c_X11_atG l D cI aK aV k k0 k1 k2 k4 k5 k6 k7 k8 ka kb kl ko H.size c3 c9 cc cd ce cf cg ch ci cj ck cm cn c7 a2 v_60 (by first | omega | decide | assumption | rfl) (by first | omega | decide | assumption | rfl) (by first | omega | decide | assumption | rfl) (by first | omega | decide | assumption | rfl)) (cwV 2 hT (gV_in mw_1396 mw_1393 mw_1395 mw_p5_2 mw_12) rfl rfl rfl (by decide +kernel) ⟨Nat.le_of_ble_eq_true rfl, Nat.le_of_ble_eq_true rfl⟩) (kRecvX (q0 := 2) (ci := 11) hK hP hD hN hXS hS hA rfl rfl [2, 1] rfl (by decide +kernel)) rfl rfl hl.1 rfl (lv_room (Nat.le_of_ble_eq_true rfl)) dX11_doneIn_78 ⟨Nat.le_of_ble_eq_true rfl, Nat.le_of_ble_eq_true rfl⟩) hP hD hS hA [2, 1] [0, 3] rfl rfl (by decide +kernel) (by decide +kernel) ?_
            clear hP hD hS
            intro r_61 u_63 H locs w_62 hP hD hS
            replace hP : va_P D vwCl [(k6, .inl (cI, 4, .inl c6)), (k0, .inl (cI, 1201, .inl c0)), (k, .inr (11, [.ref k0, .ref k1, .ref k2, .int c3, .ref k4, .ref k5, .ref k6, .ref k7, .ref k8, .int c9, .ref ka, .ref kb, .int cc, .int cd, .int ce, .int cf, .int cg, .int ch, .int ci, .int cj, .int ck, .ref kl, .int cm, .int cn, .ref ko])), (k7, .inl (cI, 144, .inl c7))] H := hP
            replace hD : va_D A [(k6, .inl (cI, 4, .inl c6)), (k0, .inl (cI, 1201, .inl c0)), (k, .inr (11, [.ref k0, .ref k1, .ref k2, .int c3, .ref k4, .ref k5, .ref k6, .ref k7, .ref k8, .int c9, .ref ka, .ref kb, .int cc, .int cd, .int ce, .int cf, .int cg, .int ch, .int ci, .int cj, .int ck, .ref kl, .int cm, .int cn, .ref ko])), (k7, .inl (cI, 144, .inl c7))] := hD
            have h_64 := w_62
            have h_64 : r_61 = c7 (36 * a2.toInt.toNat + v_60.toInt.toNat) := h_64
            have h_64 : r_61 = c7 (36 * a2.toInt.toNat + v_60.toInt.toNat) := h_64
            have b_65 : 0 ≤ r_61.toInt ∧ r_61.toInt ≤ 9 := by rw [h_64]; exact pre10 v_60.toInt.toNat (by omega)
            have lo_r_61 := k_lo r_61
            have hi_r_61 := k_hi r_61
            refine lv_istore (lv' := [(9, .int r_61), (5, .int v_56), (8, .int l32_8), (7, .int r_11), (6, .int r_6), (0, .ref k), (1, .int a0), (2, .int a1), (3, .int a2), (4, .int a3)]) hx hb dX11_doneIn_81 hl (by decide +kernel) rfl ?_
            clear hl
            intro ls hl
            refine lv_iload hx hb dX11_doneIn_83 (lv_at hl 1 rfl) ?_
            refine lv_aload_n hx hb dX11_doneIn_85 rfl (lv_at hl 5 rfl) ?_
            refine lv_iload hx hb dX11_doneIn_86 (lv_at hl 2 rfl) ?_
            refine lv_iload hx hb dX11_doneIn_88 (lv_at hl 0 rfl) ?_
            refine kJi (wr := [(k6, .inl (cI, 4, .inl c6)), (k7, .inl (cI, 144, .inl c7))]) (va_runV (As := [.int l32_8, .int r_61]) (rest := [.int v_56]) ⟨hx, hb, hml, hown, hT⟩ (c_X11_effortH l D cI aK aV k k0 k1 k2 k4 k5 k6 k7 k8 ka kb kl ko H.size c3 c9 cc cd ce cf cg ch ci cj ck cm cn c0 l32_8 r_61 pre0 (by first | omega | decide | assumption | rfl) (by first | omega | decide | assumption | rfl) (by first | omega | decide | assumption | rfl) (by first | omega | decide | assumption | rfl)) (cwV 2 hT (gV_in mw_1380 mw_1377 mw_1379 mw_p5_0 mw_12) rfl rfl rfl (by decide +kernel) ⟨Nat.le_of_ble_eq_true rfl, Nat.le_of_ble_eq_true rfl⟩) (kRecvX (q0 := 2) (ci := 11) hK hP hD hN hXS hS hA rfl rfl [2, 1] rfl (by decide +kernel)) rfl rfl hl.1 rfl (lv_room (Nat.le_of_ble_eq_true rfl)) dX11_doneIn_90 ⟨Nat.le_of_ble_eq_true rfl, Nat.le_of_ble_eq_true rfl⟩) hP hD hS hA [2, 1] [0, 3] rfl rfl (by decide +kernel) (by decide +kernel) ?_
            clear hP hD hS
            intro r_66 u_68 H locs w_67 hP hD hS
            replace hP : va_P D vwCl [(k6, .inl (cI, 4, .inl c6)), (k7, .inl (cI, 144, .inl c7)), (k, .inr (11, [.ref k0, .ref k1, .ref k2, .int c3, .ref k4, .ref k5, .ref k6, .ref k7, .ref k8, .int c9, .ref ka, .ref kb, .int cc, .int cd, .int ce, .int cf, .int cg, .int ch, .int ci, .int cj, .int ck, .ref kl, .int cm, .int cn, .ref ko])), (k0, .inl (cI, 1201, .inl c0))] H := hP
            replace hD : va_D A [(k6, .inl (cI, 4, .inl c6)), (k7, .inl (cI, 144, .inl c7)), (k, .inr (11, [.ref k0, .ref k1, .ref k2, .int c3, .ref k4, .ref k5, .ref k6, .ref k7, .ref k8, .int c9, .ref ka, .ref kb, .int cc, .int cd, .int ce, .int cf, .int cg, .int ch, .int ci, .int cj, .int ck, .ref kl, .int cm, .int cn, .ref ko])), (k0, .inl (cI, 1201, .inl c0))] := hD
            obtain ⟨h_69, h_70⟩ := w_67
            have h_69 : 10 ≤ r_66.toInt := h_69
            have h_70 : r_66.toInt ≤ 110 := h_70
            have lo_r_66 := k_lo r_66
            have hi_r_66 := k_hi r_66
            refine lv_iload hx hb dX11_doneIn_93 (lv_at hl 3 rfl) ?_
            refine lv_iadd hx hb dX11_doneIn_95 ?_
            refine lv_topi (fun v_71 ev_71 => ?_)
            have tv_71 : v_71.toInt = r_66.toInt + r_11.toInt := by rw [ev_71]; exact k_addv rfl rfl (by omega) (by omega)
            refine lv_iconst (v := 1) hx hb dX11_doneIn_96 (by decide +kernel) ?_
            refine lv_isub hx hb dX11_doneIn_97 ?_
            refine lv_topi (fun v_72 ev_72 => ?_)
            have tv_72 : v_72.toInt = v_71.toInt - 1 := by rw [ev_72]; exact k_subv rfl zl_1 (by omega) (by omega)
            refine lv_iload hx hb dX11_doneIn_98 (lv_at hl 3 rfl) ?_
            refine lv_idiv hx hb dX11_doneIn_100 (k_ne0 (by omega)) ?_
            refine lv_topi (fun v_73 ev_73 => ?_)
            have lo_v_73 := k_lo v_73
            have hi_v_73 := k_hi v_73
            have q_74 := k_ceil (e := r_66) ev_73 (by omega) (by omega) (by omega)
            refine lv_iadd hx hb dX11_doneIn_101 ?_
            refine lv_topi (fun v_75 ev_75 => ?_)
            have tv_75 : v_75.toInt = v_56.toInt + v_73.toInt := by rw [ev_75]; exact k_addv rfl rfl (by omega) (by omega)
            refine lv_istore (lv' := [(5, .int v_75), (9, .int r_61), (8, .int l32_8), (7, .int r_11), (6, .int r_6), (0, .ref k), (1, .int a0), (2, .int a1), (3, .int a2), (4, .int a3)]) hx hb dX11_doneIn_102 hl (by decide +kernel) rfl ?_
            clear hl
            intro ls hl
            refine lv_iload hx hb dX11_doneIn_104 (lv_at hl 2 rfl) ?_
            refine lv_iload hx hb dX11_doneIn_106 (lv_at hl 4 rfl) ?_
            refine lv_iadd hx hb dX11_doneIn_108 ?_
            refine lv_topi (fun v_76 ev_76 => ?_)
            have tv_76 : v_76.toInt = l32_8.toInt + r_6.toInt := by rw [ev_76]; exact k_addv rfl rfl (by omega) (by omega)
            refine lv_istore (lv' := [(8, .int v_76), (5, .int v_75), (9, .int r_61), (7, .int r_11), (6, .int r_6), (0, .ref k), (1, .int a0), (2, .int a1), (3, .int a2), (4, .int a3)]) hx hb dX11_doneIn_109 hl (by decide +kernel) rfl ?_
            clear hl
            intro ls hl
            refine lv_goto (tgt := 32) hx hb dX11_doneIn_111 (by decide +kernel) ?_
            exact ih32 v_75 v_76 (by first | omega | decide | assumption | rfl) (by first | omega | decide | assumption | rfl) (by first | omega | decide | assumption | rfl) (by first | omega | decide | assumption | rfl) (by first | omega | decide | assumption | rfl) (by first | omega | decide | assumption | rfl) (by omega) ls _ _ (lv_sub hl [0, 3, 4, 1, 5, 6, 7, 8, 9] rfl) (hP.sub [0, 1, 2, 3] rfl) (hD.sub [0, 1, 2, 3] (by decide +kernel) rfl) hS
  exact hloop_32 _ v_4 r_17 (by first | omega | decide | assumption | rfl) (by first | omega | decide | assumption | rfl) (by first | omega | decide | assumption | rfl) (by first | omega | decide | assumption | rfl) (by first | omega | decide | assumption | rfl) (by first | omega | decide | assumption | rfl) (Nat.lt_succ_self _) ls _ _ (lv_sub hl [0, 1, 2, 3, 4, 5, 6, 7, 8] rfl) hP hD hS

set_option maxHeartbeats 4000000 in
set_option maxRecDepth 100000 in
theorem c_X11_doneInGm (l : Launch) (D : va_G) (cI : ClassId) (aK aV : Nat → Nat) (k k0 k1 k2 k4 k5 k6 k7 k8 ka kb kl ko : Nat) (sz : Nat) (c3 : Int32) (c9 : Int32) (cc : Int32) (cd : Int32) (ce : Int32) (cf : Int32) (cg : Int32) (ch : Int32) (ci : Int32) (cj : Int32) (ck : Int32) (cm : Int32) (cn : Int32) (c0 : Nat → Int32) (c6 : Nat → Int32) (c7 : Nat → Int32) (a0 : Int32) (a1 : Int32) (a2 : Int32) (a3 : Int32) (pre0 : SB c0) (pre1 : 0 ≤ a0.toInt) (pre2 : a0.toInt ≤ 3) (pre3 : (pW c0 a0 1).toInt = (-1)) (pre4 : 1 ≤ (pW c0 a0 2).toInt) (pre5 : 0 ≤ a2.toInt) (pre6 : a2.toInt ≤ 3) (pre7 : 0 ≤ a3.toInt) (pre8 : a3.toInt ≤ 2) (pre9 : 12 * a3.toInt + 12 ≤ (c6 a2.toNatClampNeg).toInt) (pre10 : ∀ k : Nat, (k : Int) < (c6 a2.toNatClampNeg).toInt → 0 ≤ (c7 (36 * a2.toInt.toNat + k)).toInt ∧ (c7 (36 * a2.toInt.toNat + k)).toInt ≤ 9) (pre11 : a1.toInt ≤ (pW c0 a0 0).toInt) (pre12 : 0 ≤ a1.toInt) : Met l yX11_doneIn (gW yX11_doneIn cX11_doneIn 10 (some .int)) ({ frames := 1, cells := 0, slots := 0, locals := 23 } : Room) (kPreX D cI aK aV [.ref k, .int a0, .int a1, .int a2, .int a3] [(k, .inr (11, [.ref k0, .ref k1, .ref k2, .int c3, .ref k4, .ref k5, .ref k6, .ref k7, .ref k8, .int c9, .ref ka, .ref kb, .int cc, .int cd, .int ce, .int cf, .int cg, .int ch, .int ci, .int cj, .int ck, .ref kl, .int cm, .int cn, .ref ko])), (k0, .inl (cI, 1201, .inl c0)), (k6, .inl (cI, 4, .inl c6)), (k7, .inl (cI, 144, .inl c7))] sz) (va_Qi (fun (r : Int32) (u : Unit) => True) (fun u t => kWd D cI (va_A [(k, .inr (11, [.ref k0, .ref k1, .ref k2, .int c3, .ref k4, .ref k5, .ref k6, .ref k7, .ref k8, .int c9, .ref ka, .ref kb, .int cc, .int cd, .int ce, .int cf, .int cg, .int ch, .int ci, .int cj, .int ck, .ref kl, .int cm, .int cn, .ref ko])), (k0, .inl (cI, 1201, .inl c0)), (k6, .inl (cI, 4, .inl c6)), (k7, .inl (cI, 144, .inl c7))] sz) [(k, .inr (11, [.ref k0, .ref k1, .ref k2, .int c3, .ref k4, .ref k5, .ref k6, .ref k7, .ref k8, .int c9, .ref ka, .ref kb, .int cc, .int cd, .int ce, .int cf, .int cg, .int ch, .int ci, .int cj, .int ck, .ref kl, .int cm, .int cn, .ref ko])), (k0, .inl (cI, 1201, .inl c0)), (k6, .inl (cI, 4, .inl c6)), (k7, .inl (cI, 144, .inl c7))] t) (va_A [(k, .inr (11, [.ref k0, .ref k1, .ref k2, .int c3, .ref k4, .ref k5, .ref k6, .ref k7, .ref k8, .int c9, .ref ka, .ref kb, .int cc, .int cd, .int ce, .int cf, .int cg, .int ch, .int ci, .int cj, .int ck, .ref kl, .int cm, .int cn, .ref ko])), (k0, .inl (cI, 1201, .inl c0)), (k6, .inl (cI, 4, .inl c6)), (k7, .inl (cI, 144, .inl c7))] sz)) 0 0 (va_A [(k, .inr (11, [.ref k0, .ref k1, .ref k2, .int c3, .ref k4, .ref k5, .ref k6, .ref k7, .ref k8, .int c9, .ref ka, .ref kb, .int cc, .int cd, .int ce, .int cf, .int cg, .int ch, .int ci, .int cj, .int ck, .ref kl, .int cm, .int cn, .ref ko])), (k0, .inl (cI, 1201, .inl c0)), (k6, .inl (cI, 4, .inl c6)), (k7, .inl (cI, 144, .inl c7))] sz) := by
  refine kMetIX (own := RX11) (by decide +kernel) rfl (Nat.le_of_ble_eq_true rfl) ?_
  intro p e s m args below meth c hx hb hT hown hname hml A Q hK hP hD hS hA hN hXS hRet ls hl
  have hl : lv_has ls 10 [(0, .ref k), (1, .int a0), (2, .int a1), (3, .int a2), (4, .int a3)] := hl
  have lo_a0 := k_lo a0
  have hi_a0 := k_hi a0
  have lo_a1 := k_lo a1
  have hi_a1 := k_hi a1
  have lo_a2 := k_lo a2
  have hi_a2 := k_hi a2
  have lo_a3 := k_lo a3
  have hi_a3 := k_hi a3
  have lo_ci := k_lo ci
  have hi_ci := k_hi ci
  have pre0 : SB c0 := pre0
  have nb_1 : 0 ≤ (c0 0).toInt ∧ (c0 0).toInt ≤ 2000 := SB.n0 pre0
  have nb_2 : 0 ≤ (c0 1).toInt ∧ (c0 1).toInt ≤ 60 := SB.n1 pre0
  have nb_3 : 0 ≤ (c0 2).toInt ∧ (c0 2).toInt ≤ 4 := SB.n2 pre0
  refine lv_aload_n hx hb dX11_doneIn_0 rfl (lv_at hl 0 rfl) ?_
  refine va_get (D := D) (ci := 11) (v := .ref k0) (C := RX11) (T := TX11) (N := 25) hx hb hT giX11 hown hK hP 0 rfl rfl 0 (by decide +kernel) (hT (Cond.fieldLink RX11 9 "DesertWireModel" "s" "[I") mw_1156) (fun _ h9 => h9) rfl dX11_doneIn_1 ?_
  refine lv_iconst (v := 0) hx hb dX11_doneIn_4 (by decide +kernel) ?_
  refine k_iald (v := (c0 0)) hx hb hK hP 1 0 rfl rfl (k_inl (by decide +kernel)) rfl dX11_doneIn_5 ?_
  refine lv_topi (fun v_4 ev_4 => ?_)
  have lo_v_4 := k_lo v_4
  have hi_v_4 := k_hi v_4
  have tv_4 : v_4.toInt = (c0 0).toInt := by rw [ev_4]
  have b_5 : 0 ≤ v_4.toInt ∧ v_4.toInt ≤ 2000 := by first | (rw [tv_4]; exact SB.n0 pre0) | exact SB.n0 pre0 | omega
  refine lv_istore (lv' := [(5, .int v_4), (0, .ref k), (1, .int a0), (2, .int a1), (3, .int a2), (4, .int a3)]) hx hb dX11_doneIn_6 hl (by decide +kernel) rfl ?_
  clear hl
  intro ls hl
  refine lv_aload_n hx hb dX11_doneIn_8 rfl (lv_at hl 1 rfl) ?_
  refine lv_iload_n hx hb dX11_doneIn_9 rfl (lv_at hl 2 rfl) ?_
  refine lv_iconst (v := 1) hx hb dX11_doneIn_10 (by decide +kernel) ?_
  refine kJi (wr := [(k6, .inl (cI, 4, .inl c6)), (k7, .inl (cI, 144, .inl c7))]) (va_runV (As := [.int a0, .int 1]) (rest := []) ⟨hx, hb, hml, hown, hT⟩ (c_X11_partyG1 l D cI aK aV k k0 k1 k2 k4 k5 k6 k7 k8 ka kb kl ko s.heap.size c3 c9 cc cd ce cf cg ch ci cj ck cm cn c0 a0 1 (by first | omega | (simp only [zl_1]; first | done | omega) | decide | assumption | rfl) (by first | omega | (simp only [zl_1]; first | done | omega) | decide | assumption | rfl) (by first | omega | (simp only [zl_1]; first | done | omega) | decide | assumption | rfl)) (cwV 2 hT (gV_in mw_1416 mw_1413 mw_1415 mw_p5_5 mw_12) rfl rfl rfl (by decide +kernel) ⟨Nat.le_of_ble_eq_true rfl, Nat.le_of_ble_eq_true rfl⟩) (kRecvX (q0 := 0) (ci := 11) hK hP hD hN hXS hS hA rfl rfl [0, 1] rfl (by decide +kernel)) rfl rfl hl.1 rfl (lv_room (Nat.le_of_ble_eq_true rfl)) dX11_doneIn_11 ⟨Nat.le_of_ble_eq_true rfl, Nat.le_of_ble_eq_true rfl⟩) hP hD hS hA [0, 1] [2, 3] rfl rfl (by decide +kernel) (by decide +kernel) ?_
  clear hP hD hS
  intro r_6 u_8 H locs w_7 hP hD hS
  replace hP : va_P D vwCl [(k6, .inl (cI, 4, .inl c6)), (k7, .inl (cI, 144, .inl c7)), (k, .inr (11, [.ref k0, .ref k1, .ref k2, .int c3, .ref k4, .ref k5, .ref k6, .ref k7, .ref k8, .int c9, .ref ka, .ref kb, .int cc, .int cd, .int ce, .int cf, .int cg, .int ch, .int ci, .int cj, .int ck, .ref kl, .int cm, .int cn, .ref ko])), (k0, .inl (cI, 1201, .inl c0))] H := hP
  replace hD : va_D A [(k6, .inl (cI, 4, .inl c6)), (k7, .inl (cI, 144, .inl c7)), (k, .inr (11, [.ref k0, .ref k1, .ref k2, .int c3, .ref k4, .ref k5, .ref k6, .ref k7, .ref k8, .int c9, .ref ka, .ref kb, .int cc, .int cd, .int ce, .int cf, .int cg, .int ch, .int ci, .int cj, .int ck, .ref kl, .int cm, .int cn, .ref ko])), (k0, .inl (cI, 1201, .inl c0))] := hD
  have h_9 := w_7
  have h_9 : r_6 = pW c0 a0 1 := h_9
  have t_10 : r_6.toInt = (pW c0 a0 1).toInt := by rw [h_9]
  have lo_r_6 := k_lo r_6
  have hi_r_6 := k_hi r_6
  refine lv_istore (lv' := [(6, .int r_6), (5, .int v_4), (0, .ref k), (1, .int a0), (2, .int a1), (3, .int a2), (4, .int a3)]) hx hb dX11_doneIn_14 hl (by decide +kernel) rfl ?_
  clear hl
  intro ls hl
  refine lv_aload_n hx hb dX11_doneIn_16 rfl (lv_at hl 2 rfl) ?_
  refine lv_iload_n hx hb dX11_doneIn_17 rfl (lv_at hl 3 rfl) ?_
  refine lv_iconst (v := 2) hx hb dX11_doneIn_18 (by decide +kernel) ?_
  refine kJi (wr := [(k6, .inl (cI, 4, .inl c6)), (k7, .inl (cI, 144, .inl c7))]) (va_runV (As := [.int a0, .int 2]) (rest := []) ⟨hx, hb, hml, hown, hT⟩ (c_X11_partyG2 l D cI aK aV k k0 k1 k2 k4 k5 k6 k7 k8 ka kb kl ko H.size c3 c9 cc cd ce cf cg ch ci cj ck cm cn c0 a0 2 (by first | omega | (simp only [zl_2]; first | done | omega) | decide | assumption | rfl) (by first | omega | (simp only [zl_2]; first | done | omega) | decide | assumption | rfl) (by first | omega | (simp only [zl_2]; first | done | omega) | decide | assumption | rfl)) (cwV 2 hT (gV_in mw_1416 mw_1413 mw_1415 mw_p5_5 mw_12) rfl rfl rfl (by decide +kernel) ⟨Nat.le_of_ble_eq_true rfl, Nat.le_of_ble_eq_true rfl⟩) (kRecvX (q0 := 2) (ci := 11) hK hP hD hN hXS hS hA rfl rfl [2, 3] rfl (by decide +kernel)) rfl rfl hl.1 rfl (lv_room (Nat.le_of_ble_eq_true rfl)) dX11_doneIn_19 ⟨Nat.le_of_ble_eq_true rfl, Nat.le_of_ble_eq_true rfl⟩) hP hD hS hA [2, 3] [0, 1] rfl rfl (by decide +kernel) (by decide +kernel) ?_
  clear hP hD hS
  intro r_11 u_13 H locs w_12 hP hD hS
  replace hP : va_P D vwCl [(k6, .inl (cI, 4, .inl c6)), (k7, .inl (cI, 144, .inl c7)), (k, .inr (11, [.ref k0, .ref k1, .ref k2, .int c3, .ref k4, .ref k5, .ref k6, .ref k7, .ref k8, .int c9, .ref ka, .ref kb, .int cc, .int cd, .int ce, .int cf, .int cg, .int ch, .int ci, .int cj, .int ck, .ref kl, .int cm, .int cn, .ref ko])), (k0, .inl (cI, 1201, .inl c0))] H := hP
  replace hD : va_D A [(k6, .inl (cI, 4, .inl c6)), (k7, .inl (cI, 144, .inl c7)), (k, .inr (11, [.ref k0, .ref k1, .ref k2, .int c3, .ref k4, .ref k5, .ref k6, .ref k7, .ref k8, .int c9, .ref ka, .ref kb, .int cc, .int cd, .int ce, .int cf, .int cg, .int ch, .int ci, .int cj, .int ck, .ref kl, .int cm, .int cn, .ref ko])), (k0, .inl (cI, 1201, .inl c0))] := hD
  have h_14 := w_12
  have h_14 : r_11 = pW c0 a0 2 := h_14
  have t_15 : r_11.toInt = (pW c0 a0 2).toInt := by rw [h_14]
  have b_16 : 0 ≤ r_11.toInt ∧ r_11.toInt ≤ 50 := by rw [h_14]; exact SB.p2 pre0 (by omega) (by omega)
  have lo_r_11 := k_lo r_11
  have hi_r_11 := k_hi r_11
  refine lv_istore (lv' := [(7, .int r_11), (6, .int r_6), (5, .int v_4), (0, .ref k), (1, .int a0), (2, .int a1), (3, .int a2), (4, .int a3)]) hx hb dX11_doneIn_22 hl (by decide +kernel) rfl ?_
  clear hl
  intro ls hl
  refine lv_aload_n hx hb dX11_doneIn_24 rfl (lv_at hl 3 rfl) ?_
  refine lv_iload_n hx hb dX11_doneIn_25 rfl (lv_at hl 4 rfl) ?_
  refine lv_iconst (v := 0) hx hb dX11_doneIn_26 (by decide +kernel) ?_
  refine kJi (wr := [(k6, .inl (cI, 4, .inl c6)), (k7, .inl (cI, 144, .inl c7))]) (va_runV (As := [.int a0, .int 0]) (rest := []) ⟨hx, hb, hml, hown, hT⟩ (c_X11_partyG0 l D cI aK aV k k0 k1 k2 k4 k5 k6 k7 k8 ka kb kl ko H.size c3 c9 cc cd ce cf cg ch ci cj ck cm cn c0 a0 0 (by first | omega | (simp only [zl_0]; first | done | omega) | decide | assumption | rfl) (by first | omega | (simp only [zl_0]; first | done | omega) | decide | assumption | rfl) (by first | omega | (simp only [zl_0]; first | done | omega) | decide | assumption | rfl)) (cwV 2 hT (gV_in mw_1416 mw_1413 mw_1415 mw_p5_5 mw_12) rfl rfl rfl (by decide +kernel) ⟨Nat.le_of_ble_eq_true rfl, Nat.le_of_ble_eq_true rfl⟩) (kRecvX (q0 := 2) (ci := 11) hK hP hD hN hXS hS hA rfl rfl [2, 3] rfl (by decide +kernel)) rfl rfl hl.1 rfl (lv_room (Nat.le_of_ble_eq_true rfl)) dX11_doneIn_27 ⟨Nat.le_of_ble_eq_true rfl, Nat.le_of_ble_eq_true rfl⟩) hP hD hS hA [2, 3] [0, 1] rfl rfl (by decide +kernel) (by decide +kernel) ?_
  clear hP hD hS
  intro r_17 u_19 H locs w_18 hP hD hS
  replace hP : va_P D vwCl [(k6, .inl (cI, 4, .inl c6)), (k7, .inl (cI, 144, .inl c7)), (k, .inr (11, [.ref k0, .ref k1, .ref k2, .int c3, .ref k4, .ref k5, .ref k6, .ref k7, .ref k8, .int c9, .ref ka, .ref kb, .int cc, .int cd, .int ce, .int cf, .int cg, .int ch, .int ci, .int cj, .int ck, .ref kl, .int cm, .int cn, .ref ko])), (k0, .inl (cI, 1201, .inl c0))] H := hP
  replace hD : va_D A [(k6, .inl (cI, 4, .inl c6)), (k7, .inl (cI, 144, .inl c7)), (k, .inr (11, [.ref k0, .ref k1, .ref k2, .int c3, .ref k4, .ref k5, .ref k6, .ref k7, .ref k8, .int c9, .ref ka, .ref kb, .int cc, .int cd, .int ce, .int cf, .int cg, .int ch, .int ci, .int cj, .int ck, .ref kl, .int cm, .int cn, .ref ko])), (k0, .inl (cI, 1201, .inl c0))] := hD
  have h_20 := w_18
  have h_20 : r_17 = pW c0 a0 0 := h_20
  have t_21 : r_17.toInt = (pW c0 a0 0).toInt := by rw [h_20]
  have b_22 : 0 ≤ r_17.toInt ∧ r_17.toInt ≤ 39 := by rw [h_20]; exact SB.p0 pre0 (by omega) (by omega)
  have lo_r_17 := k_lo r_17
  have hi_r_17 := k_hi r_17
  refine lv_istore (lv' := [(8, .int r_17), (7, .int r_11), (6, .int r_6), (5, .int v_4), (0, .ref k), (1, .int a0), (2, .int a1), (3, .int a2), (4, .int a3)]) hx hb dX11_doneIn_30 hl (by decide +kernel) rfl ?_
  clear hl
  intro ls hl
  have hloop_32 : ∀ (fu_ : Nat) (l32_5 : Int32) (l32_8 : Int32), v_4.toInt ≤ l32_5.toInt → l32_8.toInt ≤ r_17.toInt → l32_8.toInt ≤ (pW c0 a0 0).toInt → a1.toInt ≤ l32_8.toInt + 1 → 0 ≤ l32_5.toInt → l32_5.toInt + 111 * l32_8.toInt ≤ 2000 + 111 * (pW c0 a0 0).toInt → (l32_8.toInt + 1 - a1.toInt).toNat < fu_ → ∀ (ls : Array Slot) (H : Heap) (locs : List Loc), lv_has ls 10 [(8, .int l32_8), (7, .int r_11), (6, .int r_6), (5, .int l32_5), (0, .ref k), (1, .int a0), (2, .int a1), (3, .int a2), (4, .int a3)] → va_P D vwCl [(k6, .inl (cI, 4, .inl c6)), (k7, .inl (cI, 144, .inl c7)), (k, .inr (11, [.ref k0, .ref k1, .ref k2, .int c3, .ref k4, .ref k5, .ref k6, .ref k7, .ref k8, .int c9, .ref ka, .ref kb, .int cc, .int cd, .int ce, .int cf, .int cg, .int ch, .int ci, .int cj, .int ck, .ref kl, .int cm, .int cn, .ref ko])), (k0, .inl (cI, 1201, .inl c0))] H → va_D A [(k6, .inl (cI, 4, .inl c6)), (k7, .inl (cI, 144, .inl c7)), (k, .inr (11, [.ref k0, .ref k1, .ref k2, .int c3, .ref k4, .ref k5, .ref k6, .ref k7, .ref k8, .int c9, .ref ka, .ref kb, .int cc, .int cd, .int ce, .int cf, .int cg, .int ch, .int ci, .int cj, .int ck, .ref kl, .int cm, .int cn, .ref ko])), (k0, .inl (cI, 1201, .inl c0))] → va_S A s.heap H locs → W p l e ({ frames := 1, cells := 0, slots := 0, locals := 23 } : Room) s m args below meth c H locs 0 0 Q (F0 m 32 ls []) := by
    intro fu_; induction fu_ with
    | zero => intro l32_5 l32_8 i32_0 i32_1 i32_2 i32_3 i32_4 i32_5 hm; exact absurd hm (by omega)
    | succ fu_ ih32 =>
        intro l32_5 l32_8 i32_0 i32_1 i32_2 i32_3 i32_4 i32_5 hm ls H locs hl hP hD hS
        have lo_l32_5 := k_lo l32_5
        have hi_l32_5 := k_hi l32_5
        have lo_l32_8 := k_lo l32_8
        have hi_l32_8 := k_hi l32_8
        refine lv_iload hx hb dX11_doneIn_32 (lv_at hl 0 rfl) ?_
        refine lv_iload_n hx hb dX11_doneIn_34 rfl (lv_at hl 6 rfl) ?_
        refine lv_iload hx hb dX11_doneIn_35 (lv_at hl 2 rfl) ?_
        refine lv_iadd hx hb dX11_doneIn_37 ?_
        refine lv_topi (fun v_23 ev_23 => ?_)
        have tv_23 : v_23.toInt = a1.toInt + r_6.toInt := by rw [ev_23]; exact k_addv rfl rfl (by omega) (by omega)
        refine b_icmp_eq hx hb rfl rfl (tgt := 114) dX11_doneIn_38 (by decide +kernel) (fun c_24 => ?_) (fun c_24 => ?_)
        · refine lv_iload hx hb dX11_doneIn_114 (lv_at hl 3 rfl) ?_
          refine lv_aload_n hx hb dX11_doneIn_116 rfl (lv_at hl 4 rfl) ?_
          refine va_get (D := D) (ci := 11) (v := .ref k0) (C := RX11) (T := TX11) (N := 25) hx hb hT giX11 hown hK hP 2 rfl rfl 0 (by decide +kernel) (hT (Cond.fieldLink RX11 9 "DesertWireModel" "s" "[I") mw_1156) (fun _ h9 => h9) rfl dX11_doneIn_117 ?_
          refine lv_iconst (v := 0) hx hb dX11_doneIn_120 (by decide +kernel) ?_
          refine k_iald (v := (c0 0)) hx hb hK hP 3 0 rfl rfl (k_inl (by decide +kernel)) rfl dX11_doneIn_121 ?_
          refine lv_topi (fun v_25 ev_25 => ?_)
          have lo_v_25 := k_lo v_25
          have hi_v_25 := k_hi v_25
          have tv_25 : v_25.toInt = (c0 0).toInt := by rw [ev_25]
          have b_26 : 0 ≤ v_25.toInt ∧ v_25.toInt ≤ 2000 := by first | (rw [tv_25]; exact SB.n0 pre0) | exact SB.n0 pre0 | omega
          refine lv_isub hx hb dX11_doneIn_122 ?_
          refine lv_topi (fun v_27 ev_27 => ?_)
          have tv_27 : v_27.toInt = l32_5.toInt - v_25.toInt := by rw [ev_27]; exact k_subv rfl rfl (by omega) (by omega)
          exact hRet () [2, 3, 0, 1] trivial hP hD (by decide +kernel) rfl hS rfl dX11_doneIn_123
        · refine lv_iload hx hb dX11_doneIn_41 (lv_at hl 3 rfl) ?_
          refine lv_iload hx hb dX11_doneIn_43 (lv_at hl 0 rfl) ?_
          refine lv_aload_n hx hb dX11_doneIn_45 rfl (lv_at hl 4 rfl) ?_
          refine lv_iload_n hx hb dX11_doneIn_46 rfl (lv_at hl 5 rfl) ?_
          refine lv_iconst (v := 0) hx hb dX11_doneIn_47 (by decide +kernel) ?_
          refine kJi (wr := [(k6, .inl (cI, 4, .inl c6)), (k7, .inl (cI, 144, .inl c7))]) (va_runV (As := [.int a0, .int 0]) (rest := [.int l32_8, .int l32_5]) ⟨hx, hb, hml, hown, hT⟩ (c_X11_partyG0 l D cI aK aV k k0 k1 k2 k4 k5 k6 k7 k8 ka kb kl ko H.size c3 c9 cc cd ce cf cg ch ci cj ck cm cn c0 a0 0 (by first | omega | (simp only [zl_0]; first | done | omega) | decide | assumption | rfl) (by first | omega | (simp only [zl_0]; first | done | omega) | decide | assumption | rfl) (by first | omega | (simp only [zl_0]; first | done | omega) | decide | assumption | rfl)) (cwV 2 hT (gV_in mw_1416 mw_1413 mw_1415 mw_p5_5 mw_12) rfl rfl rfl (by decide +kernel) ⟨Nat.le_of_ble_eq_true rfl, Nat.le_of_ble_eq_true rfl⟩) (kRecvX (q0 := 2) (ci := 11) hK hP hD hN hXS hS hA rfl rfl [2, 3] rfl (by decide +kernel)) rfl rfl hl.1 rfl (lv_room (Nat.le_of_ble_eq_true rfl)) dX11_doneIn_48 ⟨Nat.le_of_ble_eq_true rfl, Nat.le_of_ble_eq_true rfl⟩) hP hD hS hA [2, 3] [0, 1] rfl rfl (by decide +kernel) (by decide +kernel) ?_
          clear hP hD hS
          intro r_28 u_30 H locs w_29 hP hD hS
          replace hP : va_P D vwCl [(k6, .inl (cI, 4, .inl c6)), (k7, .inl (cI, 144, .inl c7)), (k, .inr (11, [.ref k0, .ref k1, .ref k2, .int c3, .ref k4, .ref k5, .ref k6, .ref k7, .ref k8, .int c9, .ref ka, .ref kb, .int cc, .int cd, .int ce, .int cf, .int cg, .int ch, .int ci, .int cj, .int ck, .ref kl, .int cm, .int cn, .ref ko])), (k0, .inl (cI, 1201, .inl c0))] H := hP
          replace hD : va_D A [(k6, .inl (cI, 4, .inl c6)), (k7, .inl (cI, 144, .inl c7)), (k, .inr (11, [.ref k0, .ref k1, .ref k2, .int c3, .ref k4, .ref k5, .ref k6, .ref k7, .ref k8, .int c9, .ref ka, .ref kb, .int cc, .int cd, .int ce, .int cf, .int cg, .int ch, .int ci, .int cj, .int ck, .ref kl, .int cm, .int cn, .ref ko])), (k0, .inl (cI, 1201, .inl c0))] := hD
          have h_31 := w_29
          have h_31 : r_28 = pW c0 a0 0 := h_31
          have t_32 : r_28.toInt = (pW c0 a0 0).toInt := by rw [h_31]
          have b_33 : 0 ≤ r_28.toInt ∧ r_28.toInt ≤ 39 := by rw [h_31]; exact SB.p0 pre0 (by omega) (by omega)
          have lo_r_28 := k_lo r_28
          have hi_r_28 := k_hi r_28
          refine b_icmp_ne hx hb rfl rfl (tgt := 58) dX11_doneIn_51 (by decide +kernel) (fun c_34 => ?_) (fun c_34 => ?_)
          · refine lv_iconst (v := 1) hx hb dX11_doneIn_58 (by decide +kernel) ?_
            refine lv_iadd hx hb dX11_doneIn_59 ?_
            refine lv_topi (fun v_35 ev_35 => ?_)
            have tv_35 : v_35.toInt = l32_5.toInt + 1 := by rw [ev_35]; exact k_addv rfl zl_1 (by omega) (by omega)
            refine lv_istore (lv' := [(5, .int v_35), (8, .int l32_8), (7, .int r_11), (6, .int r_6), (0, .ref k), (1, .int a0), (2, .int a1), (3, .int a2), (4, .int a3)]) hx hb dX11_doneIn_60 hl (by decide +kernel) rfl ?_
            clear hl
            intro ls hl
            refine lv_aload_n hx hb dX11_doneIn_62 rfl (lv_at hl 4 rfl) ?_
            refine lv_iload_n hx hb dX11_doneIn_63 rfl (lv_at hl 7 rfl) ?_
            refine lv_bipush (v := 12) hx hb dX11_doneIn_64 (by decide +kernel) ?_
            refine lv_iload hx hb dX11_doneIn_66 (lv_at hl 8 rfl) ?_
            refine lv_imul hx hb dX11_doneIn_68 ?_
            refine lv_topi (fun v_36 ev_36 => ?_)
            have tv_36 : v_36.toInt = 12 * a3.toInt := by rw [ev_36]; exact k_mulv zl_12 rfl (by omega) (by omega)
            refine lv_iload hx hb dX11_doneIn_69 (lv_at hl 0 rfl) ?_
            refine lv_bipush (v := 30) hx hb dX11_doneIn_71 (by decide +kernel) ?_
            refine lv_idiv hx hb dX11_doneIn_73 (by decide +kernel) ?_
            refine lv_topi (fun v_37 ev_37 => ?_)
            have tv_37 : v_37.toInt = v_35.toInt / 30 := k_divv (w := 0) ev_37 zl_30 (by omega) (by decide +kernel)
            have lo_v_37 := k_lo v_37
            have hi_v_37 := k_hi v_37
            refine lv_bipush (v := 12) hx hb dX11_doneIn_74 (by decide +kernel) ?_
            refine lv_irem hx hb dX11_doneIn_76 (by decide +kernel) ?_
            refine lv_topi (fun v_38 ev_38 => ?_)
            have tv_38 : v_38.toInt = v_37.toInt % 12 := k_remv (w := 0) ev_38 zl_12 (by omega) (by decide +kernel)
            have lo_v_38 := k_lo v_38
            have hi_v_38 := k_hi v_38
            refine lv_iadd hx hb dX11_doneIn_77 ?_
            refine lv_topi (fun v_39 ev_39 => ?_)
            have tv_39 : v_39.toInt = v_36.toInt + v_38.toInt := by rw [ev_39]; exact k_addv rfl rfl (by omega) (by omega)
            refine kJi (wr := [(k6, .inl (cI, 4, .inl c6)), (k0, .inl (cI, 1201, .inl c0))]) (va_runV (As := [.int a2, .int v_39]) (rest := []) ⟨hx, hb, hml, hown, hT⟩ (c_X11_atG l D cI aK aV k k0 k1 k2 k4 k5 k6 k7 k8 ka kb kl ko H.size c3 c9 cc cd ce cf cg ch ci cj ck cm cn c7 a2 v_39 (by first | omega | decide | assumption | rfl) (by first | omega | decide | assumption | rfl) (by first | omega | decide | assumption | rfl) (by first | omega | decide | assumption | rfl)) (cwV 2 hT (gV_in mw_1396 mw_1393 mw_1395 mw_p5_2 mw_12) rfl rfl rfl (by decide +kernel) ⟨Nat.le_of_ble_eq_true rfl, Nat.le_of_ble_eq_true rfl⟩) (kRecvX (q0 := 2) (ci := 11) hK hP hD hN hXS hS hA rfl rfl [2, 1] rfl (by decide +kernel)) rfl rfl hl.1 rfl (lv_room (Nat.le_of_ble_eq_true rfl)) dX11_doneIn_78 ⟨Nat.le_of_ble_eq_true rfl, Nat.le_of_ble_eq_true rfl⟩) hP hD hS hA [2, 1] [0, 3] rfl rfl (by decide +kernel) (by decide +kernel) ?_
            clear hP hD hS
            intro r_40 u_42 H locs w_41 hP hD hS
            replace hP : va_P D vwCl [(k6, .inl (cI, 4, .inl c6)), (k0, .inl (cI, 1201, .inl c0)), (k, .inr (11, [.ref k0, .ref k1, .ref k2, .int c3, .ref k4, .ref k5, .ref k6, .ref k7, .ref k8, .int c9, .ref ka, .ref kb, .int cc, .int cd, .int ce, .int cf, .int cg, .int ch, .int ci, .int cj, .int ck, .ref kl, .int cm, .int cn, .ref ko])), (k7, .inl (cI, 144, .inl c7))] H := hP
            replace hD : va_D A [(k6, .inl (cI, 4, .inl c6)), (k0, .inl (cI, 1201, .inl c0)), (k, .inr (11, [.ref k0, .ref k1, .ref k2, .int c3, .ref k4, .ref k5, .ref k6, .ref k7, .ref k8, .int c9, .ref ka, .ref kb, .int cc, .int cd, .int ce, .int cf, .int cg, .int ch, .int ci, .int cj, .int ck, .ref kl, .int cm, .int cn, .ref ko])), (k7, .inl (cI, 144, .inl c7))] := hD
            have h_43 := w_41
            have h_43 : r_40 = c7 (36 * a2.toInt.toNat + v_39.toInt.toNat) := h_43
            have h_43 : r_40 = c7 (36 * a2.toInt.toNat + v_39.toInt.toNat) := h_43
            have b_44 : 0 ≤ r_40.toInt ∧ r_40.toInt ≤ 9 := by rw [h_43]; exact pre10 v_39.toInt.toNat (by omega)
            have lo_r_40 := k_lo r_40
            have hi_r_40 := k_hi r_40
            refine lv_istore (lv' := [(9, .int r_40), (5, .int v_35), (8, .int l32_8), (7, .int r_11), (6, .int r_6), (0, .ref k), (1, .int a0), (2, .int a1), (3, .int a2), (4, .int a3)]) hx hb dX11_doneIn_81 hl (by decide +kernel) rfl ?_
            clear hl
            intro ls hl
            refine lv_iload hx hb dX11_doneIn_83 (lv_at hl 1 rfl) ?_
            refine lv_aload_n hx hb dX11_doneIn_85 rfl (lv_at hl 5 rfl) ?_
            refine lv_iload hx hb dX11_doneIn_86 (lv_at hl 2 rfl) ?_
            refine lv_iload hx hb dX11_doneIn_88 (lv_at hl 0 rfl) ?_
            refine kJi (wr := [(k6, .inl (cI, 4, .inl c6)), (k7, .inl (cI, 144, .inl c7))]) (va_runV (As := [.int l32_8, .int r_40]) (rest := [.int v_35]) ⟨hx, hb, hml, hown, hT⟩ (c_X11_effortH l D cI aK aV k k0 k1 k2 k4 k5 k6 k7 k8 ka kb kl ko H.size c3 c9 cc cd ce cf cg ch ci cj ck cm cn c0 l32_8 r_40 pre0 (by first | omega | decide | assumption | rfl) (by first | omega | decide | assumption | rfl) (by first | omega | decide | assumption | rfl) (by first | omega | decide | assumption | rfl)) (cwV 2 hT (gV_in mw_1380 mw_1377 mw_1379 mw_p5_0 mw_12) rfl rfl rfl (by decide +kernel) ⟨Nat.le_of_ble_eq_true rfl, Nat.le_of_ble_eq_true rfl⟩) (kRecvX (q0 := 2) (ci := 11) hK hP hD hN hXS hS hA rfl rfl [2, 1] rfl (by decide +kernel)) rfl rfl hl.1 rfl (lv_room (Nat.le_of_ble_eq_true rfl)) dX11_doneIn_90 ⟨Nat.le_of_ble_eq_true rfl, Nat.le_of_ble_eq_true rfl⟩) hP hD hS hA [2, 1] [0, 3] rfl rfl (by decide +kernel) (by decide +kernel) ?_
            clear hP hD hS
            intro r_45 u_47 H locs w_46 hP hD hS
            replace hP : va_P D vwCl [(k6, .inl (cI, 4, .inl c6)), (k7, .inl (cI, 144, .inl c7)), (k, .inr (11, [.ref k0, .ref k1, .ref k2, .int c3, .ref k4, .ref k5, .ref k6, .ref k7, .ref k8, .int c9, .ref ka, .ref kb, .int cc, .int cd, .int ce, .int cf, .int cg, .int ch, .int ci, .int cj, .int ck, .ref kl, .int cm, .int cn, .ref ko])), (k0, .inl (cI, 1201, .inl c0))] H := hP
            replace hD : va_D A [(k6, .inl (cI, 4, .inl c6)), (k7, .inl (cI, 144, .inl c7)), (k, .inr (11, [.ref k0, .ref k1, .ref k2, .int c3, .ref k4, .ref k5, .ref k6, .ref k7, .ref k8, .int c9, .ref ka, .ref kb, .int cc, .int cd, .int ce, .int cf, .int cg, .int ch, .int ci, .int cj, .int ck, .ref kl, .int cm, .int cn, .ref ko])), (k0, .inl (cI, 1201, .inl c0))] := hD
            obtain ⟨h_48, h_49⟩ := w_46
            have h_48 : 10 ≤ r_45.toInt := h_48
            have h_49 : r_45.toInt ≤ 110 := h_49
            have lo_r_45 := k_lo r_45
            have hi_r_45 := k_hi r_45
            refine lv_iload hx hb dX11_doneIn_93 (lv_at hl 3 rfl) ?_
            refine lv_iadd hx hb dX11_doneIn_95 ?_
            refine lv_topi (fun v_50 ev_50 => ?_)
            have tv_50 : v_50.toInt = r_45.toInt + r_11.toInt := by rw [ev_50]; exact k_addv rfl rfl (by omega) (by omega)
            refine lv_iconst (v := 1) hx hb dX11_doneIn_96 (by decide +kernel) ?_
            refine lv_isub hx hb dX11_doneIn_97 ?_
            refine lv_topi (fun v_51 ev_51 => ?_)
            have tv_51 : v_51.toInt = v_50.toInt - 1 := by rw [ev_51]; exact k_subv rfl zl_1 (by omega) (by omega)
            refine lv_iload hx hb dX11_doneIn_98 (lv_at hl 3 rfl) ?_
            refine lv_idiv hx hb dX11_doneIn_100 (k_ne0 (by omega)) ?_
            refine lv_topi (fun v_52 ev_52 => ?_)
            have lo_v_52 := k_lo v_52
            have hi_v_52 := k_hi v_52
            have q_53 := k_ceil (e := r_45) ev_52 (by omega) (by omega) (by omega)
            refine lv_iadd hx hb dX11_doneIn_101 ?_
            refine lv_topi (fun v_54 ev_54 => ?_)
            have tv_54 : v_54.toInt = v_35.toInt + v_52.toInt := by rw [ev_54]; exact k_addv rfl rfl (by omega) (by omega)
            refine lv_istore (lv' := [(5, .int v_54), (9, .int r_40), (8, .int l32_8), (7, .int r_11), (6, .int r_6), (0, .ref k), (1, .int a0), (2, .int a1), (3, .int a2), (4, .int a3)]) hx hb dX11_doneIn_102 hl (by decide +kernel) rfl ?_
            clear hl
            intro ls hl
            refine lv_iload hx hb dX11_doneIn_104 (lv_at hl 2 rfl) ?_
            refine lv_iload hx hb dX11_doneIn_106 (lv_at hl 4 rfl) ?_
            refine lv_iadd hx hb dX11_doneIn_108 ?_
            refine lv_topi (fun v_55 ev_55 => ?_)
            have tv_55 : v_55.toInt = l32_8.toInt + r_6.toInt := by rw [ev_55]; exact k_addv rfl rfl (by omega) (by omega)
            refine lv_istore (lv' := [(8, .int v_55), (5, .int v_54), (9, .int r_40), (7, .int r_11), (6, .int r_6), (0, .ref k), (1, .int a0), (2, .int a1), (3, .int a2), (4, .int a3)]) hx hb dX11_doneIn_109 hl (by decide +kernel) rfl ?_
            clear hl
            intro ls hl
            refine lv_goto (tgt := 32) hx hb dX11_doneIn_111 (by decide +kernel) ?_
            exact ih32 v_54 v_55 (by first | omega | decide | assumption | rfl) (by first | omega | decide | assumption | rfl) (by first | omega | decide | assumption | rfl) (by first | omega | decide | assumption | rfl) (by first | omega | decide | assumption | rfl) (by first | omega | decide | assumption | rfl) (by omega) ls _ _ (lv_sub hl [0, 3, 4, 1, 5, 6, 7, 8, 9] rfl) (hP.sub [0, 1, 2, 3] rfl) (hD.sub [0, 1, 2, 3] (by decide +kernel) rfl) hS
          · refine lv_iconst (v := 0) hx hb dX11_doneIn_54 (by decide +kernel) ?_
            refine lv_goto (tgt := 59) hx hb dX11_doneIn_55 (by decide +kernel) ?_
            refine lv_iadd hx hb dX11_doneIn_59 ?_
            refine lv_topi (fun v_56 ev_56 => ?_)
            have tv_56 : v_56.toInt = l32_5.toInt + 0 := by rw [ev_56]; exact k_addv rfl zl_0 (by omega) (by omega)
            refine lv_istore (lv' := [(5, .int v_56), (8, .int l32_8), (7, .int r_11), (6, .int r_6), (0, .ref k), (1, .int a0), (2, .int a1), (3, .int a2), (4, .int a3)]) hx hb dX11_doneIn_60 hl (by decide +kernel) rfl ?_
            clear hl
            intro ls hl
            refine lv_aload_n hx hb dX11_doneIn_62 rfl (lv_at hl 4 rfl) ?_
            refine lv_iload_n hx hb dX11_doneIn_63 rfl (lv_at hl 7 rfl) ?_
            refine lv_bipush (v := 12) hx hb dX11_doneIn_64 (by decide +kernel) ?_
            refine lv_iload hx hb dX11_doneIn_66 (lv_at hl 8 rfl) ?_
            refine lv_imul hx hb dX11_doneIn_68 ?_
            refine lv_topi (fun v_57 ev_57 => ?_)
            have tv_57 : v_57.toInt = 12 * a3.toInt := by rw [ev_57]; exact k_mulv zl_12 rfl (by omega) (by omega)
            refine lv_iload hx hb dX11_doneIn_69 (lv_at hl 0 rfl) ?_
            refine lv_bipush (v := 30) hx hb dX11_doneIn_71 (by decide +kernel) ?_
            refine lv_idiv hx hb dX11_doneIn_73 (by decide +kernel) ?_
            refine lv_topi (fun v_58 ev_58 => ?_)
            have tv_58 : v_58.toInt = v_56.toInt / 30 := k_divv (w := 0) ev_58 zl_30 (by omega) (by decide +kernel)
            have lo_v_58 := k_lo v_58
            have hi_v_58 := k_hi v_58
            refine lv_bipush (v := 12) hx hb dX11_doneIn_74 (by decide +kernel) ?_
            refine lv_irem hx hb dX11_doneIn_76 (by decide +kernel) ?_
            refine lv_topi (fun v_59 ev_59 => ?_)
            have tv_59 : v_59.toInt = v_58.toInt % 12 := k_remv (w := 0) ev_59 zl_12 (by omega) (by decide +kernel)
            have lo_v_59 := k_lo v_59
            have hi_v_59 := k_hi v_59
            refine lv_iadd hx hb dX11_doneIn_77 ?_
            refine lv_topi (fun v_60 ev_60 => ?_)
            have tv_60 : v_60.toInt = v_57.toInt + v_59.toInt := by rw [ev_60]; exact k_addv rfl rfl (by omega) (by omega)
            refine kJi (wr := [(k6, .inl (cI, 4, .inl c6)), (k0, .inl (cI, 1201, .inl c0))]) (va_runV (As := [.int a2, .int v_60]) (rest := []) ⟨hx, hb, hml, hown, hT⟩ (c_X11_atG l D cI aK aV k k0 k1 k2 k4 k5 k6 k7 k8 ka kb kl ko H.size c3 c9 cc cd ce cf cg ch ci cj ck cm cn c7 a2 v_60 (by first | omega | decide | assumption | rfl) (by first | omega | decide | assumption | rfl) (by first | omega | decide | assumption | rfl) (by first | omega | decide | assumption | rfl)) (cwV 2 hT (gV_in mw_1396 mw_1393 mw_1395 mw_p5_2 mw_12) rfl rfl rfl (by decide +kernel) ⟨Nat.le_of_ble_eq_true rfl, Nat.le_of_ble_eq_true rfl⟩) (kRecvX (q0 := 2) (ci := 11) hK hP hD hN hXS hS hA rfl rfl [2, 1] rfl (by decide +kernel)) rfl rfl hl.1 rfl (lv_room (Nat.le_of_ble_eq_true rfl)) dX11_doneIn_78 ⟨Nat.le_of_ble_eq_true rfl, Nat.le_of_ble_eq_true rfl⟩) hP hD hS hA [2, 1] [0, 3] rfl rfl (by decide +kernel) (by decide +kernel) ?_
            clear hP hD hS
            intro r_61 u_63 H locs w_62 hP hD hS
            replace hP : va_P D vwCl [(k6, .inl (cI, 4, .inl c6)), (k0, .inl (cI, 1201, .inl c0)), (k, .inr (11, [.ref k0, .ref k1, .ref k2, .int c3, .ref k4, .ref k5, .ref k6, .ref k7, .ref k8, .int c9, .ref ka, .ref kb, .int cc, .int cd, .int ce, .int cf, .int cg, .int ch, .int ci, .int cj, .int ck, .ref kl, .int cm, .int cn, .ref ko])), (k7, .inl (cI, 144, .inl c7))] H := hP
            replace hD : va_D A [(k6, .inl (cI, 4, .inl c6)), (k0, .inl (cI, 1201, .inl c0)), (k, .inr (11, [.ref k0, .ref k1, .ref k2, .int c3, .ref k4, .ref k5, .ref k6, .ref k7, .ref k8, .int c9, .ref ka, .ref kb, .int cc, .int cd, .int ce, .int cf, .int cg, .int ch, .int ci, .int cj, .int ck, .ref kl, .int cm, .int cn, .ref ko])), (k7, .inl (cI, 144, .inl c7))] := hD
            have h_64 := w_62
            have h_64 : r_61 = c7 (36 * a2.toInt.toNat + v_60.toInt.toNat) := h_64
            have h_64 : r_61 = c7 (36 * a2.toInt.toNat + v_60.toInt.toNat) := h_64
            have b_65 : 0 ≤ r_61.toInt ∧ r_61.toInt ≤ 9 := by rw [h_64]; exact pre10 v_60.toInt.toNat (by omega)
            have lo_r_61 := k_lo r_61
            have hi_r_61 := k_hi r_61
            refine lv_istore (lv' := [(9, .int r_61), (5, .int v_56), (8, .int l32_8), (7, .int r_11), (6, .int r_6), (0, .ref k), (1, .int a0), (2, .int a1), (3, .int a2), (4, .int a3)]) hx hb dX11_doneIn_81 hl (by decide +kernel) rfl ?_
            clear hl
            intro ls hl
            refine lv_iload hx hb dX11_doneIn_83 (lv_at hl 1 rfl) ?_
            refine lv_aload_n hx hb dX11_doneIn_85 rfl (lv_at hl 5 rfl) ?_
            refine lv_iload hx hb dX11_doneIn_86 (lv_at hl 2 rfl) ?_
            refine lv_iload hx hb dX11_doneIn_88 (lv_at hl 0 rfl) ?_
            refine kJi (wr := [(k6, .inl (cI, 4, .inl c6)), (k7, .inl (cI, 144, .inl c7))]) (va_runV (As := [.int l32_8, .int r_61]) (rest := [.int v_56]) ⟨hx, hb, hml, hown, hT⟩ (c_X11_effortH l D cI aK aV k k0 k1 k2 k4 k5 k6 k7 k8 ka kb kl ko H.size c3 c9 cc cd ce cf cg ch ci cj ck cm cn c0 l32_8 r_61 pre0 (by first | omega | decide | assumption | rfl) (by first | omega | decide | assumption | rfl) (by first | omega | decide | assumption | rfl) (by first | omega | decide | assumption | rfl)) (cwV 2 hT (gV_in mw_1380 mw_1377 mw_1379 mw_p5_0 mw_12) rfl rfl rfl (by decide +kernel) ⟨Nat.le_of_ble_eq_true rfl, Nat.le_of_ble_eq_true rfl⟩) (kRecvX (q0 := 2) (ci := 11) hK hP hD hN hXS hS hA rfl rfl [2, 1] rfl (by decide +kernel)) rfl rfl hl.1 rfl (lv_room (Nat.le_of_ble_eq_true rfl)) dX11_doneIn_90 ⟨Nat.le_of_ble_eq_true rfl, Nat.le_of_ble_eq_true rfl⟩) hP hD hS hA [2, 1] [0, 3] rfl rfl (by decide +kernel) (by decide +kernel) ?_
            clear hP hD hS
            intro r_66 u_68 H locs w_67 hP hD hS
            replace hP : va_P D vwCl [(k6, .inl (cI, 4, .inl c6)), (k7, .inl (cI, 144, .inl c7)), (k, .inr (11, [.ref k0, .ref k1, .ref k2, .int c3, .ref k4, .ref k5, .ref k6, .ref k7, .ref k8, .int c9, .ref ka, .ref kb, .int cc, .int cd, .int ce, .int cf, .int cg, .int ch, .int ci, .int cj, .int ck, .ref kl, .int cm, .int cn, .ref ko])), (k0, .inl (cI, 1201, .inl c0))] H := hP
            replace hD : va_D A [(k6, .inl (cI, 4, .inl c6)), (k7, .inl (cI, 144, .inl c7)), (k, .inr (11, [.ref k0, .ref k1, .ref k2, .int c3, .ref k4, .ref k5, .ref k6, .ref k7, .ref k8, .int c9, .ref ka, .ref kb, .int cc, .int cd, .int ce, .int cf, .int cg, .int ch, .int ci, .int cj, .int ck, .ref kl, .int cm, .int cn, .ref ko])), (k0, .inl (cI, 1201, .inl c0))] := hD
            obtain ⟨h_69, h_70⟩ := w_67
            have h_69 : 10 ≤ r_66.toInt := h_69
            have h_70 : r_66.toInt ≤ 110 := h_70
            have lo_r_66 := k_lo r_66
            have hi_r_66 := k_hi r_66
            refine lv_iload hx hb dX11_doneIn_93 (lv_at hl 3 rfl) ?_
            refine lv_iadd hx hb dX11_doneIn_95 ?_
            refine lv_topi (fun v_71 ev_71 => ?_)
            have tv_71 : v_71.toInt = r_66.toInt + r_11.toInt := by rw [ev_71]; exact k_addv rfl rfl (by omega) (by omega)
            refine lv_iconst (v := 1) hx hb dX11_doneIn_96 (by decide +kernel) ?_
            refine lv_isub hx hb dX11_doneIn_97 ?_
            refine lv_topi (fun v_72 ev_72 => ?_)
            have tv_72 : v_72.toInt = v_71.toInt - 1 := by rw [ev_72]; exact k_subv rfl zl_1 (by omega) (by omega)
            refine lv_iload hx hb dX11_doneIn_98 (lv_at hl 3 rfl) ?_
            refine lv_idiv hx hb dX11_doneIn_100 (k_ne0 (by omega)) ?_
            refine lv_topi (fun v_73 ev_73 => ?_)
            have lo_v_73 := k_lo v_73
            have hi_v_73 := k_hi v_73
            have q_74 := k_ceil (e := r_66) ev_73 (by omega) (by omega) (by omega)
            refine lv_iadd hx hb dX11_doneIn_101 ?_
            refine lv_topi (fun v_75 ev_75 => ?_)
            have tv_75 : v_75.toInt = v_56.toInt + v_73.toInt := by rw [ev_75]; exact k_addv rfl rfl (by omega) (by omega)
            refine lv_istore (lv' := [(5, .int v_75), (9, .int r_61), (8, .int l32_8), (7, .int r_11), (6, .int r_6), (0, .ref k), (1, .int a0), (2, .int a1), (3, .int a2), (4, .int a3)]) hx hb dX11_doneIn_102 hl (by decide +kernel) rfl ?_
            clear hl
            intro ls hl
            refine lv_iload hx hb dX11_doneIn_104 (lv_at hl 2 rfl) ?_
            refine lv_iload hx hb dX11_doneIn_106 (lv_at hl 4 rfl) ?_
            refine lv_iadd hx hb dX11_doneIn_108 ?_
            refine lv_topi (fun v_76 ev_76 => ?_)
            have tv_76 : v_76.toInt = l32_8.toInt + r_6.toInt := by rw [ev_76]; exact k_addv rfl rfl (by omega) (by omega)
            refine lv_istore (lv' := [(8, .int v_76), (5, .int v_75), (9, .int r_61), (7, .int r_11), (6, .int r_6), (0, .ref k), (1, .int a0), (2, .int a1), (3, .int a2), (4, .int a3)]) hx hb dX11_doneIn_109 hl (by decide +kernel) rfl ?_
            clear hl
            intro ls hl
            refine lv_goto (tgt := 32) hx hb dX11_doneIn_111 (by decide +kernel) ?_
            exact ih32 v_75 v_76 (by first | omega | decide | assumption | rfl) (by first | omega | decide | assumption | rfl) (by first | omega | decide | assumption | rfl) (by first | omega | decide | assumption | rfl) (by first | omega | decide | assumption | rfl) (by first | omega | decide | assumption | rfl) (by omega) ls _ _ (lv_sub hl [0, 3, 4, 1, 5, 6, 7, 8, 9] rfl) (hP.sub [0, 1, 2, 3] rfl) (hD.sub [0, 1, 2, 3] (by decide +kernel) rfl) hS
  exact hloop_32 _ v_4 r_17 (by first | omega | decide | assumption | rfl) (by first | omega | decide | assumption | rfl) (by first | omega | decide | assumption | rfl) (by first | omega | decide | assumption | rfl) (by first | omega | decide | assumption | rfl) (by first | omega | decide | assumption | rfl) (Nat.lt_succ_self _) ls _ _ (lv_sub hl [0, 1, 2, 3, 4, 5, 6, 7, 8] rfl) hP hD hS
theorem bn_cX11_worst_0 : BN cX11_worst 0 0x2b40c165b401500203a140c37030580c01540242c0900a940c16048580c37030580c01540202c0900a940c16040581237740056e070b078c205028583a2b040ddd0015b81c2c1e02858382b22005466d068445e1e0d0056a2b038580e37020186e04 := by
  unfold BN; decide +kernel
theorem dX11_worst_0 : decode cX11_worst 0 = .ok (.iconst 0, 1) := dR0 (k := 0) (i := 0) bn_cX11_worst_0 dop_3 (by decide +kernel)
theorem dX11_worst_1 : decode cX11_worst 1 = .ok (.istore 5, 2) := dR1 (f := Instr.istore) (k := 0) (i := 1) bn_cX11_worst_0 dop_54 5 (by decide +kernel)
theorem dX11_worst_3 : decode cX11_worst 3 = .ok (.iconst 0, 1) := dR0 (k := 0) (i := 3) bn_cX11_worst_0 dop_3 (by decide +kernel)
theorem dX11_worst_4 : decode cX11_worst 4 = .ok (.istore 6, 2) := dR1 (f := Instr.istore) (k := 0) (i := 4) bn_cX11_worst_0 dop_54 6 (by decide +kernel)
theorem dX11_worst_6 : decode cX11_worst 6 = .ok (.iload 6, 2) := dR1 (f := Instr.iload) (k := 0) (i := 6) bn_cX11_worst_0 dop_21 6 (by decide +kernel)
theorem dX11_worst_8 : decode cX11_worst 8 = .ok (.aload_n 0, 1) := dR0 (k := 0) (i := 8) bn_cX11_worst_0 dop_42 (by decide +kernel)
theorem dX11_worst_9 : decode cX11_worst 9 = .ok (.getfield 25, 3) := dR2 (f := Instr.getfield) (k := 0) (i := 9) bn_cX11_worst_0 dop_180 25 (by decide +kernel)
theorem dX11_worst_12 : decode cX11_worst 12 = .ok (.iload_n 3, 1) := dR0 (k := 0) (i := 12) bn_cX11_worst_0 dop_29 (by decide +kernel)
theorem dX11_worst_13 : decode cX11_worst 13 = .ok (.iaload, 1) := dR0 (k := 0) (i := 13) bn_cX11_worst_0 dop_46 (by decide +kernel)
theorem dX11_worst_14 : decode cX11_worst 14 = .ok (.bipush 12, 2) := dR1s (f := Instr.bipush) (k := 0) (i := 14) bn_cX11_worst_0 dop_16 12 12 (by decide +kernel)
theorem dX11_worst_16 : decode cX11_worst 16 = .ok (.idiv, 1) := dR0 (k := 0) (i := 16) bn_cX11_worst_0 dop_108 (by decide +kernel)
theorem dX11_worst_17 : decode cX11_worst 17 = .ok (.if_icmp .ge 67, 3) := dR2s (f := Instr.if_icmp .ge) (k := 0) (i := 17) bn_cX11_worst_0 dop_162 67 67 (by decide +kernel)
theorem dX11_worst_20 : decode cX11_worst 20 = .ok (.aload_n 0, 1) := dR0 (k := 0) (i := 20) bn_cX11_worst_0 dop_42 (by decide +kernel)
theorem dX11_worst_21 : decode cX11_worst 21 = .ok (.iload_n 1, 1) := dR0 (k := 0) (i := 21) bn_cX11_worst_0 dop_27 (by decide +kernel)
theorem dX11_worst_22 : decode cX11_worst 22 = .ok (.iload 4, 2) := dR1 (f := Instr.iload) (k := 0) (i := 22) bn_cX11_worst_0 dop_21 4 (by decide +kernel)
theorem dX11_worst_24 : decode cX11_worst 24 = .ok (.iload_n 3, 1) := dR0 (k := 0) (i := 24) bn_cX11_worst_0 dop_29 (by decide +kernel)
theorem dX11_worst_25 : decode cX11_worst 25 = .ok (.iload 6, 2) := dR1 (f := Instr.iload) (k := 0) (i := 25) bn_cX11_worst_0 dop_21 6 (by decide +kernel)
theorem dX11_worst_27 : decode cX11_worst 27 = .ok (.invokevirtual 231, 3) := dR2 (f := Instr.invokevirtual) (k := 0) (i := 27) bn_cX11_worst_0 dop_182 231 (by decide +kernel)
theorem dX11_worst_30 : decode cX11_worst 30 = .ok (.istore 7, 2) := dR1 (f := Instr.istore) (k := 0) (i := 30) bn_cX11_worst_0 dop_54 7 (by decide +kernel)
theorem dX11_worst_32 : decode cX11_worst 32 = .ok (.aload_n 0, 1) := dR0 (k := 0) (i := 32) bn_cX11_worst_0 dop_42 (by decide +kernel)
theorem dX11_worst_33 : decode cX11_worst 33 = .ok (.iload_n 2, 1) := dR0 (k := 0) (i := 33) bn_cX11_worst_0 dop_28 (by decide +kernel)
theorem dX11_worst_34 : decode cX11_worst 34 = .ok (.iload 4, 2) := dR1 (f := Instr.iload) (k := 0) (i := 34) bn_cX11_worst_0 dop_21 4 (by decide +kernel)
theorem dX11_worst_36 : decode cX11_worst 36 = .ok (.iconst 1, 1) := dR0 (k := 0) (i := 36) bn_cX11_worst_0 dop_4 (by decide +kernel)
theorem dX11_worst_37 : decode cX11_worst 37 = .ok (.iadd, 1) := dR0 (k := 0) (i := 37) bn_cX11_worst_0 dop_96 (by decide +kernel)
theorem dX11_worst_38 : decode cX11_worst 38 = .ok (.iload_n 3, 1) := dR0 (k := 0) (i := 38) bn_cX11_worst_0 dop_29 (by decide +kernel)
theorem dX11_worst_39 : decode cX11_worst 39 = .ok (.iload 6, 2) := dR1 (f := Instr.iload) (k := 0) (i := 39) bn_cX11_worst_0 dop_21 6 (by decide +kernel)
theorem dX11_worst_41 : decode cX11_worst 41 = .ok (.invokevirtual 231, 3) := dR2 (f := Instr.invokevirtual) (k := 0) (i := 41) bn_cX11_worst_0 dop_182 231 (by decide +kernel)
theorem dX11_worst_44 : decode cX11_worst 44 = .ok (.istore 8, 2) := dR1 (f := Instr.istore) (k := 0) (i := 44) bn_cX11_worst_0 dop_54 8 (by decide +kernel)
theorem dX11_worst_46 : decode cX11_worst 46 = .ok (.iload 7, 2) := dR1 (f := Instr.iload) (k := 0) (i := 46) bn_cX11_worst_0 dop_21 7 (by decide +kernel)
theorem dX11_worst_48 : decode cX11_worst 48 = .ok (.iload 5, 2) := dR1 (f := Instr.iload) (k := 0) (i := 48) bn_cX11_worst_0 dop_21 5 (by decide +kernel)
theorem dX11_worst_50 : decode cX11_worst 50 = .ok (.if_icmp .le 8, 3) := dR2s (f := Instr.if_icmp .le) (k := 0) (i := 50) bn_cX11_worst_0 dop_164 8 8 (by decide +kernel)
theorem dX11_worst_53 : decode cX11_worst 53 = .ok (.iload 7, 2) := dR1 (f := Instr.iload) (k := 0) (i := 53) bn_cX11_worst_0 dop_21 7 (by decide +kernel)
theorem dX11_worst_55 : decode cX11_worst 55 = .ok (.goto 5, 3) := dR2s (f := Instr.goto) (k := 0) (i := 55) bn_cX11_worst_0 dop_167 5 5 (by decide +kernel)
theorem dX11_worst_58 : decode cX11_worst 58 = .ok (.iload 5, 2) := dR1 (f := Instr.iload) (k := 0) (i := 58) bn_cX11_worst_0 dop_21 5 (by decide +kernel)
theorem dX11_worst_60 : decode cX11_worst 60 = .ok (.istore 5, 2) := dR1 (f := Instr.istore) (k := 0) (i := 60) bn_cX11_worst_0 dop_54 5 (by decide +kernel)
theorem dX11_worst_62 : decode cX11_worst 62 = .ok (.iload 8, 2) := dR1 (f := Instr.iload) (k := 0) (i := 62) bn_cX11_worst_0 dop_21 8 (by decide +kernel)
theorem dX11_worst_64 : decode cX11_worst 64 = .ok (.iload 5, 2) := dR1 (f := Instr.iload) (k := 0) (i := 64) bn_cX11_worst_0 dop_21 5 (by decide +kernel)
theorem dX11_worst_66 : decode cX11_worst 66 = .ok (.if_icmp .le 8, 3) := dR2s (f := Instr.if_icmp .le) (k := 0) (i := 66) bn_cX11_worst_0 dop_164 8 8 (by decide +kernel)
theorem dX11_worst_69 : decode cX11_worst 69 = .ok (.iload 8, 2) := dR1 (f := Instr.iload) (k := 0) (i := 69) bn_cX11_worst_0 dop_21 8 (by decide +kernel)
theorem dX11_worst_71 : decode cX11_worst 71 = .ok (.goto 5, 3) := dR2s (f := Instr.goto) (k := 0) (i := 71) bn_cX11_worst_0 dop_167 5 5 (by decide +kernel)
theorem dX11_worst_74 : decode cX11_worst 74 = .ok (.iload 5, 2) := dR1 (f := Instr.iload) (k := 0) (i := 74) bn_cX11_worst_0 dop_21 5 (by decide +kernel)
theorem dX11_worst_76 : decode cX11_worst 76 = .ok (.istore 5, 2) := dR1 (f := Instr.istore) (k := 0) (i := 76) bn_cX11_worst_0 dop_54 5 (by decide +kernel)
theorem dX11_worst_78 : decode cX11_worst 78 = .ok (.iinc 6 1, 3) := dRii (f := Instr.iinc) (k := 0) (i := 78) bn_cX11_worst_0 dop_132 6 1 1 (by decide +kernel)
theorem dX11_worst_81 : decode cX11_worst 81 = .ok (.goto (-75), 3) := dR2s (f := Instr.goto) (k := 0) (i := 81) bn_cX11_worst_0 dop_167 65461 (-75) (by decide +kernel)
theorem dX11_worst_84 : decode cX11_worst 84 = .ok (.iload 5, 2) := dR1 (f := Instr.iload) (k := 0) (i := 84) bn_cX11_worst_0 dop_21 5 (by decide +kernel)
theorem dX11_worst_86 : decode cX11_worst 86 = .ok (.ireturn, 1) := dR0 (k := 0) (i := 86) bn_cX11_worst_0 dop_172 (by decide +kernel)
set_option maxHeartbeats 4000000 in
set_option maxRecDepth 100000 in
theorem c_X11_worstG (l : Launch) (D : va_G) (cI : ClassId) (aK aV : Nat → Nat) (k k0 k1 k2 k4 k5 k6 k7 k8 ka kb kl ko : Nat) (sz : Nat) (c3 : Int32) (c9 : Int32) (cc : Int32) (cd : Int32) (ce : Int32) (cf : Int32) (cg : Int32) (ch : Int32) (ci : Int32) (cj : Int32) (ck : Int32) (cm : Int32) (cn : Int32) (c0 : Nat → Int32) (c6 : Nat → Int32) (c7 : Nat → Int32) (a0 : Int32) (a1 : Int32) (a2 : Int32) (a3 : Int32) (pre0 : SB c0) (pre1 : ∀ k : Nat, k < 4 → 0 ≤ (c6 k).toInt ∧ (c6 k).toInt ≤ 36) (pre2 : 0 ≤ a0.toInt) (pre3 : a0.toInt ≤ 3) (pre4 : 0 ≤ a1.toInt) (pre5 : a1.toInt ≤ 3) (pre6 : (pW c0 a0 1).toInt = 1) (pre7 : (pW c0 a1 1).toInt = (-1)) (pre8 : 1 ≤ (pW c0 a0 2).toInt) (pre9 : 1 ≤ (pW c0 a1 2).toInt) (pre10 : 0 ≤ a2.toInt) (pre11 : a2.toInt ≤ 3) (pre12 : 12 ≤ (c6 a2.toNatClampNeg).toInt) (pre13 : (c6 a2.toNatClampNeg).toInt ≤ 36) (pre14 : ∀ k : Nat, (k : Int) < (c6 a2.toNatClampNeg).toInt → 0 ≤ (c7 (36 * a2.toInt.toNat + k)).toInt ∧ (c7 (36 * a2.toInt.toNat + k)).toInt ≤ 9) (pre15 : (pW c0 a0 0).toInt ≤ a3.toInt) (pre16 : a3.toInt < (pW c0 a1 0).toInt) : Met l yX11_worst (gW yX11_worst cX11_worst 9 (some .int)) ({ frames := 2, cells := 0, slots := 0, locals := 52 } : Room) (kPreX D cI aK aV [.ref k, .int a0, .int a1, .int a2, .int a3] [(k, .inr (11, [.ref k0, .ref k1, .ref k2, .int c3, .ref k4, .ref k5, .ref k6, .ref k7, .ref k8, .int c9, .ref ka, .ref kb, .int cc, .int cd, .int ce, .int cf, .int cg, .int ch, .int ci, .int cj, .int ck, .ref kl, .int cm, .int cn, .ref ko])), (k0, .inl (cI, 1201, .inl c0)), (k6, .inl (cI, 4, .inl c6)), (k7, .inl (cI, 144, .inl c7))] sz) (va_Qi (fun (r : Int32) (u : Unit) => True) (fun u t => kWd D cI (va_A [(k, .inr (11, [.ref k0, .ref k1, .ref k2, .int c3, .ref k4, .ref k5, .ref k6, .ref k7, .ref k8, .int c9, .ref ka, .ref kb, .int cc, .int cd, .int ce, .int cf, .int cg, .int ch, .int ci, .int cj, .int ck, .ref kl, .int cm, .int cn, .ref ko])), (k0, .inl (cI, 1201, .inl c0)), (k6, .inl (cI, 4, .inl c6)), (k7, .inl (cI, 144, .inl c7))] sz) [(k, .inr (11, [.ref k0, .ref k1, .ref k2, .int c3, .ref k4, .ref k5, .ref k6, .ref k7, .ref k8, .int c9, .ref ka, .ref kb, .int cc, .int cd, .int ce, .int cf, .int cg, .int ch, .int ci, .int cj, .int ck, .ref kl, .int cm, .int cn, .ref ko])), (k0, .inl (cI, 1201, .inl c0)), (k6, .inl (cI, 4, .inl c6)), (k7, .inl (cI, 144, .inl c7))] t) (va_A [(k, .inr (11, [.ref k0, .ref k1, .ref k2, .int c3, .ref k4, .ref k5, .ref k6, .ref k7, .ref k8, .int c9, .ref ka, .ref kb, .int cc, .int cd, .int ce, .int cf, .int cg, .int ch, .int ci, .int cj, .int ck, .ref kl, .int cm, .int cn, .ref ko])), (k0, .inl (cI, 1201, .inl c0)), (k6, .inl (cI, 4, .inl c6)), (k7, .inl (cI, 144, .inl c7))] sz)) 0 0 (va_A [(k, .inr (11, [.ref k0, .ref k1, .ref k2, .int c3, .ref k4, .ref k5, .ref k6, .ref k7, .ref k8, .int c9, .ref ka, .ref kb, .int cc, .int cd, .int ce, .int cf, .int cg, .int ch, .int ci, .int cj, .int ck, .ref kl, .int cm, .int cn, .ref ko])), (k0, .inl (cI, 1201, .inl c0)), (k6, .inl (cI, 4, .inl c6)), (k7, .inl (cI, 144, .inl c7))] sz) := by
  refine kMetIX (own := RX11) (by decide +kernel) rfl (Nat.le_of_ble_eq_true rfl) ?_
  intro p e s m args below meth c hx hb hT hown hname hml A Q hK hP hD hS hA hN hXS hRet ls hl
  have hl : lv_has ls 9 [(0, .ref k), (1, .int a0), (2, .int a1), (3, .int a2), (4, .int a3)] := hl
  have lo_a0 := k_lo a0
  have hi_a0 := k_hi a0
  have lo_a1 := k_lo a1
  have hi_a1 := k_hi a1
  have lo_a2 := k_lo a2
  have hi_a2 := k_hi a2
  have lo_a3 := k_lo a3
  have hi_a3 := k_hi a3
  have lo_ci := k_lo ci
  have hi_ci := k_hi ci
  have hbA := SB.p0 pre0 (p := a0) (by omega) (by omega)
  have hbB := SB.p0 pre0 (p := a1) (by omega) (by omega)
  have pre0 : SB c0 := pre0
  have nb_1 : 0 ≤ (c0 0).toInt ∧ (c0 0).toInt ≤ 2000 := SB.n0 pre0
  have nb_2 : 0 ≤ (c0 1).toInt ∧ (c0 1).toInt ≤ 60 := SB.n1 pre0
  have nb_3 : 0 ≤ (c0 2).toInt ∧ (c0 2).toInt ≤ 4 := SB.n2 pre0
  refine lv_iconst (v := 0) hx hb dX11_worst_0 (by decide +kernel) ?_
  refine lv_istore (lv' := [(5, .int 0), (0, .ref k), (1, .int a0), (2, .int a1), (3, .int a2), (4, .int a3)]) hx hb dX11_worst_1 hl (by decide +kernel) rfl ?_
  clear hl
  intro ls hl
  refine lv_iconst (v := 0) hx hb dX11_worst_3 (by decide +kernel) ?_
  refine lv_istore (lv' := [(6, .int 0), (5, .int 0), (0, .ref k), (1, .int a0), (2, .int a1), (3, .int a2), (4, .int a3)]) hx hb dX11_worst_4 hl (by decide +kernel) rfl ?_
  clear hl
  intro ls hl
  have hloop_6 : ∀ (fu_ : Nat) (l6_5 : Int32) (l6_6 : Int32), 0 ≤ l6_5.toInt → 0 ≤ l6_6.toInt → l6_6.toInt ≤ 3 → (3 - l6_6.toInt).toNat < fu_ → ∀ (ls : Array Slot) (H : Heap) (locs : List Loc), lv_has ls 9 [(6, .int l6_6), (5, .int l6_5), (0, .ref k), (1, .int a0), (2, .int a1), (3, .int a2), (4, .int a3)] → va_P D vwCl [(k, .inr (11, [.ref k0, .ref k1, .ref k2, .int c3, .ref k4, .ref k5, .ref k6, .ref k7, .ref k8, .int c9, .ref ka, .ref kb, .int cc, .int cd, .int ce, .int cf, .int cg, .int ch, .int ci, .int cj, .int ck, .ref kl, .int cm, .int cn, .ref ko])), (k0, .inl (cI, 1201, .inl c0)), (k6, .inl (cI, 4, .inl c6)), (k7, .inl (cI, 144, .inl c7))] H → va_D A [(k, .inr (11, [.ref k0, .ref k1, .ref k2, .int c3, .ref k4, .ref k5, .ref k6, .ref k7, .ref k8, .int c9, .ref ka, .ref kb, .int cc, .int cd, .int ce, .int cf, .int cg, .int ch, .int ci, .int cj, .int ck, .ref kl, .int cm, .int cn, .ref ko])), (k0, .inl (cI, 1201, .inl c0)), (k6, .inl (cI, 4, .inl c6)), (k7, .inl (cI, 144, .inl c7))] → va_S A s.heap H locs → W p l e ({ frames := 2, cells := 0, slots := 0, locals := 52 } : Room) s m args below meth c H locs 0 0 Q (F0 m 6 ls []) := by
    intro fu_; induction fu_ with
    | zero => intro l6_5 l6_6 i6_0 i6_1 i6_2 hm; exact absurd hm (by omega)
    | succ fu_ ih6 =>
        intro l6_5 l6_6 i6_0 i6_1 i6_2 hm ls H locs hl hP hD hS
        have lo_l6_5 := k_lo l6_5
        have hi_l6_5 := k_hi l6_5
        have lo_l6_6 := k_lo l6_6
        have hi_l6_6 := k_hi l6_6
        refine lv_iload hx hb dX11_worst_6 (lv_at hl 0 rfl) ?_
        refine lv_aload_n hx hb dX11_worst_8 rfl (lv_at hl 2 rfl) ?_
        refine va_get (D := D) (ci := 11) (v := .ref k6) (C := RX11) (T := TX11) (N := 25) hx hb hT giX11 hown hK hP 0 rfl rfl 6 (by decide +kernel) (hT (Cond.fieldLink RX11 25 "DesertWireModel" "size" "[I") mw_1162) (fun _ h9 => h9) rfl dX11_worst_9 ?_
        refine lv_iload_n hx hb dX11_worst_12 rfl (lv_at hl 5 rfl) ?_
        refine k_iald (v := (c6 a2.toNatClampNeg)) hx hb hK hP 2 0 rfl rfl (k_in (by omega) (by omega)) rfl dX11_worst_13 ?_
        refine lv_topi (fun v_4 ev_4 => ?_)
        have lo_v_4 := k_lo v_4
        have hi_v_4 := k_hi v_4
        have tv_4 : v_4.toInt = (c6 a2.toNatClampNeg).toInt := by rw [ev_4]
        have b_5 : 0 ≤ v_4.toInt ∧ v_4.toInt ≤ 36 := by rw [tv_4]; exact pre1 a2.toNatClampNeg (by rw [k_clamp]; omega)
        refine lv_bipush (v := 12) hx hb dX11_worst_14 (by decide +kernel) ?_
        refine lv_idiv hx hb dX11_worst_16 (by decide +kernel) ?_
        refine lv_topi (fun v_6 ev_6 => ?_)
        have tv_6 : v_6.toInt = v_4.toInt / 12 := k_divv (w := 0) ev_6 zl_12 (by omega) (by decide +kernel)
        have lo_v_6 := k_lo v_6
        have hi_v_6 := k_hi v_6
        refine b_icmp_ge hx hb rfl rfl (tgt := 84) dX11_worst_17 (by decide +kernel) (fun c_7 => ?_) (fun c_7 => ?_)
        · refine lv_iload hx hb dX11_worst_84 (lv_at hl 1 rfl) ?_
          exact hRet () [0, 1, 2, 3] trivial hP hD (by decide +kernel) rfl hS rfl dX11_worst_86
        · refine lv_aload_n hx hb dX11_worst_20 rfl (lv_at hl 2 rfl) ?_
          refine lv_iload_n hx hb dX11_worst_21 rfl (lv_at hl 3 rfl) ?_
          refine lv_iload hx hb dX11_worst_22 (lv_at hl 6 rfl) ?_
          refine lv_iload_n hx hb dX11_worst_24 rfl (lv_at hl 5 rfl) ?_
          refine lv_iload hx hb dX11_worst_25 (lv_at hl 0 rfl) ?_
          refine kJi (wr := []) (va_runV (As := [.int a0, .int a3, .int a2, .int l6_6]) (rest := []) ⟨hx, hb, hml, hown, hT⟩ (c_X11_doneInGp l D cI aK aV k k0 k1 k2 k4 k5 k6 k7 k8 ka kb kl ko H.size c3 c9 cc cd ce cf cg ch ci cj ck cm cn c0 c6 c7 a0 a3 a2 l6_6 pre0 (by first | omega | decide | assumption | rfl) (by first | omega | decide | assumption | rfl) (by first | omega | decide | assumption | rfl) (by first | omega | decide | assumption | rfl) (by first | omega | decide | assumption | rfl) (by first | omega | decide | assumption | rfl) (by first | omega | decide | assumption | rfl) (by first | omega | decide | assumption | rfl) (by first | omega | decide | assumption | rfl) (by first | omega | decide | assumption | rfl) (by first | omega | decide | assumption | rfl) (by first | omega | decide | assumption | rfl)) (cwV 4 hT (gV_in mw_1523 mw_1520 mw_1522 mw_p5_14 mw_12) rfl rfl rfl (by decide +kernel) ⟨Nat.le_of_ble_eq_true rfl, Nat.le_of_ble_eq_true rfl⟩) (kRecvX (q0 := 0) (ci := 11) hK hP hD hN hXS hS hA rfl rfl [0, 1, 2, 3] rfl (by decide +kernel)) rfl rfl hl.1 rfl (lv_room (Nat.le_of_ble_eq_true rfl)) dX11_worst_27 ⟨Nat.le_of_ble_eq_true rfl, Nat.le_of_ble_eq_true rfl⟩) hP hD hS hA [0, 1, 2, 3] [] rfl rfl (by decide +kernel) (by decide +kernel) ?_
          clear hP hD hS
          intro r_8 u_10 H locs w_9 hP hD hS
          replace hP : va_P D vwCl [(k, .inr (11, [.ref k0, .ref k1, .ref k2, .int c3, .ref k4, .ref k5, .ref k6, .ref k7, .ref k8, .int c9, .ref ka, .ref kb, .int cc, .int cd, .int ce, .int cf, .int cg, .int ch, .int ci, .int cj, .int ck, .ref kl, .int cm, .int cn, .ref ko])), (k0, .inl (cI, 1201, .inl c0)), (k6, .inl (cI, 4, .inl c6)), (k7, .inl (cI, 144, .inl c7))] H := hP
          replace hD : va_D A [(k, .inr (11, [.ref k0, .ref k1, .ref k2, .int c3, .ref k4, .ref k5, .ref k6, .ref k7, .ref k8, .int c9, .ref ka, .ref kb, .int cc, .int cd, .int ce, .int cf, .int cg, .int ch, .int ci, .int cj, .int ck, .ref kl, .int cm, .int cn, .ref ko])), (k0, .inl (cI, 1201, .inl c0)), (k6, .inl (cI, 4, .inl c6)), (k7, .inl (cI, 144, .inl c7))] := hD
          have lo_r_8 := k_lo r_8
          have hi_r_8 := k_hi r_8
          refine lv_istore (lv' := [(7, .int r_8), (6, .int l6_6), (5, .int l6_5), (0, .ref k), (1, .int a0), (2, .int a1), (3, .int a2), (4, .int a3)]) hx hb dX11_worst_30 hl (by decide +kernel) rfl ?_
          clear hl
          intro ls hl
          refine lv_aload_n hx hb dX11_worst_32 rfl (lv_at hl 3 rfl) ?_
          refine lv_iload_n hx hb dX11_worst_33 rfl (lv_at hl 5 rfl) ?_
          refine lv_iload hx hb dX11_worst_34 (lv_at hl 7 rfl) ?_
          refine lv_iconst (v := 1) hx hb dX11_worst_36 (by decide +kernel) ?_
          refine lv_iadd hx hb dX11_worst_37 ?_
          refine lv_topi (fun v_11 ev_11 => ?_)
          have tv_11 : v_11.toInt = a3.toInt + 1 := by rw [ev_11]; exact k_addv rfl zl_1 (by omega) (by omega)
          refine lv_iload_n hx hb dX11_worst_38 rfl (lv_at hl 6 rfl) ?_
          refine lv_iload hx hb dX11_worst_39 (lv_at hl 1 rfl) ?_
          refine kJi (wr := []) (va_runV (As := [.int a1, .int v_11, .int a2, .int l6_6]) (rest := []) ⟨hx, hb, hml, hown, hT⟩ (c_X11_doneInGm l D cI aK aV k k0 k1 k2 k4 k5 k6 k7 k8 ka kb kl ko H.size c3 c9 cc cd ce cf cg ch ci cj ck cm cn c0 c6 c7 a1 v_11 a2 l6_6 pre0 (by first | omega | decide | assumption | rfl) (by first | omega | decide | assumption | rfl) (by first | omega | decide | assumption | rfl) (by first | omega | decide | assumption | rfl) (by first | omega | decide | assumption | rfl) (by first | omega | decide | assumption | rfl) (by first | omega | decide | assumption | rfl) (by first | omega | decide | assumption | rfl) (by first | omega | decide | assumption | rfl) (by first | omega | decide | assumption | rfl) (by first | omega | decide | assumption | rfl) (by first | omega | decide | assumption | rfl)) (cwV 4 hT (gV_in mw_1523 mw_1520 mw_1522 mw_p5_14 mw_12) rfl rfl rfl (by decide +kernel) ⟨Nat.le_of_ble_eq_true rfl, Nat.le_of_ble_eq_true rfl⟩) (kRecvX (q0 := 0) (ci := 11) hK hP hD hN hXS hS hA rfl rfl [0, 1, 2, 3] rfl (by decide +kernel)) rfl rfl hl.1 rfl (lv_room (Nat.le_of_ble_eq_true rfl)) dX11_worst_41 ⟨Nat.le_of_ble_eq_true rfl, Nat.le_of_ble_eq_true rfl⟩) hP hD hS hA [0, 1, 2, 3] [] rfl rfl (by decide +kernel) (by decide +kernel) ?_
          clear hP hD hS
          intro r_12 u_14 H locs w_13 hP hD hS
          replace hP : va_P D vwCl [(k, .inr (11, [.ref k0, .ref k1, .ref k2, .int c3, .ref k4, .ref k5, .ref k6, .ref k7, .ref k8, .int c9, .ref ka, .ref kb, .int cc, .int cd, .int ce, .int cf, .int cg, .int ch, .int ci, .int cj, .int ck, .ref kl, .int cm, .int cn, .ref ko])), (k0, .inl (cI, 1201, .inl c0)), (k6, .inl (cI, 4, .inl c6)), (k7, .inl (cI, 144, .inl c7))] H := hP
          replace hD : va_D A [(k, .inr (11, [.ref k0, .ref k1, .ref k2, .int c3, .ref k4, .ref k5, .ref k6, .ref k7, .ref k8, .int c9, .ref ka, .ref kb, .int cc, .int cd, .int ce, .int cf, .int cg, .int ch, .int ci, .int cj, .int ck, .ref kl, .int cm, .int cn, .ref ko])), (k0, .inl (cI, 1201, .inl c0)), (k6, .inl (cI, 4, .inl c6)), (k7, .inl (cI, 144, .inl c7))] := hD
          have lo_r_12 := k_lo r_12
          have hi_r_12 := k_hi r_12
          refine lv_istore (lv' := [(8, .int r_12), (7, .int r_8), (6, .int l6_6), (5, .int l6_5), (0, .ref k), (1, .int a0), (2, .int a1), (3, .int a2), (4, .int a3)]) hx hb dX11_worst_44 hl (by decide +kernel) rfl ?_
          clear hl
          intro ls hl
          refine lv_iload hx hb dX11_worst_46 (lv_at hl 1 rfl) ?_
          refine lv_iload hx hb dX11_worst_48 (lv_at hl 3 rfl) ?_
          refine b_icmp_le hx hb rfl rfl (tgt := 58) dX11_worst_50 (by decide +kernel) (fun c_15 => ?_) (fun c_15 => ?_)
          · refine lv_iload hx hb dX11_worst_58 (lv_at hl 3 rfl) ?_
            refine lv_istore (lv' := [(5, .int l6_5), (8, .int r_12), (7, .int r_8), (6, .int l6_6), (0, .ref k), (1, .int a0), (2, .int a1), (3, .int a2), (4, .int a3)]) hx hb dX11_worst_60 hl (by decide +kernel) rfl ?_
            clear hl
            intro ls hl
            refine lv_iload hx hb dX11_worst_62 (lv_at hl 1 rfl) ?_
            refine lv_iload hx hb dX11_worst_64 (lv_at hl 0 rfl) ?_
            refine b_icmp_le hx hb rfl rfl (tgt := 74) dX11_worst_66 (by decide +kernel) (fun c_16 => ?_) (fun c_16 => ?_)
            · refine lv_iload hx hb dX11_worst_74 (lv_at hl 0 rfl) ?_
              refine lv_istore (lv' := [(5, .int l6_5), (8, .int r_12), (7, .int r_8), (6, .int l6_6), (0, .ref k), (1, .int a0), (2, .int a1), (3, .int a2), (4, .int a3)]) hx hb dX11_worst_76 hl (by decide +kernel) rfl ?_
              clear hl
              intro ls hl
              obtain ⟨v_17, ev_17⟩ : ∃ y : Int32, y = l6_6 + 1 := ⟨_, rfl⟩
              have tv_17 : v_17.toInt = l6_6.toInt + 1 := by rw [ev_17]; exact k_addv rfl zl_1 (by omega) (by omega)
              refine lv_iinc (v := v_17) (lv' := [(6, .int v_17), (5, .int l6_5), (8, .int r_12), (7, .int r_8), (0, .ref k), (1, .int a0), (2, .int a1), (3, .int a2), (4, .int a3)]) hx hb dX11_worst_78 hl (k := 3) rfl (by rw [ev_17]; rfl) (by decide +kernel) rfl ?_
              clear hl
              intro ls hl
              refine lv_goto (tgt := 6) hx hb dX11_worst_81 (by decide +kernel) ?_
              exact ih6 l6_5 v_17 (by first | omega | decide | assumption | rfl) (by first | omega | decide | assumption | rfl) (by first | omega | decide | assumption | rfl) (by omega) ls _ _ (lv_sub hl [0, 1, 4, 5, 6, 7, 8] rfl) (hP.sub [0, 1, 2, 3] rfl) (hD.sub [0, 1, 2, 3] (by decide +kernel) rfl) hS
            · refine lv_iload hx hb dX11_worst_69 (lv_at hl 1 rfl) ?_
              refine lv_goto (tgt := 76) hx hb dX11_worst_71 (by decide +kernel) ?_
              refine lv_istore (lv' := [(5, .int r_12), (8, .int r_12), (7, .int r_8), (6, .int l6_6), (0, .ref k), (1, .int a0), (2, .int a1), (3, .int a2), (4, .int a3)]) hx hb dX11_worst_76 hl (by decide +kernel) rfl ?_
              clear hl
              intro ls hl
              obtain ⟨v_18, ev_18⟩ : ∃ y : Int32, y = l6_6 + 1 := ⟨_, rfl⟩
              have tv_18 : v_18.toInt = l6_6.toInt + 1 := by rw [ev_18]; exact k_addv rfl zl_1 (by omega) (by omega)
              refine lv_iinc (v := v_18) (lv' := [(6, .int v_18), (5, .int r_12), (8, .int r_12), (7, .int r_8), (0, .ref k), (1, .int a0), (2, .int a1), (3, .int a2), (4, .int a3)]) hx hb dX11_worst_78 hl (k := 3) rfl (by rw [ev_18]; rfl) (by decide +kernel) rfl ?_
              clear hl
              intro ls hl
              refine lv_goto (tgt := 6) hx hb dX11_worst_81 (by decide +kernel) ?_
              exact ih6 r_12 v_18 (by first | omega | decide | assumption | rfl) (by first | omega | decide | assumption | rfl) (by first | omega | decide | assumption | rfl) (by omega) ls _ _ (lv_sub hl [0, 1, 4, 5, 6, 7, 8] rfl) (hP.sub [0, 1, 2, 3] rfl) (hD.sub [0, 1, 2, 3] (by decide +kernel) rfl) hS
          · refine lv_iload hx hb dX11_worst_53 (lv_at hl 1 rfl) ?_
            refine lv_goto (tgt := 60) hx hb dX11_worst_55 (by decide +kernel) ?_
            refine lv_istore (lv' := [(5, .int r_8), (8, .int r_12), (7, .int r_8), (6, .int l6_6), (0, .ref k), (1, .int a0), (2, .int a1), (3, .int a2), (4, .int a3)]) hx hb dX11_worst_60 hl (by decide +kernel) rfl ?_
            clear hl
            intro ls hl
            refine lv_iload hx hb dX11_worst_62 (lv_at hl 1 rfl) ?_
            refine lv_iload hx hb dX11_worst_64 (lv_at hl 0 rfl) ?_
            refine b_icmp_le hx hb rfl rfl (tgt := 74) dX11_worst_66 (by decide +kernel) (fun c_19 => ?_) (fun c_19 => ?_)
            · refine lv_iload hx hb dX11_worst_74 (lv_at hl 0 rfl) ?_
              refine lv_istore (lv' := [(5, .int r_8), (8, .int r_12), (7, .int r_8), (6, .int l6_6), (0, .ref k), (1, .int a0), (2, .int a1), (3, .int a2), (4, .int a3)]) hx hb dX11_worst_76 hl (by decide +kernel) rfl ?_
              clear hl
              intro ls hl
              obtain ⟨v_20, ev_20⟩ : ∃ y : Int32, y = l6_6 + 1 := ⟨_, rfl⟩
              have tv_20 : v_20.toInt = l6_6.toInt + 1 := by rw [ev_20]; exact k_addv rfl zl_1 (by omega) (by omega)
              refine lv_iinc (v := v_20) (lv' := [(6, .int v_20), (5, .int r_8), (8, .int r_12), (7, .int r_8), (0, .ref k), (1, .int a0), (2, .int a1), (3, .int a2), (4, .int a3)]) hx hb dX11_worst_78 hl (k := 3) rfl (by rw [ev_20]; rfl) (by decide +kernel) rfl ?_
              clear hl
              intro ls hl
              refine lv_goto (tgt := 6) hx hb dX11_worst_81 (by decide +kernel) ?_
              exact ih6 r_8 v_20 (by first | omega | decide | assumption | rfl) (by first | omega | decide | assumption | rfl) (by first | omega | decide | assumption | rfl) (by omega) ls _ _ (lv_sub hl [0, 1, 4, 5, 6, 7, 8] rfl) (hP.sub [0, 1, 2, 3] rfl) (hD.sub [0, 1, 2, 3] (by decide +kernel) rfl) hS
            · refine lv_iload hx hb dX11_worst_69 (lv_at hl 1 rfl) ?_
              refine lv_goto (tgt := 76) hx hb dX11_worst_71 (by decide +kernel) ?_
              refine lv_istore (lv' := [(5, .int r_12), (8, .int r_12), (7, .int r_8), (6, .int l6_6), (0, .ref k), (1, .int a0), (2, .int a1), (3, .int a2), (4, .int a3)]) hx hb dX11_worst_76 hl (by decide +kernel) rfl ?_
              clear hl
              intro ls hl
              obtain ⟨v_21, ev_21⟩ : ∃ y : Int32, y = l6_6 + 1 := ⟨_, rfl⟩
              have tv_21 : v_21.toInt = l6_6.toInt + 1 := by rw [ev_21]; exact k_addv rfl zl_1 (by omega) (by omega)
              refine lv_iinc (v := v_21) (lv' := [(6, .int v_21), (5, .int r_12), (8, .int r_12), (7, .int r_8), (0, .ref k), (1, .int a0), (2, .int a1), (3, .int a2), (4, .int a3)]) hx hb dX11_worst_78 hl (k := 3) rfl (by rw [ev_21]; rfl) (by decide +kernel) rfl ?_
              clear hl
              intro ls hl
              refine lv_goto (tgt := 6) hx hb dX11_worst_81 (by decide +kernel) ?_
              exact ih6 r_12 v_21 (by first | omega | decide | assumption | rfl) (by first | omega | decide | assumption | rfl) (by first | omega | decide | assumption | rfl) (by omega) ls _ _ (lv_sub hl [0, 1, 4, 5, 6, 7, 8] rfl) (hP.sub [0, 1, 2, 3] rfl) (hD.sub [0, 1, 2, 3] (by decide +kernel) rfl) hS
  exact hloop_6 _ 0 0 (by first | omega | (simp only [zl_0]; first | done | omega) | decide | assumption | rfl) (by first | omega | (simp only [zl_0]; first | done | omega) | decide | assumption | rfl) (by first | omega | (simp only [zl_0]; first | done | omega) | decide | assumption | rfl) (Nat.lt_succ_self _) ls _ _ (lv_sub hl [0, 1, 2, 3, 4, 5, 6] rfl) hP hD hS
theorem bn_cX11_noMeeting_0 : BN cX11_noMeeting 0 0xe8ac66014da0002b70e0ad5a540981c029b03059bf00540080e85030dc60015c82822043a0056e070b078561900a680c160f005462f0f06802b51581c2c071b8100c370201402a802820029b38834222f0f06802b515850029a18005722508834222f0f06802b515ab4e61303805362f0f05c02b515ab480130380536050b024029a38005721e08005347a00adc3a2b0c005347a00adc382b := by
  unfold BN; decide +kernel
theorem dX11_noMeeting_0 : decode cX11_noMeeting 0 = .ok (.aload_n 0, 1) := dR0 (k := 0) (i := 0) bn_cX11_noMeeting_0 dop_42 (by decide +kernel)
theorem dX11_noMeeting_1 : decode cX11_noMeeting 1 = .ok (.iload_n 1, 1) := dR0 (k := 0) (i := 1) bn_cX11_noMeeting_0 dop_27 (by decide +kernel)
theorem dX11_noMeeting_2 : decode cX11_noMeeting 2 = .ok (.invokevirtual 121, 3) := dR2 (f := Instr.invokevirtual) (k := 0) (i := 2) bn_cX11_noMeeting_0 dop_182 121 (by decide +kernel)
theorem dX11_noMeeting_5 : decode cX11_noMeeting 5 = .ok (.ifCond .eq 23, 3) := dR2s (f := Instr.ifCond .eq) (k := 0) (i := 5) bn_cX11_noMeeting_0 dop_153 23 23 (by decide +kernel)
theorem dX11_noMeeting_8 : decode cX11_noMeeting 8 = .ok (.aload_n 0, 1) := dR0 (k := 0) (i := 8) bn_cX11_noMeeting_0 dop_42 (by decide +kernel)
theorem dX11_noMeeting_9 : decode cX11_noMeeting 9 = .ok (.iload_n 2, 1) := dR0 (k := 0) (i := 9) bn_cX11_noMeeting_0 dop_28 (by decide +kernel)
theorem dX11_noMeeting_10 : decode cX11_noMeeting 10 = .ok (.invokevirtual 121, 3) := dR2 (f := Instr.invokevirtual) (k := 0) (i := 10) bn_cX11_noMeeting_0 dop_182 121 (by decide +kernel)
theorem dX11_noMeeting_13 : decode cX11_noMeeting 13 = .ok (.ifCond .eq 15, 3) := dR2s (f := Instr.ifCond .eq) (k := 0) (i := 13) bn_cX11_noMeeting_0 dop_153 15 15 (by decide +kernel)
theorem dX11_noMeeting_16 : decode cX11_noMeeting 16 = .ok (.iload_n 3, 1) := dR0 (k := 0) (i := 16) bn_cX11_noMeeting_0 dop_29 (by decide +kernel)
theorem dX11_noMeeting_17 : decode cX11_noMeeting 17 = .ok (.invokestatic 111, 3) := dR2 (f := Instr.invokestatic) (k := 0) (i := 17) bn_cX11_noMeeting_0 dop_184 111 (by decide +kernel)
theorem dX11_noMeeting_20 : decode cX11_noMeeting 20 = .ok (.ifCond .eq 8, 3) := dR2s (f := Instr.ifCond .eq) (k := 0) (i := 20) bn_cX11_noMeeting_0 dop_153 8 8 (by decide +kernel)
theorem dX11_noMeeting_23 : decode cX11_noMeeting 23 = .ok (.iload 4, 2) := dR1 (f := Instr.iload) (k := 0) (i := 23) bn_cX11_noMeeting_0 dop_21 4 (by decide +kernel)
theorem dX11_noMeeting_25 : decode cX11_noMeeting 25 = .ok (.ifCond .ne 6, 3) := dR2s (f := Instr.ifCond .ne) (k := 0) (i := 25) bn_cX11_noMeeting_0 dop_154 6 6 (by decide +kernel)
theorem dX11_noMeeting_28 : decode cX11_noMeeting 28 = .ok (.ldc 63, 2) := dR1 (f := Instr.ldc) (k := 0) (i := 28) bn_cX11_noMeeting_0 dop_18 63 (by decide +kernel)
theorem dX11_noMeeting_30 : decode cX11_noMeeting 30 = .ok (.ireturn, 1) := dR0 (k := 0) (i := 30) bn_cX11_noMeeting_0 dop_172 (by decide +kernel)
theorem dX11_noMeeting_31 : decode cX11_noMeeting 31 = .ok (.aload_n 0, 1) := dR0 (k := 0) (i := 31) bn_cX11_noMeeting_0 dop_42 (by decide +kernel)
theorem dX11_noMeeting_32 : decode cX11_noMeeting 32 = .ok (.getfield 22, 3) := dR2 (f := Instr.getfield) (k := 0) (i := 32) bn_cX11_noMeeting_0 dop_180 22 (by decide +kernel)
theorem dX11_noMeeting_35 : decode cX11_noMeeting 35 = .ok (.iload_n 3, 1) := dR0 (k := 0) (i := 35) bn_cX11_noMeeting_0 dop_29 (by decide +kernel)
theorem dX11_noMeeting_36 : decode cX11_noMeeting 36 = .ok (.iaload, 1) := dR0 (k := 0) (i := 36) bn_cX11_noMeeting_0 dop_46 (by decide +kernel)
theorem dX11_noMeeting_37 : decode cX11_noMeeting 37 = .ok (.ifCond .ne 6, 3) := dR2s (f := Instr.ifCond .ne) (k := 0) (i := 37) bn_cX11_noMeeting_0 dop_154 6 6 (by decide +kernel)
theorem dX11_noMeeting_40 : decode cX11_noMeeting 40 = .ok (.ldc 114, 2) := dR1 (f := Instr.ldc) (k := 0) (i := 40) bn_cX11_noMeeting_0 dop_18 114 (by decide +kernel)
theorem dX11_noMeeting_42 : decode cX11_noMeeting 42 = .ok (.ireturn, 1) := dR0 (k := 0) (i := 42) bn_cX11_noMeeting_0 dop_172 (by decide +kernel)
theorem dX11_noMeeting_43 : decode cX11_noMeeting 43 = .ok (.aload_n 0, 1) := dR0 (k := 0) (i := 43) bn_cX11_noMeeting_0 dop_42 (by decide +kernel)
theorem dX11_noMeeting_44 : decode cX11_noMeeting 44 = .ok (.getfield 25, 3) := dR2 (f := Instr.getfield) (k := 0) (i := 44) bn_cX11_noMeeting_0 dop_180 25 (by decide +kernel)
theorem dX11_noMeeting_47 : decode cX11_noMeeting 47 = .ok (.iload_n 3, 1) := dR0 (k := 0) (i := 47) bn_cX11_noMeeting_0 dop_29 (by decide +kernel)
theorem dX11_noMeeting_48 : decode cX11_noMeeting 48 = .ok (.iaload, 1) := dR0 (k := 0) (i := 48) bn_cX11_noMeeting_0 dop_46 (by decide +kernel)
theorem dX11_noMeeting_49 : decode cX11_noMeeting 49 = .ok (.bipush 12, 2) := dR1s (f := Instr.bipush) (k := 0) (i := 49) bn_cX11_noMeeting_0 dop_16 12 12 (by decide +kernel)
theorem dX11_noMeeting_51 : decode cX11_noMeeting 51 = .ok (.bipush 36, 2) := dR1s (f := Instr.bipush) (k := 0) (i := 51) bn_cX11_noMeeting_0 dop_16 36 36 (by decide +kernel)
theorem dX11_noMeeting_53 : decode cX11_noMeeting 53 = .ok (.invokestatic 47, 3) := dR2 (f := Instr.invokestatic) (k := 0) (i := 53) bn_cX11_noMeeting_0 dop_184 47 (by decide +kernel)
theorem dX11_noMeeting_56 : decode cX11_noMeeting 56 = .ok (.ifCond .eq 19, 3) := dR2s (f := Instr.ifCond .eq) (k := 0) (i := 56) bn_cX11_noMeeting_0 dop_153 19 19 (by decide +kernel)
theorem dX11_noMeeting_59 : decode cX11_noMeeting 59 = .ok (.aload_n 0, 1) := dR0 (k := 0) (i := 59) bn_cX11_noMeeting_0 dop_42 (by decide +kernel)
theorem dX11_noMeeting_60 : decode cX11_noMeeting 60 = .ok (.getfield 25, 3) := dR2 (f := Instr.getfield) (k := 0) (i := 60) bn_cX11_noMeeting_0 dop_180 25 (by decide +kernel)
theorem dX11_noMeeting_63 : decode cX11_noMeeting 63 = .ok (.iload_n 3, 1) := dR0 (k := 0) (i := 63) bn_cX11_noMeeting_0 dop_29 (by decide +kernel)
theorem dX11_noMeeting_64 : decode cX11_noMeeting 64 = .ok (.iaload, 1) := dR0 (k := 0) (i := 64) bn_cX11_noMeeting_0 dop_46 (by decide +kernel)
theorem dX11_noMeeting_65 : decode cX11_noMeeting 65 = .ok (.bipush 12, 2) := dR1s (f := Instr.bipush) (k := 0) (i := 65) bn_cX11_noMeeting_0 dop_16 12 12 (by decide +kernel)
theorem dX11_noMeeting_67 : decode cX11_noMeeting 67 = .ok (.irem, 1) := dR0 (k := 0) (i := 67) bn_cX11_noMeeting_0 dop_112 (by decide +kernel)
theorem dX11_noMeeting_68 : decode cX11_noMeeting 68 = .ok (.ifCond .ne 7, 3) := dR2s (f := Instr.ifCond .ne) (k := 0) (i := 68) bn_cX11_noMeeting_0 dop_154 7 7 (by decide +kernel)
theorem dX11_noMeeting_71 : decode cX11_noMeeting 71 = .ok (.iconst 1, 1) := dR0 (k := 0) (i := 71) bn_cX11_noMeeting_0 dop_4 (by decide +kernel)
theorem dX11_noMeeting_72 : decode cX11_noMeeting 72 = .ok (.goto 4, 3) := dR2s (f := Instr.goto) (k := 0) (i := 72) bn_cX11_noMeeting_0 dop_167 4 4 (by decide +kernel)
theorem dX11_noMeeting_75 : decode cX11_noMeeting 75 = .ok (.iconst 0, 1) := dR0 (k := 0) (i := 75) bn_cX11_noMeeting_0 dop_3 (by decide +kernel)
theorem dX11_noMeeting_76 : decode cX11_noMeeting 76 = .ok (.istore 5, 2) := dR1 (f := Instr.istore) (k := 0) (i := 76) bn_cX11_noMeeting_0 dop_54 5 (by decide +kernel)
theorem dX11_noMeeting_78 : decode cX11_noMeeting 78 = .ok (.iconst 0, 1) := dR0 (k := 0) (i := 78) bn_cX11_noMeeting_0 dop_3 (by decide +kernel)
theorem dX11_noMeeting_79 : decode cX11_noMeeting 79 = .ok (.istore 6, 2) := dR1 (f := Instr.istore) (k := 0) (i := 79) bn_cX11_noMeeting_0 dop_54 6 (by decide +kernel)
theorem dX11_noMeeting_81 : decode cX11_noMeeting 81 = .ok (.iload 6, 2) := dR1 (f := Instr.iload) (k := 0) (i := 81) bn_cX11_noMeeting_0 dop_21 6 (by decide +kernel)
theorem dX11_noMeeting_83 : decode cX11_noMeeting 83 = .ok (.aload_n 0, 1) := dR0 (k := 0) (i := 83) bn_cX11_noMeeting_0 dop_42 (by decide +kernel)
theorem dX11_noMeeting_84 : decode cX11_noMeeting 84 = .ok (.getfield 25, 3) := dR2 (f := Instr.getfield) (k := 0) (i := 84) bn_cX11_noMeeting_0 dop_180 25 (by decide +kernel)
theorem dX11_noMeeting_87 : decode cX11_noMeeting 87 = .ok (.iload_n 3, 1) := dR0 (k := 0) (i := 87) bn_cX11_noMeeting_0 dop_29 (by decide +kernel)
theorem dX11_noMeeting_88 : decode cX11_noMeeting 88 = .ok (.iaload, 1) := dR0 (k := 0) (i := 88) bn_cX11_noMeeting_0 dop_46 (by decide +kernel)
theorem dX11_noMeeting_89 : decode cX11_noMeeting 89 = .ok (.if_icmp .ge 29, 3) := dR2s (f := Instr.if_icmp .ge) (k := 0) (i := 89) bn_cX11_noMeeting_0 dop_162 29 29 (by decide +kernel)
theorem dX11_noMeeting_92 : decode cX11_noMeeting 92 = .ok (.iload 5, 2) := dR1 (f := Instr.iload) (k := 0) (i := 92) bn_cX11_noMeeting_0 dop_21 5 (by decide +kernel)
theorem dX11_noMeeting_94 : decode cX11_noMeeting 94 = .ok (.ifCond .eq 24, 3) := dR2s (f := Instr.ifCond .eq) (k := 0) (i := 94) bn_cX11_noMeeting_0 dop_153 24 24 (by decide +kernel)
theorem dX11_noMeeting_97 : decode cX11_noMeeting 97 = .ok (.aload_n 0, 1) := dR0 (k := 0) (i := 97) bn_cX11_noMeeting_0 dop_42 (by decide +kernel)
theorem dX11_noMeeting_98 : decode cX11_noMeeting 98 = .ok (.iload_n 3, 1) := dR0 (k := 0) (i := 98) bn_cX11_noMeeting_0 dop_29 (by decide +kernel)
theorem dX11_noMeeting_99 : decode cX11_noMeeting 99 = .ok (.iload 6, 2) := dR1 (f := Instr.iload) (k := 0) (i := 99) bn_cX11_noMeeting_0 dop_21 6 (by decide +kernel)
theorem dX11_noMeeting_101 : decode cX11_noMeeting 101 = .ok (.invokevirtual 115, 3) := dR2 (f := Instr.invokevirtual) (k := 0) (i := 101) bn_cX11_noMeeting_0 dop_182 115 (by decide +kernel)
theorem dX11_noMeeting_104 : decode cX11_noMeeting 104 = .ok (.iconst 0, 1) := dR0 (k := 0) (i := 104) bn_cX11_noMeeting_0 dop_3 (by decide +kernel)
theorem dX11_noMeeting_105 : decode cX11_noMeeting 105 = .ok (.bipush 9, 2) := dR1s (f := Instr.bipush) (k := 0) (i := 105) bn_cX11_noMeeting_0 dop_16 9 9 (by decide +kernel)
theorem dX11_noMeeting_107 : decode cX11_noMeeting 107 = .ok (.invokestatic 47, 3) := dR2 (f := Instr.invokestatic) (k := 0) (i := 107) bn_cX11_noMeeting_0 dop_184 47 (by decide +kernel)
theorem dX11_noMeeting_110 : decode cX11_noMeeting 110 = .ok (.istore 5, 2) := dR1 (f := Instr.istore) (k := 0) (i := 110) bn_cX11_noMeeting_0 dop_54 5 (by decide +kernel)
theorem dX11_noMeeting_112 : decode cX11_noMeeting 112 = .ok (.iinc 6 1, 3) := dRii (f := Instr.iinc) (k := 0) (i := 112) bn_cX11_noMeeting_0 dop_132 6 1 1 (by decide +kernel)
theorem dX11_noMeeting_115 : decode cX11_noMeeting 115 = .ok (.goto (-34), 3) := dR2s (f := Instr.goto) (k := 0) (i := 115) bn_cX11_noMeeting_0 dop_167 65502 (-34) (by decide +kernel)
theorem dX11_noMeeting_118 : decode cX11_noMeeting 118 = .ok (.iload 5, 2) := dR1 (f := Instr.iload) (k := 0) (i := 118) bn_cX11_noMeeting_0 dop_21 5 (by decide +kernel)
theorem dX11_noMeeting_120 : decode cX11_noMeeting 120 = .ok (.ifCond .ne 6, 3) := dR2s (f := Instr.ifCond .ne) (k := 0) (i := 120) bn_cX11_noMeeting_0 dop_154 6 6 (by decide +kernel)
theorem dX11_noMeeting_123 : decode cX11_noMeeting 123 = .ok (.ldc 83, 2) := dR1 (f := Instr.ldc) (k := 0) (i := 123) bn_cX11_noMeeting_0 dop_18 83 (by decide +kernel)
theorem dX11_noMeeting_125 : decode cX11_noMeeting 125 = .ok (.ireturn, 1) := dR0 (k := 0) (i := 125) bn_cX11_noMeeting_0 dop_172 (by decide +kernel)
theorem dX11_noMeeting_126 : decode cX11_noMeeting 126 = .ok (.aload_n 0, 1) := dR0 (k := 0) (i := 126) bn_cX11_noMeeting_0 dop_42 (by decide +kernel)
theorem dX11_noMeeting_127 : decode cX11_noMeeting 127 = .ok (.iload_n 1, 1) := dR0 (k := 0) (i := 127) bn_cX11_noMeeting_0 dop_27 (by decide +kernel)
theorem bn_cX11_noMeeting_128 : BN cX11_noMeeting 128 0x5697c260600aa0080800a680e16038dc080500aa00a0800a94fa015b810382b3e8056e040e8ac2e015080cfa015b8143a2b1080542053e8056e050e0ac56014da0002b70e8ac66014da0002b7 := by
  unfold BN; decide +kernel
theorem dX11_noMeeting_128 : decode cX11_noMeeting 128 = .ok (.invokevirtual 127, 3) := dR2 (f := Instr.invokevirtual) (k := 128) (i := 0) bn_cX11_noMeeting_128 dop_182 127 (by decide +kernel)
theorem dX11_noMeeting_131 : decode cX11_noMeeting 131 = .ok (.ifCond .ne 50, 3) := dR2s (f := Instr.ifCond .ne) (k := 128) (i := 3) bn_cX11_noMeeting_128 dop_154 50 50 (by decide +kernel)
theorem dX11_noMeeting_134 : decode cX11_noMeeting 134 = .ok (.aload_n 0, 1) := dR0 (k := 128) (i := 6) bn_cX11_noMeeting_128 dop_42 (by decide +kernel)
theorem dX11_noMeeting_135 : decode cX11_noMeeting 135 = .ok (.iload_n 2, 1) := dR0 (k := 128) (i := 7) bn_cX11_noMeeting_128 dop_28 (by decide +kernel)
theorem dX11_noMeeting_136 : decode cX11_noMeeting 136 = .ok (.invokevirtual 127, 3) := dR2 (f := Instr.invokevirtual) (k := 128) (i := 8) bn_cX11_noMeeting_128 dop_182 127 (by decide +kernel)
theorem dX11_noMeeting_139 : decode cX11_noMeeting 139 = .ok (.ifCond .ne 42, 3) := dR2s (f := Instr.ifCond .ne) (k := 128) (i := 11) bn_cX11_noMeeting_128 dop_154 42 42 (by decide +kernel)
theorem dX11_noMeeting_142 : decode cX11_noMeeting 142 = .ok (.aload_n 0, 1) := dR0 (k := 128) (i := 14) bn_cX11_noMeeting_128 dop_42 (by decide +kernel)
theorem dX11_noMeeting_143 : decode cX11_noMeeting 143 = .ok (.iload_n 1, 1) := dR0 (k := 128) (i := 15) bn_cX11_noMeeting_128 dop_27 (by decide +kernel)
theorem dX11_noMeeting_144 : decode cX11_noMeeting 144 = .ok (.iconst 1, 1) := dR0 (k := 128) (i := 16) bn_cX11_noMeeting_128 dop_4 (by decide +kernel)
theorem dX11_noMeeting_145 : decode cX11_noMeeting 145 = .ok (.invokevirtual 124, 3) := dR2 (f := Instr.invokevirtual) (k := 128) (i := 17) bn_cX11_noMeeting_128 dop_182 124 (by decide +kernel)
theorem dX11_noMeeting_148 : decode cX11_noMeeting 148 = .ok (.iconst 1, 1) := dR0 (k := 128) (i := 20) bn_cX11_noMeeting_128 dop_4 (by decide +kernel)
theorem dX11_noMeeting_149 : decode cX11_noMeeting 149 = .ok (.if_icmp .ne 32, 3) := dR2s (f := Instr.if_icmp .ne) (k := 128) (i := 21) bn_cX11_noMeeting_128 dop_160 32 32 (by decide +kernel)
theorem dX11_noMeeting_152 : decode cX11_noMeeting 152 = .ok (.aload_n 0, 1) := dR0 (k := 128) (i := 24) bn_cX11_noMeeting_128 dop_42 (by decide +kernel)
theorem dX11_noMeeting_153 : decode cX11_noMeeting 153 = .ok (.iload_n 2, 1) := dR0 (k := 128) (i := 25) bn_cX11_noMeeting_128 dop_28 (by decide +kernel)
theorem dX11_noMeeting_154 : decode cX11_noMeeting 154 = .ok (.iconst 1, 1) := dR0 (k := 128) (i := 26) bn_cX11_noMeeting_128 dop_4 (by decide +kernel)
theorem dX11_noMeeting_155 : decode cX11_noMeeting 155 = .ok (.invokevirtual 124, 3) := dR2 (f := Instr.invokevirtual) (k := 128) (i := 27) bn_cX11_noMeeting_128 dop_182 124 (by decide +kernel)
theorem dX11_noMeeting_158 : decode cX11_noMeeting 158 = .ok (.iconst (-1), 1) := dR0 (k := 128) (i := 30) bn_cX11_noMeeting_128 dop_2 (by decide +kernel)
theorem dX11_noMeeting_159 : decode cX11_noMeeting 159 = .ok (.if_icmp .ne 22, 3) := dR2s (f := Instr.if_icmp .ne) (k := 128) (i := 31) bn_cX11_noMeeting_128 dop_160 22 22 (by decide +kernel)
theorem dX11_noMeeting_162 : decode cX11_noMeeting 162 = .ok (.aload_n 0, 1) := dR0 (k := 128) (i := 34) bn_cX11_noMeeting_128 dop_42 (by decide +kernel)
theorem dX11_noMeeting_163 : decode cX11_noMeeting 163 = .ok (.iload_n 2, 1) := dR0 (k := 128) (i := 35) bn_cX11_noMeeting_128 dop_28 (by decide +kernel)
theorem dX11_noMeeting_164 : decode cX11_noMeeting 164 = .ok (.iconst 0, 1) := dR0 (k := 128) (i := 36) bn_cX11_noMeeting_128 dop_3 (by decide +kernel)
theorem dX11_noMeeting_165 : decode cX11_noMeeting 165 = .ok (.invokevirtual 124, 3) := dR2 (f := Instr.invokevirtual) (k := 128) (i := 37) bn_cX11_noMeeting_128 dop_182 124 (by decide +kernel)
theorem dX11_noMeeting_168 : decode cX11_noMeeting 168 = .ok (.aload_n 0, 1) := dR0 (k := 128) (i := 40) bn_cX11_noMeeting_128 dop_42 (by decide +kernel)
theorem dX11_noMeeting_169 : decode cX11_noMeeting 169 = .ok (.iload_n 1, 1) := dR0 (k := 128) (i := 41) bn_cX11_noMeeting_128 dop_27 (by decide +kernel)
theorem dX11_noMeeting_170 : decode cX11_noMeeting 170 = .ok (.iconst 0, 1) := dR0 (k := 128) (i := 42) bn_cX11_noMeeting_128 dop_3 (by decide +kernel)
theorem dX11_noMeeting_171 : decode cX11_noMeeting 171 = .ok (.invokevirtual 124, 3) := dR2 (f := Instr.invokevirtual) (k := 128) (i := 43) bn_cX11_noMeeting_128 dop_182 124 (by decide +kernel)
theorem dX11_noMeeting_174 : decode cX11_noMeeting 174 = .ok (.if_icmp .le 7, 3) := dR2s (f := Instr.if_icmp .le) (k := 128) (i := 46) bn_cX11_noMeeting_128 dop_164 7 7 (by decide +kernel)
theorem dX11_noMeeting_177 : decode cX11_noMeeting 177 = .ok (.iconst 1, 1) := dR0 (k := 128) (i := 49) bn_cX11_noMeeting_128 dop_4 (by decide +kernel)
theorem dX11_noMeeting_178 : decode cX11_noMeeting 178 = .ok (.goto 4, 3) := dR2s (f := Instr.goto) (k := 128) (i := 50) bn_cX11_noMeeting_128 dop_167 4 4 (by decide +kernel)
theorem dX11_noMeeting_181 : decode cX11_noMeeting 181 = .ok (.iconst 0, 1) := dR0 (k := 128) (i := 53) bn_cX11_noMeeting_128 dop_3 (by decide +kernel)
theorem dX11_noMeeting_182 : decode cX11_noMeeting 182 = .ok (.istore 6, 2) := dR1 (f := Instr.istore) (k := 128) (i := 54) bn_cX11_noMeeting_128 dop_54 6 (by decide +kernel)
theorem dX11_noMeeting_184 : decode cX11_noMeeting 184 = .ok (.iload 6, 2) := dR1 (f := Instr.iload) (k := 128) (i := 56) bn_cX11_noMeeting_128 dop_21 6 (by decide +kernel)
theorem dX11_noMeeting_186 : decode cX11_noMeeting 186 = .ok (.ifCond .eq 7, 3) := dR2s (f := Instr.ifCond .eq) (k := 128) (i := 58) bn_cX11_noMeeting_128 dop_153 7 7 (by decide +kernel)
theorem dX11_noMeeting_189 : decode cX11_noMeeting 189 = .ok (.iconst 0, 1) := dR0 (k := 128) (i := 61) bn_cX11_noMeeting_128 dop_3 (by decide +kernel)
theorem dX11_noMeeting_190 : decode cX11_noMeeting 190 = .ok (.goto 5, 3) := dR2s (f := Instr.goto) (k := 128) (i := 62) bn_cX11_noMeeting_128 dop_167 5 5 (by decide +kernel)
theorem dX11_noMeeting_193 : decode cX11_noMeeting 193 = .ok (.ldc 94, 2) := dR1 (f := Instr.ldc) (k := 128) (i := 65) bn_cX11_noMeeting_128 dop_18 94 (by decide +kernel)
theorem dX11_noMeeting_195 : decode cX11_noMeeting 195 = .ok (.ireturn, 1) := dR0 (k := 128) (i := 67) bn_cX11_noMeeting_128 dop_172 (by decide +kernel)
set_option maxHeartbeats 4000000 in
set_option maxRecDepth 100000 in
theorem c_X11_noMeetingG (l : Launch) (D : va_G) (cI : ClassId) (aK aV : Nat → Nat) (k k0 k1 k2 k4 k5 k6 k7 k8 ka kb kl ko : Nat) (sz : Nat) (c3 : Int32) (c9 : Int32) (cc : Int32) (cd : Int32) (ce : Int32) (cf : Int32) (cg : Int32) (ch : Int32) (ci : Int32) (cj : Int32) (ck : Int32) (cm : Int32) (cn : Int32) (c0 : Nat → Int32) (c5 : Nat → Int32) (c6 : Nat → Int32) (c7 : Nat → Int32) (a0 : Int32) (a1 : Int32) (a2 : Int32) (a3 : Int32) (pre0 : SIX c0 (-1)) (pre1 : ∀ k : Nat, k < 4 → 0 ≤ (c6 k).toInt ∧ (c6 k).toInt ≤ 36) : Met l yX11_noMeeting (gW yX11_noMeeting cX11_noMeeting 7 (some .int)) ({ frames := 2, cells := 0, slots := 0, locals := 43 } : Room) (kPreX D cI aK aV [.ref k, .int a0, .int a1, .int a2, .int a3] [(k, .inr (11, [.ref k0, .ref k1, .ref k2, .int c3, .ref k4, .ref k5, .ref k6, .ref k7, .ref k8, .int c9, .ref ka, .ref kb, .int cc, .int cd, .int ce, .int cf, .int cg, .int ch, .int ci, .int cj, .int ck, .ref kl, .int cm, .int cn, .ref ko])), (k0, .inl (cI, 1201, .inl c0)), (k5, .inl (cI, 4, .inl c5)), (k6, .inl (cI, 4, .inl c6)), (k7, .inl (cI, 144, .inl c7))] sz) (va_Qi (fun (r : Int32) (u : Unit) => (r = 0 ∧ 0 ≤ a0.toInt ∧ a0.toInt < (c0 2).toInt ∧ 0 ≤ a1.toInt ∧ a1.toInt < (c0 2).toInt ∧ (pW c0 a0 1).toInt = 1 ∧ (pW c0 a1 1).toInt = (-1) ∧ 1 ≤ (pW c0 a0 2).toInt ∧ 1 ≤ (pW c0 a1 2).toInt ∧ 0 ≤ a2.toInt ∧ a2.toInt ≤ 3 ∧ 12 ≤ (c6 a2.toNatClampNeg).toInt ∧ (c6 a2.toNatClampNeg).toInt ≤ 36 ∧ (∀ k : Nat, (k : Int) < (c6 a2.toNatClampNeg).toInt → 0 ≤ (c7 (36 * a2.toInt.toNat + k)).toInt ∧ (c7 (36 * a2.toInt.toNat + k)).toInt ≤ 9) ∧ (pW c0 a0 0).toInt < (pW c0 a1 0).toInt) ∨ (-1000005 ≤ r.toInt ∧ r.toInt ≤ -1000001)) (fun u t => kWd D cI (va_A [(k, .inr (11, [.ref k0, .ref k1, .ref k2, .int c3, .ref k4, .ref k5, .ref k6, .ref k7, .ref k8, .int c9, .ref ka, .ref kb, .int cc, .int cd, .int ce, .int cf, .int cg, .int ch, .int ci, .int cj, .int ck, .ref kl, .int cm, .int cn, .ref ko])), (k0, .inl (cI, 1201, .inl c0)), (k5, .inl (cI, 4, .inl c5)), (k6, .inl (cI, 4, .inl c6)), (k7, .inl (cI, 144, .inl c7))] sz) [(k, .inr (11, [.ref k0, .ref k1, .ref k2, .int c3, .ref k4, .ref k5, .ref k6, .ref k7, .ref k8, .int c9, .ref ka, .ref kb, .int cc, .int cd, .int ce, .int cf, .int cg, .int ch, .int ci, .int cj, .int ck, .ref kl, .int cm, .int cn, .ref ko])), (k0, .inl (cI, 1201, .inl c0)), (k5, .inl (cI, 4, .inl c5)), (k6, .inl (cI, 4, .inl c6)), (k7, .inl (cI, 144, .inl c7))] t) (va_A [(k, .inr (11, [.ref k0, .ref k1, .ref k2, .int c3, .ref k4, .ref k5, .ref k6, .ref k7, .ref k8, .int c9, .ref ka, .ref kb, .int cc, .int cd, .int ce, .int cf, .int cg, .int ch, .int ci, .int cj, .int ck, .ref kl, .int cm, .int cn, .ref ko])), (k0, .inl (cI, 1201, .inl c0)), (k5, .inl (cI, 4, .inl c5)), (k6, .inl (cI, 4, .inl c6)), (k7, .inl (cI, 144, .inl c7))] sz)) 0 0 (va_A [(k, .inr (11, [.ref k0, .ref k1, .ref k2, .int c3, .ref k4, .ref k5, .ref k6, .ref k7, .ref k8, .int c9, .ref ka, .ref kb, .int cc, .int cd, .int ce, .int cf, .int cg, .int ch, .int ci, .int cj, .int ck, .ref kl, .int cm, .int cn, .ref ko])), (k0, .inl (cI, 1201, .inl c0)), (k5, .inl (cI, 4, .inl c5)), (k6, .inl (cI, 4, .inl c6)), (k7, .inl (cI, 144, .inl c7))] sz) := by
  refine kMetIX (own := RX11) (by decide +kernel) rfl (Nat.le_of_ble_eq_true rfl) ?_
  intro p e s m args below meth c hx hb hT hown hname hml A Q hK hP hD hS hA hN hXS hRet ls hl
  have hl : lv_has ls 7 [(0, .ref k), (1, .int a0), (2, .int a1), (3, .int a2), (4, .int a3)] := hl
  have lo_a0 := k_lo a0
  have hi_a0 := k_hi a0
  have lo_a1 := k_lo a1
  have hi_a1 := k_hi a1
  have lo_a2 := k_lo a2
  have hi_a2 := k_hi a2
  have lo_a3 := k_lo a3
  have hi_a3 := k_hi a3
  have lo_ci := k_lo ci
  have hi_ci := k_hi ci
  have pre0 : SIX c0 (-1) := pre0
  have nb_1 : 0 ≤ (c0 0).toInt ∧ (c0 0).toInt ≤ 2000 := SB.n0 (And.left pre0)
  have nb_2 : 0 ≤ (c0 1).toInt ∧ (c0 1).toInt ≤ 60 := SB.n1 (And.left pre0)
  have nb_3 : 0 ≤ (c0 2).toInt ∧ (c0 2).toInt ≤ 4 := SB.n2 (And.left pre0)
  refine lv_aload_n hx hb dX11_noMeeting_0 rfl (lv_at hl 0 rfl) ?_
  refine lv_iload_n hx hb dX11_noMeeting_1 rfl (lv_at hl 1 rfl) ?_
  refine kJi (wr := [(k5, .inl (cI, 4, .inl c5)), (k6, .inl (cI, 4, .inl c6)), (k7, .inl (cI, 144, .inl c7))]) (va_runV (As := [.int a0]) (rest := []) ⟨hx, hb, hml, hown, hT⟩ (c_X11_isPartyG l D cI aK aV k k0 k1 k2 k4 k5 k6 k7 k8 ka kb kl ko s.heap.size c3 c9 cc cd ce cf cg ch ci cj ck cm cn c0 a0 (And.left pre0)) (cwV 1 hT (gV_in mw_1412 mw_1409 mw_1411 mw_p5_4 mw_12) rfl rfl rfl (by decide +kernel) ⟨Nat.le_of_ble_eq_true rfl, Nat.le_of_ble_eq_true rfl⟩) (kRecvX (q0 := 0) (ci := 11) hK hP hD hN hXS hS hA rfl rfl [0, 1] rfl (by decide +kernel)) rfl rfl hl.1 rfl (lv_room (Nat.le_of_ble_eq_true rfl)) dX11_noMeeting_2 ⟨Nat.le_of_ble_eq_true rfl, Nat.le_of_ble_eq_true rfl⟩) hP hD hS hA [0, 1] [2, 3, 4] rfl rfl (by decide +kernel) (by decide +kernel) ?_
  clear hP hD hS
  intro r_4 u_6 H locs w_5 hP hD hS
  replace hP : va_P D vwCl [(k5, .inl (cI, 4, .inl c5)), (k6, .inl (cI, 4, .inl c6)), (k7, .inl (cI, 144, .inl c7)), (k, .inr (11, [.ref k0, .ref k1, .ref k2, .int c3, .ref k4, .ref k5, .ref k6, .ref k7, .ref k8, .int c9, .ref ka, .ref kb, .int cc, .int cd, .int ce, .int cf, .int cg, .int ch, .int ci, .int cj, .int ck, .ref kl, .int cm, .int cn, .ref ko])), (k0, .inl (cI, 1201, .inl c0))] H := hP
  replace hD : va_D A [(k5, .inl (cI, 4, .inl c5)), (k6, .inl (cI, 4, .inl c6)), (k7, .inl (cI, 144, .inl c7)), (k, .inr (11, [.ref k0, .ref k1, .ref k2, .int c3, .ref k4, .ref k5, .ref k6, .ref k7, .ref k8, .int c9, .ref ka, .ref kb, .int cc, .int cd, .int ce, .int cf, .int cg, .int ch, .int ci, .int cj, .int ck, .ref kl, .int cm, .int cn, .ref ko])), (k0, .inl (cI, 1201, .inl c0))] := hD
  rcases w_5 with ⟨hr_4, h_7, h_8⟩ | ⟨hr_4, h_9⟩
  · have h_7 : 0 ≤ a0.toInt := h_7
    have h_8 : a0.toInt < (c0 2).toInt := h_8
    obtain rfl : r_4 = 1 := hr_4.trans (by decide +kernel)
    refine b_if_eq hx hb zl_1 (tgt := 28) dX11_noMeeting_5 (by decide +kernel) (fun c_10 => by exfalso; omega) (fun c_10 => ?_)
    refine lv_aload_n hx hb dX11_noMeeting_8 rfl (lv_at hl 0 rfl) ?_
    refine lv_iload_n hx hb dX11_noMeeting_9 rfl (lv_at hl 2 rfl) ?_
    refine kJi (wr := [(k5, .inl (cI, 4, .inl c5)), (k6, .inl (cI, 4, .inl c6)), (k7, .inl (cI, 144, .inl c7))]) (va_runV (As := [.int a1]) (rest := []) ⟨hx, hb, hml, hown, hT⟩ (c_X11_isPartyG l D cI aK aV k k0 k1 k2 k4 k5 k6 k7 k8 ka kb kl ko H.size c3 c9 cc cd ce cf cg ch ci cj ck cm cn c0 a1 (And.left pre0)) (cwV 1 hT (gV_in mw_1412 mw_1409 mw_1411 mw_p5_4 mw_12) rfl rfl rfl (by decide +kernel) ⟨Nat.le_of_ble_eq_true rfl, Nat.le_of_ble_eq_true rfl⟩) (kRecvX (q0 := 3) (ci := 11) hK hP hD hN hXS hS hA rfl rfl [3, 4] rfl (by decide +kernel)) rfl rfl hl.1 rfl (lv_room (Nat.le_of_ble_eq_true rfl)) dX11_noMeeting_10 ⟨Nat.le_of_ble_eq_true rfl, Nat.le_of_ble_eq_true rfl⟩) hP hD hS hA [3, 4] [0, 1, 2] rfl rfl (by decide +kernel) (by decide +kernel) ?_
    clear hP hD hS
    intro r_11 u_13 H locs w_12 hP hD hS
    replace hP : va_P D vwCl [(k5, .inl (cI, 4, .inl c5)), (k6, .inl (cI, 4, .inl c6)), (k7, .inl (cI, 144, .inl c7)), (k, .inr (11, [.ref k0, .ref k1, .ref k2, .int c3, .ref k4, .ref k5, .ref k6, .ref k7, .ref k8, .int c9, .ref ka, .ref kb, .int cc, .int cd, .int ce, .int cf, .int cg, .int ch, .int ci, .int cj, .int ck, .ref kl, .int cm, .int cn, .ref ko])), (k0, .inl (cI, 1201, .inl c0))] H := hP
    replace hD : va_D A [(k5, .inl (cI, 4, .inl c5)), (k6, .inl (cI, 4, .inl c6)), (k7, .inl (cI, 144, .inl c7)), (k, .inr (11, [.ref k0, .ref k1, .ref k2, .int c3, .ref k4, .ref k5, .ref k6, .ref k7, .ref k8, .int c9, .ref ka, .ref kb, .int cc, .int cd, .int ce, .int cf, .int cg, .int ch, .int ci, .int cj, .int ck, .ref kl, .int cm, .int cn, .ref ko])), (k0, .inl (cI, 1201, .inl c0))] := hD
    rcases w_12 with ⟨hr_11, h_14, h_15⟩ | ⟨hr_11, h_16⟩
    · have h_14 : 0 ≤ a1.toInt := h_14
      have h_15 : a1.toInt < (c0 2).toInt := h_15
      obtain rfl : r_11 = 1 := hr_11.trans (by decide +kernel)
      refine b_if_eq hx hb zl_1 (tgt := 28) dX11_noMeeting_13 (by decide +kernel) (fun c_17 => by exfalso; omega) (fun c_17 => ?_)
      refine lv_iload_n hx hb dX11_noMeeting_16 rfl (lv_at hl 3 rfl) ?_
      refine kJi (wr := [(k5, .inl (cI, 4, .inl c5)), (k6, .inl (cI, 4, .inl c6)), (k7, .inl (cI, 144, .inl c7)), (k, .inr (11, [.ref k0, .ref k1, .ref k2, .int c3, .ref k4, .ref k5, .ref k6, .ref k7, .ref k8, .int c9, .ref ka, .ref kb, .int cc, .int cd, .int ce, .int cf, .int cg, .int ch, .int ci, .int cj, .int ck, .ref kl, .int cm, .int cn, .ref ko])), (k0, .inl (cI, 1201, .inl c0))]) (va_runS (As := [.int a2]) (rest := []) ⟨hx, hb, hml, hown, hT⟩ (c_X11_isSheetG l D cI aK aV H.size a2) (cwS 1 hT (gS_in mw_1391 mw_1389 mw_1390 mw_12) rfl rfl rfl (by decide +kernel) ⟨Nat.le_of_ble_eq_true rfl, Nat.le_of_ble_eq_true rfl⟩) (kStatX hK hP hD hN hXS hS hA [] rfl (by decide +kernel)) rfl rfl hl.1 rfl (lv_room (Nat.le_of_ble_eq_true rfl)) dX11_noMeeting_17 ⟨Nat.le_of_ble_eq_true rfl, Nat.le_of_ble_eq_true rfl⟩) hP hD hS hA [] [0, 1, 2, 3, 4] rfl rfl (by decide +kernel) (by decide +kernel) ?_
      clear hP hD hS
      intro r_18 u_20 H locs w_19 hP hD hS
      replace hP : va_P D vwCl [(k5, .inl (cI, 4, .inl c5)), (k6, .inl (cI, 4, .inl c6)), (k7, .inl (cI, 144, .inl c7)), (k, .inr (11, [.ref k0, .ref k1, .ref k2, .int c3, .ref k4, .ref k5, .ref k6, .ref k7, .ref k8, .int c9, .ref ka, .ref kb, .int cc, .int cd, .int ce, .int cf, .int cg, .int ch, .int ci, .int cj, .int ck, .ref kl, .int cm, .int cn, .ref ko])), (k0, .inl (cI, 1201, .inl c0))] H := hP
      replace hD : va_D A [(k5, .inl (cI, 4, .inl c5)), (k6, .inl (cI, 4, .inl c6)), (k7, .inl (cI, 144, .inl c7)), (k, .inr (11, [.ref k0, .ref k1, .ref k2, .int c3, .ref k4, .ref k5, .ref k6, .ref k7, .ref k8, .int c9, .ref ka, .ref kb, .int cc, .int cd, .int ce, .int cf, .int cg, .int ch, .int ci, .int cj, .int ck, .ref kl, .int cm, .int cn, .ref ko])), (k0, .inl (cI, 1201, .inl c0))] := hD
      rcases w_19 with ⟨hr_18, h_21, h_22⟩ | ⟨hr_18, h_23⟩
      · have h_21 : 0 ≤ a2.toInt := h_21
        have h_22 : a2.toInt ≤ 3 := h_22
        obtain rfl : r_18 = 1 := hr_18.trans (by decide +kernel)
        refine b_if_eq hx hb zl_1 (tgt := 28) dX11_noMeeting_20 (by decide +kernel) (fun c_24 => by exfalso; omega) (fun c_24 => ?_)
        refine lv_iload hx hb dX11_noMeeting_23 (lv_at hl 4 rfl) ?_
        refine b_if_ne hx hb rfl (tgt := 31) dX11_noMeeting_25 (by decide +kernel) (fun c_25 => ?_) (fun c_25 => ?_)
        · refine lv_aload_n hx hb dX11_noMeeting_31 rfl (lv_at hl 0 rfl) ?_
          refine va_get (D := D) (ci := 11) (v := .ref k5) (C := RX11) (T := TX11) (N := 25) hx hb hT giX11 hown hK hP 3 rfl rfl 5 (by decide +kernel) (hT (Cond.fieldLink RX11 22 "DesertWireModel" "bits" "[I") mw_1161) (fun _ h9 => h9) rfl dX11_noMeeting_32 ?_
          refine lv_iload_n hx hb dX11_noMeeting_35 rfl (lv_at hl 3 rfl) ?_
          refine k_iald (v := (c5 a2.toNatClampNeg)) hx hb hK hP 0 0 rfl rfl (k_in (by omega) (by omega)) rfl dX11_noMeeting_36 ?_
          refine lv_topi (fun v_26 ev_26 => ?_)
          have lo_v_26 := k_lo v_26
          have hi_v_26 := k_hi v_26
          have tv_26 : v_26.toInt = (c5 a2.toNatClampNeg).toInt := by rw [ev_26]
          refine b_if_ne hx hb rfl (tgt := 43) dX11_noMeeting_37 (by decide +kernel) (fun c_27 => ?_) (fun c_27 => ?_)
          · refine lv_aload_n hx hb dX11_noMeeting_43 rfl (lv_at hl 0 rfl) ?_
            refine va_get (D := D) (ci := 11) (v := .ref k6) (C := RX11) (T := TX11) (N := 25) hx hb hT giX11 hown hK hP 3 rfl rfl 6 (by decide +kernel) (hT (Cond.fieldLink RX11 25 "DesertWireModel" "size" "[I") mw_1162) (fun _ h9 => h9) rfl dX11_noMeeting_44 ?_
            refine lv_iload_n hx hb dX11_noMeeting_47 rfl (lv_at hl 3 rfl) ?_
            refine k_iald (v := (c6 a2.toNatClampNeg)) hx hb hK hP 1 0 rfl rfl (k_in (by omega) (by omega)) rfl dX11_noMeeting_48 ?_
            refine lv_topi (fun v_28 ev_28 => ?_)
            have lo_v_28 := k_lo v_28
            have hi_v_28 := k_hi v_28
            have tv_28 : v_28.toInt = (c6 a2.toNatClampNeg).toInt := by rw [ev_28]
            have b_29 : 0 ≤ v_28.toInt ∧ v_28.toInt ≤ 36 := by rw [tv_28]; exact pre1 a2.toNatClampNeg (by rw [k_clamp]; omega)
            refine lv_bipush (v := 12) hx hb dX11_noMeeting_49 (by decide +kernel) ?_
            refine lv_bipush (v := 36) hx hb dX11_noMeeting_51 (by decide +kernel) ?_
            refine kJi (wr := [(k5, .inl (cI, 4, .inl c5)), (k6, .inl (cI, 4, .inl c6)), (k7, .inl (cI, 144, .inl c7)), (k, .inr (11, [.ref k0, .ref k1, .ref k2, .int c3, .ref k4, .ref k5, .ref k6, .ref k7, .ref k8, .int c9, .ref ka, .ref kb, .int cc, .int cd, .int ce, .int cf, .int cg, .int ch, .int ci, .int cj, .int ck, .ref kl, .int cm, .int cn, .ref ko])), (k0, .inl (cI, 1201, .inl c0))]) (va_runS (As := [.int v_28, .int 12, .int 36]) (rest := []) ⟨hx, hb, hml, hown, hT⟩ (c_X11_inG l D cI aK aV H.size v_28 12 36) (cwS 3 hT (gS_in mw_1238 mw_1236 mw_1237 mw_12) rfl rfl rfl (by decide +kernel) ⟨Nat.le_of_ble_eq_true rfl, Nat.le_of_ble_eq_true rfl⟩) (kStatX hK hP hD hN hXS hS hA [] rfl (by decide +kernel)) rfl rfl hl.1 rfl (lv_room (Nat.le_of_ble_eq_true rfl)) dX11_noMeeting_53 ⟨Nat.le_of_ble_eq_true rfl, Nat.le_of_ble_eq_true rfl⟩) hP hD hS hA [] [0, 1, 2, 3, 4] rfl rfl (by decide +kernel) (by decide +kernel) ?_
            clear hP hD hS
            intro r_30 u_32 H locs w_31 hP hD hS
            replace hP : va_P D vwCl [(k5, .inl (cI, 4, .inl c5)), (k6, .inl (cI, 4, .inl c6)), (k7, .inl (cI, 144, .inl c7)), (k, .inr (11, [.ref k0, .ref k1, .ref k2, .int c3, .ref k4, .ref k5, .ref k6, .ref k7, .ref k8, .int c9, .ref ka, .ref kb, .int cc, .int cd, .int ce, .int cf, .int cg, .int ch, .int ci, .int cj, .int ck, .ref kl, .int cm, .int cn, .ref ko])), (k0, .inl (cI, 1201, .inl c0))] H := hP
            replace hD : va_D A [(k5, .inl (cI, 4, .inl c5)), (k6, .inl (cI, 4, .inl c6)), (k7, .inl (cI, 144, .inl c7)), (k, .inr (11, [.ref k0, .ref k1, .ref k2, .int c3, .ref k4, .ref k5, .ref k6, .ref k7, .ref k8, .int c9, .ref ka, .ref kb, .int cc, .int cd, .int ce, .int cf, .int cg, .int ch, .int ci, .int cj, .int ck, .ref kl, .int cm, .int cn, .ref ko])), (k0, .inl (cI, 1201, .inl c0))] := hD
            rcases w_31 with ⟨hr_30, h_33, h_34⟩ | ⟨hr_30, h_35⟩
            · try simp only [zl_12, zl_36] at h_33
              have h_33 : 12 ≤ v_28.toInt := h_33
              try simp only [zl_12, zl_36] at h_34
              have h_34 : v_28.toInt ≤ 36 := h_34
              obtain rfl : r_30 = 1 := hr_30.trans (by decide +kernel)
              refine b_if_eq hx hb zl_1 (tgt := 75) dX11_noMeeting_56 (by decide +kernel) (fun c_36 => by exfalso; omega) (fun c_36 => ?_)
              refine lv_aload_n hx hb dX11_noMeeting_59 rfl (lv_at hl 0 rfl) ?_
              refine va_get (D := D) (ci := 11) (v := .ref k6) (C := RX11) (T := TX11) (N := 25) hx hb hT giX11 hown hK hP 3 rfl rfl 6 (by decide +kernel) (hT (Cond.fieldLink RX11 25 "DesertWireModel" "size" "[I") mw_1162) (fun _ h9 => h9) rfl dX11_noMeeting_60 ?_
              refine lv_iload_n hx hb dX11_noMeeting_63 rfl (lv_at hl 3 rfl) ?_
              refine k_iald (v := (c6 a2.toNatClampNeg)) hx hb hK hP 1 0 rfl rfl (k_in (by omega) (by omega)) rfl dX11_noMeeting_64 ?_
              refine lv_topi (fun v_37 ev_37 => ?_)
              have lo_v_37 := k_lo v_37
              have hi_v_37 := k_hi v_37
              have tv_37 : v_37.toInt = (c6 a2.toNatClampNeg).toInt := by rw [ev_37]
              have b_38 : 0 ≤ v_37.toInt ∧ v_37.toInt ≤ 36 := by rw [tv_37]; exact pre1 a2.toNatClampNeg (by rw [k_clamp]; omega)
              refine lv_bipush (v := 12) hx hb dX11_noMeeting_65 (by decide +kernel) ?_
              refine lv_irem hx hb dX11_noMeeting_67 (by decide +kernel) ?_
              refine lv_topi (fun v_39 ev_39 => ?_)
              have tv_39 : v_39.toInt = v_37.toInt % 12 := k_remv (w := 0) ev_39 zl_12 (by omega) (by decide +kernel)
              have lo_v_39 := k_lo v_39
              have hi_v_39 := k_hi v_39
              refine b_if_ne hx hb rfl (tgt := 75) dX11_noMeeting_68 (by decide +kernel) (fun c_40 => ?_) (fun c_40 => ?_)
              · refine lv_iconst (v := 0) hx hb dX11_noMeeting_75 (by decide +kernel) ?_
                refine lv_istore (lv' := [(5, .int 0), (0, .ref k), (1, .int a0), (2, .int a1), (3, .int a2), (4, .int a3)]) hx hb dX11_noMeeting_76 hl (by decide +kernel) rfl ?_
                clear hl
                intro ls hl
                refine lv_iconst (v := 0) hx hb dX11_noMeeting_78 (by decide +kernel) ?_
                refine lv_istore (lv' := [(6, .int 0), (5, .int 0), (0, .ref k), (1, .int a0), (2, .int a1), (3, .int a2), (4, .int a3)]) hx hb dX11_noMeeting_79 hl (by decide +kernel) rfl ?_
                clear hl
                intro ls hl
                have hloop_81 : ∀ (fu_ : Nat) (l81_5 : Int32) (l81_6 : Int32), l81_5.toInt ≤ 0 → 0 ≤ l81_6.toInt → 0 ≤ l81_5.toInt → l81_5.toInt ≤ 1 → l81_6.toInt ≤ 36 → (l81_5.toInt = 0 ∨ (12 ≤ (c6 a2.toNatClampNeg).toInt ∧ (c6 a2.toNatClampNeg).toInt ≤ 36)) → (∀ k : Nat, (k : Int) < l81_6.toInt → l81_5.toInt ≠ 0 → 0 ≤ (c7 (36 * a2.toInt.toNat + k)).toInt ∧ (c7 (36 * a2.toInt.toNat + k)).toInt ≤ 9) → (36 - l81_6.toInt).toNat < fu_ → ∀ (ls : Array Slot) (H : Heap) (locs : List Loc), lv_has ls 7 [(6, .int l81_6), (5, .int l81_5), (0, .ref k), (1, .int a0), (2, .int a1), (3, .int a2), (4, .int a3)] → va_P D vwCl [(k5, .inl (cI, 4, .inl c5)), (k6, .inl (cI, 4, .inl c6)), (k7, .inl (cI, 144, .inl c7)), (k, .inr (11, [.ref k0, .ref k1, .ref k2, .int c3, .ref k4, .ref k5, .ref k6, .ref k7, .ref k8, .int c9, .ref ka, .ref kb, .int cc, .int cd, .int ce, .int cf, .int cg, .int ch, .int ci, .int cj, .int ck, .ref kl, .int cm, .int cn, .ref ko])), (k0, .inl (cI, 1201, .inl c0))] H → va_D A [(k5, .inl (cI, 4, .inl c5)), (k6, .inl (cI, 4, .inl c6)), (k7, .inl (cI, 144, .inl c7)), (k, .inr (11, [.ref k0, .ref k1, .ref k2, .int c3, .ref k4, .ref k5, .ref k6, .ref k7, .ref k8, .int c9, .ref ka, .ref kb, .int cc, .int cd, .int ce, .int cf, .int cg, .int ch, .int ci, .int cj, .int ck, .ref kl, .int cm, .int cn, .ref ko])), (k0, .inl (cI, 1201, .inl c0))] → va_S A s.heap H locs → W p l e ({ frames := 2, cells := 0, slots := 0, locals := 43 } : Room) s m args below meth c H locs 0 0 Q (F0 m 81 ls []) := by
                  intro fu_; induction fu_ with
                  | zero => intro l81_5 l81_6 i81_0 i81_1 i81_2 i81_3 i81_4 i81_5 i81_6 hm; exact absurd hm (by omega)
                  | succ fu_ ih81 =>
                      intro l81_5 l81_6 i81_0 i81_1 i81_2 i81_3 i81_4 i81_5 i81_6 hm ls H locs hl hP hD hS
                      have lo_l81_5 := k_lo l81_5
                      have hi_l81_5 := k_hi l81_5
                      have lo_l81_6 := k_lo l81_6
                      have hi_l81_6 := k_hi l81_6
                      refine lv_iload hx hb dX11_noMeeting_81 (lv_at hl 0 rfl) ?_
                      refine lv_aload_n hx hb dX11_noMeeting_83 rfl (lv_at hl 2 rfl) ?_
                      refine va_get (D := D) (ci := 11) (v := .ref k6) (C := RX11) (T := TX11) (N := 25) hx hb hT giX11 hown hK hP 3 rfl rfl 6 (by decide +kernel) (hT (Cond.fieldLink RX11 25 "DesertWireModel" "size" "[I") mw_1162) (fun _ h9 => h9) rfl dX11_noMeeting_84 ?_
                      refine lv_iload_n hx hb dX11_noMeeting_87 rfl (lv_at hl 5 rfl) ?_
                      refine k_iald (v := (c6 a2.toNatClampNeg)) hx hb hK hP 1 0 rfl rfl (k_in (by omega) (by omega)) rfl dX11_noMeeting_88 ?_
                      refine lv_topi (fun v_41 ev_41 => ?_)
                      have lo_v_41 := k_lo v_41
                      have hi_v_41 := k_hi v_41
                      have tv_41 : v_41.toInt = (c6 a2.toNatClampNeg).toInt := by rw [ev_41]
                      have b_42 : 0 ≤ v_41.toInt ∧ v_41.toInt ≤ 36 := by rw [tv_41]; exact pre1 a2.toNatClampNeg (by rw [k_clamp]; omega)
                      refine b_icmp_ge hx hb rfl rfl (tgt := 118) dX11_noMeeting_89 (by decide +kernel) (fun c_43 => ?_) (fun c_43 => ?_)
                      · refine lv_iload hx hb dX11_noMeeting_118 (lv_at hl 1 rfl) ?_
                        refine b_if_ne hx hb rfl (tgt := 126) dX11_noMeeting_120 (by decide +kernel) (fun c_44 => by exfalso; omega) (fun c_44 => ?_)
                        refine lv_ldc (v := (-1000005)) hx hb hown (hT _ mw_1283) dX11_noMeeting_123 ?_
                        exact hRet () [3, 4, 0, 1, 2] (Or.inr (⟨(by first | omega | (simp only [zl_m1000005]; first | done | omega)), (by first | omega | (simp only [zl_m1000005]; first | done | omega))⟩)) hP hD (by decide +kernel) rfl hS rfl dX11_noMeeting_125
                      · refine lv_iload hx hb dX11_noMeeting_92 (lv_at hl 1 rfl) ?_
                        refine b_if_eq hx hb rfl (tgt := 118) dX11_noMeeting_94 (by decide +kernel) (fun c_45 => ?_) (fun c_45 => by exfalso; omega)
                        refine lv_iload hx hb dX11_noMeeting_118 (lv_at hl 1 rfl) ?_
                        refine b_if_ne hx hb rfl (tgt := 126) dX11_noMeeting_120 (by decide +kernel) (fun c_46 => by exfalso; omega) (fun c_46 => ?_)
                        refine lv_ldc (v := (-1000005)) hx hb hown (hT _ mw_1283) dX11_noMeeting_123 ?_
                        exact hRet () [3, 4, 0, 1, 2] (Or.inr (⟨(by first | omega | (simp only [zl_m1000005]; first | done | omega)), (by first | omega | (simp only [zl_m1000005]; first | done | omega))⟩)) hP hD (by decide +kernel) rfl hS rfl dX11_noMeeting_125
                exact hloop_81 _ 0 0 (by first | omega | (simp only [zl_0]; first | done | omega) | decide | assumption | rfl) (by first | omega | (simp only [zl_0]; first | done | omega) | decide | assumption | rfl) (by first | omega | (simp only [zl_0]; first | done | omega) | decide | assumption | rfl) (by first | omega | (simp only [zl_0]; first | done | omega) | decide | assumption | rfl) (by first | omega | (simp only [zl_0]; first | done | omega) | decide | assumption | rfl) (by first | omega | exact Or.inl zl_0 | exact Or.inr ⟨by omega, by omega⟩) (fun k hk _ => by exfalso; first | omega | (rw [zl_0] at hk; omega)) (Nat.lt_succ_self _) ls _ _ (lv_sub hl [0, 1, 2, 3, 4, 5, 6] rfl) hP hD hS
              · refine lv_iconst (v := 1) hx hb dX11_noMeeting_71 (by decide +kernel) ?_
                refine lv_goto (tgt := 76) hx hb dX11_noMeeting_72 (by decide +kernel) ?_
                refine lv_istore (lv' := [(5, .int 1), (0, .ref k), (1, .int a0), (2, .int a1), (3, .int a2), (4, .int a3)]) hx hb dX11_noMeeting_76 hl (by decide +kernel) rfl ?_
                clear hl
                intro ls hl
                refine lv_iconst (v := 0) hx hb dX11_noMeeting_78 (by decide +kernel) ?_
                refine lv_istore (lv' := [(6, .int 0), (5, .int 1), (0, .ref k), (1, .int a0), (2, .int a1), (3, .int a2), (4, .int a3)]) hx hb dX11_noMeeting_79 hl (by decide +kernel) rfl ?_
                clear hl
                intro ls hl
                have hloop_81 : ∀ (fu_ : Nat) (l81_5 : Int32) (l81_6 : Int32), l81_5.toInt ≤ 1 → 0 ≤ l81_6.toInt → 0 ≤ l81_5.toInt → l81_5.toInt ≤ 1 → l81_6.toInt ≤ 36 → (l81_5.toInt = 0 ∨ (12 ≤ (c6 a2.toNatClampNeg).toInt ∧ (c6 a2.toNatClampNeg).toInt ≤ 36)) → (∀ k : Nat, (k : Int) < l81_6.toInt → l81_5.toInt ≠ 0 → 0 ≤ (c7 (36 * a2.toInt.toNat + k)).toInt ∧ (c7 (36 * a2.toInt.toNat + k)).toInt ≤ 9) → (36 - l81_6.toInt).toNat < fu_ → ∀ (ls : Array Slot) (H : Heap) (locs : List Loc), lv_has ls 7 [(6, .int l81_6), (5, .int l81_5), (0, .ref k), (1, .int a0), (2, .int a1), (3, .int a2), (4, .int a3)] → va_P D vwCl [(k5, .inl (cI, 4, .inl c5)), (k6, .inl (cI, 4, .inl c6)), (k7, .inl (cI, 144, .inl c7)), (k, .inr (11, [.ref k0, .ref k1, .ref k2, .int c3, .ref k4, .ref k5, .ref k6, .ref k7, .ref k8, .int c9, .ref ka, .ref kb, .int cc, .int cd, .int ce, .int cf, .int cg, .int ch, .int ci, .int cj, .int ck, .ref kl, .int cm, .int cn, .ref ko])), (k0, .inl (cI, 1201, .inl c0))] H → va_D A [(k5, .inl (cI, 4, .inl c5)), (k6, .inl (cI, 4, .inl c6)), (k7, .inl (cI, 144, .inl c7)), (k, .inr (11, [.ref k0, .ref k1, .ref k2, .int c3, .ref k4, .ref k5, .ref k6, .ref k7, .ref k8, .int c9, .ref ka, .ref kb, .int cc, .int cd, .int ce, .int cf, .int cg, .int ch, .int ci, .int cj, .int ck, .ref kl, .int cm, .int cn, .ref ko])), (k0, .inl (cI, 1201, .inl c0))] → va_S A s.heap H locs → W p l e ({ frames := 2, cells := 0, slots := 0, locals := 43 } : Room) s m args below meth c H locs 0 0 Q (F0 m 81 ls []) := by
                  intro fu_; induction fu_ with
                  | zero => intro l81_5 l81_6 i81_0 i81_1 i81_2 i81_3 i81_4 i81_5 i81_6 hm; exact absurd hm (by omega)
                  | succ fu_ ih81 =>
                      intro l81_5 l81_6 i81_0 i81_1 i81_2 i81_3 i81_4 i81_5 i81_6 hm ls H locs hl hP hD hS
                      have lo_l81_5 := k_lo l81_5
                      have hi_l81_5 := k_hi l81_5
                      have lo_l81_6 := k_lo l81_6
                      have hi_l81_6 := k_hi l81_6
                      refine lv_iload hx hb dX11_noMeeting_81 (lv_at hl 0 rfl) ?_
                      refine lv_aload_n hx hb dX11_noMeeting_83 rfl (lv_at hl 2 rfl) ?_
                      refine va_get (D := D) (ci := 11) (v := .ref k6) (C := RX11) (T := TX11) (N := 25) hx hb hT giX11 hown hK hP 3 rfl rfl 6 (by decide +kernel) (hT (Cond.fieldLink RX11 25 "DesertWireModel" "size" "[I") mw_1162) (fun _ h9 => h9) rfl dX11_noMeeting_84 ?_
                      refine lv_iload_n hx hb dX11_noMeeting_87 rfl (lv_at hl 5 rfl) ?_
                      refine k_iald (v := (c6 a2.toNatClampNeg)) hx hb hK hP 1 0 rfl rfl (k_in (by omega) (by omega)) rfl dX11_noMeeting_88 ?_
                      refine lv_topi (fun v_47 ev_47 => ?_)
                      have lo_v_47 := k_lo v_47
                      have hi_v_47 := k_hi v_47
                      have tv_47 : v_47.toInt = (c6 a2.toNatClampNeg).toInt := by rw [ev_47]
                      have b_48 : 0 ≤ v_47.toInt ∧ v_47.toInt ≤ 36 := by rw [tv_47]; exact pre1 a2.toNatClampNeg (by rw [k_clamp]; omega)
                      refine b_icmp_ge hx hb rfl rfl (tgt := 118) dX11_noMeeting_89 (by decide +kernel) (fun c_49 => ?_) (fun c_49 => ?_)
                      · refine lv_iload hx hb dX11_noMeeting_118 (lv_at hl 1 rfl) ?_
                        refine b_if_ne hx hb rfl (tgt := 126) dX11_noMeeting_120 (by decide +kernel) (fun c_50 => ?_) (fun c_50 => ?_)
                        · refine lv_aload_n hx hb dX11_noMeeting_126 rfl (lv_at hl 2 rfl) ?_
                          refine lv_iload_n hx hb dX11_noMeeting_127 rfl (lv_at hl 3 rfl) ?_
                          refine kJi (wr := [(k5, .inl (cI, 4, .inl c5)), (k6, .inl (cI, 4, .inl c6)), (k7, .inl (cI, 144, .inl c7))]) (va_runV (As := [.int a0]) (rest := []) ⟨hx, hb, hml, hown, hT⟩ (c_X11_isLostG l D cI aK aV k k0 k1 k2 k4 k5 k6 k7 k8 ka kb kl ko H.size c3 c9 cc cd ce cf cg ch ci cj ck cm cn c0 a0 pre0 (by first | omega | decide | assumption | rfl) (by first | omega | decide | assumption | rfl) (by first | omega | decide | assumption | rfl)) (cwV 1 hT (gV_in mw_1424 mw_1421 mw_1423 mw_p5_6 mw_12) rfl rfl rfl (by decide +kernel) ⟨Nat.le_of_ble_eq_true rfl, Nat.le_of_ble_eq_true rfl⟩) (kRecvX (q0 := 3) (ci := 11) hK hP hD hN hXS hS hA rfl rfl [3, 4] rfl (by decide +kernel)) rfl rfl hl.1 rfl (lv_room (Nat.le_of_ble_eq_true rfl)) dX11_noMeeting_128 ⟨Nat.le_of_ble_eq_true rfl, Nat.le_of_ble_eq_true rfl⟩) hP hD hS hA [3, 4] [0, 1, 2] rfl rfl (by decide +kernel) (by decide +kernel) ?_
                          clear hP hD hS
                          intro r_51 u_53 H locs w_52 hP hD hS
                          replace hP : va_P D vwCl [(k5, .inl (cI, 4, .inl c5)), (k6, .inl (cI, 4, .inl c6)), (k7, .inl (cI, 144, .inl c7)), (k, .inr (11, [.ref k0, .ref k1, .ref k2, .int c3, .ref k4, .ref k5, .ref k6, .ref k7, .ref k8, .int c9, .ref ka, .ref kb, .int cc, .int cd, .int ce, .int cf, .int cg, .int ch, .int ci, .int cj, .int ck, .ref kl, .int cm, .int cn, .ref ko])), (k0, .inl (cI, 1201, .inl c0))] H := hP
                          replace hD : va_D A [(k5, .inl (cI, 4, .inl c5)), (k6, .inl (cI, 4, .inl c6)), (k7, .inl (cI, 144, .inl c7)), (k, .inr (11, [.ref k0, .ref k1, .ref k2, .int c3, .ref k4, .ref k5, .ref k6, .ref k7, .ref k8, .int c9, .ref ka, .ref kb, .int cc, .int cd, .int ce, .int cf, .int cg, .int ch, .int ci, .int cj, .int ck, .ref kl, .int cm, .int cn, .ref ko])), (k0, .inl (cI, 1201, .inl c0))] := hD
                          rcases w_52 with ⟨hr_51, h_54⟩ | ⟨hr_51, h_55, h_56⟩
                          · have h_54 : (pW c0 a0 8).toInt = 2 := h_54
                            obtain rfl : r_51 = 1 := hr_51.trans (by decide +kernel)
                            refine b_if_ne hx hb zl_1 (tgt := 181) dX11_noMeeting_131 (by decide +kernel) (fun c_57 => ?_) (fun c_57 => by exfalso; omega)
                            refine lv_iconst (v := 0) hx hb dX11_noMeeting_181 (by decide +kernel) ?_
                            refine lv_istore (lv' := [(6, .int 0), (5, .int l81_5), (0, .ref k), (1, .int a0), (2, .int a1), (3, .int a2), (4, .int a3)]) hx hb dX11_noMeeting_182 hl (by decide +kernel) rfl ?_
                            clear hl
                            intro ls hl
                            refine lv_iload hx hb dX11_noMeeting_184 (lv_at hl 0 rfl) ?_
                            refine b_if_eq hx hb zl_0 (tgt := 193) dX11_noMeeting_186 (by decide +kernel) (fun c_58 => ?_) (fun c_58 => by exfalso; omega)
                            refine lv_ldc (v := (-1000003)) hx hb hown (hT _ mw_1356) dX11_noMeeting_193 ?_
                            exact hRet () [3, 4, 0, 1, 2] (Or.inr (⟨(by first | omega | (simp only [zl_m1000003]; first | done | omega)), (by first | omega | (simp only [zl_m1000003]; first | done | omega))⟩)) hP hD (by decide +kernel) rfl hS rfl dX11_noMeeting_195
                          · have h_55 : (pW c0 a0 8).toInt ≠ 2 := h_55
                            have h_56 : 1 ≤ (pW c0 a0 2).toInt := h_56
                            obtain rfl : r_51 = 0 := hr_51.trans (by decide +kernel)
                            refine b_if_ne hx hb zl_0 (tgt := 181) dX11_noMeeting_131 (by decide +kernel) (fun c_59 => by exfalso; omega) (fun c_59 => ?_)
                            refine lv_aload_n hx hb dX11_noMeeting_134 rfl (lv_at hl 2 rfl) ?_
                            refine lv_iload_n hx hb dX11_noMeeting_135 rfl (lv_at hl 4 rfl) ?_
                            refine kJi (wr := [(k5, .inl (cI, 4, .inl c5)), (k6, .inl (cI, 4, .inl c6)), (k7, .inl (cI, 144, .inl c7))]) (va_runV (As := [.int a1]) (rest := []) ⟨hx, hb, hml, hown, hT⟩ (c_X11_isLostG l D cI aK aV k k0 k1 k2 k4 k5 k6 k7 k8 ka kb kl ko H.size c3 c9 cc cd ce cf cg ch ci cj ck cm cn c0 a1 pre0 (by first | omega | decide | assumption | rfl) (by first | omega | decide | assumption | rfl) (by first | omega | decide | assumption | rfl)) (cwV 1 hT (gV_in mw_1424 mw_1421 mw_1423 mw_p5_6 mw_12) rfl rfl rfl (by decide +kernel) ⟨Nat.le_of_ble_eq_true rfl, Nat.le_of_ble_eq_true rfl⟩) (kRecvX (q0 := 3) (ci := 11) hK hP hD hN hXS hS hA rfl rfl [3, 4] rfl (by decide +kernel)) rfl rfl hl.1 rfl (lv_room (Nat.le_of_ble_eq_true rfl)) dX11_noMeeting_136 ⟨Nat.le_of_ble_eq_true rfl, Nat.le_of_ble_eq_true rfl⟩) hP hD hS hA [3, 4] [0, 1, 2] rfl rfl (by decide +kernel) (by decide +kernel) ?_
                            clear hP hD hS
                            intro r_60 u_62 H locs w_61 hP hD hS
                            replace hP : va_P D vwCl [(k5, .inl (cI, 4, .inl c5)), (k6, .inl (cI, 4, .inl c6)), (k7, .inl (cI, 144, .inl c7)), (k, .inr (11, [.ref k0, .ref k1, .ref k2, .int c3, .ref k4, .ref k5, .ref k6, .ref k7, .ref k8, .int c9, .ref ka, .ref kb, .int cc, .int cd, .int ce, .int cf, .int cg, .int ch, .int ci, .int cj, .int ck, .ref kl, .int cm, .int cn, .ref ko])), (k0, .inl (cI, 1201, .inl c0))] H := hP
                            replace hD : va_D A [(k5, .inl (cI, 4, .inl c5)), (k6, .inl (cI, 4, .inl c6)), (k7, .inl (cI, 144, .inl c7)), (k, .inr (11, [.ref k0, .ref k1, .ref k2, .int c3, .ref k4, .ref k5, .ref k6, .ref k7, .ref k8, .int c9, .ref ka, .ref kb, .int cc, .int cd, .int ce, .int cf, .int cg, .int ch, .int ci, .int cj, .int ck, .ref kl, .int cm, .int cn, .ref ko])), (k0, .inl (cI, 1201, .inl c0))] := hD
                            rcases w_61 with ⟨hr_60, h_63⟩ | ⟨hr_60, h_64, h_65⟩
                            · have h_63 : (pW c0 a1 8).toInt = 2 := h_63
                              obtain rfl : r_60 = 1 := hr_60.trans (by decide +kernel)
                              refine b_if_ne hx hb zl_1 (tgt := 181) dX11_noMeeting_139 (by decide +kernel) (fun c_66 => ?_) (fun c_66 => by exfalso; omega)
                              refine lv_iconst (v := 0) hx hb dX11_noMeeting_181 (by decide +kernel) ?_
                              refine lv_istore (lv' := [(6, .int 0), (5, .int l81_5), (0, .ref k), (1, .int a0), (2, .int a1), (3, .int a2), (4, .int a3)]) hx hb dX11_noMeeting_182 hl (by decide +kernel) rfl ?_
                              clear hl
                              intro ls hl
                              refine lv_iload hx hb dX11_noMeeting_184 (lv_at hl 0 rfl) ?_
                              refine b_if_eq hx hb zl_0 (tgt := 193) dX11_noMeeting_186 (by decide +kernel) (fun c_67 => ?_) (fun c_67 => by exfalso; omega)
                              refine lv_ldc (v := (-1000003)) hx hb hown (hT _ mw_1356) dX11_noMeeting_193 ?_
                              exact hRet () [3, 4, 0, 1, 2] (Or.inr (⟨(by first | omega | (simp only [zl_m1000003]; first | done | omega)), (by first | omega | (simp only [zl_m1000003]; first | done | omega))⟩)) hP hD (by decide +kernel) rfl hS rfl dX11_noMeeting_195
                            · have h_64 : (pW c0 a1 8).toInt ≠ 2 := h_64
                              have h_65 : 1 ≤ (pW c0 a1 2).toInt := h_65
                              obtain rfl : r_60 = 0 := hr_60.trans (by decide +kernel)
                              refine b_if_ne hx hb zl_0 (tgt := 181) dX11_noMeeting_139 (by decide +kernel) (fun c_68 => by exfalso; omega) (fun c_68 => ?_)
                              refine lv_aload_n hx hb dX11_noMeeting_142 rfl (lv_at hl 2 rfl) ?_
                              refine lv_iload_n hx hb dX11_noMeeting_143 rfl (lv_at hl 3 rfl) ?_
                              refine lv_iconst (v := 1) hx hb dX11_noMeeting_144 (by decide +kernel) ?_
                              refine kJi (wr := [(k5, .inl (cI, 4, .inl c5)), (k6, .inl (cI, 4, .inl c6)), (k7, .inl (cI, 144, .inl c7))]) (va_runV (As := [.int a0, .int 1]) (rest := []) ⟨hx, hb, hml, hown, hT⟩ (c_X11_partyG1 l D cI aK aV k k0 k1 k2 k4 k5 k6 k7 k8 ka kb kl ko H.size c3 c9 cc cd ce cf cg ch ci cj ck cm cn c0 a0 1 (by first | omega | (simp only [zl_1]; first | done | omega) | decide | assumption | rfl) (by first | omega | (simp only [zl_1]; first | done | omega) | decide | assumption | rfl) (by first | omega | (simp only [zl_1]; first | done | omega) | decide | assumption | rfl)) (cwV 2 hT (gV_in mw_1416 mw_1413 mw_1415 mw_p5_5 mw_12) rfl rfl rfl (by decide +kernel) ⟨Nat.le_of_ble_eq_true rfl, Nat.le_of_ble_eq_true rfl⟩) (kRecvX (q0 := 3) (ci := 11) hK hP hD hN hXS hS hA rfl rfl [3, 4] rfl (by decide +kernel)) rfl rfl hl.1 rfl (lv_room (Nat.le_of_ble_eq_true rfl)) dX11_noMeeting_145 ⟨Nat.le_of_ble_eq_true rfl, Nat.le_of_ble_eq_true rfl⟩) hP hD hS hA [3, 4] [0, 1, 2] rfl rfl (by decide +kernel) (by decide +kernel) ?_
                              clear hP hD hS
                              intro r_69 u_71 H locs w_70 hP hD hS
                              replace hP : va_P D vwCl [(k5, .inl (cI, 4, .inl c5)), (k6, .inl (cI, 4, .inl c6)), (k7, .inl (cI, 144, .inl c7)), (k, .inr (11, [.ref k0, .ref k1, .ref k2, .int c3, .ref k4, .ref k5, .ref k6, .ref k7, .ref k8, .int c9, .ref ka, .ref kb, .int cc, .int cd, .int ce, .int cf, .int cg, .int ch, .int ci, .int cj, .int ck, .ref kl, .int cm, .int cn, .ref ko])), (k0, .inl (cI, 1201, .inl c0))] H := hP
                              replace hD : va_D A [(k5, .inl (cI, 4, .inl c5)), (k6, .inl (cI, 4, .inl c6)), (k7, .inl (cI, 144, .inl c7)), (k, .inr (11, [.ref k0, .ref k1, .ref k2, .int c3, .ref k4, .ref k5, .ref k6, .ref k7, .ref k8, .int c9, .ref ka, .ref kb, .int cc, .int cd, .int ce, .int cf, .int cg, .int ch, .int ci, .int cj, .int ck, .ref kl, .int cm, .int cn, .ref ko])), (k0, .inl (cI, 1201, .inl c0))] := hD
                              have h_72 := w_70
                              have h_72 : r_69 = pW c0 a0 1 := h_72
                              have t_73 : r_69.toInt = (pW c0 a0 1).toInt := by rw [h_72]
                              have lo_r_69 := k_lo r_69
                              have hi_r_69 := k_hi r_69
                              refine lv_iconst (v := 1) hx hb dX11_noMeeting_148 (by decide +kernel) ?_
                              refine b_icmp_ne hx hb rfl zl_1 (tgt := 181) dX11_noMeeting_149 (by decide +kernel) (fun c_74 => ?_) (fun c_74 => ?_)
                              · refine lv_iconst (v := 0) hx hb dX11_noMeeting_181 (by decide +kernel) ?_
                                refine lv_istore (lv' := [(6, .int 0), (5, .int l81_5), (0, .ref k), (1, .int a0), (2, .int a1), (3, .int a2), (4, .int a3)]) hx hb dX11_noMeeting_182 hl (by decide +kernel) rfl ?_
                                clear hl
                                intro ls hl
                                refine lv_iload hx hb dX11_noMeeting_184 (lv_at hl 0 rfl) ?_
                                refine b_if_eq hx hb zl_0 (tgt := 193) dX11_noMeeting_186 (by decide +kernel) (fun c_75 => ?_) (fun c_75 => by exfalso; omega)
                                refine lv_ldc (v := (-1000003)) hx hb hown (hT _ mw_1356) dX11_noMeeting_193 ?_
                                exact hRet () [3, 4, 0, 1, 2] (Or.inr (⟨(by first | omega | (simp only [zl_m1000003]; first | done | omega)), (by first | omega | (simp only [zl_m1000003]; first | done | omega))⟩)) hP hD (by decide +kernel) rfl hS rfl dX11_noMeeting_195
                              · refine lv_aload_n hx hb dX11_noMeeting_152 rfl (lv_at hl 2 rfl) ?_
                                refine lv_iload_n hx hb dX11_noMeeting_153 rfl (lv_at hl 4 rfl) ?_
                                refine lv_iconst (v := 1) hx hb dX11_noMeeting_154 (by decide +kernel) ?_
                                refine kJi (wr := [(k5, .inl (cI, 4, .inl c5)), (k6, .inl (cI, 4, .inl c6)), (k7, .inl (cI, 144, .inl c7))]) (va_runV (As := [.int a1, .int 1]) (rest := []) ⟨hx, hb, hml, hown, hT⟩ (c_X11_partyG1 l D cI aK aV k k0 k1 k2 k4 k5 k6 k7 k8 ka kb kl ko H.size c3 c9 cc cd ce cf cg ch ci cj ck cm cn c0 a1 1 (by first | omega | (simp only [zl_1]; first | done | omega) | decide | assumption | rfl) (by first | omega | (simp only [zl_1]; first | done | omega) | decide | assumption | rfl) (by first | omega | (simp only [zl_1]; first | done | omega) | decide | assumption | rfl)) (cwV 2 hT (gV_in mw_1416 mw_1413 mw_1415 mw_p5_5 mw_12) rfl rfl rfl (by decide +kernel) ⟨Nat.le_of_ble_eq_true rfl, Nat.le_of_ble_eq_true rfl⟩) (kRecvX (q0 := 3) (ci := 11) hK hP hD hN hXS hS hA rfl rfl [3, 4] rfl (by decide +kernel)) rfl rfl hl.1 rfl (lv_room (Nat.le_of_ble_eq_true rfl)) dX11_noMeeting_155 ⟨Nat.le_of_ble_eq_true rfl, Nat.le_of_ble_eq_true rfl⟩) hP hD hS hA [3, 4] [0, 1, 2] rfl rfl (by decide +kernel) (by decide +kernel) ?_
                                clear hP hD hS
                                intro r_76 u_78 H locs w_77 hP hD hS
                                replace hP : va_P D vwCl [(k5, .inl (cI, 4, .inl c5)), (k6, .inl (cI, 4, .inl c6)), (k7, .inl (cI, 144, .inl c7)), (k, .inr (11, [.ref k0, .ref k1, .ref k2, .int c3, .ref k4, .ref k5, .ref k6, .ref k7, .ref k8, .int c9, .ref ka, .ref kb, .int cc, .int cd, .int ce, .int cf, .int cg, .int ch, .int ci, .int cj, .int ck, .ref kl, .int cm, .int cn, .ref ko])), (k0, .inl (cI, 1201, .inl c0))] H := hP
                                replace hD : va_D A [(k5, .inl (cI, 4, .inl c5)), (k6, .inl (cI, 4, .inl c6)), (k7, .inl (cI, 144, .inl c7)), (k, .inr (11, [.ref k0, .ref k1, .ref k2, .int c3, .ref k4, .ref k5, .ref k6, .ref k7, .ref k8, .int c9, .ref ka, .ref kb, .int cc, .int cd, .int ce, .int cf, .int cg, .int ch, .int ci, .int cj, .int ck, .ref kl, .int cm, .int cn, .ref ko])), (k0, .inl (cI, 1201, .inl c0))] := hD
                                have h_79 := w_77
                                have h_79 : r_76 = pW c0 a1 1 := h_79
                                have t_80 : r_76.toInt = (pW c0 a1 1).toInt := by rw [h_79]
                                have lo_r_76 := k_lo r_76
                                have hi_r_76 := k_hi r_76
                                refine lv_iconst (v := (-1)) hx hb dX11_noMeeting_158 (by decide +kernel) ?_
                                refine b_icmp_ne hx hb rfl zl_m1 (tgt := 181) dX11_noMeeting_159 (by decide +kernel) (fun c_81 => ?_) (fun c_81 => ?_)
                                · refine lv_iconst (v := 0) hx hb dX11_noMeeting_181 (by decide +kernel) ?_
                                  refine lv_istore (lv' := [(6, .int 0), (5, .int l81_5), (0, .ref k), (1, .int a0), (2, .int a1), (3, .int a2), (4, .int a3)]) hx hb dX11_noMeeting_182 hl (by decide +kernel) rfl ?_
                                  clear hl
                                  intro ls hl
                                  refine lv_iload hx hb dX11_noMeeting_184 (lv_at hl 0 rfl) ?_
                                  refine b_if_eq hx hb zl_0 (tgt := 193) dX11_noMeeting_186 (by decide +kernel) (fun c_82 => ?_) (fun c_82 => by exfalso; omega)
                                  refine lv_ldc (v := (-1000003)) hx hb hown (hT _ mw_1356) dX11_noMeeting_193 ?_
                                  exact hRet () [3, 4, 0, 1, 2] (Or.inr (⟨(by first | omega | (simp only [zl_m1000003]; first | done | omega)), (by first | omega | (simp only [zl_m1000003]; first | done | omega))⟩)) hP hD (by decide +kernel) rfl hS rfl dX11_noMeeting_195
                                · refine lv_aload_n hx hb dX11_noMeeting_162 rfl (lv_at hl 2 rfl) ?_
                                  refine lv_iload_n hx hb dX11_noMeeting_163 rfl (lv_at hl 4 rfl) ?_
                                  refine lv_iconst (v := 0) hx hb dX11_noMeeting_164 (by decide +kernel) ?_
                                  refine kJi (wr := [(k5, .inl (cI, 4, .inl c5)), (k6, .inl (cI, 4, .inl c6)), (k7, .inl (cI, 144, .inl c7))]) (va_runV (As := [.int a1, .int 0]) (rest := []) ⟨hx, hb, hml, hown, hT⟩ (c_X11_partyG0 l D cI aK aV k k0 k1 k2 k4 k5 k6 k7 k8 ka kb kl ko H.size c3 c9 cc cd ce cf cg ch ci cj ck cm cn c0 a1 0 (by first | omega | (simp only [zl_0]; first | done | omega) | decide | assumption | rfl) (by first | omega | (simp only [zl_0]; first | done | omega) | decide | assumption | rfl) (by first | omega | (simp only [zl_0]; first | done | omega) | decide | assumption | rfl)) (cwV 2 hT (gV_in mw_1416 mw_1413 mw_1415 mw_p5_5 mw_12) rfl rfl rfl (by decide +kernel) ⟨Nat.le_of_ble_eq_true rfl, Nat.le_of_ble_eq_true rfl⟩) (kRecvX (q0 := 3) (ci := 11) hK hP hD hN hXS hS hA rfl rfl [3, 4] rfl (by decide +kernel)) rfl rfl hl.1 rfl (lv_room (Nat.le_of_ble_eq_true rfl)) dX11_noMeeting_165 ⟨Nat.le_of_ble_eq_true rfl, Nat.le_of_ble_eq_true rfl⟩) hP hD hS hA [3, 4] [0, 1, 2] rfl rfl (by decide +kernel) (by decide +kernel) ?_
                                  clear hP hD hS
                                  intro r_83 u_85 H locs w_84 hP hD hS
                                  replace hP : va_P D vwCl [(k5, .inl (cI, 4, .inl c5)), (k6, .inl (cI, 4, .inl c6)), (k7, .inl (cI, 144, .inl c7)), (k, .inr (11, [.ref k0, .ref k1, .ref k2, .int c3, .ref k4, .ref k5, .ref k6, .ref k7, .ref k8, .int c9, .ref ka, .ref kb, .int cc, .int cd, .int ce, .int cf, .int cg, .int ch, .int ci, .int cj, .int ck, .ref kl, .int cm, .int cn, .ref ko])), (k0, .inl (cI, 1201, .inl c0))] H := hP
                                  replace hD : va_D A [(k5, .inl (cI, 4, .inl c5)), (k6, .inl (cI, 4, .inl c6)), (k7, .inl (cI, 144, .inl c7)), (k, .inr (11, [.ref k0, .ref k1, .ref k2, .int c3, .ref k4, .ref k5, .ref k6, .ref k7, .ref k8, .int c9, .ref ka, .ref kb, .int cc, .int cd, .int ce, .int cf, .int cg, .int ch, .int ci, .int cj, .int ck, .ref kl, .int cm, .int cn, .ref ko])), (k0, .inl (cI, 1201, .inl c0))] := hD
                                  have h_86 := w_84
                                  have h_86 : r_83 = pW c0 a1 0 := h_86
                                  have t_87 : r_83.toInt = (pW c0 a1 0).toInt := by rw [h_86]
                                  have b_88 : 0 ≤ r_83.toInt ∧ r_83.toInt ≤ 39 := by rw [h_86]; exact SB.p0 (And.left pre0) (by omega) (by omega)
                                  have lo_r_83 := k_lo r_83
                                  have hi_r_83 := k_hi r_83
                                  refine lv_aload_n hx hb dX11_noMeeting_168 rfl (lv_at hl 2 rfl) ?_
                                  refine lv_iload_n hx hb dX11_noMeeting_169 rfl (lv_at hl 3 rfl) ?_
                                  refine lv_iconst (v := 0) hx hb dX11_noMeeting_170 (by decide +kernel) ?_
                                  refine kJi (wr := [(k5, .inl (cI, 4, .inl c5)), (k6, .inl (cI, 4, .inl c6)), (k7, .inl (cI, 144, .inl c7))]) (va_runV (As := [.int a0, .int 0]) (rest := [.int r_83]) ⟨hx, hb, hml, hown, hT⟩ (c_X11_partyG0 l D cI aK aV k k0 k1 k2 k4 k5 k6 k7 k8 ka kb kl ko H.size c3 c9 cc cd ce cf cg ch ci cj ck cm cn c0 a0 0 (by first | omega | (simp only [zl_0]; first | done | omega) | decide | assumption | rfl) (by first | omega | (simp only [zl_0]; first | done | omega) | decide | assumption | rfl) (by first | omega | (simp only [zl_0]; first | done | omega) | decide | assumption | rfl)) (cwV 2 hT (gV_in mw_1416 mw_1413 mw_1415 mw_p5_5 mw_12) rfl rfl rfl (by decide +kernel) ⟨Nat.le_of_ble_eq_true rfl, Nat.le_of_ble_eq_true rfl⟩) (kRecvX (q0 := 3) (ci := 11) hK hP hD hN hXS hS hA rfl rfl [3, 4] rfl (by decide +kernel)) rfl rfl hl.1 rfl (lv_room (Nat.le_of_ble_eq_true rfl)) dX11_noMeeting_171 ⟨Nat.le_of_ble_eq_true rfl, Nat.le_of_ble_eq_true rfl⟩) hP hD hS hA [3, 4] [0, 1, 2] rfl rfl (by decide +kernel) (by decide +kernel) ?_
                                  clear hP hD hS
                                  intro r_89 u_91 H locs w_90 hP hD hS
                                  replace hP : va_P D vwCl [(k5, .inl (cI, 4, .inl c5)), (k6, .inl (cI, 4, .inl c6)), (k7, .inl (cI, 144, .inl c7)), (k, .inr (11, [.ref k0, .ref k1, .ref k2, .int c3, .ref k4, .ref k5, .ref k6, .ref k7, .ref k8, .int c9, .ref ka, .ref kb, .int cc, .int cd, .int ce, .int cf, .int cg, .int ch, .int ci, .int cj, .int ck, .ref kl, .int cm, .int cn, .ref ko])), (k0, .inl (cI, 1201, .inl c0))] H := hP
                                  replace hD : va_D A [(k5, .inl (cI, 4, .inl c5)), (k6, .inl (cI, 4, .inl c6)), (k7, .inl (cI, 144, .inl c7)), (k, .inr (11, [.ref k0, .ref k1, .ref k2, .int c3, .ref k4, .ref k5, .ref k6, .ref k7, .ref k8, .int c9, .ref ka, .ref kb, .int cc, .int cd, .int ce, .int cf, .int cg, .int ch, .int ci, .int cj, .int ck, .ref kl, .int cm, .int cn, .ref ko])), (k0, .inl (cI, 1201, .inl c0))] := hD
                                  have h_92 := w_90
                                  have h_92 : r_89 = pW c0 a0 0 := h_92
                                  have t_93 : r_89.toInt = (pW c0 a0 0).toInt := by rw [h_92]
                                  have b_94 : 0 ≤ r_89.toInt ∧ r_89.toInt ≤ 39 := by rw [h_92]; exact SB.p0 (And.left pre0) (by omega) (by omega)
                                  have lo_r_89 := k_lo r_89
                                  have hi_r_89 := k_hi r_89
                                  refine b_icmp_le hx hb rfl rfl (tgt := 181) dX11_noMeeting_174 (by decide +kernel) (fun c_95 => ?_) (fun c_95 => ?_)
                                  · refine lv_iconst (v := 0) hx hb dX11_noMeeting_181 (by decide +kernel) ?_
                                    refine lv_istore (lv' := [(6, .int 0), (5, .int l81_5), (0, .ref k), (1, .int a0), (2, .int a1), (3, .int a2), (4, .int a3)]) hx hb dX11_noMeeting_182 hl (by decide +kernel) rfl ?_
                                    clear hl
                                    intro ls hl
                                    refine lv_iload hx hb dX11_noMeeting_184 (lv_at hl 0 rfl) ?_
                                    refine b_if_eq hx hb zl_0 (tgt := 193) dX11_noMeeting_186 (by decide +kernel) (fun c_96 => ?_) (fun c_96 => by exfalso; omega)
                                    refine lv_ldc (v := (-1000003)) hx hb hown (hT _ mw_1356) dX11_noMeeting_193 ?_
                                    exact hRet () [3, 4, 0, 1, 2] (Or.inr (⟨(by first | omega | (simp only [zl_m1000003]; first | done | omega)), (by first | omega | (simp only [zl_m1000003]; first | done | omega))⟩)) hP hD (by decide +kernel) rfl hS rfl dX11_noMeeting_195
                                  · refine lv_iconst (v := 1) hx hb dX11_noMeeting_177 (by decide +kernel) ?_
                                    refine lv_goto (tgt := 182) hx hb dX11_noMeeting_178 (by decide +kernel) ?_
                                    refine lv_istore (lv' := [(6, .int 1), (5, .int l81_5), (0, .ref k), (1, .int a0), (2, .int a1), (3, .int a2), (4, .int a3)]) hx hb dX11_noMeeting_182 hl (by decide +kernel) rfl ?_
                                    clear hl
                                    intro ls hl
                                    refine lv_iload hx hb dX11_noMeeting_184 (lv_at hl 0 rfl) ?_
                                    refine b_if_eq hx hb zl_1 (tgt := 193) dX11_noMeeting_186 (by decide +kernel) (fun c_97 => by exfalso; omega) (fun c_97 => ?_)
                                    refine lv_iconst (v := 0) hx hb dX11_noMeeting_189 (by decide +kernel) ?_
                                    refine lv_goto (tgt := 195) hx hb dX11_noMeeting_190 (by decide +kernel) ?_
                                    exact hRet () [3, 4, 0, 1, 2] (by first | exact Or.inl ⟨rfl, (by omega), (by omega), (by omega), (by omega), (by omega), (by omega), (by omega), (by omega), (by omega), (by omega), (by omega), (by omega), (fun k hk => i81_6 k (by omega) (by omega)), (by omega)⟩ | exact Or.inr (⟨(by first | omega | (simp only [zl_0]; first | done | omega)), (by first | omega | (simp only [zl_0]; first | done | omega))⟩)) hP hD (by decide +kernel) rfl hS rfl dX11_noMeeting_195
                        · refine lv_ldc (v := (-1000005)) hx hb hown (hT _ mw_1283) dX11_noMeeting_123 ?_
                          exact hRet () [3, 4, 0, 1, 2] (Or.inr (⟨(by first | omega | (simp only [zl_m1000005]; first | done | omega)), (by first | omega | (simp only [zl_m1000005]; first | done | omega))⟩)) hP hD (by decide +kernel) rfl hS rfl dX11_noMeeting_125
                      · refine lv_iload hx hb dX11_noMeeting_92 (lv_at hl 1 rfl) ?_
                        refine b_if_eq hx hb rfl (tgt := 118) dX11_noMeeting_94 (by decide +kernel) (fun c_98 => ?_) (fun c_98 => ?_)
                        · refine lv_iload hx hb dX11_noMeeting_118 (lv_at hl 1 rfl) ?_
                          refine b_if_ne hx hb rfl (tgt := 126) dX11_noMeeting_120 (by decide +kernel) (fun c_99 => by exfalso; omega) (fun c_99 => ?_)
                          refine lv_ldc (v := (-1000005)) hx hb hown (hT _ mw_1283) dX11_noMeeting_123 ?_
                          exact hRet () [3, 4, 0, 1, 2] (Or.inr (⟨(by first | omega | (simp only [zl_m1000005]; first | done | omega)), (by first | omega | (simp only [zl_m1000005]; first | done | omega))⟩)) hP hD (by decide +kernel) rfl hS rfl dX11_noMeeting_125
                        · refine lv_aload_n hx hb dX11_noMeeting_97 rfl (lv_at hl 2 rfl) ?_
                          refine lv_iload_n hx hb dX11_noMeeting_98 rfl (lv_at hl 5 rfl) ?_
                          refine lv_iload hx hb dX11_noMeeting_99 (lv_at hl 0 rfl) ?_
                          refine kJi (wr := [(k5, .inl (cI, 4, .inl c5)), (k6, .inl (cI, 4, .inl c6)), (k0, .inl (cI, 1201, .inl c0))]) (va_runV (As := [.int a2, .int l81_6]) (rest := []) ⟨hx, hb, hml, hown, hT⟩ (c_X11_atG l D cI aK aV k k0 k1 k2 k4 k5 k6 k7 k8 ka kb kl ko H.size c3 c9 cc cd ce cf cg ch ci cj ck cm cn c7 a2 l81_6 (by first | omega | decide | assumption | rfl) (by first | omega | decide | assumption | rfl) (by first | omega | decide | assumption | rfl) (by first | omega | decide | assumption | rfl)) (cwV 2 hT (gV_in mw_1396 mw_1393 mw_1395 mw_p5_2 mw_12) rfl rfl rfl (by decide +kernel) ⟨Nat.le_of_ble_eq_true rfl, Nat.le_of_ble_eq_true rfl⟩) (kRecvX (q0 := 3) (ci := 11) hK hP hD hN hXS hS hA rfl rfl [3, 2] rfl (by decide +kernel)) rfl rfl hl.1 rfl (lv_room (Nat.le_of_ble_eq_true rfl)) dX11_noMeeting_101 ⟨Nat.le_of_ble_eq_true rfl, Nat.le_of_ble_eq_true rfl⟩) hP hD hS hA [3, 2] [0, 1, 4] rfl rfl (by decide +kernel) (by decide +kernel) ?_
                          clear hP hD hS
                          intro r_100 u_102 H locs w_101 hP hD hS
                          replace hP : va_P D vwCl [(k5, .inl (cI, 4, .inl c5)), (k6, .inl (cI, 4, .inl c6)), (k0, .inl (cI, 1201, .inl c0)), (k, .inr (11, [.ref k0, .ref k1, .ref k2, .int c3, .ref k4, .ref k5, .ref k6, .ref k7, .ref k8, .int c9, .ref ka, .ref kb, .int cc, .int cd, .int ce, .int cf, .int cg, .int ch, .int ci, .int cj, .int ck, .ref kl, .int cm, .int cn, .ref ko])), (k7, .inl (cI, 144, .inl c7))] H := hP
                          replace hD : va_D A [(k5, .inl (cI, 4, .inl c5)), (k6, .inl (cI, 4, .inl c6)), (k0, .inl (cI, 1201, .inl c0)), (k, .inr (11, [.ref k0, .ref k1, .ref k2, .int c3, .ref k4, .ref k5, .ref k6, .ref k7, .ref k8, .int c9, .ref ka, .ref kb, .int cc, .int cd, .int ce, .int cf, .int cg, .int ch, .int ci, .int cj, .int ck, .ref kl, .int cm, .int cn, .ref ko])), (k7, .inl (cI, 144, .inl c7))] := hD
                          have h_103 := w_101
                          have h_103 : r_100 = c7 (36 * a2.toInt.toNat + l81_6.toInt.toNat) := h_103
                          have h_103 : r_100 = c7 (36 * a2.toInt.toNat + l81_6.toInt.toNat) := h_103
                          have lo_r_100 := k_lo r_100
                          have hi_r_100 := k_hi r_100
                          refine lv_iconst (v := 0) hx hb dX11_noMeeting_104 (by decide +kernel) ?_
                          refine lv_bipush (v := 9) hx hb dX11_noMeeting_105 (by decide +kernel) ?_
                          refine kJi (wr := [(k5, .inl (cI, 4, .inl c5)), (k6, .inl (cI, 4, .inl c6)), (k0, .inl (cI, 1201, .inl c0)), (k, .inr (11, [.ref k0, .ref k1, .ref k2, .int c3, .ref k4, .ref k5, .ref k6, .ref k7, .ref k8, .int c9, .ref ka, .ref kb, .int cc, .int cd, .int ce, .int cf, .int cg, .int ch, .int ci, .int cj, .int ck, .ref kl, .int cm, .int cn, .ref ko])), (k7, .inl (cI, 144, .inl c7))]) (va_runS (As := [.int r_100, .int 0, .int 9]) (rest := []) ⟨hx, hb, hml, hown, hT⟩ (c_X11_inG l D cI aK aV H.size r_100 0 9) (cwS 3 hT (gS_in mw_1238 mw_1236 mw_1237 mw_12) rfl rfl rfl (by decide +kernel) ⟨Nat.le_of_ble_eq_true rfl, Nat.le_of_ble_eq_true rfl⟩) (kStatX hK hP hD hN hXS hS hA [] rfl (by decide +kernel)) rfl rfl hl.1 rfl (lv_room (Nat.le_of_ble_eq_true rfl)) dX11_noMeeting_107 ⟨Nat.le_of_ble_eq_true rfl, Nat.le_of_ble_eq_true rfl⟩) hP hD hS hA [] [0, 1, 2, 3, 4] rfl rfl (by decide +kernel) (by decide +kernel) ?_
                          clear hP hD hS
                          intro r_104 u_106 H locs w_105 hP hD hS
                          replace hP : va_P D vwCl [(k5, .inl (cI, 4, .inl c5)), (k6, .inl (cI, 4, .inl c6)), (k0, .inl (cI, 1201, .inl c0)), (k, .inr (11, [.ref k0, .ref k1, .ref k2, .int c3, .ref k4, .ref k5, .ref k6, .ref k7, .ref k8, .int c9, .ref ka, .ref kb, .int cc, .int cd, .int ce, .int cf, .int cg, .int ch, .int ci, .int cj, .int ck, .ref kl, .int cm, .int cn, .ref ko])), (k7, .inl (cI, 144, .inl c7))] H := hP
                          replace hD : va_D A [(k5, .inl (cI, 4, .inl c5)), (k6, .inl (cI, 4, .inl c6)), (k0, .inl (cI, 1201, .inl c0)), (k, .inr (11, [.ref k0, .ref k1, .ref k2, .int c3, .ref k4, .ref k5, .ref k6, .ref k7, .ref k8, .int c9, .ref ka, .ref kb, .int cc, .int cd, .int ce, .int cf, .int cg, .int ch, .int ci, .int cj, .int ck, .ref kl, .int cm, .int cn, .ref ko])), (k7, .inl (cI, 144, .inl c7))] := hD
                          rcases w_105 with ⟨hr_104, h_107, h_108⟩ | ⟨hr_104, h_109⟩
                          · try simp only [zl_0, zl_9] at h_107
                            have h_107 : 0 ≤ r_100.toInt := h_107
                            try simp only [zl_0, zl_9] at h_108
                            have h_108 : r_100.toInt ≤ 9 := h_108
                            obtain rfl : r_104 = 1 := hr_104.trans (by decide +kernel)
                            refine lv_istore (lv' := [(5, .int 1), (6, .int l81_6), (0, .ref k), (1, .int a0), (2, .int a1), (3, .int a2), (4, .int a3)]) hx hb dX11_noMeeting_110 hl (by decide +kernel) rfl ?_
                            clear hl
                            intro ls hl
                            obtain ⟨v_110, ev_110⟩ : ∃ y : Int32, y = l81_6 + 1 := ⟨_, rfl⟩
                            have tv_110 : v_110.toInt = l81_6.toInt + 1 := by rw [ev_110]; exact k_addv rfl zl_1 (by omega) (by omega)
                            refine lv_iinc (v := v_110) (lv' := [(6, .int v_110), (5, .int 1), (0, .ref k), (1, .int a0), (2, .int a1), (3, .int a2), (4, .int a3)]) hx hb dX11_noMeeting_112 hl (k := 1) rfl (by rw [ev_110]; rfl) (by decide +kernel) rfl ?_
                            clear hl
                            intro ls hl
                            refine lv_goto (tgt := 81) hx hb dX11_noMeeting_115 (by decide +kernel) ?_
                            exact ih81 1 v_110 (by first | omega | (simp only [zl_1]; first | done | omega) | decide | assumption | rfl) (by first | omega | (simp only [zl_1]; first | done | omega) | decide | assumption | rfl) (by first | omega | (simp only [zl_1]; first | done | omega) | decide | assumption | rfl) (by first | omega | (simp only [zl_1]; first | done | omega) | decide | assumption | rfl) (by first | omega | (simp only [zl_1]; first | done | omega) | decide | assumption | rfl) (by first | omega | exact Or.inl zl_0 | exact Or.inr ⟨by omega, by omega⟩) (fun k hk _ => by by_cases hq : (k : Int) < l81_6.toInt; exact i81_6 k hq (by omega); rw [show k = l81_6.toInt.toNat from by omega, ← h_103]; omega) (by omega) ls _ _ (lv_sub hl [0, 1, 2, 3, 4, 5, 6] rfl) (hP.sub [0, 1, 4, 3, 2] rfl) (hD.sub [0, 1, 4, 3, 2] (by decide +kernel) rfl) hS
                          · try simp only [zl_0, zl_9] at h_109
                            have h_109 : r_100.toInt < 0 ∨ 9 < r_100.toInt := h_109
                            obtain rfl : r_104 = 0 := hr_104.trans (by decide +kernel)
                            refine lv_istore (lv' := [(5, .int 0), (6, .int l81_6), (0, .ref k), (1, .int a0), (2, .int a1), (3, .int a2), (4, .int a3)]) hx hb dX11_noMeeting_110 hl (by decide +kernel) rfl ?_
                            clear hl
                            intro ls hl
                            obtain ⟨v_111, ev_111⟩ : ∃ y : Int32, y = l81_6 + 1 := ⟨_, rfl⟩
                            have tv_111 : v_111.toInt = l81_6.toInt + 1 := by rw [ev_111]; exact k_addv rfl zl_1 (by omega) (by omega)
                            refine lv_iinc (v := v_111) (lv' := [(6, .int v_111), (5, .int 0), (0, .ref k), (1, .int a0), (2, .int a1), (3, .int a2), (4, .int a3)]) hx hb dX11_noMeeting_112 hl (k := 1) rfl (by rw [ev_111]; rfl) (by decide +kernel) rfl ?_
                            clear hl
                            intro ls hl
                            refine lv_goto (tgt := 81) hx hb dX11_noMeeting_115 (by decide +kernel) ?_
                            exact ih81 0 v_111 (by first | omega | (simp only [zl_0]; first | done | omega) | decide | assumption | rfl) (by first | omega | (simp only [zl_0]; first | done | omega) | decide | assumption | rfl) (by first | omega | (simp only [zl_0]; first | done | omega) | decide | assumption | rfl) (by first | omega | (simp only [zl_0]; first | done | omega) | decide | assumption | rfl) (by first | omega | (simp only [zl_0]; first | done | omega) | decide | assumption | rfl) (by first | omega | exact Or.inl zl_0 | exact Or.inr ⟨by omega, by omega⟩) (fun k hk h9 => absurd zl_0 h9) (by omega) ls _ _ (lv_sub hl [0, 1, 2, 3, 4, 5, 6] rfl) (hP.sub [0, 1, 4, 3, 2] rfl) (hD.sub [0, 1, 4, 3, 2] (by decide +kernel) rfl) hS
                exact hloop_81 _ 1 0 (by first | omega | (simp only [zl_0, zl_1]; first | done | omega) | decide | assumption | rfl) (by first | omega | (simp only [zl_0, zl_1]; first | done | omega) | decide | assumption | rfl) (by first | omega | (simp only [zl_0, zl_1]; first | done | omega) | decide | assumption | rfl) (by first | omega | (simp only [zl_0, zl_1]; first | done | omega) | decide | assumption | rfl) (by first | omega | (simp only [zl_0, zl_1]; first | done | omega) | decide | assumption | rfl) (by first | omega | exact Or.inl zl_0 | exact Or.inr ⟨by omega, by omega⟩) (fun k hk _ => by exfalso; first | omega | (rw [zl_0] at hk; omega)) (Nat.lt_succ_self _) ls _ _ (lv_sub hl [0, 1, 2, 3, 4, 5, 6] rfl) hP hD hS
            · try simp only [zl_12, zl_36] at h_35
              have h_35 : v_28.toInt < 12 ∨ 36 < v_28.toInt := h_35
              obtain rfl : r_30 = 0 := hr_30.trans (by decide +kernel)
              refine b_if_eq hx hb zl_0 (tgt := 75) dX11_noMeeting_56 (by decide +kernel) (fun c_112 => ?_) (fun c_112 => by exfalso; omega)
              refine lv_iconst (v := 0) hx hb dX11_noMeeting_75 (by decide +kernel) ?_
              refine lv_istore (lv' := [(5, .int 0), (0, .ref k), (1, .int a0), (2, .int a1), (3, .int a2), (4, .int a3)]) hx hb dX11_noMeeting_76 hl (by decide +kernel) rfl ?_
              clear hl
              intro ls hl
              refine lv_iconst (v := 0) hx hb dX11_noMeeting_78 (by decide +kernel) ?_
              refine lv_istore (lv' := [(6, .int 0), (5, .int 0), (0, .ref k), (1, .int a0), (2, .int a1), (3, .int a2), (4, .int a3)]) hx hb dX11_noMeeting_79 hl (by decide +kernel) rfl ?_
              clear hl
              intro ls hl
              have hloop_81 : ∀ (fu_ : Nat) (l81_5 : Int32) (l81_6 : Int32), l81_5.toInt ≤ 0 → 0 ≤ l81_6.toInt → 0 ≤ l81_5.toInt → l81_5.toInt ≤ 1 → l81_6.toInt ≤ 36 → (l81_5.toInt = 0 ∨ (12 ≤ (c6 a2.toNatClampNeg).toInt ∧ (c6 a2.toNatClampNeg).toInt ≤ 36)) → (∀ k : Nat, (k : Int) < l81_6.toInt → l81_5.toInt ≠ 0 → 0 ≤ (c7 (36 * a2.toInt.toNat + k)).toInt ∧ (c7 (36 * a2.toInt.toNat + k)).toInt ≤ 9) → (36 - l81_6.toInt).toNat < fu_ → ∀ (ls : Array Slot) (H : Heap) (locs : List Loc), lv_has ls 7 [(6, .int l81_6), (5, .int l81_5), (0, .ref k), (1, .int a0), (2, .int a1), (3, .int a2), (4, .int a3)] → va_P D vwCl [(k5, .inl (cI, 4, .inl c5)), (k6, .inl (cI, 4, .inl c6)), (k7, .inl (cI, 144, .inl c7)), (k, .inr (11, [.ref k0, .ref k1, .ref k2, .int c3, .ref k4, .ref k5, .ref k6, .ref k7, .ref k8, .int c9, .ref ka, .ref kb, .int cc, .int cd, .int ce, .int cf, .int cg, .int ch, .int ci, .int cj, .int ck, .ref kl, .int cm, .int cn, .ref ko])), (k0, .inl (cI, 1201, .inl c0))] H → va_D A [(k5, .inl (cI, 4, .inl c5)), (k6, .inl (cI, 4, .inl c6)), (k7, .inl (cI, 144, .inl c7)), (k, .inr (11, [.ref k0, .ref k1, .ref k2, .int c3, .ref k4, .ref k5, .ref k6, .ref k7, .ref k8, .int c9, .ref ka, .ref kb, .int cc, .int cd, .int ce, .int cf, .int cg, .int ch, .int ci, .int cj, .int ck, .ref kl, .int cm, .int cn, .ref ko])), (k0, .inl (cI, 1201, .inl c0))] → va_S A s.heap H locs → W p l e ({ frames := 2, cells := 0, slots := 0, locals := 43 } : Room) s m args below meth c H locs 0 0 Q (F0 m 81 ls []) := by
                intro fu_; induction fu_ with
                | zero => intro l81_5 l81_6 i81_0 i81_1 i81_2 i81_3 i81_4 i81_5 i81_6 hm; exact absurd hm (by omega)
                | succ fu_ ih81 =>
                    intro l81_5 l81_6 i81_0 i81_1 i81_2 i81_3 i81_4 i81_5 i81_6 hm ls H locs hl hP hD hS
                    have lo_l81_5 := k_lo l81_5
                    have hi_l81_5 := k_hi l81_5
                    have lo_l81_6 := k_lo l81_6
                    have hi_l81_6 := k_hi l81_6
                    refine lv_iload hx hb dX11_noMeeting_81 (lv_at hl 0 rfl) ?_
                    refine lv_aload_n hx hb dX11_noMeeting_83 rfl (lv_at hl 2 rfl) ?_
                    refine va_get (D := D) (ci := 11) (v := .ref k6) (C := RX11) (T := TX11) (N := 25) hx hb hT giX11 hown hK hP 3 rfl rfl 6 (by decide +kernel) (hT (Cond.fieldLink RX11 25 "DesertWireModel" "size" "[I") mw_1162) (fun _ h9 => h9) rfl dX11_noMeeting_84 ?_
                    refine lv_iload_n hx hb dX11_noMeeting_87 rfl (lv_at hl 5 rfl) ?_
                    refine k_iald (v := (c6 a2.toNatClampNeg)) hx hb hK hP 1 0 rfl rfl (k_in (by omega) (by omega)) rfl dX11_noMeeting_88 ?_
                    refine lv_topi (fun v_113 ev_113 => ?_)
                    have lo_v_113 := k_lo v_113
                    have hi_v_113 := k_hi v_113
                    have tv_113 : v_113.toInt = (c6 a2.toNatClampNeg).toInt := by rw [ev_113]
                    have b_114 : 0 ≤ v_113.toInt ∧ v_113.toInt ≤ 36 := by rw [tv_113]; exact pre1 a2.toNatClampNeg (by rw [k_clamp]; omega)
                    refine b_icmp_ge hx hb rfl rfl (tgt := 118) dX11_noMeeting_89 (by decide +kernel) (fun c_115 => ?_) (fun c_115 => ?_)
                    · refine lv_iload hx hb dX11_noMeeting_118 (lv_at hl 1 rfl) ?_
                      refine b_if_ne hx hb rfl (tgt := 126) dX11_noMeeting_120 (by decide +kernel) (fun c_116 => by exfalso; omega) (fun c_116 => ?_)
                      refine lv_ldc (v := (-1000005)) hx hb hown (hT _ mw_1283) dX11_noMeeting_123 ?_
                      exact hRet () [3, 4, 0, 1, 2] (Or.inr (⟨(by first | omega | (simp only [zl_m1000005]; first | done | omega)), (by first | omega | (simp only [zl_m1000005]; first | done | omega))⟩)) hP hD (by decide +kernel) rfl hS rfl dX11_noMeeting_125
                    · refine lv_iload hx hb dX11_noMeeting_92 (lv_at hl 1 rfl) ?_
                      refine b_if_eq hx hb rfl (tgt := 118) dX11_noMeeting_94 (by decide +kernel) (fun c_117 => ?_) (fun c_117 => by exfalso; omega)
                      refine lv_iload hx hb dX11_noMeeting_118 (lv_at hl 1 rfl) ?_
                      refine b_if_ne hx hb rfl (tgt := 126) dX11_noMeeting_120 (by decide +kernel) (fun c_118 => by exfalso; omega) (fun c_118 => ?_)
                      refine lv_ldc (v := (-1000005)) hx hb hown (hT _ mw_1283) dX11_noMeeting_123 ?_
                      exact hRet () [3, 4, 0, 1, 2] (Or.inr (⟨(by first | omega | (simp only [zl_m1000005]; first | done | omega)), (by first | omega | (simp only [zl_m1000005]; first | done | omega))⟩)) hP hD (by decide +kernel) rfl hS rfl dX11_noMeeting_125
              exact hloop_81 _ 0 0 (by first | omega | (simp only [zl_0]; first | done | omega) | decide | assumption | rfl) (by first | omega | (simp only [zl_0]; first | done | omega) | decide | assumption | rfl) (by first | omega | (simp only [zl_0]; first | done | omega) | decide | assumption | rfl) (by first | omega | (simp only [zl_0]; first | done | omega) | decide | assumption | rfl) (by first | omega | (simp only [zl_0]; first | done | omega) | decide | assumption | rfl) (by first | omega | exact Or.inl zl_0 | exact Or.inr ⟨by omega, by omega⟩) (fun k hk _ => by exfalso; first | omega | (rw [zl_0] at hk; omega)) (Nat.lt_succ_self _) ls _ _ (lv_sub hl [0, 1, 2, 3, 4, 5, 6] rfl) hP hD hS
          · refine lv_ldc (v := (-1000002)) hx hb hown (hT _ mw_1392) dX11_noMeeting_40 ?_
            exact hRet () [3, 4, 0, 1, 2] (Or.inr (⟨(by first | omega | (simp only [zl_m1000002]; first | done | omega)), (by first | omega | (simp only [zl_m1000002]; first | done | omega))⟩)) hP hD (by decide +kernel) rfl hS rfl dX11_noMeeting_42
        · refine lv_ldc (v := (-1000001)) hx hb hown (hT _ mw_1239) dX11_noMeeting_28 ?_
          exact hRet () [3, 4, 0, 1, 2] (Or.inr (⟨(by first | omega | (simp only [zl_m1000001]; first | done | omega)), (by first | omega | (simp only [zl_m1000001]; first | done | omega))⟩)) hP hD (by decide +kernel) rfl hS rfl dX11_noMeeting_30
      · have h_23 : a2.toInt < 0 ∨ 3 < a2.toInt := h_23
        obtain rfl : r_18 = 0 := hr_18.trans (by decide +kernel)
        refine b_if_eq hx hb zl_0 (tgt := 28) dX11_noMeeting_20 (by decide +kernel) (fun c_119 => ?_) (fun c_119 => by exfalso; omega)
        refine lv_ldc (v := (-1000001)) hx hb hown (hT _ mw_1239) dX11_noMeeting_28 ?_
        exact hRet () [3, 4, 0, 1, 2] (Or.inr (⟨(by first | omega | (simp only [zl_m1000001]; first | done | omega)), (by first | omega | (simp only [zl_m1000001]; first | done | omega))⟩)) hP hD (by decide +kernel) rfl hS rfl dX11_noMeeting_30
    · have h_16 : a1.toInt < 0 ∨ (c0 2).toInt ≤ a1.toInt := h_16
      obtain rfl : r_11 = 0 := hr_11.trans (by decide +kernel)
      refine b_if_eq hx hb zl_0 (tgt := 28) dX11_noMeeting_13 (by decide +kernel) (fun c_120 => ?_) (fun c_120 => by exfalso; omega)
      refine lv_ldc (v := (-1000001)) hx hb hown (hT _ mw_1239) dX11_noMeeting_28 ?_
      exact hRet () [3, 4, 0, 1, 2] (Or.inr (⟨(by first | omega | (simp only [zl_m1000001]; first | done | omega)), (by first | omega | (simp only [zl_m1000001]; first | done | omega))⟩)) hP hD (by decide +kernel) rfl hS rfl dX11_noMeeting_30
  · have h_9 : a0.toInt < 0 ∨ (c0 2).toInt ≤ a0.toInt := h_9
    obtain rfl : r_4 = 0 := hr_4.trans (by decide +kernel)
    refine b_if_eq hx hb zl_0 (tgt := 28) dX11_noMeeting_5 (by decide +kernel) (fun c_121 => ?_) (fun c_121 => by exfalso; omega)
    refine lv_ldc (v := (-1000001)) hx hb hown (hT _ mw_1239) dX11_noMeeting_28 ?_
    exact hRet () [3, 4, 0, 1, 2] (Or.inr (⟨(by first | omega | (simp only [zl_m1000001]; first | done | omega)), (by first | omega | (simp only [zl_m1000001]; first | done | omega))⟩)) hP hD (by decide +kernel) rfl hS rfl dX11_noMeeting_30
theorem bn_cX11_meeting_0 : BN cX11_meeting 0 0x2b410160300550070b024029b02859a900540081285040dc1416038dc12160600546080b0282c0b00a700e16050ddde015b8242c1e0e870562900a8cfa015b8103a2b0485812373e8056e040e0ac10370201c6e035690402b703058560b00a680c16030ddd6015b8c002b9028100a160f074382b := by
  unfold BN; decide +kernel
theorem dX11_meeting_0 : decode cX11_meeting 0 = .ok (.aload_n 0, 1) := dR0 (k := 0) (i := 0) bn_cX11_meeting_0 dop_42 (by decide +kernel)
theorem dX11_meeting_1 : decode cX11_meeting 1 = .ok (.iload_n 1, 1) := dR0 (k := 0) (i := 1) bn_cX11_meeting_0 dop_27 (by decide +kernel)
theorem dX11_meeting_2 : decode cX11_meeting 2 = .ok (.iload_n 2, 1) := dR0 (k := 0) (i := 2) bn_cX11_meeting_0 dop_28 (by decide +kernel)
theorem dX11_meeting_3 : decode cX11_meeting 3 = .ok (.iload_n 3, 1) := dR0 (k := 0) (i := 3) bn_cX11_meeting_0 dop_29 (by decide +kernel)
theorem dX11_meeting_4 : decode cX11_meeting 4 = .ok (.iload 4, 2) := dR1 (f := Instr.iload) (k := 0) (i := 4) bn_cX11_meeting_0 dop_21 4 (by decide +kernel)
theorem dX11_meeting_6 : decode cX11_meeting 6 = .ok (.iconst 0, 1) := dR0 (k := 0) (i := 6) bn_cX11_meeting_0 dop_3 (by decide +kernel)
theorem dX11_meeting_7 : decode cX11_meeting 7 = .ok (.iconst 1, 1) := dR0 (k := 0) (i := 7) bn_cX11_meeting_0 dop_4 (by decide +kernel)
theorem dX11_meeting_8 : decode cX11_meeting 8 = .ok (.invokestatic 47, 3) := dR2 (f := Instr.invokestatic) (k := 0) (i := 8) bn_cX11_meeting_0 dop_184 47 (by decide +kernel)
theorem dX11_meeting_11 : decode cX11_meeting 11 = .ok (.invokevirtual 234, 3) := dR2 (f := Instr.invokevirtual) (k := 0) (i := 11) bn_cX11_meeting_0 dop_182 234 (by decide +kernel)
theorem dX11_meeting_14 : decode cX11_meeting 14 = .ok (.istore 5, 2) := dR1 (f := Instr.istore) (k := 0) (i := 14) bn_cX11_meeting_0 dop_54 5 (by decide +kernel)
theorem dX11_meeting_16 : decode cX11_meeting 16 = .ok (.iload 5, 2) := dR1 (f := Instr.iload) (k := 0) (i := 16) bn_cX11_meeting_0 dop_21 5 (by decide +kernel)
theorem dX11_meeting_18 : decode cX11_meeting 18 = .ok (.ifCond .eq 10, 3) := dR2s (f := Instr.ifCond .eq) (k := 0) (i := 18) bn_cX11_meeting_0 dop_153 10 10 (by decide +kernel)
theorem dX11_meeting_21 : decode cX11_meeting 21 = .ok (.aload_n 0, 1) := dR0 (k := 0) (i := 21) bn_cX11_meeting_0 dop_42 (by decide +kernel)
theorem dX11_meeting_22 : decode cX11_meeting 22 = .ok (.iload 5, 2) := dR1 (f := Instr.iload) (k := 0) (i := 22) bn_cX11_meeting_0 dop_21 5 (by decide +kernel)
theorem dX11_meeting_24 : decode cX11_meeting 24 = .ok (.invokevirtual 64, 3) := dR2 (f := Instr.invokevirtual) (k := 0) (i := 24) bn_cX11_meeting_0 dop_182 64 (by decide +kernel)
theorem dX11_meeting_27 : decode cX11_meeting 27 = .ok (.ireturn, 1) := dR0 (k := 0) (i := 27) bn_cX11_meeting_0 dop_172 (by decide +kernel)
theorem dX11_meeting_28 : decode cX11_meeting 28 = .ok (.iconst (-1), 1) := dR0 (k := 0) (i := 28) bn_cX11_meeting_0 dop_2 (by decide +kernel)
theorem dX11_meeting_29 : decode cX11_meeting 29 = .ok (.istore 6, 2) := dR1 (f := Instr.istore) (k := 0) (i := 29) bn_cX11_meeting_0 dop_54 6 (by decide +kernel)
theorem dX11_meeting_31 : decode cX11_meeting 31 = .ok (.iconst 0, 1) := dR0 (k := 0) (i := 31) bn_cX11_meeting_0 dop_3 (by decide +kernel)
theorem dX11_meeting_32 : decode cX11_meeting 32 = .ok (.istore 7, 2) := dR1 (f := Instr.istore) (k := 0) (i := 32) bn_cX11_meeting_0 dop_54 7 (by decide +kernel)
theorem dX11_meeting_34 : decode cX11_meeting 34 = .ok (.aload_n 0, 1) := dR0 (k := 0) (i := 34) bn_cX11_meeting_0 dop_42 (by decide +kernel)
theorem dX11_meeting_35 : decode cX11_meeting 35 = .ok (.iload_n 1, 1) := dR0 (k := 0) (i := 35) bn_cX11_meeting_0 dop_27 (by decide +kernel)
theorem dX11_meeting_36 : decode cX11_meeting 36 = .ok (.iconst 0, 1) := dR0 (k := 0) (i := 36) bn_cX11_meeting_0 dop_3 (by decide +kernel)
theorem dX11_meeting_37 : decode cX11_meeting 37 = .ok (.invokevirtual 124, 3) := dR2 (f := Instr.invokevirtual) (k := 0) (i := 37) bn_cX11_meeting_0 dop_182 124 (by decide +kernel)
theorem dX11_meeting_40 : decode cX11_meeting 40 = .ok (.istore 8, 2) := dR1 (f := Instr.istore) (k := 0) (i := 40) bn_cX11_meeting_0 dop_54 8 (by decide +kernel)
theorem dX11_meeting_42 : decode cX11_meeting 42 = .ok (.iload 8, 2) := dR1 (f := Instr.iload) (k := 0) (i := 42) bn_cX11_meeting_0 dop_21 8 (by decide +kernel)
theorem dX11_meeting_44 : decode cX11_meeting 44 = .ok (.aload_n 0, 1) := dR0 (k := 0) (i := 44) bn_cX11_meeting_0 dop_42 (by decide +kernel)
theorem dX11_meeting_45 : decode cX11_meeting 45 = .ok (.iload_n 2, 1) := dR0 (k := 0) (i := 45) bn_cX11_meeting_0 dop_28 (by decide +kernel)
theorem dX11_meeting_46 : decode cX11_meeting 46 = .ok (.iconst 0, 1) := dR0 (k := 0) (i := 46) bn_cX11_meeting_0 dop_3 (by decide +kernel)
theorem dX11_meeting_47 : decode cX11_meeting 47 = .ok (.invokevirtual 124, 3) := dR2 (f := Instr.invokevirtual) (k := 0) (i := 47) bn_cX11_meeting_0 dop_182 124 (by decide +kernel)
theorem dX11_meeting_50 : decode cX11_meeting 50 = .ok (.if_icmp .ge 40, 3) := dR2s (f := Instr.if_icmp .ge) (k := 0) (i := 50) bn_cX11_meeting_0 dop_162 40 40 (by decide +kernel)
theorem dX11_meeting_53 : decode cX11_meeting 53 = .ok (.aload_n 0, 1) := dR0 (k := 0) (i := 53) bn_cX11_meeting_0 dop_42 (by decide +kernel)
theorem dX11_meeting_54 : decode cX11_meeting 54 = .ok (.iload_n 1, 1) := dR0 (k := 0) (i := 54) bn_cX11_meeting_0 dop_27 (by decide +kernel)
theorem dX11_meeting_55 : decode cX11_meeting 55 = .ok (.iload_n 2, 1) := dR0 (k := 0) (i := 55) bn_cX11_meeting_0 dop_28 (by decide +kernel)
theorem dX11_meeting_56 : decode cX11_meeting 56 = .ok (.iload_n 3, 1) := dR0 (k := 0) (i := 56) bn_cX11_meeting_0 dop_29 (by decide +kernel)
theorem dX11_meeting_57 : decode cX11_meeting 57 = .ok (.iload 8, 2) := dR1 (f := Instr.iload) (k := 0) (i := 57) bn_cX11_meeting_0 dop_21 8 (by decide +kernel)
theorem dX11_meeting_59 : decode cX11_meeting 59 = .ok (.invokevirtual 238, 3) := dR2 (f := Instr.invokevirtual) (k := 0) (i := 59) bn_cX11_meeting_0 dop_182 238 (by decide +kernel)
theorem dX11_meeting_62 : decode cX11_meeting 62 = .ok (.istore 9, 2) := dR1 (f := Instr.istore) (k := 0) (i := 62) bn_cX11_meeting_0 dop_54 9 (by decide +kernel)
theorem dX11_meeting_64 : decode cX11_meeting 64 = .ok (.iload 6, 2) := dR1 (f := Instr.iload) (k := 0) (i := 64) bn_cX11_meeting_0 dop_21 6 (by decide +kernel)
theorem dX11_meeting_66 : decode cX11_meeting 66 = .ok (.ifCond .lt 10, 3) := dR2s (f := Instr.ifCond .lt) (k := 0) (i := 66) bn_cX11_meeting_0 dop_155 10 10 (by decide +kernel)
theorem dX11_meeting_69 : decode cX11_meeting 69 = .ok (.iload 9, 2) := dR1 (f := Instr.iload) (k := 0) (i := 69) bn_cX11_meeting_0 dop_21 9 (by decide +kernel)
theorem dX11_meeting_71 : decode cX11_meeting 71 = .ok (.iload 7, 2) := dR1 (f := Instr.iload) (k := 0) (i := 71) bn_cX11_meeting_0 dop_21 7 (by decide +kernel)
theorem dX11_meeting_73 : decode cX11_meeting 73 = .ok (.if_icmp .ge 11, 3) := dR2s (f := Instr.if_icmp .ge) (k := 0) (i := 73) bn_cX11_meeting_0 dop_162 11 11 (by decide +kernel)
theorem dX11_meeting_76 : decode cX11_meeting 76 = .ok (.iload 8, 2) := dR1 (f := Instr.iload) (k := 0) (i := 76) bn_cX11_meeting_0 dop_21 8 (by decide +kernel)
theorem dX11_meeting_78 : decode cX11_meeting 78 = .ok (.istore 6, 2) := dR1 (f := Instr.istore) (k := 0) (i := 78) bn_cX11_meeting_0 dop_54 6 (by decide +kernel)
theorem dX11_meeting_80 : decode cX11_meeting 80 = .ok (.iload 9, 2) := dR1 (f := Instr.iload) (k := 0) (i := 80) bn_cX11_meeting_0 dop_21 9 (by decide +kernel)
theorem dX11_meeting_82 : decode cX11_meeting 82 = .ok (.istore 7, 2) := dR1 (f := Instr.istore) (k := 0) (i := 82) bn_cX11_meeting_0 dop_54 7 (by decide +kernel)
theorem dX11_meeting_84 : decode cX11_meeting 84 = .ok (.iinc 8 1, 3) := dRii (f := Instr.iinc) (k := 0) (i := 84) bn_cX11_meeting_0 dop_132 8 1 1 (by decide +kernel)
theorem dX11_meeting_87 : decode cX11_meeting 87 = .ok (.goto (-45), 3) := dR2s (f := Instr.goto) (k := 0) (i := 87) bn_cX11_meeting_0 dop_167 65491 (-45) (by decide +kernel)
theorem dX11_meeting_90 : decode cX11_meeting 90 = .ok (.iload 4, 2) := dR1 (f := Instr.iload) (k := 0) (i := 90) bn_cX11_meeting_0 dop_21 4 (by decide +kernel)
theorem dX11_meeting_92 : decode cX11_meeting 92 = .ok (.ifCond .ne 8, 3) := dR2s (f := Instr.ifCond .ne) (k := 0) (i := 92) bn_cX11_meeting_0 dop_154 8 8 (by decide +kernel)
theorem dX11_meeting_95 : decode cX11_meeting 95 = .ok (.iload 6, 2) := dR1 (f := Instr.iload) (k := 0) (i := 95) bn_cX11_meeting_0 dop_21 6 (by decide +kernel)
theorem dX11_meeting_97 : decode cX11_meeting 97 = .ok (.goto 5, 3) := dR2s (f := Instr.goto) (k := 0) (i := 97) bn_cX11_meeting_0 dop_167 5 5 (by decide +kernel)
theorem dX11_meeting_100 : decode cX11_meeting 100 = .ok (.iload 7, 2) := dR1 (f := Instr.iload) (k := 0) (i := 100) bn_cX11_meeting_0 dop_21 7 (by decide +kernel)
theorem dX11_meeting_102 : decode cX11_meeting 102 = .ok (.ireturn, 1) := dR0 (k := 0) (i := 102) bn_cX11_meeting_0 dop_172 (by decide +kernel)
set_option maxHeartbeats 4000000 in
set_option maxRecDepth 100000 in
theorem c_X11_meetingG (l : Launch) (D : va_G) (cI : ClassId) (aK aV : Nat → Nat) (k k0 k1 k2 k4 k5 k6 k7 k8 ka kb kl ko : Nat) (sz : Nat) (c3 : Int32) (c9 : Int32) (cc : Int32) (cd : Int32) (ce : Int32) (cf : Int32) (cg : Int32) (ch : Int32) (ci : Int32) (cj : Int32) (ck : Int32) (cm : Int32) (cn : Int32) (c0 : Nat → Int32) (c4 : Nat → Int32) (c5 : Nat → Int32) (c6 : Nat → Int32) (c7 : Nat → Int32) (a0 : Int32) (a1 : Int32) (a2 : Int32) (a3 : Int32) (pre0 : SIX c0 (-1)) (pre1 : ∀ k : Nat, k < 4 → 0 ≤ (c6 k).toInt ∧ (c6 k).toInt ≤ 36) : Met l yX11_meeting (gW yX11_meeting cX11_meeting 10 (some .int)) ({ frames := 3, cells := 0, slots := 0, locals := 80 } : Room) (kPreX D cI aK aV [.ref k, .int a0, .int a1, .int a2, .int a3] [(k, .inr (11, [.ref k0, .ref k1, .ref k2, .int c3, .ref k4, .ref k5, .ref k6, .ref k7, .ref k8, .int c9, .ref ka, .ref kb, .int cc, .int cd, .int ce, .int cf, .int cg, .int ch, .int ci, .int cj, .int ck, .ref kl, .int cm, .int cn, .ref ko])), (k0, .inl (cI, 1201, .inl c0)), (k4, .inl (cI, 6, .inl c4)), (k5, .inl (cI, 4, .inl c5)), (k6, .inl (cI, 4, .inl c6)), (k7, .inl (cI, 144, .inl c7))] sz) (va_Qi (fun (r : Int32) (u : (Nat → Int32)) => True) (fun u t => kWd D cI (va_A [(k, .inr (11, [.ref k0, .ref k1, .ref k2, .int c3, .ref k4, .ref k5, .ref k6, .ref k7, .ref k8, .int c9, .ref ka, .ref kb, .int cc, .int cd, .int ce, .int cf, .int cg, .int ch, .int ci, .int cj, .int ck, .ref kl, .int cm, .int cn, .ref ko])), (k0, .inl (cI, 1201, .inl c0)), (k4, .inl (cI, 6, .inl c4)), (k5, .inl (cI, 4, .inl c5)), (k6, .inl (cI, 4, .inl c6)), (k7, .inl (cI, 144, .inl c7))] sz) [(k, .inr (11, [.ref k0, .ref k1, .ref k2, .int c3, .ref k4, .ref k5, .ref k6, .ref k7, .ref k8, .int c9, .ref ka, .ref kb, .int cc, .int cd, .int ce, .int cf, .int cg, .int ch, .int ci, .int cj, .int ck, .ref kl, .int cm, .int cn, .ref ko])), (k0, .inl (cI, 1201, .inl c0)), (k4, .inl (cI, 6, .inl u)), (k5, .inl (cI, 4, .inl c5)), (k6, .inl (cI, 4, .inl c6)), (k7, .inl (cI, 144, .inl c7))] t) (va_A [(k, .inr (11, [.ref k0, .ref k1, .ref k2, .int c3, .ref k4, .ref k5, .ref k6, .ref k7, .ref k8, .int c9, .ref ka, .ref kb, .int cc, .int cd, .int ce, .int cf, .int cg, .int ch, .int ci, .int cj, .int ck, .ref kl, .int cm, .int cn, .ref ko])), (k0, .inl (cI, 1201, .inl c0)), (k4, .inl (cI, 6, .inl c4)), (k5, .inl (cI, 4, .inl c5)), (k6, .inl (cI, 4, .inl c6)), (k7, .inl (cI, 144, .inl c7))] sz)) 0 0 (va_A [(k, .inr (11, [.ref k0, .ref k1, .ref k2, .int c3, .ref k4, .ref k5, .ref k6, .ref k7, .ref k8, .int c9, .ref ka, .ref kb, .int cc, .int cd, .int ce, .int cf, .int cg, .int ch, .int ci, .int cj, .int ck, .ref kl, .int cm, .int cn, .ref ko])), (k0, .inl (cI, 1201, .inl c0)), (k4, .inl (cI, 6, .inl c4)), (k5, .inl (cI, 4, .inl c5)), (k6, .inl (cI, 4, .inl c6)), (k7, .inl (cI, 144, .inl c7))] sz) := by
  refine kMetIX (own := RX11) (by decide +kernel) rfl (Nat.le_of_ble_eq_true rfl) ?_
  intro p e s m args below meth c hx hb hT hown hname hml A Q hK hP hD hS hA hN hXS hRet ls hl
  have hl : lv_has ls 10 [(0, .ref k), (1, .int a0), (2, .int a1), (3, .int a2), (4, .int a3)] := hl
  have lo_a0 := k_lo a0
  have hi_a0 := k_hi a0
  have lo_a1 := k_lo a1
  have hi_a1 := k_hi a1
  have lo_a2 := k_lo a2
  have hi_a2 := k_hi a2
  have lo_a3 := k_lo a3
  have hi_a3 := k_hi a3
  have lo_ci := k_lo ci
  have hi_ci := k_hi ci
  have pre0 : SIX c0 (-1) := pre0
  have nb_1 : 0 ≤ (c0 0).toInt ∧ (c0 0).toInt ≤ 2000 := SB.n0 (And.left pre0)
  have nb_2 : 0 ≤ (c0 1).toInt ∧ (c0 1).toInt ≤ 60 := SB.n1 (And.left pre0)
  have nb_3 : 0 ≤ (c0 2).toInt ∧ (c0 2).toInt ≤ 4 := SB.n2 (And.left pre0)
  refine lv_aload_n hx hb dX11_meeting_0 rfl (lv_at hl 0 rfl) ?_
  refine lv_iload_n hx hb dX11_meeting_1 rfl (lv_at hl 1 rfl) ?_
  refine lv_iload_n hx hb dX11_meeting_2 rfl (lv_at hl 2 rfl) ?_
  refine lv_iload_n hx hb dX11_meeting_3 rfl (lv_at hl 3 rfl) ?_
  refine lv_iload hx hb dX11_meeting_4 (lv_at hl 4 rfl) ?_
  refine lv_iconst (v := 0) hx hb dX11_meeting_6 (by decide +kernel) ?_
  refine lv_iconst (v := 1) hx hb dX11_meeting_7 (by decide +kernel) ?_
  refine kJi (wr := [(k, .inr (11, [.ref k0, .ref k1, .ref k2, .int c3, .ref k4, .ref k5, .ref k6, .ref k7, .ref k8, .int c9, .ref ka, .ref kb, .int cc, .int cd, .int ce, .int cf, .int cg, .int ch, .int ci, .int cj, .int ck, .ref kl, .int cm, .int cn, .ref ko])), (k0, .inl (cI, 1201, .inl c0)), (k4, .inl (cI, 6, .inl c4)), (k5, .inl (cI, 4, .inl c5)), (k6, .inl (cI, 4, .inl c6)), (k7, .inl (cI, 144, .inl c7))]) (va_runS (As := [.int a3, .int 0, .int 1]) (rest := [.int a2, .int a1, .int a0, .ref k]) ⟨hx, hb, hml, hown, hT⟩ (c_X11_inG l D cI aK aV s.heap.size a3 0 1) (cwS 3 hT (gS_in mw_1238 mw_1236 mw_1237 mw_12) rfl rfl rfl (by decide +kernel) ⟨Nat.le_of_ble_eq_true rfl, Nat.le_of_ble_eq_true rfl⟩) (kStatX hK hP hD hN hXS hS hA [] rfl (by decide +kernel)) rfl rfl hl.1 rfl (lv_room (Nat.le_of_ble_eq_true rfl)) dX11_meeting_8 ⟨Nat.le_of_ble_eq_true rfl, Nat.le_of_ble_eq_true rfl⟩) hP hD hS hA [] [0, 1, 2, 3, 4, 5] rfl rfl (by decide +kernel) (by decide +kernel) ?_
  clear hP hD hS
  intro r_4 u_6 H locs w_5 hP hD hS
  replace hP : va_P D vwCl [(k, .inr (11, [.ref k0, .ref k1, .ref k2, .int c3, .ref k4, .ref k5, .ref k6, .ref k7, .ref k8, .int c9, .ref ka, .ref kb, .int cc, .int cd, .int ce, .int cf, .int cg, .int ch, .int ci, .int cj, .int ck, .ref kl, .int cm, .int cn, .ref ko])), (k0, .inl (cI, 1201, .inl c0)), (k4, .inl (cI, 6, .inl c4)), (k5, .inl (cI, 4, .inl c5)), (k6, .inl (cI, 4, .inl c6)), (k7, .inl (cI, 144, .inl c7))] H := hP
  replace hD : va_D A [(k, .inr (11, [.ref k0, .ref k1, .ref k2, .int c3, .ref k4, .ref k5, .ref k6, .ref k7, .ref k8, .int c9, .ref ka, .ref kb, .int cc, .int cd, .int ce, .int cf, .int cg, .int ch, .int ci, .int cj, .int ck, .ref kl, .int cm, .int cn, .ref ko])), (k0, .inl (cI, 1201, .inl c0)), (k4, .inl (cI, 6, .inl c4)), (k5, .inl (cI, 4, .inl c5)), (k6, .inl (cI, 4, .inl c6)), (k7, .inl (cI, 144, .inl c7))] := hD
  rcases w_5 with ⟨hr_4, h_7, h_8⟩ | ⟨hr_4, h_9⟩
  · try simp only [zl_0, zl_1] at h_7
    have h_7 : 0 ≤ a3.toInt := h_7
    try simp only [zl_0, zl_1] at h_8
    have h_8 : a3.toInt ≤ 1 := h_8
    obtain rfl : r_4 = 1 := hr_4.trans (by decide +kernel)
    refine kJi (wr := [(k4, .inl (cI, 6, .inl c4))]) (va_runV (As := [.int a0, .int a1, .int a2, .int 1]) (rest := []) ⟨hx, hb, hml, hown, hT⟩ (c_X11_noMeetingG l D cI aK aV k k0 k1 k2 k4 k5 k6 k7 k8 ka kb kl ko H.size c3 c9 cc cd ce cf cg ch ci cj ck cm cn c0 c5 c6 c7 a0 a1 a2 1 pre0 pre1) (cwV 4 hT (gV_in mw_1515 mw_1512 mw_1514 mw_p5_12 mw_12) rfl rfl rfl (by decide +kernel) ⟨Nat.le_of_ble_eq_true rfl, Nat.le_of_ble_eq_true rfl⟩) (kRecvX (q0 := 0) (ci := 11) hK hP hD hN hXS hS hA rfl rfl [0, 1, 3, 4, 5] rfl (by decide +kernel)) rfl rfl hl.1 rfl (lv_room (Nat.le_of_ble_eq_true rfl)) dX11_meeting_11 ⟨Nat.le_of_ble_eq_true rfl, Nat.le_of_ble_eq_true rfl⟩) hP hD hS hA [0, 1, 3, 4, 5] [2] rfl rfl (by decide +kernel) (by decide +kernel) ?_
    clear hP hD hS
    intro r_10 u_12 H locs w_11 hP hD hS
    replace hP : va_P D vwCl [(k4, .inl (cI, 6, .inl c4)), (k, .inr (11, [.ref k0, .ref k1, .ref k2, .int c3, .ref k4, .ref k5, .ref k6, .ref k7, .ref k8, .int c9, .ref ka, .ref kb, .int cc, .int cd, .int ce, .int cf, .int cg, .int ch, .int ci, .int cj, .int ck, .ref kl, .int cm, .int cn, .ref ko])), (k0, .inl (cI, 1201, .inl c0)), (k5, .inl (cI, 4, .inl c5)), (k6, .inl (cI, 4, .inl c6)), (k7, .inl (cI, 144, .inl c7))] H := hP
    replace hD : va_D A [(k4, .inl (cI, 6, .inl c4)), (k, .inr (11, [.ref k0, .ref k1, .ref k2, .int c3, .ref k4, .ref k5, .ref k6, .ref k7, .ref k8, .int c9, .ref ka, .ref kb, .int cc, .int cd, .int ce, .int cf, .int cg, .int ch, .int ci, .int cj, .int ck, .ref kl, .int cm, .int cn, .ref ko])), (k0, .inl (cI, 1201, .inl c0)), (k5, .inl (cI, 4, .inl c5)), (k6, .inl (cI, 4, .inl c6)), (k7, .inl (cI, 144, .inl c7))] := hD
    rcases w_11 with ⟨hr_10, h_13, h_14, h_15, h_16, h_17, h_18, h_19, h_20, h_21, h_22, h_23, h_24, h_25, h_26⟩ | ⟨h_27, h_28⟩
    · try simp only [zl_1] at h_13
      have h_13 : 0 ≤ a0.toInt := h_13
      try simp only [zl_1] at h_14
      have h_14 : a0.toInt < (c0 2).toInt := h_14
      try simp only [zl_1] at h_15
      have h_15 : 0 ≤ a1.toInt := h_15
      try simp only [zl_1] at h_16
      have h_16 : a1.toInt < (c0 2).toInt := h_16
      try simp only [zl_1] at h_17
      have h_17 : (pW c0 a0 1).toInt = 1 := h_17
      try simp only [zl_1] at h_18
      have h_18 : (pW c0 a1 1).toInt = (-1) := h_18
      try simp only [zl_1] at h_19
      have h_19 : 1 ≤ (pW c0 a0 2).toInt := h_19
      try simp only [zl_1] at h_20
      have h_20 : 1 ≤ (pW c0 a1 2).toInt := h_20
      try simp only [zl_1] at h_21
      have h_21 : 0 ≤ a2.toInt := h_21
      try simp only [zl_1] at h_22
      have h_22 : a2.toInt ≤ 3 := h_22
      try simp only [zl_1] at h_23
      have h_23 : 12 ≤ (c6 a2.toNatClampNeg).toInt := h_23
      try simp only [zl_1] at h_24
      have h_24 : (c6 a2.toNatClampNeg).toInt ≤ 36 := h_24
      try simp only [zl_1] at h_25
      have h_25 : ∀ k : Nat, (k : Int) < (c6 a2.toNatClampNeg).toInt → 0 ≤ (c7 (36 * a2.toInt.toNat + k)).toInt ∧ (c7 (36 * a2.toInt.toNat + k)).toInt ≤ 9 := h_25
      try simp only [zl_1] at h_26
      have h_26 : (pW c0 a0 0).toInt < (pW c0 a1 0).toInt := h_26
      obtain rfl : r_10 = 0 := hr_10.trans (by decide +kernel)
      refine lv_istore (lv' := [(5, .int 0), (0, .ref k), (1, .int a0), (2, .int a1), (3, .int a2), (4, .int a3)]) hx hb dX11_meeting_14 hl (by decide +kernel) rfl ?_
      clear hl
      intro ls hl
      refine lv_iload hx hb dX11_meeting_16 (lv_at hl 0 rfl) ?_
      refine b_if_eq hx hb zl_0 (tgt := 28) dX11_meeting_18 (by decide +kernel) (fun c_29 => ?_) (fun c_29 => by exfalso; omega)
      refine lv_iconst (v := (-1)) hx hb dX11_meeting_28 (by decide +kernel) ?_
      refine lv_istore (lv' := [(6, .int (-1)), (5, .int 0), (0, .ref k), (1, .int a0), (2, .int a1), (3, .int a2), (4, .int a3)]) hx hb dX11_meeting_29 hl (by decide +kernel) rfl ?_
      clear hl
      intro ls hl
      refine lv_iconst (v := 0) hx hb dX11_meeting_31 (by decide +kernel) ?_
      refine lv_istore (lv' := [(7, .int 0), (6, .int (-1)), (5, .int 0), (0, .ref k), (1, .int a0), (2, .int a1), (3, .int a2), (4, .int a3)]) hx hb dX11_meeting_32 hl (by decide +kernel) rfl ?_
      clear hl
      intro ls hl
      refine lv_aload_n hx hb dX11_meeting_34 rfl (lv_at hl 3 rfl) ?_
      refine lv_iload_n hx hb dX11_meeting_35 rfl (lv_at hl 4 rfl) ?_
      refine lv_iconst (v := 0) hx hb dX11_meeting_36 (by decide +kernel) ?_
      refine kJi (wr := [(k4, .inl (cI, 6, .inl c4)), (k5, .inl (cI, 4, .inl c5)), (k6, .inl (cI, 4, .inl c6)), (k7, .inl (cI, 144, .inl c7))]) (va_runV (As := [.int a0, .int 0]) (rest := []) ⟨hx, hb, hml, hown, hT⟩ (c_X11_partyG0 l D cI aK aV k k0 k1 k2 k4 k5 k6 k7 k8 ka kb kl ko H.size c3 c9 cc cd ce cf cg ch ci cj ck cm cn c0 a0 0 (by first | omega | (simp only [zl_0]; first | done | omega) | decide | assumption | rfl) (by first | omega | (simp only [zl_0]; first | done | omega) | decide | assumption | rfl) (by first | omega | (simp only [zl_0]; first | done | omega) | decide | assumption | rfl)) (cwV 2 hT (gV_in mw_1416 mw_1413 mw_1415 mw_p5_5 mw_12) rfl rfl rfl (by decide +kernel) ⟨Nat.le_of_ble_eq_true rfl, Nat.le_of_ble_eq_true rfl⟩) (kRecvX (q0 := 1) (ci := 11) hK hP hD hN hXS hS hA rfl rfl [1, 2] rfl (by decide +kernel)) rfl rfl hl.1 rfl (lv_room (Nat.le_of_ble_eq_true rfl)) dX11_meeting_37 ⟨Nat.le_of_ble_eq_true rfl, Nat.le_of_ble_eq_true rfl⟩) hP hD hS hA [1, 2] [0, 3, 4, 5] rfl rfl (by decide +kernel) (by decide +kernel) ?_
      clear hP hD hS
      intro r_30 u_32 H locs w_31 hP hD hS
      replace hP : va_P D vwCl [(k4, .inl (cI, 6, .inl c4)), (k5, .inl (cI, 4, .inl c5)), (k6, .inl (cI, 4, .inl c6)), (k7, .inl (cI, 144, .inl c7)), (k, .inr (11, [.ref k0, .ref k1, .ref k2, .int c3, .ref k4, .ref k5, .ref k6, .ref k7, .ref k8, .int c9, .ref ka, .ref kb, .int cc, .int cd, .int ce, .int cf, .int cg, .int ch, .int ci, .int cj, .int ck, .ref kl, .int cm, .int cn, .ref ko])), (k0, .inl (cI, 1201, .inl c0))] H := hP
      replace hD : va_D A [(k4, .inl (cI, 6, .inl c4)), (k5, .inl (cI, 4, .inl c5)), (k6, .inl (cI, 4, .inl c6)), (k7, .inl (cI, 144, .inl c7)), (k, .inr (11, [.ref k0, .ref k1, .ref k2, .int c3, .ref k4, .ref k5, .ref k6, .ref k7, .ref k8, .int c9, .ref ka, .ref kb, .int cc, .int cd, .int ce, .int cf, .int cg, .int ch, .int ci, .int cj, .int ck, .ref kl, .int cm, .int cn, .ref ko])), (k0, .inl (cI, 1201, .inl c0))] := hD
      have h_33 := w_31
      have h_33 : r_30 = pW c0 a0 0 := h_33
      have t_34 : r_30.toInt = (pW c0 a0 0).toInt := by rw [h_33]
      have b_35 : 0 ≤ r_30.toInt ∧ r_30.toInt ≤ 39 := by rw [h_33]; exact SB.p0 (And.left pre0) (by omega) (by omega)
      have lo_r_30 := k_lo r_30
      have hi_r_30 := k_hi r_30
      refine lv_istore (lv' := [(8, .int r_30), (7, .int 0), (6, .int (-1)), (5, .int 0), (0, .ref k), (1, .int a0), (2, .int a1), (3, .int a2), (4, .int a3)]) hx hb dX11_meeting_40 hl (by decide +kernel) rfl ?_
      clear hl
      intro ls hl
      have hloop_42 : ∀ (fu_ : Nat) (l42_6 : Int32) (l42_7 : Int32) (l42_8 : Int32), (-1) ≤ l42_6.toInt → r_30.toInt ≤ l42_8.toInt → l42_8.toInt ≤ 39 → (pW c0 a0 0).toInt ≤ l42_8.toInt → (40 - l42_8.toInt).toNat < fu_ → ∀ (ls : Array Slot) (H : Heap) (locs : List Loc), lv_has ls 10 [(8, .int l42_8), (7, .int l42_7), (6, .int l42_6), (5, .int 0), (0, .ref k), (1, .int a0), (2, .int a1), (3, .int a2), (4, .int a3)] → va_P D vwCl [(k4, .inl (cI, 6, .inl c4)), (k5, .inl (cI, 4, .inl c5)), (k6, .inl (cI, 4, .inl c6)), (k7, .inl (cI, 144, .inl c7)), (k, .inr (11, [.ref k0, .ref k1, .ref k2, .int c3, .ref k4, .ref k5, .ref k6, .ref k7, .ref k8, .int c9, .ref ka, .ref kb, .int cc, .int cd, .int ce, .int cf, .int cg, .int ch, .int ci, .int cj, .int ck, .ref kl, .int cm, .int cn, .ref ko])), (k0, .inl (cI, 1201, .inl c0))] H → va_D A [(k4, .inl (cI, 6, .inl c4)), (k5, .inl (cI, 4, .inl c5)), (k6, .inl (cI, 4, .inl c6)), (k7, .inl (cI, 144, .inl c7)), (k, .inr (11, [.ref k0, .ref k1, .ref k2, .int c3, .ref k4, .ref k5, .ref k6, .ref k7, .ref k8, .int c9, .ref ka, .ref kb, .int cc, .int cd, .int ce, .int cf, .int cg, .int ch, .int ci, .int cj, .int ck, .ref kl, .int cm, .int cn, .ref ko])), (k0, .inl (cI, 1201, .inl c0))] → va_S A s.heap H locs → W p l e ({ frames := 3, cells := 0, slots := 0, locals := 80 } : Room) s m args below meth c H locs 0 0 Q (F0 m 42 ls []) := by
        intro fu_; induction fu_ with
        | zero => intro l42_6 l42_7 l42_8 i42_0 i42_1 i42_2 i42_3 hm; exact absurd hm (by omega)
        | succ fu_ ih42 =>
            intro l42_6 l42_7 l42_8 i42_0 i42_1 i42_2 i42_3 hm ls H locs hl hP hD hS
            have lo_l42_6 := k_lo l42_6
            have hi_l42_6 := k_hi l42_6
            have lo_l42_7 := k_lo l42_7
            have hi_l42_7 := k_hi l42_7
            have lo_l42_8 := k_lo l42_8
            have hi_l42_8 := k_hi l42_8
            refine lv_iload hx hb dX11_meeting_42 (lv_at hl 0 rfl) ?_
            refine lv_aload_n hx hb dX11_meeting_44 rfl (lv_at hl 4 rfl) ?_
            refine lv_iload_n hx hb dX11_meeting_45 rfl (lv_at hl 6 rfl) ?_
            refine lv_iconst (v := 0) hx hb dX11_meeting_46 (by decide +kernel) ?_
            refine kJi (wr := [(k4, .inl (cI, 6, .inl c4)), (k5, .inl (cI, 4, .inl c5)), (k6, .inl (cI, 4, .inl c6)), (k7, .inl (cI, 144, .inl c7))]) (va_runV (As := [.int a1, .int 0]) (rest := [.int l42_8]) ⟨hx, hb, hml, hown, hT⟩ (c_X11_partyG0 l D cI aK aV k k0 k1 k2 k4 k5 k6 k7 k8 ka kb kl ko H.size c3 c9 cc cd ce cf cg ch ci cj ck cm cn c0 a1 0 (by first | omega | (simp only [zl_0]; first | done | omega) | decide | assumption | rfl) (by first | omega | (simp only [zl_0]; first | done | omega) | decide | assumption | rfl) (by first | omega | (simp only [zl_0]; first | done | omega) | decide | assumption | rfl)) (cwV 2 hT (gV_in mw_1416 mw_1413 mw_1415 mw_p5_5 mw_12) rfl rfl rfl (by decide +kernel) ⟨Nat.le_of_ble_eq_true rfl, Nat.le_of_ble_eq_true rfl⟩) (kRecvX (q0 := 4) (ci := 11) hK hP hD hN hXS hS hA rfl rfl [4, 5] rfl (by decide +kernel)) rfl rfl hl.1 rfl (lv_room (Nat.le_of_ble_eq_true rfl)) dX11_meeting_47 ⟨Nat.le_of_ble_eq_true rfl, Nat.le_of_ble_eq_true rfl⟩) hP hD hS hA [4, 5] [0, 1, 2, 3] rfl rfl (by decide +kernel) (by decide +kernel) ?_
            clear hP hD hS
            intro r_36 u_38 H locs w_37 hP hD hS
            replace hP : va_P D vwCl [(k4, .inl (cI, 6, .inl c4)), (k5, .inl (cI, 4, .inl c5)), (k6, .inl (cI, 4, .inl c6)), (k7, .inl (cI, 144, .inl c7)), (k, .inr (11, [.ref k0, .ref k1, .ref k2, .int c3, .ref k4, .ref k5, .ref k6, .ref k7, .ref k8, .int c9, .ref ka, .ref kb, .int cc, .int cd, .int ce, .int cf, .int cg, .int ch, .int ci, .int cj, .int ck, .ref kl, .int cm, .int cn, .ref ko])), (k0, .inl (cI, 1201, .inl c0))] H := hP
            replace hD : va_D A [(k4, .inl (cI, 6, .inl c4)), (k5, .inl (cI, 4, .inl c5)), (k6, .inl (cI, 4, .inl c6)), (k7, .inl (cI, 144, .inl c7)), (k, .inr (11, [.ref k0, .ref k1, .ref k2, .int c3, .ref k4, .ref k5, .ref k6, .ref k7, .ref k8, .int c9, .ref ka, .ref kb, .int cc, .int cd, .int ce, .int cf, .int cg, .int ch, .int ci, .int cj, .int ck, .ref kl, .int cm, .int cn, .ref ko])), (k0, .inl (cI, 1201, .inl c0))] := hD
            have h_39 := w_37
            have h_39 : r_36 = pW c0 a1 0 := h_39
            have t_40 : r_36.toInt = (pW c0 a1 0).toInt := by rw [h_39]
            have b_41 : 0 ≤ r_36.toInt ∧ r_36.toInt ≤ 39 := by rw [h_39]; exact SB.p0 (And.left pre0) (by omega) (by omega)
            have lo_r_36 := k_lo r_36
            have hi_r_36 := k_hi r_36
            refine b_icmp_ge hx hb rfl rfl (tgt := 90) dX11_meeting_50 (by decide +kernel) (fun c_42 => ?_) (fun c_42 => ?_)
            · refine lv_iload hx hb dX11_meeting_90 (lv_at hl 8 rfl) ?_
              refine b_if_ne hx hb rfl (tgt := 100) dX11_meeting_92 (by decide +kernel) (fun c_43 => ?_) (fun c_43 => ?_)
              · refine lv_iload hx hb dX11_meeting_100 (lv_at hl 1 rfl) ?_
                exact hRet c4 [4, 5, 0, 1, 2, 3] trivial hP hD (by decide +kernel) rfl hS rfl dX11_meeting_102
              · refine lv_iload hx hb dX11_meeting_95 (lv_at hl 2 rfl) ?_
                refine lv_goto (tgt := 102) hx hb dX11_meeting_97 (by decide +kernel) ?_
                exact hRet c4 [4, 5, 0, 1, 2, 3] trivial hP hD (by decide +kernel) rfl hS rfl dX11_meeting_102
            · refine lv_aload_n hx hb dX11_meeting_53 rfl (lv_at hl 4 rfl) ?_
              refine lv_iload_n hx hb dX11_meeting_54 rfl (lv_at hl 5 rfl) ?_
              refine lv_iload_n hx hb dX11_meeting_55 rfl (lv_at hl 6 rfl) ?_
              refine lv_iload_n hx hb dX11_meeting_56 rfl (lv_at hl 7 rfl) ?_
              refine lv_iload hx hb dX11_meeting_57 (lv_at hl 0 rfl) ?_
              refine kJi (wr := [(k4, .inl (cI, 6, .inl c4)), (k5, .inl (cI, 4, .inl c5))]) (va_runV (As := [.int a0, .int a1, .int a2, .int l42_8]) (rest := []) ⟨hx, hb, hml, hown, hT⟩ (c_X11_worstG l D cI aK aV k k0 k1 k2 k4 k5 k6 k7 k8 ka kb kl ko H.size c3 c9 cc cd ce cf cg ch ci cj ck cm cn c0 c6 c7 a0 a1 a2 l42_8 (And.left pre0) pre1 (by first | omega | decide | assumption | rfl) (by first | omega | decide | assumption | rfl) (by first | omega | decide | assumption | rfl) (by first | omega | decide | assumption | rfl) (by first | omega | decide | assumption | rfl) (by first | omega | decide | assumption | rfl) (by first | omega | decide | assumption | rfl) (by first | omega | decide | assumption | rfl) (by first | omega | decide | assumption | rfl) (by first | omega | decide | assumption | rfl) (by first | omega | decide | assumption | rfl) (by first | omega | decide | assumption | rfl) (by first | omega | decide | assumption | rfl) (by first | omega | decide | assumption | rfl) (by first | omega | decide | assumption | rfl)) (cwV 4 hT (gV_in mw_1519 mw_1516 mw_1518 mw_p5_13 mw_12) rfl rfl rfl (by decide +kernel) ⟨Nat.le_of_ble_eq_true rfl, Nat.le_of_ble_eq_true rfl⟩) (kRecvX (q0 := 4) (ci := 11) hK hP hD hN hXS hS hA rfl rfl [4, 5, 2, 3] rfl (by decide +kernel)) rfl rfl hl.1 rfl (lv_room (Nat.le_of_ble_eq_true rfl)) dX11_meeting_59 ⟨Nat.le_of_ble_eq_true rfl, Nat.le_of_ble_eq_true rfl⟩) hP hD hS hA [4, 5, 2, 3] [0, 1] rfl rfl (by decide +kernel) (by decide +kernel) ?_
              clear hP hD hS
              intro r_44 u_46 H locs w_45 hP hD hS
              replace hP : va_P D vwCl [(k4, .inl (cI, 6, .inl c4)), (k5, .inl (cI, 4, .inl c5)), (k, .inr (11, [.ref k0, .ref k1, .ref k2, .int c3, .ref k4, .ref k5, .ref k6, .ref k7, .ref k8, .int c9, .ref ka, .ref kb, .int cc, .int cd, .int ce, .int cf, .int cg, .int ch, .int ci, .int cj, .int ck, .ref kl, .int cm, .int cn, .ref ko])), (k0, .inl (cI, 1201, .inl c0)), (k6, .inl (cI, 4, .inl c6)), (k7, .inl (cI, 144, .inl c7))] H := hP
              replace hD : va_D A [(k4, .inl (cI, 6, .inl c4)), (k5, .inl (cI, 4, .inl c5)), (k, .inr (11, [.ref k0, .ref k1, .ref k2, .int c3, .ref k4, .ref k5, .ref k6, .ref k7, .ref k8, .int c9, .ref ka, .ref kb, .int cc, .int cd, .int ce, .int cf, .int cg, .int ch, .int ci, .int cj, .int ck, .ref kl, .int cm, .int cn, .ref ko])), (k0, .inl (cI, 1201, .inl c0)), (k6, .inl (cI, 4, .inl c6)), (k7, .inl (cI, 144, .inl c7))] := hD
              have lo_r_44 := k_lo r_44
              have hi_r_44 := k_hi r_44
              refine lv_istore (lv' := [(9, .int r_44), (8, .int l42_8), (7, .int l42_7), (6, .int l42_6), (5, .int 0), (0, .ref k), (1, .int a0), (2, .int a1), (3, .int a2), (4, .int a3)]) hx hb dX11_meeting_62 hl (by decide +kernel) rfl ?_
              clear hl
              intro ls hl
              refine lv_iload hx hb dX11_meeting_64 (lv_at hl 3 rfl) ?_
              refine b_if_lt hx hb rfl (tgt := 76) dX11_meeting_66 (by decide +kernel) (fun c_47 => ?_) (fun c_47 => ?_)
              · refine lv_iload hx hb dX11_meeting_76 (lv_at hl 1 rfl) ?_
                refine lv_istore (lv' := [(6, .int l42_8), (9, .int r_44), (8, .int l42_8), (7, .int l42_7), (5, .int 0), (0, .ref k), (1, .int a0), (2, .int a1), (3, .int a2), (4, .int a3)]) hx hb dX11_meeting_78 hl (by decide +kernel) rfl ?_
                clear hl
                intro ls hl
                refine lv_iload hx hb dX11_meeting_80 (lv_at hl 1 rfl) ?_
                refine lv_istore (lv' := [(7, .int r_44), (6, .int l42_8), (9, .int r_44), (8, .int l42_8), (5, .int 0), (0, .ref k), (1, .int a0), (2, .int a1), (3, .int a2), (4, .int a3)]) hx hb dX11_meeting_82 hl (by decide +kernel) rfl ?_
                clear hl
                intro ls hl
                obtain ⟨v_48, ev_48⟩ : ∃ y : Int32, y = l42_8 + 1 := ⟨_, rfl⟩
                have tv_48 : v_48.toInt = l42_8.toInt + 1 := by rw [ev_48]; exact k_addv rfl zl_1 (by omega) (by omega)
                refine lv_iinc (v := v_48) (lv' := [(8, .int v_48), (7, .int r_44), (6, .int l42_8), (9, .int r_44), (5, .int 0), (0, .ref k), (1, .int a0), (2, .int a1), (3, .int a2), (4, .int a3)]) hx hb dX11_meeting_84 hl (k := 3) rfl (by rw [ev_48]; rfl) (by decide +kernel) rfl ?_
                clear hl
                intro ls hl
                refine lv_goto (tgt := 42) hx hb dX11_meeting_87 (by decide +kernel) ?_
                exact ih42 l42_8 r_44 v_48 (by first | omega | decide | assumption | rfl) (by first | omega | decide | assumption | rfl) (by first | omega | decide | assumption | rfl) (by first | omega | decide | assumption | rfl) (by omega) ls _ _ (lv_sub hl [0, 1, 2, 4, 5, 6, 7, 8, 9] rfl) (hP.sub [0, 1, 4, 5, 2, 3] rfl) (hD.sub [0, 1, 4, 5, 2, 3] (by decide +kernel) rfl) hS
              · refine lv_iload hx hb dX11_meeting_69 (lv_at hl 0 rfl) ?_
                refine lv_iload hx hb dX11_meeting_71 (lv_at hl 2 rfl) ?_
                refine b_icmp_ge hx hb rfl rfl (tgt := 84) dX11_meeting_73 (by decide +kernel) (fun c_49 => ?_) (fun c_49 => ?_)
                · obtain ⟨v_50, ev_50⟩ : ∃ y : Int32, y = l42_8 + 1 := ⟨_, rfl⟩
                  have tv_50 : v_50.toInt = l42_8.toInt + 1 := by rw [ev_50]; exact k_addv rfl zl_1 (by omega) (by omega)
                  refine lv_iinc (v := v_50) (lv' := [(8, .int v_50), (9, .int r_44), (7, .int l42_7), (6, .int l42_6), (5, .int 0), (0, .ref k), (1, .int a0), (2, .int a1), (3, .int a2), (4, .int a3)]) hx hb dX11_meeting_84 hl (k := 1) rfl (by rw [ev_50]; rfl) (by decide +kernel) rfl ?_
                  clear hl
                  intro ls hl
                  refine lv_goto (tgt := 42) hx hb dX11_meeting_87 (by decide +kernel) ?_
                  exact ih42 l42_6 l42_7 v_50 (by first | omega | decide | assumption | rfl) (by first | omega | decide | assumption | rfl) (by first | omega | decide | assumption | rfl) (by first | omega | decide | assumption | rfl) (by omega) ls _ _ (lv_sub hl [0, 2, 3, 4, 5, 6, 7, 8, 9] rfl) (hP.sub [0, 1, 4, 5, 2, 3] rfl) (hD.sub [0, 1, 4, 5, 2, 3] (by decide +kernel) rfl) hS
                · refine lv_iload hx hb dX11_meeting_76 (lv_at hl 1 rfl) ?_
                  refine lv_istore (lv' := [(6, .int l42_8), (9, .int r_44), (8, .int l42_8), (7, .int l42_7), (5, .int 0), (0, .ref k), (1, .int a0), (2, .int a1), (3, .int a2), (4, .int a3)]) hx hb dX11_meeting_78 hl (by decide +kernel) rfl ?_
                  clear hl
                  intro ls hl
                  refine lv_iload hx hb dX11_meeting_80 (lv_at hl 1 rfl) ?_
                  refine lv_istore (lv' := [(7, .int r_44), (6, .int l42_8), (9, .int r_44), (8, .int l42_8), (5, .int 0), (0, .ref k), (1, .int a0), (2, .int a1), (3, .int a2), (4, .int a3)]) hx hb dX11_meeting_82 hl (by decide +kernel) rfl ?_
                  clear hl
                  intro ls hl
                  obtain ⟨v_51, ev_51⟩ : ∃ y : Int32, y = l42_8 + 1 := ⟨_, rfl⟩
                  have tv_51 : v_51.toInt = l42_8.toInt + 1 := by rw [ev_51]; exact k_addv rfl zl_1 (by omega) (by omega)
                  refine lv_iinc (v := v_51) (lv' := [(8, .int v_51), (7, .int r_44), (6, .int l42_8), (9, .int r_44), (5, .int 0), (0, .ref k), (1, .int a0), (2, .int a1), (3, .int a2), (4, .int a3)]) hx hb dX11_meeting_84 hl (k := 3) rfl (by rw [ev_51]; rfl) (by decide +kernel) rfl ?_
                  clear hl
                  intro ls hl
                  refine lv_goto (tgt := 42) hx hb dX11_meeting_87 (by decide +kernel) ?_
                  exact ih42 l42_8 r_44 v_51 (by first | omega | decide | assumption | rfl) (by first | omega | decide | assumption | rfl) (by first | omega | decide | assumption | rfl) (by first | omega | decide | assumption | rfl) (by omega) ls _ _ (lv_sub hl [0, 1, 2, 4, 5, 6, 7, 8, 9] rfl) (hP.sub [0, 1, 4, 5, 2, 3] rfl) (hD.sub [0, 1, 4, 5, 2, 3] (by decide +kernel) rfl) hS
      exact hloop_42 _ (-1) 0 r_30 (by first | omega | (simp only [zl_m1, zl_0]; first | done | omega) | decide | assumption | rfl) (by first | omega | (simp only [zl_m1, zl_0]; first | done | omega) | decide | assumption | rfl) (by first | omega | (simp only [zl_m1, zl_0]; first | done | omega) | decide | assumption | rfl) (by first | omega | (simp only [zl_m1, zl_0]; first | done | omega) | decide | assumption | rfl) (Nat.lt_succ_self _) ls _ _ (lv_sub hl [0, 1, 2, 3, 4, 5, 6, 7, 8] rfl) hP hD hS
    · try simp only [zl_1] at h_27
      have h_27 : -1000005 ≤ r_10.toInt := h_27
      try simp only [zl_1] at h_28
      have h_28 : r_10.toInt ≤ -1000001 := h_28
      have lo_r_10 := k_lo r_10
      have hi_r_10 := k_hi r_10
      refine lv_istore (lv' := [(5, .int r_10), (0, .ref k), (1, .int a0), (2, .int a1), (3, .int a2), (4, .int a3)]) hx hb dX11_meeting_14 hl (by decide +kernel) rfl ?_
      clear hl
      intro ls hl
      refine lv_iload hx hb dX11_meeting_16 (lv_at hl 0 rfl) ?_
      refine b_if_eq hx hb rfl (tgt := 28) dX11_meeting_18 (by decide +kernel) (fun c_52 => by exfalso; omega) (fun c_52 => ?_)
      refine lv_aload_n hx hb dX11_meeting_21 rfl (lv_at hl 1 rfl) ?_
      refine lv_iload hx hb dX11_meeting_22 (lv_at hl 0 rfl) ?_
      refine kJi (wr := [(k0, .inl (cI, 1201, .inl c0)), (k5, .inl (cI, 4, .inl c5)), (k6, .inl (cI, 4, .inl c6)), (k7, .inl (cI, 144, .inl c7))]) (va_runV (As := [.int r_10]) (rest := []) ⟨hx, hb, hml, hown, hT⟩ (c_X11_findingG l D cI aK aV k k0 k1 k2 k4 k5 k6 k7 k8 ka kb kl ko H.size c3 c9 cc cd ce cf cg ch ci cj ck cm cn c4 r_10 (by first | omega | decide | assumption | rfl) (by first | omega | decide | assumption | rfl)) (cwV 1 hT (gV_in mw_1243 mw_1240 mw_1242 mw_p3_8 mw_12) rfl rfl rfl (by decide +kernel) ⟨Nat.le_of_ble_eq_true rfl, Nat.le_of_ble_eq_true rfl⟩) (kRecvX (q0 := 1) (ci := 11) hK hP hD hN hXS hS hA rfl rfl [1, 0] rfl (by decide +kernel)) rfl rfl hl.1 rfl (lv_room (Nat.le_of_ble_eq_true rfl)) dX11_meeting_24 ⟨Nat.le_of_ble_eq_true rfl, Nat.le_of_ble_eq_true rfl⟩) hP hD hS hA [1, 0] [2, 3, 4, 5] rfl rfl (by decide +kernel) (by decide +kernel) ?_
      clear hP hD hS
      intro r_53 sc4_55 H locs w_54 hP hD hS
      replace hP : va_P D vwCl [(k0, .inl (cI, 1201, .inl c0)), (k5, .inl (cI, 4, .inl c5)), (k6, .inl (cI, 4, .inl c6)), (k7, .inl (cI, 144, .inl c7)), (k, .inr (11, [.ref k0, .ref k1, .ref k2, .int c3, .ref k4, .ref k5, .ref k6, .ref k7, .ref k8, .int c9, .ref ka, .ref kb, .int cc, .int cd, .int ce, .int cf, .int cg, .int ch, .int ci, .int cj, .int ck, .ref kl, .int cm, .int cn, .ref ko])), (k4, .inl (cI, 6, .inl sc4_55))] H := hP
      replace hD : va_D A [(k0, .inl (cI, 1201, .inl c0)), (k5, .inl (cI, 4, .inl c5)), (k6, .inl (cI, 4, .inl c6)), (k7, .inl (cI, 144, .inl c7)), (k, .inr (11, [.ref k0, .ref k1, .ref k2, .int c3, .ref k4, .ref k5, .ref k6, .ref k7, .ref k8, .int c9, .ref ka, .ref kb, .int cc, .int cd, .int ce, .int cf, .int cg, .int ch, .int ci, .int cj, .int ck, .ref kl, .int cm, .int cn, .ref ko])), (k4, .inl (cI, 6, .inl sc4_55))] := hD
      have hr_53 := w_54
      have hr_53 : r_53 = r_10 := hr_53
      subst r_53
      exact hRet sc4_55 [4, 0, 5, 1, 2, 3] trivial hP hD (by decide +kernel) rfl hS rfl dX11_meeting_27
  · try simp only [zl_0, zl_1] at h_9
    have h_9 : a3.toInt < 0 ∨ 1 < a3.toInt := h_9
    obtain rfl : r_4 = 0 := hr_4.trans (by decide +kernel)
    refine kJi (wr := [(k4, .inl (cI, 6, .inl c4))]) (va_runV (As := [.int a0, .int a1, .int a2, .int 0]) (rest := []) ⟨hx, hb, hml, hown, hT⟩ (c_X11_noMeetingG l D cI aK aV k k0 k1 k2 k4 k5 k6 k7 k8 ka kb kl ko H.size c3 c9 cc cd ce cf cg ch ci cj ck cm cn c0 c5 c6 c7 a0 a1 a2 0 pre0 pre1) (cwV 4 hT (gV_in mw_1515 mw_1512 mw_1514 mw_p5_12 mw_12) rfl rfl rfl (by decide +kernel) ⟨Nat.le_of_ble_eq_true rfl, Nat.le_of_ble_eq_true rfl⟩) (kRecvX (q0 := 0) (ci := 11) hK hP hD hN hXS hS hA rfl rfl [0, 1, 3, 4, 5] rfl (by decide +kernel)) rfl rfl hl.1 rfl (lv_room (Nat.le_of_ble_eq_true rfl)) dX11_meeting_11 ⟨Nat.le_of_ble_eq_true rfl, Nat.le_of_ble_eq_true rfl⟩) hP hD hS hA [0, 1, 3, 4, 5] [2] rfl rfl (by decide +kernel) (by decide +kernel) ?_
    clear hP hD hS
    intro r_56 u_58 H locs w_57 hP hD hS
    replace hP : va_P D vwCl [(k4, .inl (cI, 6, .inl c4)), (k, .inr (11, [.ref k0, .ref k1, .ref k2, .int c3, .ref k4, .ref k5, .ref k6, .ref k7, .ref k8, .int c9, .ref ka, .ref kb, .int cc, .int cd, .int ce, .int cf, .int cg, .int ch, .int ci, .int cj, .int ck, .ref kl, .int cm, .int cn, .ref ko])), (k0, .inl (cI, 1201, .inl c0)), (k5, .inl (cI, 4, .inl c5)), (k6, .inl (cI, 4, .inl c6)), (k7, .inl (cI, 144, .inl c7))] H := hP
    replace hD : va_D A [(k4, .inl (cI, 6, .inl c4)), (k, .inr (11, [.ref k0, .ref k1, .ref k2, .int c3, .ref k4, .ref k5, .ref k6, .ref k7, .ref k8, .int c9, .ref ka, .ref kb, .int cc, .int cd, .int ce, .int cf, .int cg, .int ch, .int ci, .int cj, .int ck, .ref kl, .int cm, .int cn, .ref ko])), (k0, .inl (cI, 1201, .inl c0)), (k5, .inl (cI, 4, .inl c5)), (k6, .inl (cI, 4, .inl c6)), (k7, .inl (cI, 144, .inl c7))] := hD
    rcases w_57 with ⟨hr_56, h_59, h_60, h_61, h_62, h_63, h_64, h_65, h_66, h_67, h_68, h_69, h_70, h_71, h_72⟩ | ⟨h_73, h_74⟩
    · try simp only [zl_0] at h_59
      have h_59 : 0 ≤ a0.toInt := h_59
      try simp only [zl_0] at h_60
      have h_60 : a0.toInt < (c0 2).toInt := h_60
      try simp only [zl_0] at h_61
      have h_61 : 0 ≤ a1.toInt := h_61
      try simp only [zl_0] at h_62
      have h_62 : a1.toInt < (c0 2).toInt := h_62
      try simp only [zl_0] at h_63
      have h_63 : (pW c0 a0 1).toInt = 1 := h_63
      try simp only [zl_0] at h_64
      have h_64 : (pW c0 a1 1).toInt = (-1) := h_64
      try simp only [zl_0] at h_65
      have h_65 : 1 ≤ (pW c0 a0 2).toInt := h_65
      try simp only [zl_0] at h_66
      have h_66 : 1 ≤ (pW c0 a1 2).toInt := h_66
      try simp only [zl_0] at h_67
      have h_67 : 0 ≤ a2.toInt := h_67
      try simp only [zl_0] at h_68
      have h_68 : a2.toInt ≤ 3 := h_68
      try simp only [zl_0] at h_69
      have h_69 : 12 ≤ (c6 a2.toNatClampNeg).toInt := h_69
      try simp only [zl_0] at h_70
      have h_70 : (c6 a2.toNatClampNeg).toInt ≤ 36 := h_70
      try simp only [zl_0] at h_71
      have h_71 : ∀ k : Nat, (k : Int) < (c6 a2.toNatClampNeg).toInt → 0 ≤ (c7 (36 * a2.toInt.toNat + k)).toInt ∧ (c7 (36 * a2.toInt.toNat + k)).toInt ≤ 9 := h_71
      try simp only [zl_0] at h_72
      have h_72 : (pW c0 a0 0).toInt < (pW c0 a1 0).toInt := h_72
      obtain rfl : r_56 = 0 := hr_56.trans (by decide +kernel)
      refine lv_istore (lv' := [(5, .int 0), (0, .ref k), (1, .int a0), (2, .int a1), (3, .int a2), (4, .int a3)]) hx hb dX11_meeting_14 hl (by decide +kernel) rfl ?_
      clear hl
      intro ls hl
      refine lv_iload hx hb dX11_meeting_16 (lv_at hl 0 rfl) ?_
      refine b_if_eq hx hb zl_0 (tgt := 28) dX11_meeting_18 (by decide +kernel) (fun c_75 => ?_) (fun c_75 => by exfalso; omega)
      refine lv_iconst (v := (-1)) hx hb dX11_meeting_28 (by decide +kernel) ?_
      refine lv_istore (lv' := [(6, .int (-1)), (5, .int 0), (0, .ref k), (1, .int a0), (2, .int a1), (3, .int a2), (4, .int a3)]) hx hb dX11_meeting_29 hl (by decide +kernel) rfl ?_
      clear hl
      intro ls hl
      refine lv_iconst (v := 0) hx hb dX11_meeting_31 (by decide +kernel) ?_
      refine lv_istore (lv' := [(7, .int 0), (6, .int (-1)), (5, .int 0), (0, .ref k), (1, .int a0), (2, .int a1), (3, .int a2), (4, .int a3)]) hx hb dX11_meeting_32 hl (by decide +kernel) rfl ?_
      clear hl
      intro ls hl
      refine lv_aload_n hx hb dX11_meeting_34 rfl (lv_at hl 3 rfl) ?_
      refine lv_iload_n hx hb dX11_meeting_35 rfl (lv_at hl 4 rfl) ?_
      refine lv_iconst (v := 0) hx hb dX11_meeting_36 (by decide +kernel) ?_
      refine kJi (wr := [(k4, .inl (cI, 6, .inl c4)), (k5, .inl (cI, 4, .inl c5)), (k6, .inl (cI, 4, .inl c6)), (k7, .inl (cI, 144, .inl c7))]) (va_runV (As := [.int a0, .int 0]) (rest := []) ⟨hx, hb, hml, hown, hT⟩ (c_X11_partyG0 l D cI aK aV k k0 k1 k2 k4 k5 k6 k7 k8 ka kb kl ko H.size c3 c9 cc cd ce cf cg ch ci cj ck cm cn c0 a0 0 (by first | omega | (simp only [zl_0]; first | done | omega) | decide | assumption | rfl) (by first | omega | (simp only [zl_0]; first | done | omega) | decide | assumption | rfl) (by first | omega | (simp only [zl_0]; first | done | omega) | decide | assumption | rfl)) (cwV 2 hT (gV_in mw_1416 mw_1413 mw_1415 mw_p5_5 mw_12) rfl rfl rfl (by decide +kernel) ⟨Nat.le_of_ble_eq_true rfl, Nat.le_of_ble_eq_true rfl⟩) (kRecvX (q0 := 1) (ci := 11) hK hP hD hN hXS hS hA rfl rfl [1, 2] rfl (by decide +kernel)) rfl rfl hl.1 rfl (lv_room (Nat.le_of_ble_eq_true rfl)) dX11_meeting_37 ⟨Nat.le_of_ble_eq_true rfl, Nat.le_of_ble_eq_true rfl⟩) hP hD hS hA [1, 2] [0, 3, 4, 5] rfl rfl (by decide +kernel) (by decide +kernel) ?_
      clear hP hD hS
      intro r_76 u_78 H locs w_77 hP hD hS
      replace hP : va_P D vwCl [(k4, .inl (cI, 6, .inl c4)), (k5, .inl (cI, 4, .inl c5)), (k6, .inl (cI, 4, .inl c6)), (k7, .inl (cI, 144, .inl c7)), (k, .inr (11, [.ref k0, .ref k1, .ref k2, .int c3, .ref k4, .ref k5, .ref k6, .ref k7, .ref k8, .int c9, .ref ka, .ref kb, .int cc, .int cd, .int ce, .int cf, .int cg, .int ch, .int ci, .int cj, .int ck, .ref kl, .int cm, .int cn, .ref ko])), (k0, .inl (cI, 1201, .inl c0))] H := hP
      replace hD : va_D A [(k4, .inl (cI, 6, .inl c4)), (k5, .inl (cI, 4, .inl c5)), (k6, .inl (cI, 4, .inl c6)), (k7, .inl (cI, 144, .inl c7)), (k, .inr (11, [.ref k0, .ref k1, .ref k2, .int c3, .ref k4, .ref k5, .ref k6, .ref k7, .ref k8, .int c9, .ref ka, .ref kb, .int cc, .int cd, .int ce, .int cf, .int cg, .int ch, .int ci, .int cj, .int ck, .ref kl, .int cm, .int cn, .ref ko])), (k0, .inl (cI, 1201, .inl c0))] := hD
      have h_79 := w_77
      have h_79 : r_76 = pW c0 a0 0 := h_79
      have t_80 : r_76.toInt = (pW c0 a0 0).toInt := by rw [h_79]
      have b_81 : 0 ≤ r_76.toInt ∧ r_76.toInt ≤ 39 := by rw [h_79]; exact SB.p0 (And.left pre0) (by omega) (by omega)
      have lo_r_76 := k_lo r_76
      have hi_r_76 := k_hi r_76
      refine lv_istore (lv' := [(8, .int r_76), (7, .int 0), (6, .int (-1)), (5, .int 0), (0, .ref k), (1, .int a0), (2, .int a1), (3, .int a2), (4, .int a3)]) hx hb dX11_meeting_40 hl (by decide +kernel) rfl ?_
      clear hl
      intro ls hl
      have hloop_42 : ∀ (fu_ : Nat) (l42_6 : Int32) (l42_7 : Int32) (l42_8 : Int32), (-1) ≤ l42_6.toInt → r_76.toInt ≤ l42_8.toInt → l42_8.toInt ≤ 39 → (pW c0 a0 0).toInt ≤ l42_8.toInt → (40 - l42_8.toInt).toNat < fu_ → ∀ (ls : Array Slot) (H : Heap) (locs : List Loc), lv_has ls 10 [(8, .int l42_8), (7, .int l42_7), (6, .int l42_6), (5, .int 0), (0, .ref k), (1, .int a0), (2, .int a1), (3, .int a2), (4, .int a3)] → va_P D vwCl [(k4, .inl (cI, 6, .inl c4)), (k5, .inl (cI, 4, .inl c5)), (k6, .inl (cI, 4, .inl c6)), (k7, .inl (cI, 144, .inl c7)), (k, .inr (11, [.ref k0, .ref k1, .ref k2, .int c3, .ref k4, .ref k5, .ref k6, .ref k7, .ref k8, .int c9, .ref ka, .ref kb, .int cc, .int cd, .int ce, .int cf, .int cg, .int ch, .int ci, .int cj, .int ck, .ref kl, .int cm, .int cn, .ref ko])), (k0, .inl (cI, 1201, .inl c0))] H → va_D A [(k4, .inl (cI, 6, .inl c4)), (k5, .inl (cI, 4, .inl c5)), (k6, .inl (cI, 4, .inl c6)), (k7, .inl (cI, 144, .inl c7)), (k, .inr (11, [.ref k0, .ref k1, .ref k2, .int c3, .ref k4, .ref k5, .ref k6, .ref k7, .ref k8, .int c9, .ref ka, .ref kb, .int cc, .int cd, .int ce, .int cf, .int cg, .int ch, .int ci, .int cj, .int ck, .ref kl, .int cm, .int cn, .ref ko])), (k0, .inl (cI, 1201, .inl c0))] → va_S A s.heap H locs → W p l e ({ frames := 3, cells := 0, slots := 0, locals := 80 } : Room) s m args below meth c H locs 0 0 Q (F0 m 42 ls []) := by
        intro fu_; induction fu_ with
        | zero => intro l42_6 l42_7 l42_8 i42_0 i42_1 i42_2 i42_3 hm; exact absurd hm (by omega)
        | succ fu_ ih42 =>
            intro l42_6 l42_7 l42_8 i42_0 i42_1 i42_2 i42_3 hm ls H locs hl hP hD hS
            have lo_l42_6 := k_lo l42_6
            have hi_l42_6 := k_hi l42_6
            have lo_l42_7 := k_lo l42_7
            have hi_l42_7 := k_hi l42_7
            have lo_l42_8 := k_lo l42_8
            have hi_l42_8 := k_hi l42_8
            refine lv_iload hx hb dX11_meeting_42 (lv_at hl 0 rfl) ?_
            refine lv_aload_n hx hb dX11_meeting_44 rfl (lv_at hl 4 rfl) ?_
            refine lv_iload_n hx hb dX11_meeting_45 rfl (lv_at hl 6 rfl) ?_
            refine lv_iconst (v := 0) hx hb dX11_meeting_46 (by decide +kernel) ?_
            refine kJi (wr := [(k4, .inl (cI, 6, .inl c4)), (k5, .inl (cI, 4, .inl c5)), (k6, .inl (cI, 4, .inl c6)), (k7, .inl (cI, 144, .inl c7))]) (va_runV (As := [.int a1, .int 0]) (rest := [.int l42_8]) ⟨hx, hb, hml, hown, hT⟩ (c_X11_partyG0 l D cI aK aV k k0 k1 k2 k4 k5 k6 k7 k8 ka kb kl ko H.size c3 c9 cc cd ce cf cg ch ci cj ck cm cn c0 a1 0 (by first | omega | (simp only [zl_0]; first | done | omega) | decide | assumption | rfl) (by first | omega | (simp only [zl_0]; first | done | omega) | decide | assumption | rfl) (by first | omega | (simp only [zl_0]; first | done | omega) | decide | assumption | rfl)) (cwV 2 hT (gV_in mw_1416 mw_1413 mw_1415 mw_p5_5 mw_12) rfl rfl rfl (by decide +kernel) ⟨Nat.le_of_ble_eq_true rfl, Nat.le_of_ble_eq_true rfl⟩) (kRecvX (q0 := 4) (ci := 11) hK hP hD hN hXS hS hA rfl rfl [4, 5] rfl (by decide +kernel)) rfl rfl hl.1 rfl (lv_room (Nat.le_of_ble_eq_true rfl)) dX11_meeting_47 ⟨Nat.le_of_ble_eq_true rfl, Nat.le_of_ble_eq_true rfl⟩) hP hD hS hA [4, 5] [0, 1, 2, 3] rfl rfl (by decide +kernel) (by decide +kernel) ?_
            clear hP hD hS
            intro r_82 u_84 H locs w_83 hP hD hS
            replace hP : va_P D vwCl [(k4, .inl (cI, 6, .inl c4)), (k5, .inl (cI, 4, .inl c5)), (k6, .inl (cI, 4, .inl c6)), (k7, .inl (cI, 144, .inl c7)), (k, .inr (11, [.ref k0, .ref k1, .ref k2, .int c3, .ref k4, .ref k5, .ref k6, .ref k7, .ref k8, .int c9, .ref ka, .ref kb, .int cc, .int cd, .int ce, .int cf, .int cg, .int ch, .int ci, .int cj, .int ck, .ref kl, .int cm, .int cn, .ref ko])), (k0, .inl (cI, 1201, .inl c0))] H := hP
            replace hD : va_D A [(k4, .inl (cI, 6, .inl c4)), (k5, .inl (cI, 4, .inl c5)), (k6, .inl (cI, 4, .inl c6)), (k7, .inl (cI, 144, .inl c7)), (k, .inr (11, [.ref k0, .ref k1, .ref k2, .int c3, .ref k4, .ref k5, .ref k6, .ref k7, .ref k8, .int c9, .ref ka, .ref kb, .int cc, .int cd, .int ce, .int cf, .int cg, .int ch, .int ci, .int cj, .int ck, .ref kl, .int cm, .int cn, .ref ko])), (k0, .inl (cI, 1201, .inl c0))] := hD
            have h_85 := w_83
            have h_85 : r_82 = pW c0 a1 0 := h_85
            have t_86 : r_82.toInt = (pW c0 a1 0).toInt := by rw [h_85]
            have b_87 : 0 ≤ r_82.toInt ∧ r_82.toInt ≤ 39 := by rw [h_85]; exact SB.p0 (And.left pre0) (by omega) (by omega)
            have lo_r_82 := k_lo r_82
            have hi_r_82 := k_hi r_82
            refine b_icmp_ge hx hb rfl rfl (tgt := 90) dX11_meeting_50 (by decide +kernel) (fun c_88 => ?_) (fun c_88 => ?_)
            · refine lv_iload hx hb dX11_meeting_90 (lv_at hl 8 rfl) ?_
              refine b_if_ne hx hb rfl (tgt := 100) dX11_meeting_92 (by decide +kernel) (fun c_89 => ?_) (fun c_89 => ?_)
              · refine lv_iload hx hb dX11_meeting_100 (lv_at hl 1 rfl) ?_
                exact hRet c4 [4, 5, 0, 1, 2, 3] trivial hP hD (by decide +kernel) rfl hS rfl dX11_meeting_102
              · refine lv_iload hx hb dX11_meeting_95 (lv_at hl 2 rfl) ?_
                refine lv_goto (tgt := 102) hx hb dX11_meeting_97 (by decide +kernel) ?_
                exact hRet c4 [4, 5, 0, 1, 2, 3] trivial hP hD (by decide +kernel) rfl hS rfl dX11_meeting_102
            · refine lv_aload_n hx hb dX11_meeting_53 rfl (lv_at hl 4 rfl) ?_
              refine lv_iload_n hx hb dX11_meeting_54 rfl (lv_at hl 5 rfl) ?_
              refine lv_iload_n hx hb dX11_meeting_55 rfl (lv_at hl 6 rfl) ?_
              refine lv_iload_n hx hb dX11_meeting_56 rfl (lv_at hl 7 rfl) ?_
              refine lv_iload hx hb dX11_meeting_57 (lv_at hl 0 rfl) ?_
              refine kJi (wr := [(k4, .inl (cI, 6, .inl c4)), (k5, .inl (cI, 4, .inl c5))]) (va_runV (As := [.int a0, .int a1, .int a2, .int l42_8]) (rest := []) ⟨hx, hb, hml, hown, hT⟩ (c_X11_worstG l D cI aK aV k k0 k1 k2 k4 k5 k6 k7 k8 ka kb kl ko H.size c3 c9 cc cd ce cf cg ch ci cj ck cm cn c0 c6 c7 a0 a1 a2 l42_8 (And.left pre0) pre1 (by first | omega | decide | assumption | rfl) (by first | omega | decide | assumption | rfl) (by first | omega | decide | assumption | rfl) (by first | omega | decide | assumption | rfl) (by first | omega | decide | assumption | rfl) (by first | omega | decide | assumption | rfl) (by first | omega | decide | assumption | rfl) (by first | omega | decide | assumption | rfl) (by first | omega | decide | assumption | rfl) (by first | omega | decide | assumption | rfl) (by first | omega | decide | assumption | rfl) (by first | omega | decide | assumption | rfl) (by first | omega | decide | assumption | rfl) (by first | omega | decide | assumption | rfl) (by first | omega | decide | assumption | rfl)) (cwV 4 hT (gV_in mw_1519 mw_1516 mw_1518 mw_p5_13 mw_12) rfl rfl rfl (by decide +kernel) ⟨Nat.le_of_ble_eq_true rfl, Nat.le_of_ble_eq_true rfl⟩) (kRecvX (q0 := 4) (ci := 11) hK hP hD hN hXS hS hA rfl rfl [4, 5, 2, 3] rfl (by decide +kernel)) rfl rfl hl.1 rfl (lv_room (Nat.le_of_ble_eq_true rfl)) dX11_meeting_59 ⟨Nat.le_of_ble_eq_true rfl, Nat.le_of_ble_eq_true rfl⟩) hP hD hS hA [4, 5, 2, 3] [0, 1] rfl rfl (by decide +kernel) (by decide +kernel) ?_
              clear hP hD hS
              intro r_90 u_92 H locs w_91 hP hD hS
              replace hP : va_P D vwCl [(k4, .inl (cI, 6, .inl c4)), (k5, .inl (cI, 4, .inl c5)), (k, .inr (11, [.ref k0, .ref k1, .ref k2, .int c3, .ref k4, .ref k5, .ref k6, .ref k7, .ref k8, .int c9, .ref ka, .ref kb, .int cc, .int cd, .int ce, .int cf, .int cg, .int ch, .int ci, .int cj, .int ck, .ref kl, .int cm, .int cn, .ref ko])), (k0, .inl (cI, 1201, .inl c0)), (k6, .inl (cI, 4, .inl c6)), (k7, .inl (cI, 144, .inl c7))] H := hP
              replace hD : va_D A [(k4, .inl (cI, 6, .inl c4)), (k5, .inl (cI, 4, .inl c5)), (k, .inr (11, [.ref k0, .ref k1, .ref k2, .int c3, .ref k4, .ref k5, .ref k6, .ref k7, .ref k8, .int c9, .ref ka, .ref kb, .int cc, .int cd, .int ce, .int cf, .int cg, .int ch, .int ci, .int cj, .int ck, .ref kl, .int cm, .int cn, .ref ko])), (k0, .inl (cI, 1201, .inl c0)), (k6, .inl (cI, 4, .inl c6)), (k7, .inl (cI, 144, .inl c7))] := hD
              have lo_r_90 := k_lo r_90
              have hi_r_90 := k_hi r_90
              refine lv_istore (lv' := [(9, .int r_90), (8, .int l42_8), (7, .int l42_7), (6, .int l42_6), (5, .int 0), (0, .ref k), (1, .int a0), (2, .int a1), (3, .int a2), (4, .int a3)]) hx hb dX11_meeting_62 hl (by decide +kernel) rfl ?_
              clear hl
              intro ls hl
              refine lv_iload hx hb dX11_meeting_64 (lv_at hl 3 rfl) ?_
              refine b_if_lt hx hb rfl (tgt := 76) dX11_meeting_66 (by decide +kernel) (fun c_93 => ?_) (fun c_93 => ?_)
              · refine lv_iload hx hb dX11_meeting_76 (lv_at hl 1 rfl) ?_
                refine lv_istore (lv' := [(6, .int l42_8), (9, .int r_90), (8, .int l42_8), (7, .int l42_7), (5, .int 0), (0, .ref k), (1, .int a0), (2, .int a1), (3, .int a2), (4, .int a3)]) hx hb dX11_meeting_78 hl (by decide +kernel) rfl ?_
                clear hl
                intro ls hl
                refine lv_iload hx hb dX11_meeting_80 (lv_at hl 1 rfl) ?_
                refine lv_istore (lv' := [(7, .int r_90), (6, .int l42_8), (9, .int r_90), (8, .int l42_8), (5, .int 0), (0, .ref k), (1, .int a0), (2, .int a1), (3, .int a2), (4, .int a3)]) hx hb dX11_meeting_82 hl (by decide +kernel) rfl ?_
                clear hl
                intro ls hl
                obtain ⟨v_94, ev_94⟩ : ∃ y : Int32, y = l42_8 + 1 := ⟨_, rfl⟩
                have tv_94 : v_94.toInt = l42_8.toInt + 1 := by rw [ev_94]; exact k_addv rfl zl_1 (by omega) (by omega)
                refine lv_iinc (v := v_94) (lv' := [(8, .int v_94), (7, .int r_90), (6, .int l42_8), (9, .int r_90), (5, .int 0), (0, .ref k), (1, .int a0), (2, .int a1), (3, .int a2), (4, .int a3)]) hx hb dX11_meeting_84 hl (k := 3) rfl (by rw [ev_94]; rfl) (by decide +kernel) rfl ?_
                clear hl
                intro ls hl
                refine lv_goto (tgt := 42) hx hb dX11_meeting_87 (by decide +kernel) ?_
                exact ih42 l42_8 r_90 v_94 (by first | omega | decide | assumption | rfl) (by first | omega | decide | assumption | rfl) (by first | omega | decide | assumption | rfl) (by first | omega | decide | assumption | rfl) (by omega) ls _ _ (lv_sub hl [0, 1, 2, 4, 5, 6, 7, 8, 9] rfl) (hP.sub [0, 1, 4, 5, 2, 3] rfl) (hD.sub [0, 1, 4, 5, 2, 3] (by decide +kernel) rfl) hS
              · refine lv_iload hx hb dX11_meeting_69 (lv_at hl 0 rfl) ?_
                refine lv_iload hx hb dX11_meeting_71 (lv_at hl 2 rfl) ?_
                refine b_icmp_ge hx hb rfl rfl (tgt := 84) dX11_meeting_73 (by decide +kernel) (fun c_95 => ?_) (fun c_95 => ?_)
                · obtain ⟨v_96, ev_96⟩ : ∃ y : Int32, y = l42_8 + 1 := ⟨_, rfl⟩
                  have tv_96 : v_96.toInt = l42_8.toInt + 1 := by rw [ev_96]; exact k_addv rfl zl_1 (by omega) (by omega)
                  refine lv_iinc (v := v_96) (lv' := [(8, .int v_96), (9, .int r_90), (7, .int l42_7), (6, .int l42_6), (5, .int 0), (0, .ref k), (1, .int a0), (2, .int a1), (3, .int a2), (4, .int a3)]) hx hb dX11_meeting_84 hl (k := 1) rfl (by rw [ev_96]; rfl) (by decide +kernel) rfl ?_
                  clear hl
                  intro ls hl
                  refine lv_goto (tgt := 42) hx hb dX11_meeting_87 (by decide +kernel) ?_
                  exact ih42 l42_6 l42_7 v_96 (by first | omega | decide | assumption | rfl) (by first | omega | decide | assumption | rfl) (by first | omega | decide | assumption | rfl) (by first | omega | decide | assumption | rfl) (by omega) ls _ _ (lv_sub hl [0, 2, 3, 4, 5, 6, 7, 8, 9] rfl) (hP.sub [0, 1, 4, 5, 2, 3] rfl) (hD.sub [0, 1, 4, 5, 2, 3] (by decide +kernel) rfl) hS
                · refine lv_iload hx hb dX11_meeting_76 (lv_at hl 1 rfl) ?_
                  refine lv_istore (lv' := [(6, .int l42_8), (9, .int r_90), (8, .int l42_8), (7, .int l42_7), (5, .int 0), (0, .ref k), (1, .int a0), (2, .int a1), (3, .int a2), (4, .int a3)]) hx hb dX11_meeting_78 hl (by decide +kernel) rfl ?_
                  clear hl
                  intro ls hl
                  refine lv_iload hx hb dX11_meeting_80 (lv_at hl 1 rfl) ?_
                  refine lv_istore (lv' := [(7, .int r_90), (6, .int l42_8), (9, .int r_90), (8, .int l42_8), (5, .int 0), (0, .ref k), (1, .int a0), (2, .int a1), (3, .int a2), (4, .int a3)]) hx hb dX11_meeting_82 hl (by decide +kernel) rfl ?_
                  clear hl
                  intro ls hl
                  obtain ⟨v_97, ev_97⟩ : ∃ y : Int32, y = l42_8 + 1 := ⟨_, rfl⟩
                  have tv_97 : v_97.toInt = l42_8.toInt + 1 := by rw [ev_97]; exact k_addv rfl zl_1 (by omega) (by omega)
                  refine lv_iinc (v := v_97) (lv' := [(8, .int v_97), (7, .int r_90), (6, .int l42_8), (9, .int r_90), (5, .int 0), (0, .ref k), (1, .int a0), (2, .int a1), (3, .int a2), (4, .int a3)]) hx hb dX11_meeting_84 hl (k := 3) rfl (by rw [ev_97]; rfl) (by decide +kernel) rfl ?_
                  clear hl
                  intro ls hl
                  refine lv_goto (tgt := 42) hx hb dX11_meeting_87 (by decide +kernel) ?_
                  exact ih42 l42_8 r_90 v_97 (by first | omega | decide | assumption | rfl) (by first | omega | decide | assumption | rfl) (by first | omega | decide | assumption | rfl) (by first | omega | decide | assumption | rfl) (by omega) ls _ _ (lv_sub hl [0, 1, 2, 4, 5, 6, 7, 8, 9] rfl) (hP.sub [0, 1, 4, 5, 2, 3] rfl) (hD.sub [0, 1, 4, 5, 2, 3] (by decide +kernel) rfl) hS
      exact hloop_42 _ (-1) 0 r_76 (by first | omega | (simp only [zl_m1, zl_0]; first | done | omega) | decide | assumption | rfl) (by first | omega | (simp only [zl_m1, zl_0]; first | done | omega) | decide | assumption | rfl) (by first | omega | (simp only [zl_m1, zl_0]; first | done | omega) | decide | assumption | rfl) (by first | omega | (simp only [zl_m1, zl_0]; first | done | omega) | decide | assumption | rfl) (Nat.lt_succ_self _) ls _ _ (lv_sub hl [0, 1, 2, 3, 4, 5, 6, 7, 8] rfl) hP hD hS
    · try simp only [zl_0] at h_73
      have h_73 : -1000005 ≤ r_56.toInt := h_73
      try simp only [zl_0] at h_74
      have h_74 : r_56.toInt ≤ -1000001 := h_74
      have lo_r_56 := k_lo r_56
      have hi_r_56 := k_hi r_56
      refine lv_istore (lv' := [(5, .int r_56), (0, .ref k), (1, .int a0), (2, .int a1), (3, .int a2), (4, .int a3)]) hx hb dX11_meeting_14 hl (by decide +kernel) rfl ?_
      clear hl
      intro ls hl
      refine lv_iload hx hb dX11_meeting_16 (lv_at hl 0 rfl) ?_
      refine b_if_eq hx hb rfl (tgt := 28) dX11_meeting_18 (by decide +kernel) (fun c_98 => by exfalso; omega) (fun c_98 => ?_)
      refine lv_aload_n hx hb dX11_meeting_21 rfl (lv_at hl 1 rfl) ?_
      refine lv_iload hx hb dX11_meeting_22 (lv_at hl 0 rfl) ?_
      refine kJi (wr := [(k0, .inl (cI, 1201, .inl c0)), (k5, .inl (cI, 4, .inl c5)), (k6, .inl (cI, 4, .inl c6)), (k7, .inl (cI, 144, .inl c7))]) (va_runV (As := [.int r_56]) (rest := []) ⟨hx, hb, hml, hown, hT⟩ (c_X11_findingG l D cI aK aV k k0 k1 k2 k4 k5 k6 k7 k8 ka kb kl ko H.size c3 c9 cc cd ce cf cg ch ci cj ck cm cn c4 r_56 (by first | omega | decide | assumption | rfl) (by first | omega | decide | assumption | rfl)) (cwV 1 hT (gV_in mw_1243 mw_1240 mw_1242 mw_p3_8 mw_12) rfl rfl rfl (by decide +kernel) ⟨Nat.le_of_ble_eq_true rfl, Nat.le_of_ble_eq_true rfl⟩) (kRecvX (q0 := 1) (ci := 11) hK hP hD hN hXS hS hA rfl rfl [1, 0] rfl (by decide +kernel)) rfl rfl hl.1 rfl (lv_room (Nat.le_of_ble_eq_true rfl)) dX11_meeting_24 ⟨Nat.le_of_ble_eq_true rfl, Nat.le_of_ble_eq_true rfl⟩) hP hD hS hA [1, 0] [2, 3, 4, 5] rfl rfl (by decide +kernel) (by decide +kernel) ?_
      clear hP hD hS
      intro r_99 sc4_101 H locs w_100 hP hD hS
      replace hP : va_P D vwCl [(k0, .inl (cI, 1201, .inl c0)), (k5, .inl (cI, 4, .inl c5)), (k6, .inl (cI, 4, .inl c6)), (k7, .inl (cI, 144, .inl c7)), (k, .inr (11, [.ref k0, .ref k1, .ref k2, .int c3, .ref k4, .ref k5, .ref k6, .ref k7, .ref k8, .int c9, .ref ka, .ref kb, .int cc, .int cd, .int ce, .int cf, .int cg, .int ch, .int ci, .int cj, .int ck, .ref kl, .int cm, .int cn, .ref ko])), (k4, .inl (cI, 6, .inl sc4_101))] H := hP
      replace hD : va_D A [(k0, .inl (cI, 1201, .inl c0)), (k5, .inl (cI, 4, .inl c5)), (k6, .inl (cI, 4, .inl c6)), (k7, .inl (cI, 144, .inl c7)), (k, .inr (11, [.ref k0, .ref k1, .ref k2, .int c3, .ref k4, .ref k5, .ref k6, .ref k7, .ref k8, .int c9, .ref ka, .ref kb, .int cc, .int cd, .int ce, .int cf, .int cg, .int ch, .int ci, .int cj, .int ck, .ref kl, .int cm, .int cn, .ref ko])), (k4, .inl (cI, 6, .inl sc4_101))] := hD
      have hr_99 := w_100
      have hr_99 : r_99 = r_56 := hr_99
      subst r_99
      exact hRet sc4_101 [4, 0, 5, 1, 2, 3] trivial hP hD (by decide +kernel) rfl hS rfl dX11_meeting_27
theorem bn_cX11_judge_0 : BN cX11_judge 0 0x5680c0a01540202c0900a900c16040581037778056e050b0783a1c15ab482015b900262b05805363000ae4ca053e8056e040e8acfa015b810382b028595a4100adc0e161582c029a038580e37758056e3000ae42028090100c160f074382b := by
  unfold BN; decide +kernel
theorem dX11_judge_0 : decode cX11_judge 0 = .ok (.aload_n 0, 1) := dR0 (k := 0) (i := 0) bn_cX11_judge_0 dop_42 (by decide +kernel)
theorem dX11_judge_1 : decode cX11_judge 1 = .ok (.iload_n 1, 1) := dR0 (k := 0) (i := 1) bn_cX11_judge_0 dop_27 (by decide +kernel)
theorem dX11_judge_2 : decode cX11_judge 2 = .ok (.iload_n 2, 1) := dR0 (k := 0) (i := 2) bn_cX11_judge_0 dop_28 (by decide +kernel)
theorem dX11_judge_3 : decode cX11_judge 3 = .ok (.iload_n 3, 1) := dR0 (k := 0) (i := 3) bn_cX11_judge_0 dop_29 (by decide +kernel)
theorem dX11_judge_4 : decode cX11_judge 4 = .ok (.iload 5, 2) := dR1 (f := Instr.iload) (k := 0) (i := 4) bn_cX11_judge_0 dop_21 5 (by decide +kernel)
theorem dX11_judge_6 : decode cX11_judge 6 = .ok (.iconst 0, 1) := dR0 (k := 0) (i := 6) bn_cX11_judge_0 dop_3 (by decide +kernel)
theorem dX11_judge_7 : decode cX11_judge 7 = .ok (.sipush 9999, 3) := dR2s (f := Instr.sipush) (k := 0) (i := 7) bn_cX11_judge_0 dop_17 9999 9999 (by decide +kernel)
theorem dX11_judge_10 : decode cX11_judge 10 = .ok (.invokestatic 47, 3) := dR2 (f := Instr.invokestatic) (k := 0) (i := 10) bn_cX11_judge_0 dop_184 47 (by decide +kernel)
theorem dX11_judge_13 : decode cX11_judge 13 = .ok (.invokevirtual 234, 3) := dR2 (f := Instr.invokevirtual) (k := 0) (i := 13) bn_cX11_judge_0 dop_182 234 (by decide +kernel)
theorem dX11_judge_16 : decode cX11_judge 16 = .ok (.istore 6, 2) := dR1 (f := Instr.istore) (k := 0) (i := 16) bn_cX11_judge_0 dop_54 6 (by decide +kernel)
theorem dX11_judge_18 : decode cX11_judge 18 = .ok (.iload 6, 2) := dR1 (f := Instr.iload) (k := 0) (i := 18) bn_cX11_judge_0 dop_21 6 (by decide +kernel)
theorem dX11_judge_20 : decode cX11_judge 20 = .ok (.ifCond .eq 10, 3) := dR2s (f := Instr.ifCond .eq) (k := 0) (i := 20) bn_cX11_judge_0 dop_153 10 10 (by decide +kernel)
theorem dX11_judge_23 : decode cX11_judge 23 = .ok (.aload_n 0, 1) := dR0 (k := 0) (i := 23) bn_cX11_judge_0 dop_42 (by decide +kernel)
theorem dX11_judge_24 : decode cX11_judge 24 = .ok (.iload 6, 2) := dR1 (f := Instr.iload) (k := 0) (i := 24) bn_cX11_judge_0 dop_21 6 (by decide +kernel)
theorem dX11_judge_26 : decode cX11_judge 26 = .ok (.invokevirtual 64, 3) := dR2 (f := Instr.invokevirtual) (k := 0) (i := 26) bn_cX11_judge_0 dop_182 64 (by decide +kernel)
theorem dX11_judge_29 : decode cX11_judge 29 = .ok (.ireturn, 1) := dR0 (k := 0) (i := 29) bn_cX11_judge_0 dop_172 (by decide +kernel)
theorem dX11_judge_30 : decode cX11_judge 30 = .ok (.iload 4, 2) := dR1 (f := Instr.iload) (k := 0) (i := 30) bn_cX11_judge_0 dop_21 4 (by decide +kernel)
theorem dX11_judge_32 : decode cX11_judge 32 = .ok (.aload_n 0, 1) := dR0 (k := 0) (i := 32) bn_cX11_judge_0 dop_42 (by decide +kernel)
theorem dX11_judge_33 : decode cX11_judge 33 = .ok (.iload_n 1, 1) := dR0 (k := 0) (i := 33) bn_cX11_judge_0 dop_27 (by decide +kernel)
theorem dX11_judge_34 : decode cX11_judge 34 = .ok (.iconst 0, 1) := dR0 (k := 0) (i := 34) bn_cX11_judge_0 dop_3 (by decide +kernel)
theorem dX11_judge_35 : decode cX11_judge 35 = .ok (.invokevirtual 124, 3) := dR2 (f := Instr.invokevirtual) (k := 0) (i := 35) bn_cX11_judge_0 dop_182 124 (by decide +kernel)
theorem dX11_judge_38 : decode cX11_judge 38 = .ok (.aload_n 0, 1) := dR0 (k := 0) (i := 38) bn_cX11_judge_0 dop_42 (by decide +kernel)
theorem dX11_judge_39 : decode cX11_judge 39 = .ok (.iload_n 2, 1) := dR0 (k := 0) (i := 39) bn_cX11_judge_0 dop_28 (by decide +kernel)
theorem dX11_judge_40 : decode cX11_judge 40 = .ok (.iconst 0, 1) := dR0 (k := 0) (i := 40) bn_cX11_judge_0 dop_3 (by decide +kernel)
theorem dX11_judge_41 : decode cX11_judge 41 = .ok (.invokevirtual 124, 3) := dR2 (f := Instr.invokevirtual) (k := 0) (i := 41) bn_cX11_judge_0 dop_182 124 (by decide +kernel)
theorem dX11_judge_44 : decode cX11_judge 44 = .ok (.iconst 1, 1) := dR0 (k := 0) (i := 44) bn_cX11_judge_0 dop_4 (by decide +kernel)
theorem dX11_judge_45 : decode cX11_judge 45 = .ok (.isub, 1) := dR0 (k := 0) (i := 45) bn_cX11_judge_0 dop_100 (by decide +kernel)
theorem dX11_judge_46 : decode cX11_judge 46 = .ok (.invokestatic 47, 3) := dR2 (f := Instr.invokestatic) (k := 0) (i := 46) bn_cX11_judge_0 dop_184 47 (by decide +kernel)
theorem dX11_judge_49 : decode cX11_judge 49 = .ok (.ifCond .ne 10, 3) := dR2s (f := Instr.ifCond .ne) (k := 0) (i := 49) bn_cX11_judge_0 dop_154 10 10 (by decide +kernel)
theorem dX11_judge_52 : decode cX11_judge 52 = .ok (.aload_n 0, 1) := dR0 (k := 0) (i := 52) bn_cX11_judge_0 dop_42 (by decide +kernel)
theorem dX11_judge_53 : decode cX11_judge 53 = .ok (.ldc 63, 2) := dR1 (f := Instr.ldc) (k := 0) (i := 53) bn_cX11_judge_0 dop_18 63 (by decide +kernel)
theorem dX11_judge_55 : decode cX11_judge 55 = .ok (.invokevirtual 64, 3) := dR2 (f := Instr.invokevirtual) (k := 0) (i := 55) bn_cX11_judge_0 dop_182 64 (by decide +kernel)
theorem dX11_judge_58 : decode cX11_judge 58 = .ok (.ireturn, 1) := dR0 (k := 0) (i := 58) bn_cX11_judge_0 dop_172 (by decide +kernel)
theorem dX11_judge_59 : decode cX11_judge 59 = .ok (.aload_n 0, 1) := dR0 (k := 0) (i := 59) bn_cX11_judge_0 dop_42 (by decide +kernel)
theorem dX11_judge_60 : decode cX11_judge 60 = .ok (.iload_n 1, 1) := dR0 (k := 0) (i := 60) bn_cX11_judge_0 dop_27 (by decide +kernel)
theorem dX11_judge_61 : decode cX11_judge 61 = .ok (.iload_n 2, 1) := dR0 (k := 0) (i := 61) bn_cX11_judge_0 dop_28 (by decide +kernel)
theorem dX11_judge_62 : decode cX11_judge 62 = .ok (.iload_n 3, 1) := dR0 (k := 0) (i := 62) bn_cX11_judge_0 dop_29 (by decide +kernel)
theorem dX11_judge_63 : decode cX11_judge 63 = .ok (.iload 4, 2) := dR1 (f := Instr.iload) (k := 0) (i := 63) bn_cX11_judge_0 dop_21 4 (by decide +kernel)
theorem dX11_judge_65 : decode cX11_judge 65 = .ok (.invokevirtual 238, 3) := dR2 (f := Instr.invokevirtual) (k := 0) (i := 65) bn_cX11_judge_0 dop_182 238 (by decide +kernel)
theorem dX11_judge_68 : decode cX11_judge 68 = .ok (.istore 7, 2) := dR1 (f := Instr.istore) (k := 0) (i := 68) bn_cX11_judge_0 dop_54 7 (by decide +kernel)
theorem dX11_judge_70 : decode cX11_judge 70 = .ok (.iload 7, 2) := dR1 (f := Instr.iload) (k := 0) (i := 70) bn_cX11_judge_0 dop_21 7 (by decide +kernel)
theorem dX11_judge_72 : decode cX11_judge 72 = .ok (.iload 5, 2) := dR1 (f := Instr.iload) (k := 0) (i := 72) bn_cX11_judge_0 dop_21 5 (by decide +kernel)
theorem dX11_judge_74 : decode cX11_judge 74 = .ok (.if_icmp .gt 8, 3) := dR2s (f := Instr.if_icmp .gt) (k := 0) (i := 74) bn_cX11_judge_0 dop_163 8 8 (by decide +kernel)
theorem dX11_judge_77 : decode cX11_judge 77 = .ok (.iload 7, 2) := dR1 (f := Instr.iload) (k := 0) (i := 77) bn_cX11_judge_0 dop_21 7 (by decide +kernel)
theorem dX11_judge_79 : decode cX11_judge 79 = .ok (.goto 4, 3) := dR2s (f := Instr.goto) (k := 0) (i := 79) bn_cX11_judge_0 dop_167 4 4 (by decide +kernel)
theorem dX11_judge_82 : decode cX11_judge 82 = .ok (.iconst (-1), 1) := dR0 (k := 0) (i := 82) bn_cX11_judge_0 dop_2 (by decide +kernel)
theorem dX11_judge_83 : decode cX11_judge 83 = .ok (.ireturn, 1) := dR0 (k := 0) (i := 83) bn_cX11_judge_0 dop_172 (by decide +kernel)
set_option maxHeartbeats 4000000 in
set_option maxRecDepth 100000 in
theorem c_X11_judgeG (l : Launch) (D : va_G) (cI : ClassId) (aK aV : Nat → Nat) (k k0 k1 k2 k4 k5 k6 k7 k8 ka kb kl ko : Nat) (sz : Nat) (c3 : Int32) (c9 : Int32) (cc : Int32) (cd : Int32) (ce : Int32) (cf : Int32) (cg : Int32) (ch : Int32) (ci : Int32) (cj : Int32) (ck : Int32) (cm : Int32) (cn : Int32) (c0 : Nat → Int32) (c4 : Nat → Int32) (c5 : Nat → Int32) (c6 : Nat → Int32) (c7 : Nat → Int32) (a0 : Int32) (a1 : Int32) (a2 : Int32) (a3 : Int32) (a4 : Int32) (pre0 : SIX c0 (-1)) (pre1 : ∀ k : Nat, k < 4 → 0 ≤ (c6 k).toInt ∧ (c6 k).toInt ≤ 36) : Met l yX11_judge (gW yX11_judge cX11_judge 8 (some .int)) ({ frames := 3, cells := 0, slots := 0, locals := 80 } : Room) (kPreX D cI aK aV [.ref k, .int a0, .int a1, .int a2, .int a3, .int a4] [(k, .inr (11, [.ref k0, .ref k1, .ref k2, .int c3, .ref k4, .ref k5, .ref k6, .ref k7, .ref k8, .int c9, .ref ka, .ref kb, .int cc, .int cd, .int ce, .int cf, .int cg, .int ch, .int ci, .int cj, .int ck, .ref kl, .int cm, .int cn, .ref ko])), (k0, .inl (cI, 1201, .inl c0)), (k4, .inl (cI, 6, .inl c4)), (k5, .inl (cI, 4, .inl c5)), (k6, .inl (cI, 4, .inl c6)), (k7, .inl (cI, 144, .inl c7))] sz) (va_Qi (fun (r : Int32) (u : (Nat → Int32)) => True) (fun u t => kWd D cI (va_A [(k, .inr (11, [.ref k0, .ref k1, .ref k2, .int c3, .ref k4, .ref k5, .ref k6, .ref k7, .ref k8, .int c9, .ref ka, .ref kb, .int cc, .int cd, .int ce, .int cf, .int cg, .int ch, .int ci, .int cj, .int ck, .ref kl, .int cm, .int cn, .ref ko])), (k0, .inl (cI, 1201, .inl c0)), (k4, .inl (cI, 6, .inl c4)), (k5, .inl (cI, 4, .inl c5)), (k6, .inl (cI, 4, .inl c6)), (k7, .inl (cI, 144, .inl c7))] sz) [(k, .inr (11, [.ref k0, .ref k1, .ref k2, .int c3, .ref k4, .ref k5, .ref k6, .ref k7, .ref k8, .int c9, .ref ka, .ref kb, .int cc, .int cd, .int ce, .int cf, .int cg, .int ch, .int ci, .int cj, .int ck, .ref kl, .int cm, .int cn, .ref ko])), (k0, .inl (cI, 1201, .inl c0)), (k4, .inl (cI, 6, .inl u)), (k5, .inl (cI, 4, .inl c5)), (k6, .inl (cI, 4, .inl c6)), (k7, .inl (cI, 144, .inl c7))] t) (va_A [(k, .inr (11, [.ref k0, .ref k1, .ref k2, .int c3, .ref k4, .ref k5, .ref k6, .ref k7, .ref k8, .int c9, .ref ka, .ref kb, .int cc, .int cd, .int ce, .int cf, .int cg, .int ch, .int ci, .int cj, .int ck, .ref kl, .int cm, .int cn, .ref ko])), (k0, .inl (cI, 1201, .inl c0)), (k4, .inl (cI, 6, .inl c4)), (k5, .inl (cI, 4, .inl c5)), (k6, .inl (cI, 4, .inl c6)), (k7, .inl (cI, 144, .inl c7))] sz)) 0 0 (va_A [(k, .inr (11, [.ref k0, .ref k1, .ref k2, .int c3, .ref k4, .ref k5, .ref k6, .ref k7, .ref k8, .int c9, .ref ka, .ref kb, .int cc, .int cd, .int ce, .int cf, .int cg, .int ch, .int ci, .int cj, .int ck, .ref kl, .int cm, .int cn, .ref ko])), (k0, .inl (cI, 1201, .inl c0)), (k4, .inl (cI, 6, .inl c4)), (k5, .inl (cI, 4, .inl c5)), (k6, .inl (cI, 4, .inl c6)), (k7, .inl (cI, 144, .inl c7))] sz) := by
  refine kMetIX (own := RX11) (by decide +kernel) rfl (Nat.le_of_ble_eq_true rfl) ?_
  intro p e s m args below meth c hx hb hT hown hname hml A Q hK hP hD hS hA hN hXS hRet ls hl
  have hl : lv_has ls 8 [(0, .ref k), (1, .int a0), (2, .int a1), (3, .int a2), (4, .int a3), (5, .int a4)] := hl
  have lo_a0 := k_lo a0
  have hi_a0 := k_hi a0
  have lo_a1 := k_lo a1
  have hi_a1 := k_hi a1
  have lo_a2 := k_lo a2
  have hi_a2 := k_hi a2
  have lo_a3 := k_lo a3
  have hi_a3 := k_hi a3
  have lo_a4 := k_lo a4
  have hi_a4 := k_hi a4
  have lo_ci := k_lo ci
  have hi_ci := k_hi ci
  have pre0 : SIX c0 (-1) := pre0
  have nb_1 : 0 ≤ (c0 0).toInt ∧ (c0 0).toInt ≤ 2000 := SB.n0 (And.left pre0)
  have nb_2 : 0 ≤ (c0 1).toInt ∧ (c0 1).toInt ≤ 60 := SB.n1 (And.left pre0)
  have nb_3 : 0 ≤ (c0 2).toInt ∧ (c0 2).toInt ≤ 4 := SB.n2 (And.left pre0)
  refine lv_aload_n hx hb dX11_judge_0 rfl (lv_at hl 0 rfl) ?_
  refine lv_iload_n hx hb dX11_judge_1 rfl (lv_at hl 1 rfl) ?_
  refine lv_iload_n hx hb dX11_judge_2 rfl (lv_at hl 2 rfl) ?_
  refine lv_iload_n hx hb dX11_judge_3 rfl (lv_at hl 3 rfl) ?_
  refine lv_iload hx hb dX11_judge_4 (lv_at hl 5 rfl) ?_
  refine lv_iconst (v := 0) hx hb dX11_judge_6 (by decide +kernel) ?_
  refine lv_sipush (v := 9999) hx hb dX11_judge_7 (by decide +kernel) ?_
  refine kJi (wr := [(k, .inr (11, [.ref k0, .ref k1, .ref k2, .int c3, .ref k4, .ref k5, .ref k6, .ref k7, .ref k8, .int c9, .ref ka, .ref kb, .int cc, .int cd, .int ce, .int cf, .int cg, .int ch, .int ci, .int cj, .int ck, .ref kl, .int cm, .int cn, .ref ko])), (k0, .inl (cI, 1201, .inl c0)), (k4, .inl (cI, 6, .inl c4)), (k5, .inl (cI, 4, .inl c5)), (k6, .inl (cI, 4, .inl c6)), (k7, .inl (cI, 144, .inl c7))]) (va_runS (As := [.int a4, .int 0, .int 9999]) (rest := [.int a2, .int a1, .int a0, .ref k]) ⟨hx, hb, hml, hown, hT⟩ (c_X11_inG l D cI aK aV s.heap.size a4 0 9999) (cwS 3 hT (gS_in mw_1238 mw_1236 mw_1237 mw_12) rfl rfl rfl (by decide +kernel) ⟨Nat.le_of_ble_eq_true rfl, Nat.le_of_ble_eq_true rfl⟩) (kStatX hK hP hD hN hXS hS hA [] rfl (by decide +kernel)) rfl rfl hl.1 rfl (lv_room (Nat.le_of_ble_eq_true rfl)) dX11_judge_10 ⟨Nat.le_of_ble_eq_true rfl, Nat.le_of_ble_eq_true rfl⟩) hP hD hS hA [] [0, 1, 2, 3, 4, 5] rfl rfl (by decide +kernel) (by decide +kernel) ?_
  clear hP hD hS
  intro r_4 u_6 H locs w_5 hP hD hS
  replace hP : va_P D vwCl [(k, .inr (11, [.ref k0, .ref k1, .ref k2, .int c3, .ref k4, .ref k5, .ref k6, .ref k7, .ref k8, .int c9, .ref ka, .ref kb, .int cc, .int cd, .int ce, .int cf, .int cg, .int ch, .int ci, .int cj, .int ck, .ref kl, .int cm, .int cn, .ref ko])), (k0, .inl (cI, 1201, .inl c0)), (k4, .inl (cI, 6, .inl c4)), (k5, .inl (cI, 4, .inl c5)), (k6, .inl (cI, 4, .inl c6)), (k7, .inl (cI, 144, .inl c7))] H := hP
  replace hD : va_D A [(k, .inr (11, [.ref k0, .ref k1, .ref k2, .int c3, .ref k4, .ref k5, .ref k6, .ref k7, .ref k8, .int c9, .ref ka, .ref kb, .int cc, .int cd, .int ce, .int cf, .int cg, .int ch, .int ci, .int cj, .int ck, .ref kl, .int cm, .int cn, .ref ko])), (k0, .inl (cI, 1201, .inl c0)), (k4, .inl (cI, 6, .inl c4)), (k5, .inl (cI, 4, .inl c5)), (k6, .inl (cI, 4, .inl c6)), (k7, .inl (cI, 144, .inl c7))] := hD
  rcases w_5 with ⟨hr_4, h_7, h_8⟩ | ⟨hr_4, h_9⟩
  · try simp only [zl_0, zl_9999] at h_7
    have h_7 : 0 ≤ a4.toInt := h_7
    try simp only [zl_0, zl_9999] at h_8
    have h_8 : a4.toInt ≤ 9999 := h_8
    obtain rfl : r_4 = 1 := hr_4.trans (by decide +kernel)
    refine kJi (wr := [(k4, .inl (cI, 6, .inl c4))]) (va_runV (As := [.int a0, .int a1, .int a2, .int 1]) (rest := []) ⟨hx, hb, hml, hown, hT⟩ (c_X11_noMeetingG l D cI aK aV k k0 k1 k2 k4 k5 k6 k7 k8 ka kb kl ko H.size c3 c9 cc cd ce cf cg ch ci cj ck cm cn c0 c5 c6 c7 a0 a1 a2 1 pre0 pre1) (cwV 4 hT (gV_in mw_1515 mw_1512 mw_1514 mw_p5_12 mw_12) rfl rfl rfl (by decide +kernel) ⟨Nat.le_of_ble_eq_true rfl, Nat.le_of_ble_eq_true rfl⟩) (kRecvX (q0 := 0) (ci := 11) hK hP hD hN hXS hS hA rfl rfl [0, 1, 3, 4, 5] rfl (by decide +kernel)) rfl rfl hl.1 rfl (lv_room (Nat.le_of_ble_eq_true rfl)) dX11_judge_13 ⟨Nat.le_of_ble_eq_true rfl, Nat.le_of_ble_eq_true rfl⟩) hP hD hS hA [0, 1, 3, 4, 5] [2] rfl rfl (by decide +kernel) (by decide +kernel) ?_
    clear hP hD hS
    intro r_10 u_12 H locs w_11 hP hD hS
    replace hP : va_P D vwCl [(k4, .inl (cI, 6, .inl c4)), (k, .inr (11, [.ref k0, .ref k1, .ref k2, .int c3, .ref k4, .ref k5, .ref k6, .ref k7, .ref k8, .int c9, .ref ka, .ref kb, .int cc, .int cd, .int ce, .int cf, .int cg, .int ch, .int ci, .int cj, .int ck, .ref kl, .int cm, .int cn, .ref ko])), (k0, .inl (cI, 1201, .inl c0)), (k5, .inl (cI, 4, .inl c5)), (k6, .inl (cI, 4, .inl c6)), (k7, .inl (cI, 144, .inl c7))] H := hP
    replace hD : va_D A [(k4, .inl (cI, 6, .inl c4)), (k, .inr (11, [.ref k0, .ref k1, .ref k2, .int c3, .ref k4, .ref k5, .ref k6, .ref k7, .ref k8, .int c9, .ref ka, .ref kb, .int cc, .int cd, .int ce, .int cf, .int cg, .int ch, .int ci, .int cj, .int ck, .ref kl, .int cm, .int cn, .ref ko])), (k0, .inl (cI, 1201, .inl c0)), (k5, .inl (cI, 4, .inl c5)), (k6, .inl (cI, 4, .inl c6)), (k7, .inl (cI, 144, .inl c7))] := hD
    rcases w_11 with ⟨hr_10, h_13, h_14, h_15, h_16, h_17, h_18, h_19, h_20, h_21, h_22, h_23, h_24, h_25, h_26⟩ | ⟨h_27, h_28⟩
    · try simp only [zl_1] at h_13
      have h_13 : 0 ≤ a0.toInt := h_13
      try simp only [zl_1] at h_14
      have h_14 : a0.toInt < (c0 2).toInt := h_14
      try simp only [zl_1] at h_15
      have h_15 : 0 ≤ a1.toInt := h_15
      try simp only [zl_1] at h_16
      have h_16 : a1.toInt < (c0 2).toInt := h_16
      try simp only [zl_1] at h_17
      have h_17 : (pW c0 a0 1).toInt = 1 := h_17
      try simp only [zl_1] at h_18
      have h_18 : (pW c0 a1 1).toInt = (-1) := h_18
      try simp only [zl_1] at h_19
      have h_19 : 1 ≤ (pW c0 a0 2).toInt := h_19
      try simp only [zl_1] at h_20
      have h_20 : 1 ≤ (pW c0 a1 2).toInt := h_20
      try simp only [zl_1] at h_21
      have h_21 : 0 ≤ a2.toInt := h_21
      try simp only [zl_1] at h_22
      have h_22 : a2.toInt ≤ 3 := h_22
      try simp only [zl_1] at h_23
      have h_23 : 12 ≤ (c6 a2.toNatClampNeg).toInt := h_23
      try simp only [zl_1] at h_24
      have h_24 : (c6 a2.toNatClampNeg).toInt ≤ 36 := h_24
      try simp only [zl_1] at h_25
      have h_25 : ∀ k : Nat, (k : Int) < (c6 a2.toNatClampNeg).toInt → 0 ≤ (c7 (36 * a2.toInt.toNat + k)).toInt ∧ (c7 (36 * a2.toInt.toNat + k)).toInt ≤ 9 := h_25
      try simp only [zl_1] at h_26
      have h_26 : (pW c0 a0 0).toInt < (pW c0 a1 0).toInt := h_26
      obtain rfl : r_10 = 0 := hr_10.trans (by decide +kernel)
      refine lv_istore (lv' := [(6, .int 0), (0, .ref k), (1, .int a0), (2, .int a1), (3, .int a2), (4, .int a3), (5, .int a4)]) hx hb dX11_judge_16 hl (by decide +kernel) rfl ?_
      clear hl
      intro ls hl
      refine lv_iload hx hb dX11_judge_18 (lv_at hl 0 rfl) ?_
      refine b_if_eq hx hb zl_0 (tgt := 30) dX11_judge_20 (by decide +kernel) (fun c_29 => ?_) (fun c_29 => by exfalso; omega)
      refine lv_iload hx hb dX11_judge_30 (lv_at hl 5 rfl) ?_
      refine lv_aload_n hx hb dX11_judge_32 rfl (lv_at hl 1 rfl) ?_
      refine lv_iload_n hx hb dX11_judge_33 rfl (lv_at hl 2 rfl) ?_
      refine lv_iconst (v := 0) hx hb dX11_judge_34 (by decide +kernel) ?_
      refine kJi (wr := [(k4, .inl (cI, 6, .inl c4)), (k5, .inl (cI, 4, .inl c5)), (k6, .inl (cI, 4, .inl c6)), (k7, .inl (cI, 144, .inl c7))]) (va_runV (As := [.int a0, .int 0]) (rest := [.int a3]) ⟨hx, hb, hml, hown, hT⟩ (c_X11_partyG0 l D cI aK aV k k0 k1 k2 k4 k5 k6 k7 k8 ka kb kl ko H.size c3 c9 cc cd ce cf cg ch ci cj ck cm cn c0 a0 0 (by first | omega | (simp only [zl_0]; first | done | omega) | decide | assumption | rfl) (by first | omega | (simp only [zl_0]; first | done | omega) | decide | assumption | rfl) (by first | omega | (simp only [zl_0]; first | done | omega) | decide | assumption | rfl)) (cwV 2 hT (gV_in mw_1416 mw_1413 mw_1415 mw_p5_5 mw_12) rfl rfl rfl (by decide +kernel) ⟨Nat.le_of_ble_eq_true rfl, Nat.le_of_ble_eq_true rfl⟩) (kRecvX (q0 := 1) (ci := 11) hK hP hD hN hXS hS hA rfl rfl [1, 2] rfl (by decide +kernel)) rfl rfl hl.1 rfl (lv_room (Nat.le_of_ble_eq_true rfl)) dX11_judge_35 ⟨Nat.le_of_ble_eq_true rfl, Nat.le_of_ble_eq_true rfl⟩) hP hD hS hA [1, 2] [0, 3, 4, 5] rfl rfl (by decide +kernel) (by decide +kernel) ?_
      clear hP hD hS
      intro r_30 u_32 H locs w_31 hP hD hS
      replace hP : va_P D vwCl [(k4, .inl (cI, 6, .inl c4)), (k5, .inl (cI, 4, .inl c5)), (k6, .inl (cI, 4, .inl c6)), (k7, .inl (cI, 144, .inl c7)), (k, .inr (11, [.ref k0, .ref k1, .ref k2, .int c3, .ref k4, .ref k5, .ref k6, .ref k7, .ref k8, .int c9, .ref ka, .ref kb, .int cc, .int cd, .int ce, .int cf, .int cg, .int ch, .int ci, .int cj, .int ck, .ref kl, .int cm, .int cn, .ref ko])), (k0, .inl (cI, 1201, .inl c0))] H := hP
      replace hD : va_D A [(k4, .inl (cI, 6, .inl c4)), (k5, .inl (cI, 4, .inl c5)), (k6, .inl (cI, 4, .inl c6)), (k7, .inl (cI, 144, .inl c7)), (k, .inr (11, [.ref k0, .ref k1, .ref k2, .int c3, .ref k4, .ref k5, .ref k6, .ref k7, .ref k8, .int c9, .ref ka, .ref kb, .int cc, .int cd, .int ce, .int cf, .int cg, .int ch, .int ci, .int cj, .int ck, .ref kl, .int cm, .int cn, .ref ko])), (k0, .inl (cI, 1201, .inl c0))] := hD
      have h_33 := w_31
      have h_33 : r_30 = pW c0 a0 0 := h_33
      have t_34 : r_30.toInt = (pW c0 a0 0).toInt := by rw [h_33]
      have b_35 : 0 ≤ r_30.toInt ∧ r_30.toInt ≤ 39 := by rw [h_33]; exact SB.p0 (And.left pre0) (by omega) (by omega)
      have lo_r_30 := k_lo r_30
      have hi_r_30 := k_hi r_30
      refine lv_aload_n hx hb dX11_judge_38 rfl (lv_at hl 1 rfl) ?_
      refine lv_iload_n hx hb dX11_judge_39 rfl (lv_at hl 3 rfl) ?_
      refine lv_iconst (v := 0) hx hb dX11_judge_40 (by decide +kernel) ?_
      refine kJi (wr := [(k4, .inl (cI, 6, .inl c4)), (k5, .inl (cI, 4, .inl c5)), (k6, .inl (cI, 4, .inl c6)), (k7, .inl (cI, 144, .inl c7))]) (va_runV (As := [.int a1, .int 0]) (rest := [.int r_30, .int a3]) ⟨hx, hb, hml, hown, hT⟩ (c_X11_partyG0 l D cI aK aV k k0 k1 k2 k4 k5 k6 k7 k8 ka kb kl ko H.size c3 c9 cc cd ce cf cg ch ci cj ck cm cn c0 a1 0 (by first | omega | (simp only [zl_0]; first | done | omega) | decide | assumption | rfl) (by first | omega | (simp only [zl_0]; first | done | omega) | decide | assumption | rfl) (by first | omega | (simp only [zl_0]; first | done | omega) | decide | assumption | rfl)) (cwV 2 hT (gV_in mw_1416 mw_1413 mw_1415 mw_p5_5 mw_12) rfl rfl rfl (by decide +kernel) ⟨Nat.le_of_ble_eq_true rfl, Nat.le_of_ble_eq_true rfl⟩) (kRecvX (q0 := 4) (ci := 11) hK hP hD hN hXS hS hA rfl rfl [4, 5] rfl (by decide +kernel)) rfl rfl hl.1 rfl (lv_room (Nat.le_of_ble_eq_true rfl)) dX11_judge_41 ⟨Nat.le_of_ble_eq_true rfl, Nat.le_of_ble_eq_true rfl⟩) hP hD hS hA [4, 5] [0, 1, 2, 3] rfl rfl (by decide +kernel) (by decide +kernel) ?_
      clear hP hD hS
      intro r_36 u_38 H locs w_37 hP hD hS
      replace hP : va_P D vwCl [(k4, .inl (cI, 6, .inl c4)), (k5, .inl (cI, 4, .inl c5)), (k6, .inl (cI, 4, .inl c6)), (k7, .inl (cI, 144, .inl c7)), (k, .inr (11, [.ref k0, .ref k1, .ref k2, .int c3, .ref k4, .ref k5, .ref k6, .ref k7, .ref k8, .int c9, .ref ka, .ref kb, .int cc, .int cd, .int ce, .int cf, .int cg, .int ch, .int ci, .int cj, .int ck, .ref kl, .int cm, .int cn, .ref ko])), (k0, .inl (cI, 1201, .inl c0))] H := hP
      replace hD : va_D A [(k4, .inl (cI, 6, .inl c4)), (k5, .inl (cI, 4, .inl c5)), (k6, .inl (cI, 4, .inl c6)), (k7, .inl (cI, 144, .inl c7)), (k, .inr (11, [.ref k0, .ref k1, .ref k2, .int c3, .ref k4, .ref k5, .ref k6, .ref k7, .ref k8, .int c9, .ref ka, .ref kb, .int cc, .int cd, .int ce, .int cf, .int cg, .int ch, .int ci, .int cj, .int ck, .ref kl, .int cm, .int cn, .ref ko])), (k0, .inl (cI, 1201, .inl c0))] := hD
      have h_39 := w_37
      have h_39 : r_36 = pW c0 a1 0 := h_39
      have t_40 : r_36.toInt = (pW c0 a1 0).toInt := by rw [h_39]
      have b_41 : 0 ≤ r_36.toInt ∧ r_36.toInt ≤ 39 := by rw [h_39]; exact SB.p0 (And.left pre0) (by omega) (by omega)
      have lo_r_36 := k_lo r_36
      have hi_r_36 := k_hi r_36
      refine lv_iconst (v := 1) hx hb dX11_judge_44 (by decide +kernel) ?_
      refine lv_isub hx hb dX11_judge_45 ?_
      refine lv_topi (fun v_42 ev_42 => ?_)
      have tv_42 : v_42.toInt = r_36.toInt - 1 := by rw [ev_42]; exact k_subv rfl zl_1 (by omega) (by omega)
      refine kJi (wr := [(k4, .inl (cI, 6, .inl c4)), (k5, .inl (cI, 4, .inl c5)), (k6, .inl (cI, 4, .inl c6)), (k7, .inl (cI, 144, .inl c7)), (k, .inr (11, [.ref k0, .ref k1, .ref k2, .int c3, .ref k4, .ref k5, .ref k6, .ref k7, .ref k8, .int c9, .ref ka, .ref kb, .int cc, .int cd, .int ce, .int cf, .int cg, .int ch, .int ci, .int cj, .int ck, .ref kl, .int cm, .int cn, .ref ko])), (k0, .inl (cI, 1201, .inl c0))]) (va_runS (As := [.int a3, .int r_30, .int v_42]) (rest := []) ⟨hx, hb, hml, hown, hT⟩ (c_X11_inG l D cI aK aV H.size a3 r_30 v_42) (cwS 3 hT (gS_in mw_1238 mw_1236 mw_1237 mw_12) rfl rfl rfl (by decide +kernel) ⟨Nat.le_of_ble_eq_true rfl, Nat.le_of_ble_eq_true rfl⟩) (kStatX hK hP hD hN hXS hS hA [] rfl (by decide +kernel)) rfl rfl hl.1 rfl (lv_room (Nat.le_of_ble_eq_true rfl)) dX11_judge_46 ⟨Nat.le_of_ble_eq_true rfl, Nat.le_of_ble_eq_true rfl⟩) hP hD hS hA [] [0, 1, 2, 3, 4, 5] rfl rfl (by decide +kernel) (by decide +kernel) ?_
      clear hP hD hS
      intro r_43 u_45 H locs w_44 hP hD hS
      replace hP : va_P D vwCl [(k4, .inl (cI, 6, .inl c4)), (k5, .inl (cI, 4, .inl c5)), (k6, .inl (cI, 4, .inl c6)), (k7, .inl (cI, 144, .inl c7)), (k, .inr (11, [.ref k0, .ref k1, .ref k2, .int c3, .ref k4, .ref k5, .ref k6, .ref k7, .ref k8, .int c9, .ref ka, .ref kb, .int cc, .int cd, .int ce, .int cf, .int cg, .int ch, .int ci, .int cj, .int ck, .ref kl, .int cm, .int cn, .ref ko])), (k0, .inl (cI, 1201, .inl c0))] H := hP
      replace hD : va_D A [(k4, .inl (cI, 6, .inl c4)), (k5, .inl (cI, 4, .inl c5)), (k6, .inl (cI, 4, .inl c6)), (k7, .inl (cI, 144, .inl c7)), (k, .inr (11, [.ref k0, .ref k1, .ref k2, .int c3, .ref k4, .ref k5, .ref k6, .ref k7, .ref k8, .int c9, .ref ka, .ref kb, .int cc, .int cd, .int ce, .int cf, .int cg, .int ch, .int ci, .int cj, .int ck, .ref kl, .int cm, .int cn, .ref ko])), (k0, .inl (cI, 1201, .inl c0))] := hD
      rcases w_44 with ⟨hr_43, h_46, h_47⟩ | ⟨hr_43, h_48⟩
      · have h_46 : r_30.toInt ≤ a3.toInt := h_46
        have h_47 : a3.toInt ≤ v_42.toInt := h_47
        obtain rfl : r_43 = 1 := hr_43.trans (by decide +kernel)
        refine b_if_ne hx hb zl_1 (tgt := 59) dX11_judge_49 (by decide +kernel) (fun c_49 => ?_) (fun c_49 => by exfalso; omega)
        refine lv_aload_n hx hb dX11_judge_59 rfl (lv_at hl 1 rfl) ?_
        refine lv_iload_n hx hb dX11_judge_60 rfl (lv_at hl 2 rfl) ?_
        refine lv_iload_n hx hb dX11_judge_61 rfl (lv_at hl 3 rfl) ?_
        refine lv_iload_n hx hb dX11_judge_62 rfl (lv_at hl 4 rfl) ?_
        refine lv_iload hx hb dX11_judge_63 (lv_at hl 5 rfl) ?_
        refine kJi (wr := [(k4, .inl (cI, 6, .inl c4)), (k5, .inl (cI, 4, .inl c5))]) (va_runV (As := [.int a0, .int a1, .int a2, .int a3]) (rest := []) ⟨hx, hb, hml, hown, hT⟩ (c_X11_worstG l D cI aK aV k k0 k1 k2 k4 k5 k6 k7 k8 ka kb kl ko H.size c3 c9 cc cd ce cf cg ch ci cj ck cm cn c0 c6 c7 a0 a1 a2 a3 (And.left pre0) pre1 (by first | omega | decide | assumption | rfl) (by first | omega | decide | assumption | rfl) (by first | omega | decide | assumption | rfl) (by first | omega | decide | assumption | rfl) (by first | omega | decide | assumption | rfl) (by first | omega | decide | assumption | rfl) (by first | omega | decide | assumption | rfl) (by first | omega | decide | assumption | rfl) (by first | omega | decide | assumption | rfl) (by first | omega | decide | assumption | rfl) (by first | omega | decide | assumption | rfl) (by first | omega | decide | assumption | rfl) (by first | omega | decide | assumption | rfl) (by first | omega | decide | assumption | rfl) (by first | omega | decide | assumption | rfl)) (cwV 4 hT (gV_in mw_1519 mw_1516 mw_1518 mw_p5_13 mw_12) rfl rfl rfl (by decide +kernel) ⟨Nat.le_of_ble_eq_true rfl, Nat.le_of_ble_eq_true rfl⟩) (kRecvX (q0 := 4) (ci := 11) hK hP hD hN hXS hS hA rfl rfl [4, 5, 2, 3] rfl (by decide +kernel)) rfl rfl hl.1 rfl (lv_room (Nat.le_of_ble_eq_true rfl)) dX11_judge_65 ⟨Nat.le_of_ble_eq_true rfl, Nat.le_of_ble_eq_true rfl⟩) hP hD hS hA [4, 5, 2, 3] [0, 1] rfl rfl (by decide +kernel) (by decide +kernel) ?_
        clear hP hD hS
        intro r_50 u_52 H locs w_51 hP hD hS
        replace hP : va_P D vwCl [(k4, .inl (cI, 6, .inl c4)), (k5, .inl (cI, 4, .inl c5)), (k, .inr (11, [.ref k0, .ref k1, .ref k2, .int c3, .ref k4, .ref k5, .ref k6, .ref k7, .ref k8, .int c9, .ref ka, .ref kb, .int cc, .int cd, .int ce, .int cf, .int cg, .int ch, .int ci, .int cj, .int ck, .ref kl, .int cm, .int cn, .ref ko])), (k0, .inl (cI, 1201, .inl c0)), (k6, .inl (cI, 4, .inl c6)), (k7, .inl (cI, 144, .inl c7))] H := hP
        replace hD : va_D A [(k4, .inl (cI, 6, .inl c4)), (k5, .inl (cI, 4, .inl c5)), (k, .inr (11, [.ref k0, .ref k1, .ref k2, .int c3, .ref k4, .ref k5, .ref k6, .ref k7, .ref k8, .int c9, .ref ka, .ref kb, .int cc, .int cd, .int ce, .int cf, .int cg, .int ch, .int ci, .int cj, .int ck, .ref kl, .int cm, .int cn, .ref ko])), (k0, .inl (cI, 1201, .inl c0)), (k6, .inl (cI, 4, .inl c6)), (k7, .inl (cI, 144, .inl c7))] := hD
        have lo_r_50 := k_lo r_50
        have hi_r_50 := k_hi r_50
        refine lv_istore (lv' := [(7, .int r_50), (6, .int 0), (0, .ref k), (1, .int a0), (2, .int a1), (3, .int a2), (4, .int a3), (5, .int a4)]) hx hb dX11_judge_68 hl (by decide +kernel) rfl ?_
        clear hl
        intro ls hl
        refine lv_iload hx hb dX11_judge_70 (lv_at hl 0 rfl) ?_
        refine lv_iload hx hb dX11_judge_72 (lv_at hl 7 rfl) ?_
        refine b_icmp_gt hx hb rfl rfl (tgt := 82) dX11_judge_74 (by decide +kernel) (fun c_53 => ?_) (fun c_53 => ?_)
        · refine lv_iconst (v := (-1)) hx hb dX11_judge_82 (by decide +kernel) ?_
          exact hRet c4 [2, 3, 0, 1, 4, 5] trivial hP hD (by decide +kernel) rfl hS rfl dX11_judge_83
        · refine lv_iload hx hb dX11_judge_77 (lv_at hl 0 rfl) ?_
          refine lv_goto (tgt := 83) hx hb dX11_judge_79 (by decide +kernel) ?_
          exact hRet c4 [2, 3, 0, 1, 4, 5] trivial hP hD (by decide +kernel) rfl hS rfl dX11_judge_83
      · have h_48 : a3.toInt < r_30.toInt ∨ v_42.toInt < a3.toInt := h_48
        obtain rfl : r_43 = 0 := hr_43.trans (by decide +kernel)
        refine b_if_ne hx hb zl_0 (tgt := 59) dX11_judge_49 (by decide +kernel) (fun c_54 => by exfalso; omega) (fun c_54 => ?_)
        refine lv_aload_n hx hb dX11_judge_52 rfl (lv_at hl 1 rfl) ?_
        refine lv_ldc (v := (-1000001)) hx hb hown (hT _ mw_1239) dX11_judge_53 ?_
        refine kJi (wr := [(k5, .inl (cI, 4, .inl c5)), (k6, .inl (cI, 4, .inl c6)), (k7, .inl (cI, 144, .inl c7)), (k0, .inl (cI, 1201, .inl c0))]) (va_runV (As := [.int (-1000001)]) (rest := []) ⟨hx, hb, hml, hown, hT⟩ (c_X11_findingG l D cI aK aV k k0 k1 k2 k4 k5 k6 k7 k8 ka kb kl ko H.size c3 c9 cc cd ce cf cg ch ci cj ck cm cn c4 (-1000001) (by first | omega | (simp only [zl_m1000001]; first | done | omega) | decide | assumption | rfl) (by first | omega | (simp only [zl_m1000001]; first | done | omega) | decide | assumption | rfl)) (cwV 1 hT (gV_in mw_1243 mw_1240 mw_1242 mw_p3_8 mw_12) rfl rfl rfl (by decide +kernel) ⟨Nat.le_of_ble_eq_true rfl, Nat.le_of_ble_eq_true rfl⟩) (kRecvX (q0 := 4) (ci := 11) hK hP hD hN hXS hS hA rfl rfl [4, 0] rfl (by decide +kernel)) rfl rfl hl.1 rfl (lv_room (Nat.le_of_ble_eq_true rfl)) dX11_judge_55 ⟨Nat.le_of_ble_eq_true rfl, Nat.le_of_ble_eq_true rfl⟩) hP hD hS hA [4, 0] [1, 2, 3, 5] rfl rfl (by decide +kernel) (by decide +kernel) ?_
        clear hP hD hS
        intro r_55 sc4_57 H locs w_56 hP hD hS
        replace hP : va_P D vwCl [(k5, .inl (cI, 4, .inl c5)), (k6, .inl (cI, 4, .inl c6)), (k7, .inl (cI, 144, .inl c7)), (k0, .inl (cI, 1201, .inl c0)), (k, .inr (11, [.ref k0, .ref k1, .ref k2, .int c3, .ref k4, .ref k5, .ref k6, .ref k7, .ref k8, .int c9, .ref ka, .ref kb, .int cc, .int cd, .int ce, .int cf, .int cg, .int ch, .int ci, .int cj, .int ck, .ref kl, .int cm, .int cn, .ref ko])), (k4, .inl (cI, 6, .inl sc4_57))] H := hP
        replace hD : va_D A [(k5, .inl (cI, 4, .inl c5)), (k6, .inl (cI, 4, .inl c6)), (k7, .inl (cI, 144, .inl c7)), (k0, .inl (cI, 1201, .inl c0)), (k, .inr (11, [.ref k0, .ref k1, .ref k2, .int c3, .ref k4, .ref k5, .ref k6, .ref k7, .ref k8, .int c9, .ref ka, .ref kb, .int cc, .int cd, .int ce, .int cf, .int cg, .int ch, .int ci, .int cj, .int ck, .ref kl, .int cm, .int cn, .ref ko])), (k4, .inl (cI, 6, .inl sc4_57))] := hD
        have hr_55 := w_56
        obtain rfl : r_55 = (-1000001) := hr_55.trans (by decide +kernel)
        exact hRet sc4_57 [4, 3, 5, 0, 1, 2] trivial hP hD (by decide +kernel) rfl hS rfl dX11_judge_58
    · try simp only [zl_1] at h_27
      have h_27 : -1000005 ≤ r_10.toInt := h_27
      try simp only [zl_1] at h_28
      have h_28 : r_10.toInt ≤ -1000001 := h_28
      have lo_r_10 := k_lo r_10
      have hi_r_10 := k_hi r_10
      refine lv_istore (lv' := [(6, .int r_10), (0, .ref k), (1, .int a0), (2, .int a1), (3, .int a2), (4, .int a3), (5, .int a4)]) hx hb dX11_judge_16 hl (by decide +kernel) rfl ?_
      clear hl
      intro ls hl
      refine lv_iload hx hb dX11_judge_18 (lv_at hl 0 rfl) ?_
      refine b_if_eq hx hb rfl (tgt := 30) dX11_judge_20 (by decide +kernel) (fun c_58 => by exfalso; omega) (fun c_58 => ?_)
      refine lv_aload_n hx hb dX11_judge_23 rfl (lv_at hl 1 rfl) ?_
      refine lv_iload hx hb dX11_judge_24 (lv_at hl 0 rfl) ?_
      refine kJi (wr := [(k0, .inl (cI, 1201, .inl c0)), (k5, .inl (cI, 4, .inl c5)), (k6, .inl (cI, 4, .inl c6)), (k7, .inl (cI, 144, .inl c7))]) (va_runV (As := [.int r_10]) (rest := []) ⟨hx, hb, hml, hown, hT⟩ (c_X11_findingG l D cI aK aV k k0 k1 k2 k4 k5 k6 k7 k8 ka kb kl ko H.size c3 c9 cc cd ce cf cg ch ci cj ck cm cn c4 r_10 (by first | omega | decide | assumption | rfl) (by first | omega | decide | assumption | rfl)) (cwV 1 hT (gV_in mw_1243 mw_1240 mw_1242 mw_p3_8 mw_12) rfl rfl rfl (by decide +kernel) ⟨Nat.le_of_ble_eq_true rfl, Nat.le_of_ble_eq_true rfl⟩) (kRecvX (q0 := 1) (ci := 11) hK hP hD hN hXS hS hA rfl rfl [1, 0] rfl (by decide +kernel)) rfl rfl hl.1 rfl (lv_room (Nat.le_of_ble_eq_true rfl)) dX11_judge_26 ⟨Nat.le_of_ble_eq_true rfl, Nat.le_of_ble_eq_true rfl⟩) hP hD hS hA [1, 0] [2, 3, 4, 5] rfl rfl (by decide +kernel) (by decide +kernel) ?_
      clear hP hD hS
      intro r_59 sc4_61 H locs w_60 hP hD hS
      replace hP : va_P D vwCl [(k0, .inl (cI, 1201, .inl c0)), (k5, .inl (cI, 4, .inl c5)), (k6, .inl (cI, 4, .inl c6)), (k7, .inl (cI, 144, .inl c7)), (k, .inr (11, [.ref k0, .ref k1, .ref k2, .int c3, .ref k4, .ref k5, .ref k6, .ref k7, .ref k8, .int c9, .ref ka, .ref kb, .int cc, .int cd, .int ce, .int cf, .int cg, .int ch, .int ci, .int cj, .int ck, .ref kl, .int cm, .int cn, .ref ko])), (k4, .inl (cI, 6, .inl sc4_61))] H := hP
      replace hD : va_D A [(k0, .inl (cI, 1201, .inl c0)), (k5, .inl (cI, 4, .inl c5)), (k6, .inl (cI, 4, .inl c6)), (k7, .inl (cI, 144, .inl c7)), (k, .inr (11, [.ref k0, .ref k1, .ref k2, .int c3, .ref k4, .ref k5, .ref k6, .ref k7, .ref k8, .int c9, .ref ka, .ref kb, .int cc, .int cd, .int ce, .int cf, .int cg, .int ch, .int ci, .int cj, .int ck, .ref kl, .int cm, .int cn, .ref ko])), (k4, .inl (cI, 6, .inl sc4_61))] := hD
      have hr_59 := w_60
      have hr_59 : r_59 = r_10 := hr_59
      subst r_59
      exact hRet sc4_61 [4, 0, 5, 1, 2, 3] trivial hP hD (by decide +kernel) rfl hS rfl dX11_judge_29
  · try simp only [zl_0, zl_9999] at h_9
    have h_9 : a4.toInt < 0 ∨ 9999 < a4.toInt := h_9
    obtain rfl : r_4 = 0 := hr_4.trans (by decide +kernel)
    refine kJi (wr := [(k4, .inl (cI, 6, .inl c4))]) (va_runV (As := [.int a0, .int a1, .int a2, .int 0]) (rest := []) ⟨hx, hb, hml, hown, hT⟩ (c_X11_noMeetingG l D cI aK aV k k0 k1 k2 k4 k5 k6 k7 k8 ka kb kl ko H.size c3 c9 cc cd ce cf cg ch ci cj ck cm cn c0 c5 c6 c7 a0 a1 a2 0 pre0 pre1) (cwV 4 hT (gV_in mw_1515 mw_1512 mw_1514 mw_p5_12 mw_12) rfl rfl rfl (by decide +kernel) ⟨Nat.le_of_ble_eq_true rfl, Nat.le_of_ble_eq_true rfl⟩) (kRecvX (q0 := 0) (ci := 11) hK hP hD hN hXS hS hA rfl rfl [0, 1, 3, 4, 5] rfl (by decide +kernel)) rfl rfl hl.1 rfl (lv_room (Nat.le_of_ble_eq_true rfl)) dX11_judge_13 ⟨Nat.le_of_ble_eq_true rfl, Nat.le_of_ble_eq_true rfl⟩) hP hD hS hA [0, 1, 3, 4, 5] [2] rfl rfl (by decide +kernel) (by decide +kernel) ?_
    clear hP hD hS
    intro r_62 u_64 H locs w_63 hP hD hS
    replace hP : va_P D vwCl [(k4, .inl (cI, 6, .inl c4)), (k, .inr (11, [.ref k0, .ref k1, .ref k2, .int c3, .ref k4, .ref k5, .ref k6, .ref k7, .ref k8, .int c9, .ref ka, .ref kb, .int cc, .int cd, .int ce, .int cf, .int cg, .int ch, .int ci, .int cj, .int ck, .ref kl, .int cm, .int cn, .ref ko])), (k0, .inl (cI, 1201, .inl c0)), (k5, .inl (cI, 4, .inl c5)), (k6, .inl (cI, 4, .inl c6)), (k7, .inl (cI, 144, .inl c7))] H := hP
    replace hD : va_D A [(k4, .inl (cI, 6, .inl c4)), (k, .inr (11, [.ref k0, .ref k1, .ref k2, .int c3, .ref k4, .ref k5, .ref k6, .ref k7, .ref k8, .int c9, .ref ka, .ref kb, .int cc, .int cd, .int ce, .int cf, .int cg, .int ch, .int ci, .int cj, .int ck, .ref kl, .int cm, .int cn, .ref ko])), (k0, .inl (cI, 1201, .inl c0)), (k5, .inl (cI, 4, .inl c5)), (k6, .inl (cI, 4, .inl c6)), (k7, .inl (cI, 144, .inl c7))] := hD
    rcases w_63 with ⟨hr_62, h_65, h_66, h_67, h_68, h_69, h_70, h_71, h_72, h_73, h_74, h_75, h_76, h_77, h_78⟩ | ⟨h_79, h_80⟩
    · try simp only [zl_0] at h_65
      have h_65 : 0 ≤ a0.toInt := h_65
      try simp only [zl_0] at h_66
      have h_66 : a0.toInt < (c0 2).toInt := h_66
      try simp only [zl_0] at h_67
      have h_67 : 0 ≤ a1.toInt := h_67
      try simp only [zl_0] at h_68
      have h_68 : a1.toInt < (c0 2).toInt := h_68
      try simp only [zl_0] at h_69
      have h_69 : (pW c0 a0 1).toInt = 1 := h_69
      try simp only [zl_0] at h_70
      have h_70 : (pW c0 a1 1).toInt = (-1) := h_70
      try simp only [zl_0] at h_71
      have h_71 : 1 ≤ (pW c0 a0 2).toInt := h_71
      try simp only [zl_0] at h_72
      have h_72 : 1 ≤ (pW c0 a1 2).toInt := h_72
      try simp only [zl_0] at h_73
      have h_73 : 0 ≤ a2.toInt := h_73
      try simp only [zl_0] at h_74
      have h_74 : a2.toInt ≤ 3 := h_74
      try simp only [zl_0] at h_75
      have h_75 : 12 ≤ (c6 a2.toNatClampNeg).toInt := h_75
      try simp only [zl_0] at h_76
      have h_76 : (c6 a2.toNatClampNeg).toInt ≤ 36 := h_76
      try simp only [zl_0] at h_77
      have h_77 : ∀ k : Nat, (k : Int) < (c6 a2.toNatClampNeg).toInt → 0 ≤ (c7 (36 * a2.toInt.toNat + k)).toInt ∧ (c7 (36 * a2.toInt.toNat + k)).toInt ≤ 9 := h_77
      try simp only [zl_0] at h_78
      have h_78 : (pW c0 a0 0).toInt < (pW c0 a1 0).toInt := h_78
      obtain rfl : r_62 = 0 := hr_62.trans (by decide +kernel)
      refine lv_istore (lv' := [(6, .int 0), (0, .ref k), (1, .int a0), (2, .int a1), (3, .int a2), (4, .int a3), (5, .int a4)]) hx hb dX11_judge_16 hl (by decide +kernel) rfl ?_
      clear hl
      intro ls hl
      refine lv_iload hx hb dX11_judge_18 (lv_at hl 0 rfl) ?_
      refine b_if_eq hx hb zl_0 (tgt := 30) dX11_judge_20 (by decide +kernel) (fun c_81 => ?_) (fun c_81 => by exfalso; omega)
      refine lv_iload hx hb dX11_judge_30 (lv_at hl 5 rfl) ?_
      refine lv_aload_n hx hb dX11_judge_32 rfl (lv_at hl 1 rfl) ?_
      refine lv_iload_n hx hb dX11_judge_33 rfl (lv_at hl 2 rfl) ?_
      refine lv_iconst (v := 0) hx hb dX11_judge_34 (by decide +kernel) ?_
      refine kJi (wr := [(k4, .inl (cI, 6, .inl c4)), (k5, .inl (cI, 4, .inl c5)), (k6, .inl (cI, 4, .inl c6)), (k7, .inl (cI, 144, .inl c7))]) (va_runV (As := [.int a0, .int 0]) (rest := [.int a3]) ⟨hx, hb, hml, hown, hT⟩ (c_X11_partyG0 l D cI aK aV k k0 k1 k2 k4 k5 k6 k7 k8 ka kb kl ko H.size c3 c9 cc cd ce cf cg ch ci cj ck cm cn c0 a0 0 (by first | omega | (simp only [zl_0]; first | done | omega) | decide | assumption | rfl) (by first | omega | (simp only [zl_0]; first | done | omega) | decide | assumption | rfl) (by first | omega | (simp only [zl_0]; first | done | omega) | decide | assumption | rfl)) (cwV 2 hT (gV_in mw_1416 mw_1413 mw_1415 mw_p5_5 mw_12) rfl rfl rfl (by decide +kernel) ⟨Nat.le_of_ble_eq_true rfl, Nat.le_of_ble_eq_true rfl⟩) (kRecvX (q0 := 1) (ci := 11) hK hP hD hN hXS hS hA rfl rfl [1, 2] rfl (by decide +kernel)) rfl rfl hl.1 rfl (lv_room (Nat.le_of_ble_eq_true rfl)) dX11_judge_35 ⟨Nat.le_of_ble_eq_true rfl, Nat.le_of_ble_eq_true rfl⟩) hP hD hS hA [1, 2] [0, 3, 4, 5] rfl rfl (by decide +kernel) (by decide +kernel) ?_
      clear hP hD hS
      intro r_82 u_84 H locs w_83 hP hD hS
      replace hP : va_P D vwCl [(k4, .inl (cI, 6, .inl c4)), (k5, .inl (cI, 4, .inl c5)), (k6, .inl (cI, 4, .inl c6)), (k7, .inl (cI, 144, .inl c7)), (k, .inr (11, [.ref k0, .ref k1, .ref k2, .int c3, .ref k4, .ref k5, .ref k6, .ref k7, .ref k8, .int c9, .ref ka, .ref kb, .int cc, .int cd, .int ce, .int cf, .int cg, .int ch, .int ci, .int cj, .int ck, .ref kl, .int cm, .int cn, .ref ko])), (k0, .inl (cI, 1201, .inl c0))] H := hP
      replace hD : va_D A [(k4, .inl (cI, 6, .inl c4)), (k5, .inl (cI, 4, .inl c5)), (k6, .inl (cI, 4, .inl c6)), (k7, .inl (cI, 144, .inl c7)), (k, .inr (11, [.ref k0, .ref k1, .ref k2, .int c3, .ref k4, .ref k5, .ref k6, .ref k7, .ref k8, .int c9, .ref ka, .ref kb, .int cc, .int cd, .int ce, .int cf, .int cg, .int ch, .int ci, .int cj, .int ck, .ref kl, .int cm, .int cn, .ref ko])), (k0, .inl (cI, 1201, .inl c0))] := hD
      have h_85 := w_83
      have h_85 : r_82 = pW c0 a0 0 := h_85
      have t_86 : r_82.toInt = (pW c0 a0 0).toInt := by rw [h_85]
      have b_87 : 0 ≤ r_82.toInt ∧ r_82.toInt ≤ 39 := by rw [h_85]; exact SB.p0 (And.left pre0) (by omega) (by omega)
      have lo_r_82 := k_lo r_82
      have hi_r_82 := k_hi r_82
      refine lv_aload_n hx hb dX11_judge_38 rfl (lv_at hl 1 rfl) ?_
      refine lv_iload_n hx hb dX11_judge_39 rfl (lv_at hl 3 rfl) ?_
      refine lv_iconst (v := 0) hx hb dX11_judge_40 (by decide +kernel) ?_
      refine kJi (wr := [(k4, .inl (cI, 6, .inl c4)), (k5, .inl (cI, 4, .inl c5)), (k6, .inl (cI, 4, .inl c6)), (k7, .inl (cI, 144, .inl c7))]) (va_runV (As := [.int a1, .int 0]) (rest := [.int r_82, .int a3]) ⟨hx, hb, hml, hown, hT⟩ (c_X11_partyG0 l D cI aK aV k k0 k1 k2 k4 k5 k6 k7 k8 ka kb kl ko H.size c3 c9 cc cd ce cf cg ch ci cj ck cm cn c0 a1 0 (by first | omega | (simp only [zl_0]; first | done | omega) | decide | assumption | rfl) (by first | omega | (simp only [zl_0]; first | done | omega) | decide | assumption | rfl) (by first | omega | (simp only [zl_0]; first | done | omega) | decide | assumption | rfl)) (cwV 2 hT (gV_in mw_1416 mw_1413 mw_1415 mw_p5_5 mw_12) rfl rfl rfl (by decide +kernel) ⟨Nat.le_of_ble_eq_true rfl, Nat.le_of_ble_eq_true rfl⟩) (kRecvX (q0 := 4) (ci := 11) hK hP hD hN hXS hS hA rfl rfl [4, 5] rfl (by decide +kernel)) rfl rfl hl.1 rfl (lv_room (Nat.le_of_ble_eq_true rfl)) dX11_judge_41 ⟨Nat.le_of_ble_eq_true rfl, Nat.le_of_ble_eq_true rfl⟩) hP hD hS hA [4, 5] [0, 1, 2, 3] rfl rfl (by decide +kernel) (by decide +kernel) ?_
      clear hP hD hS
      intro r_88 u_90 H locs w_89 hP hD hS
      replace hP : va_P D vwCl [(k4, .inl (cI, 6, .inl c4)), (k5, .inl (cI, 4, .inl c5)), (k6, .inl (cI, 4, .inl c6)), (k7, .inl (cI, 144, .inl c7)), (k, .inr (11, [.ref k0, .ref k1, .ref k2, .int c3, .ref k4, .ref k5, .ref k6, .ref k7, .ref k8, .int c9, .ref ka, .ref kb, .int cc, .int cd, .int ce, .int cf, .int cg, .int ch, .int ci, .int cj, .int ck, .ref kl, .int cm, .int cn, .ref ko])), (k0, .inl (cI, 1201, .inl c0))] H := hP
      replace hD : va_D A [(k4, .inl (cI, 6, .inl c4)), (k5, .inl (cI, 4, .inl c5)), (k6, .inl (cI, 4, .inl c6)), (k7, .inl (cI, 144, .inl c7)), (k, .inr (11, [.ref k0, .ref k1, .ref k2, .int c3, .ref k4, .ref k5, .ref k6, .ref k7, .ref k8, .int c9, .ref ka, .ref kb, .int cc, .int cd, .int ce, .int cf, .int cg, .int ch, .int ci, .int cj, .int ck, .ref kl, .int cm, .int cn, .ref ko])), (k0, .inl (cI, 1201, .inl c0))] := hD
      have h_91 := w_89
      have h_91 : r_88 = pW c0 a1 0 := h_91
      have t_92 : r_88.toInt = (pW c0 a1 0).toInt := by rw [h_91]
      have b_93 : 0 ≤ r_88.toInt ∧ r_88.toInt ≤ 39 := by rw [h_91]; exact SB.p0 (And.left pre0) (by omega) (by omega)
      have lo_r_88 := k_lo r_88
      have hi_r_88 := k_hi r_88
      refine lv_iconst (v := 1) hx hb dX11_judge_44 (by decide +kernel) ?_
      refine lv_isub hx hb dX11_judge_45 ?_
      refine lv_topi (fun v_94 ev_94 => ?_)
      have tv_94 : v_94.toInt = r_88.toInt - 1 := by rw [ev_94]; exact k_subv rfl zl_1 (by omega) (by omega)
      refine kJi (wr := [(k4, .inl (cI, 6, .inl c4)), (k5, .inl (cI, 4, .inl c5)), (k6, .inl (cI, 4, .inl c6)), (k7, .inl (cI, 144, .inl c7)), (k, .inr (11, [.ref k0, .ref k1, .ref k2, .int c3, .ref k4, .ref k5, .ref k6, .ref k7, .ref k8, .int c9, .ref ka, .ref kb, .int cc, .int cd, .int ce, .int cf, .int cg, .int ch, .int ci, .int cj, .int ck, .ref kl, .int cm, .int cn, .ref ko])), (k0, .inl (cI, 1201, .inl c0))]) (va_runS (As := [.int a3, .int r_82, .int v_94]) (rest := []) ⟨hx, hb, hml, hown, hT⟩ (c_X11_inG l D cI aK aV H.size a3 r_82 v_94) (cwS 3 hT (gS_in mw_1238 mw_1236 mw_1237 mw_12) rfl rfl rfl (by decide +kernel) ⟨Nat.le_of_ble_eq_true rfl, Nat.le_of_ble_eq_true rfl⟩) (kStatX hK hP hD hN hXS hS hA [] rfl (by decide +kernel)) rfl rfl hl.1 rfl (lv_room (Nat.le_of_ble_eq_true rfl)) dX11_judge_46 ⟨Nat.le_of_ble_eq_true rfl, Nat.le_of_ble_eq_true rfl⟩) hP hD hS hA [] [0, 1, 2, 3, 4, 5] rfl rfl (by decide +kernel) (by decide +kernel) ?_
      clear hP hD hS
      intro r_95 u_97 H locs w_96 hP hD hS
      replace hP : va_P D vwCl [(k4, .inl (cI, 6, .inl c4)), (k5, .inl (cI, 4, .inl c5)), (k6, .inl (cI, 4, .inl c6)), (k7, .inl (cI, 144, .inl c7)), (k, .inr (11, [.ref k0, .ref k1, .ref k2, .int c3, .ref k4, .ref k5, .ref k6, .ref k7, .ref k8, .int c9, .ref ka, .ref kb, .int cc, .int cd, .int ce, .int cf, .int cg, .int ch, .int ci, .int cj, .int ck, .ref kl, .int cm, .int cn, .ref ko])), (k0, .inl (cI, 1201, .inl c0))] H := hP
      replace hD : va_D A [(k4, .inl (cI, 6, .inl c4)), (k5, .inl (cI, 4, .inl c5)), (k6, .inl (cI, 4, .inl c6)), (k7, .inl (cI, 144, .inl c7)), (k, .inr (11, [.ref k0, .ref k1, .ref k2, .int c3, .ref k4, .ref k5, .ref k6, .ref k7, .ref k8, .int c9, .ref ka, .ref kb, .int cc, .int cd, .int ce, .int cf, .int cg, .int ch, .int ci, .int cj, .int ck, .ref kl, .int cm, .int cn, .ref ko])), (k0, .inl (cI, 1201, .inl c0))] := hD
      rcases w_96 with ⟨hr_95, h_98, h_99⟩ | ⟨hr_95, h_100⟩
      · have h_98 : r_82.toInt ≤ a3.toInt := h_98
        have h_99 : a3.toInt ≤ v_94.toInt := h_99
        obtain rfl : r_95 = 1 := hr_95.trans (by decide +kernel)
        refine b_if_ne hx hb zl_1 (tgt := 59) dX11_judge_49 (by decide +kernel) (fun c_101 => ?_) (fun c_101 => by exfalso; omega)
        refine lv_aload_n hx hb dX11_judge_59 rfl (lv_at hl 1 rfl) ?_
        refine lv_iload_n hx hb dX11_judge_60 rfl (lv_at hl 2 rfl) ?_
        refine lv_iload_n hx hb dX11_judge_61 rfl (lv_at hl 3 rfl) ?_
        refine lv_iload_n hx hb dX11_judge_62 rfl (lv_at hl 4 rfl) ?_
        refine lv_iload hx hb dX11_judge_63 (lv_at hl 5 rfl) ?_
        refine kJi (wr := [(k4, .inl (cI, 6, .inl c4)), (k5, .inl (cI, 4, .inl c5))]) (va_runV (As := [.int a0, .int a1, .int a2, .int a3]) (rest := []) ⟨hx, hb, hml, hown, hT⟩ (c_X11_worstG l D cI aK aV k k0 k1 k2 k4 k5 k6 k7 k8 ka kb kl ko H.size c3 c9 cc cd ce cf cg ch ci cj ck cm cn c0 c6 c7 a0 a1 a2 a3 (And.left pre0) pre1 (by first | omega | decide | assumption | rfl) (by first | omega | decide | assumption | rfl) (by first | omega | decide | assumption | rfl) (by first | omega | decide | assumption | rfl) (by first | omega | decide | assumption | rfl) (by first | omega | decide | assumption | rfl) (by first | omega | decide | assumption | rfl) (by first | omega | decide | assumption | rfl) (by first | omega | decide | assumption | rfl) (by first | omega | decide | assumption | rfl) (by first | omega | decide | assumption | rfl) (by first | omega | decide | assumption | rfl) (by first | omega | decide | assumption | rfl) (by first | omega | decide | assumption | rfl) (by first | omega | decide | assumption | rfl)) (cwV 4 hT (gV_in mw_1519 mw_1516 mw_1518 mw_p5_13 mw_12) rfl rfl rfl (by decide +kernel) ⟨Nat.le_of_ble_eq_true rfl, Nat.le_of_ble_eq_true rfl⟩) (kRecvX (q0 := 4) (ci := 11) hK hP hD hN hXS hS hA rfl rfl [4, 5, 2, 3] rfl (by decide +kernel)) rfl rfl hl.1 rfl (lv_room (Nat.le_of_ble_eq_true rfl)) dX11_judge_65 ⟨Nat.le_of_ble_eq_true rfl, Nat.le_of_ble_eq_true rfl⟩) hP hD hS hA [4, 5, 2, 3] [0, 1] rfl rfl (by decide +kernel) (by decide +kernel) ?_
        clear hP hD hS
        intro r_102 u_104 H locs w_103 hP hD hS
        replace hP : va_P D vwCl [(k4, .inl (cI, 6, .inl c4)), (k5, .inl (cI, 4, .inl c5)), (k, .inr (11, [.ref k0, .ref k1, .ref k2, .int c3, .ref k4, .ref k5, .ref k6, .ref k7, .ref k8, .int c9, .ref ka, .ref kb, .int cc, .int cd, .int ce, .int cf, .int cg, .int ch, .int ci, .int cj, .int ck, .ref kl, .int cm, .int cn, .ref ko])), (k0, .inl (cI, 1201, .inl c0)), (k6, .inl (cI, 4, .inl c6)), (k7, .inl (cI, 144, .inl c7))] H := hP
        replace hD : va_D A [(k4, .inl (cI, 6, .inl c4)), (k5, .inl (cI, 4, .inl c5)), (k, .inr (11, [.ref k0, .ref k1, .ref k2, .int c3, .ref k4, .ref k5, .ref k6, .ref k7, .ref k8, .int c9, .ref ka, .ref kb, .int cc, .int cd, .int ce, .int cf, .int cg, .int ch, .int ci, .int cj, .int ck, .ref kl, .int cm, .int cn, .ref ko])), (k0, .inl (cI, 1201, .inl c0)), (k6, .inl (cI, 4, .inl c6)), (k7, .inl (cI, 144, .inl c7))] := hD
        have lo_r_102 := k_lo r_102
        have hi_r_102 := k_hi r_102
        refine lv_istore (lv' := [(7, .int r_102), (6, .int 0), (0, .ref k), (1, .int a0), (2, .int a1), (3, .int a2), (4, .int a3), (5, .int a4)]) hx hb dX11_judge_68 hl (by decide +kernel) rfl ?_
        clear hl
        intro ls hl
        refine lv_iload hx hb dX11_judge_70 (lv_at hl 0 rfl) ?_
        refine lv_iload hx hb dX11_judge_72 (lv_at hl 7 rfl) ?_
        refine b_icmp_gt hx hb rfl rfl (tgt := 82) dX11_judge_74 (by decide +kernel) (fun c_105 => ?_) (fun c_105 => ?_)
        · refine lv_iconst (v := (-1)) hx hb dX11_judge_82 (by decide +kernel) ?_
          exact hRet c4 [2, 3, 0, 1, 4, 5] trivial hP hD (by decide +kernel) rfl hS rfl dX11_judge_83
        · refine lv_iload hx hb dX11_judge_77 (lv_at hl 0 rfl) ?_
          refine lv_goto (tgt := 83) hx hb dX11_judge_79 (by decide +kernel) ?_
          exact hRet c4 [2, 3, 0, 1, 4, 5] trivial hP hD (by decide +kernel) rfl hS rfl dX11_judge_83
      · have h_100 : a3.toInt < r_82.toInt ∨ v_94.toInt < a3.toInt := h_100
        obtain rfl : r_95 = 0 := hr_95.trans (by decide +kernel)
        refine b_if_ne hx hb zl_0 (tgt := 59) dX11_judge_49 (by decide +kernel) (fun c_106 => by exfalso; omega) (fun c_106 => ?_)
        refine lv_aload_n hx hb dX11_judge_52 rfl (lv_at hl 1 rfl) ?_
        refine lv_ldc (v := (-1000001)) hx hb hown (hT _ mw_1239) dX11_judge_53 ?_
        refine kJi (wr := [(k5, .inl (cI, 4, .inl c5)), (k6, .inl (cI, 4, .inl c6)), (k7, .inl (cI, 144, .inl c7)), (k0, .inl (cI, 1201, .inl c0))]) (va_runV (As := [.int (-1000001)]) (rest := []) ⟨hx, hb, hml, hown, hT⟩ (c_X11_findingG l D cI aK aV k k0 k1 k2 k4 k5 k6 k7 k8 ka kb kl ko H.size c3 c9 cc cd ce cf cg ch ci cj ck cm cn c4 (-1000001) (by first | omega | (simp only [zl_m1000001]; first | done | omega) | decide | assumption | rfl) (by first | omega | (simp only [zl_m1000001]; first | done | omega) | decide | assumption | rfl)) (cwV 1 hT (gV_in mw_1243 mw_1240 mw_1242 mw_p3_8 mw_12) rfl rfl rfl (by decide +kernel) ⟨Nat.le_of_ble_eq_true rfl, Nat.le_of_ble_eq_true rfl⟩) (kRecvX (q0 := 4) (ci := 11) hK hP hD hN hXS hS hA rfl rfl [4, 0] rfl (by decide +kernel)) rfl rfl hl.1 rfl (lv_room (Nat.le_of_ble_eq_true rfl)) dX11_judge_55 ⟨Nat.le_of_ble_eq_true rfl, Nat.le_of_ble_eq_true rfl⟩) hP hD hS hA [4, 0] [1, 2, 3, 5] rfl rfl (by decide +kernel) (by decide +kernel) ?_
        clear hP hD hS
        intro r_107 sc4_109 H locs w_108 hP hD hS
        replace hP : va_P D vwCl [(k5, .inl (cI, 4, .inl c5)), (k6, .inl (cI, 4, .inl c6)), (k7, .inl (cI, 144, .inl c7)), (k0, .inl (cI, 1201, .inl c0)), (k, .inr (11, [.ref k0, .ref k1, .ref k2, .int c3, .ref k4, .ref k5, .ref k6, .ref k7, .ref k8, .int c9, .ref ka, .ref kb, .int cc, .int cd, .int ce, .int cf, .int cg, .int ch, .int ci, .int cj, .int ck, .ref kl, .int cm, .int cn, .ref ko])), (k4, .inl (cI, 6, .inl sc4_109))] H := hP
        replace hD : va_D A [(k5, .inl (cI, 4, .inl c5)), (k6, .inl (cI, 4, .inl c6)), (k7, .inl (cI, 144, .inl c7)), (k0, .inl (cI, 1201, .inl c0)), (k, .inr (11, [.ref k0, .ref k1, .ref k2, .int c3, .ref k4, .ref k5, .ref k6, .ref k7, .ref k8, .int c9, .ref ka, .ref kb, .int cc, .int cd, .int ce, .int cf, .int cg, .int ch, .int ci, .int cj, .int ck, .ref kl, .int cm, .int cn, .ref ko])), (k4, .inl (cI, 6, .inl sc4_109))] := hD
        have hr_107 := w_108
        obtain rfl : r_107 = (-1000001) := hr_107.trans (by decide +kernel)
        exact hRet sc4_109 [4, 3, 5, 0, 1, 2] trivial hP hD (by decide +kernel) rfl hS rfl dX11_judge_58
    · try simp only [zl_0] at h_79
      have h_79 : -1000005 ≤ r_62.toInt := h_79
      try simp only [zl_0] at h_80
      have h_80 : r_62.toInt ≤ -1000001 := h_80
      have lo_r_62 := k_lo r_62
      have hi_r_62 := k_hi r_62
      refine lv_istore (lv' := [(6, .int r_62), (0, .ref k), (1, .int a0), (2, .int a1), (3, .int a2), (4, .int a3), (5, .int a4)]) hx hb dX11_judge_16 hl (by decide +kernel) rfl ?_
      clear hl
      intro ls hl
      refine lv_iload hx hb dX11_judge_18 (lv_at hl 0 rfl) ?_
      refine b_if_eq hx hb rfl (tgt := 30) dX11_judge_20 (by decide +kernel) (fun c_110 => by exfalso; omega) (fun c_110 => ?_)
      refine lv_aload_n hx hb dX11_judge_23 rfl (lv_at hl 1 rfl) ?_
      refine lv_iload hx hb dX11_judge_24 (lv_at hl 0 rfl) ?_
      refine kJi (wr := [(k0, .inl (cI, 1201, .inl c0)), (k5, .inl (cI, 4, .inl c5)), (k6, .inl (cI, 4, .inl c6)), (k7, .inl (cI, 144, .inl c7))]) (va_runV (As := [.int r_62]) (rest := []) ⟨hx, hb, hml, hown, hT⟩ (c_X11_findingG l D cI aK aV k k0 k1 k2 k4 k5 k6 k7 k8 ka kb kl ko H.size c3 c9 cc cd ce cf cg ch ci cj ck cm cn c4 r_62 (by first | omega | decide | assumption | rfl) (by first | omega | decide | assumption | rfl)) (cwV 1 hT (gV_in mw_1243 mw_1240 mw_1242 mw_p3_8 mw_12) rfl rfl rfl (by decide +kernel) ⟨Nat.le_of_ble_eq_true rfl, Nat.le_of_ble_eq_true rfl⟩) (kRecvX (q0 := 1) (ci := 11) hK hP hD hN hXS hS hA rfl rfl [1, 0] rfl (by decide +kernel)) rfl rfl hl.1 rfl (lv_room (Nat.le_of_ble_eq_true rfl)) dX11_judge_26 ⟨Nat.le_of_ble_eq_true rfl, Nat.le_of_ble_eq_true rfl⟩) hP hD hS hA [1, 0] [2, 3, 4, 5] rfl rfl (by decide +kernel) (by decide +kernel) ?_
      clear hP hD hS
      intro r_111 sc4_113 H locs w_112 hP hD hS
      replace hP : va_P D vwCl [(k0, .inl (cI, 1201, .inl c0)), (k5, .inl (cI, 4, .inl c5)), (k6, .inl (cI, 4, .inl c6)), (k7, .inl (cI, 144, .inl c7)), (k, .inr (11, [.ref k0, .ref k1, .ref k2, .int c3, .ref k4, .ref k5, .ref k6, .ref k7, .ref k8, .int c9, .ref ka, .ref kb, .int cc, .int cd, .int ce, .int cf, .int cg, .int ch, .int ci, .int cj, .int ck, .ref kl, .int cm, .int cn, .ref ko])), (k4, .inl (cI, 6, .inl sc4_113))] H := hP
      replace hD : va_D A [(k0, .inl (cI, 1201, .inl c0)), (k5, .inl (cI, 4, .inl c5)), (k6, .inl (cI, 4, .inl c6)), (k7, .inl (cI, 144, .inl c7)), (k, .inr (11, [.ref k0, .ref k1, .ref k2, .int c3, .ref k4, .ref k5, .ref k6, .ref k7, .ref k8, .int c9, .ref ka, .ref kb, .int cc, .int cd, .int ce, .int cf, .int cg, .int ch, .int ci, .int cj, .int ck, .ref kl, .int cm, .int cn, .ref ko])), (k4, .inl (cI, 6, .inl sc4_113))] := hD
      have hr_111 := w_112
      have hr_111 : r_111 = r_62 := hr_111
      subst r_111
      exact hRet sc4_113 [4, 0, 5, 1, 2, 3] trivial hP hD (by decide +kernel) rfl hS rfl dX11_judge_29
theorem bn_cX11_eaten_0 : BN cX11_eaten 0 0x5935e00a8010090a4800adc0a080e0ac1601521840a2f0202802b5158742e014e0747c5800adc382b13805462f0282802b5158707a04 := by
  unfold BN; decide +kernel
theorem dX11_eaten_0 : decode cX11_eaten 0 = .ok (.iconst 0, 1) := dR0 (k := 0) (i := 0) bn_cX11_eaten_0 dop_3 (by decide +kernel)
theorem dX11_eaten_1 : decode cX11_eaten 1 = .ok (.istore_n 1, 1) := dR0 (k := 0) (i := 1) bn_cX11_eaten_0 dop_60 (by decide +kernel)
theorem dX11_eaten_2 : decode cX11_eaten 2 = .ok (.iload_n 1, 1) := dR0 (k := 0) (i := 2) bn_cX11_eaten_0 dop_27 (by decide +kernel)
theorem dX11_eaten_3 : decode cX11_eaten 3 = .ok (.aload_n 0, 1) := dR0 (k := 0) (i := 3) bn_cX11_eaten_0 dop_42 (by decide +kernel)
theorem dX11_eaten_4 : decode cX11_eaten 4 = .ok (.getfield 9, 3) := dR2 (f := Instr.getfield) (k := 0) (i := 4) bn_cX11_eaten_0 dop_180 9 (by decide +kernel)
theorem dX11_eaten_7 : decode cX11_eaten 7 = .ok (.iconst 1, 1) := dR0 (k := 0) (i := 7) bn_cX11_eaten_0 dop_4 (by decide +kernel)
theorem dX11_eaten_8 : decode cX11_eaten 8 = .ok (.iaload, 1) := dR0 (k := 0) (i := 8) bn_cX11_eaten_0 dop_46 (by decide +kernel)
theorem dX11_eaten_9 : decode cX11_eaten 9 = .ok (.if_icmp .ge 38, 3) := dR2s (f := Instr.if_icmp .ge) (k := 0) (i := 9) bn_cX11_eaten_0 dop_162 38 38 (by decide +kernel)
theorem dX11_eaten_12 : decode cX11_eaten 12 = .ok (.aload_n 0, 1) := dR0 (k := 0) (i := 12) bn_cX11_eaten_0 dop_42 (by decide +kernel)
theorem dX11_eaten_13 : decode cX11_eaten 13 = .ok (.iload_n 1, 1) := dR0 (k := 0) (i := 13) bn_cX11_eaten_0 dop_27 (by decide +kernel)
theorem dX11_eaten_14 : decode cX11_eaten 14 = .ok (.invokevirtual 87, 3) := dR2 (f := Instr.invokevirtual) (k := 0) (i := 14) bn_cX11_eaten_0 dop_182 87 (by decide +kernel)
theorem dX11_eaten_17 : decode cX11_eaten 17 = .ok (.istore_n 2, 1) := dR0 (k := 0) (i := 17) bn_cX11_eaten_0 dop_61 (by decide +kernel)
theorem dX11_eaten_18 : decode cX11_eaten 18 = .ok (.iload_n 2, 1) := dR0 (k := 0) (i := 18) bn_cX11_eaten_0 dop_28 (by decide +kernel)
theorem dX11_eaten_19 : decode cX11_eaten 19 = .ok (.ifCond .lt 22, 3) := dR2s (f := Instr.ifCond .lt) (k := 0) (i := 19) bn_cX11_eaten_0 dop_155 22 22 (by decide +kernel)
theorem dX11_eaten_22 : decode cX11_eaten 22 = .ok (.iload_n 2, 1) := dR0 (k := 0) (i := 22) bn_cX11_eaten_0 dop_28 (by decide +kernel)
theorem dX11_eaten_23 : decode cX11_eaten 23 = .ok (.aload_n 0, 1) := dR0 (k := 0) (i := 23) bn_cX11_eaten_0 dop_42 (by decide +kernel)
theorem dX11_eaten_24 : decode cX11_eaten 24 = .ok (.getfield 9, 3) := dR2 (f := Instr.getfield) (k := 0) (i := 24) bn_cX11_eaten_0 dop_180 9 (by decide +kernel)
theorem dX11_eaten_27 : decode cX11_eaten 27 = .ok (.iconst 0, 1) := dR0 (k := 0) (i := 27) bn_cX11_eaten_0 dop_3 (by decide +kernel)
theorem dX11_eaten_28 : decode cX11_eaten 28 = .ok (.iaload, 1) := dR0 (k := 0) (i := 28) bn_cX11_eaten_0 dop_46 (by decide +kernel)
theorem dX11_eaten_29 : decode cX11_eaten 29 = .ok (.iconst 1, 1) := dR0 (k := 0) (i := 29) bn_cX11_eaten_0 dop_4 (by decide +kernel)
theorem dX11_eaten_30 : decode cX11_eaten 30 = .ok (.iadd, 1) := dR0 (k := 0) (i := 30) bn_cX11_eaten_0 dop_96 (by decide +kernel)
theorem dX11_eaten_31 : decode cX11_eaten 31 = .ok (.if_icmp .gt 10, 3) := dR2s (f := Instr.if_icmp .gt) (k := 0) (i := 31) bn_cX11_eaten_0 dop_163 10 10 (by decide +kernel)
theorem dX11_eaten_34 : decode cX11_eaten 34 = .ok (.aload_n 0, 1) := dR0 (k := 0) (i := 34) bn_cX11_eaten_0 dop_42 (by decide +kernel)
theorem dX11_eaten_35 : decode cX11_eaten 35 = .ok (.iload_n 1, 1) := dR0 (k := 0) (i := 35) bn_cX11_eaten_0 dop_27 (by decide +kernel)
theorem dX11_eaten_36 : decode cX11_eaten 36 = .ok (.iconst 4, 1) := dR0 (k := 0) (i := 36) bn_cX11_eaten_0 dop_7 (by decide +kernel)
theorem dX11_eaten_37 : decode cX11_eaten 37 = .ok (.iconst 1, 1) := dR0 (k := 0) (i := 37) bn_cX11_eaten_0 dop_4 (by decide +kernel)
theorem dX11_eaten_38 : decode cX11_eaten 38 = .ok (.invokevirtual 71, 3) := dR2 (f := Instr.invokevirtual) (k := 0) (i := 38) bn_cX11_eaten_0 dop_182 71 (by decide +kernel)
theorem dX11_eaten_41 : decode cX11_eaten 41 = .ok (.iinc 1 1, 3) := dRii (f := Instr.iinc) (k := 0) (i := 41) bn_cX11_eaten_0 dop_132 1 1 1 (by decide +kernel)
theorem dX11_eaten_44 : decode cX11_eaten 44 = .ok (.goto (-42), 3) := dR2s (f := Instr.goto) (k := 0) (i := 44) bn_cX11_eaten_0 dop_167 65494 (-42) (by decide +kernel)
theorem dX11_eaten_47 : decode cX11_eaten 47 = .ok (.return_, 1) := dR0 (k := 0) (i := 47) bn_cX11_eaten_0 dop_177 (by decide +kernel)
set_option maxHeartbeats 4000000 in
set_option maxRecDepth 100000 in
theorem c_X11_eatenG (l : Launch) (D : va_G) (cI : ClassId) (aK aV : Nat → Nat) (k k0 k1 k2 k4 k5 k6 k7 k8 ka kb kl ko : Nat) (sz : Nat) (c3 : Int32) (c9 : Int32) (cc : Int32) (cd : Int32) (ce : Int32) (cf : Int32) (cg : Int32) (ch : Int32) (ci : Int32) (cj : Int32) (ck : Int32) (cm : Int32) (cn : Int32) (c0 : Nat → Int32) (pre0 : SIX c0 (-1)) : Met l yX11_eaten (gW yX11_eaten cX11_eaten 3 none) ({ frames := 4, cells := 0, slots := 0, locals := 86 } : Room) (kPreX D cI aK aV [.ref k] [(k, .inr (11, [.ref k0, .ref k1, .ref k2, .int c3, .ref k4, .ref k5, .ref k6, .ref k7, .ref k8, .int c9, .ref ka, .ref kb, .int cc, .int cd, .int ce, .int cf, .int cg, .int ch, .int ci, .int cj, .int ck, .ref kl, .int cm, .int cn, .ref ko])), (k0, .inl (cI, 1201, .inl c0))] sz) (va_Qv (fun (u : (Nat → Int32)) => SIX u (-1) ∧ (u 0).toInt = (c0 0).toInt ∧ (u 1).toInt = (c0 1).toInt ∧ (u 2).toInt = (c0 2).toInt ∧ u = eatS c0) (fun u t => kWd D cI (va_A [(k, .inr (11, [.ref k0, .ref k1, .ref k2, .int c3, .ref k4, .ref k5, .ref k6, .ref k7, .ref k8, .int c9, .ref ka, .ref kb, .int cc, .int cd, .int ce, .int cf, .int cg, .int ch, .int ci, .int cj, .int ck, .ref kl, .int cm, .int cn, .ref ko])), (k0, .inl (cI, 1201, .inl c0))] sz) [(k, .inr (11, [.ref k0, .ref k1, .ref k2, .int c3, .ref k4, .ref k5, .ref k6, .ref k7, .ref k8, .int c9, .ref ka, .ref kb, .int cc, .int cd, .int ce, .int cf, .int cg, .int ch, .int ci, .int cj, .int ck, .ref kl, .int cm, .int cn, .ref ko])), (k0, .inl (cI, 1201, .inl u))] t) (va_A [(k, .inr (11, [.ref k0, .ref k1, .ref k2, .int c3, .ref k4, .ref k5, .ref k6, .ref k7, .ref k8, .int c9, .ref ka, .ref kb, .int cc, .int cd, .int ce, .int cf, .int cg, .int ch, .int ci, .int cj, .int ck, .ref kl, .int cm, .int cn, .ref ko])), (k0, .inl (cI, 1201, .inl c0))] sz)) 0 0 (va_A [(k, .inr (11, [.ref k0, .ref k1, .ref k2, .int c3, .ref k4, .ref k5, .ref k6, .ref k7, .ref k8, .int c9, .ref ka, .ref kb, .int cc, .int cd, .int ce, .int cf, .int cg, .int ch, .int ci, .int cj, .int ck, .ref kl, .int cm, .int cn, .ref ko])), (k0, .inl (cI, 1201, .inl c0))] sz) := by
  refine kMetVX (own := RX11) (by decide +kernel) rfl (Nat.le_of_ble_eq_true rfl) ?_
  intro p e s m args below meth c hx hb hT hown hname hml A Q hK hP hD hS hA hN hXS hRet ls hl
  have hl : lv_has ls 3 [(0, .ref k)] := hl
  have lo_ci := k_lo ci
  have hi_ci := k_hi ci
  have pre0 : SIX c0 (-1) := pre0
  have nb_1 : 0 ≤ (c0 0).toInt ∧ (c0 0).toInt ≤ 2000 := SB.n0 (And.left pre0)
  have nb_2 : 0 ≤ (c0 1).toInt ∧ (c0 1).toInt ≤ 60 := SB.n1 (And.left pre0)
  have nb_3 : 0 ≤ (c0 2).toInt ∧ (c0 2).toInt ≤ 4 := SB.n2 (And.left pre0)
  refine lv_iconst (v := 0) hx hb dX11_eaten_0 (by decide +kernel) ?_
  refine lv_istore_n (lv' := [(1, .int 0), (0, .ref k)]) hx hb dX11_eaten_1 rfl hl (by decide +kernel) rfl ?_
  clear hl
  intro ls hl
  have hloop_2 : ∀ (fu_ : Nat) (l2_1 : Int32) (g2_k0 : Nat → Int32), 0 ≤ l2_1.toInt → SIX g2_k0 (-1) → (g2_k0 0).toInt = (c0 0).toInt → (g2_k0 1).toInt = (c0 1).toInt → (g2_k0 2).toInt = (c0 2).toInt → g2_k0 = eatN c0 l2_1.toInt.toNat → l2_1.toInt ≤ (c0 1).toInt → ((c0 1).toInt - l2_1.toInt).toNat < fu_ → ∀ (ls : Array Slot) (H : Heap) (locs : List Loc), lv_has ls 3 [(1, .int l2_1), (0, .ref k)] → va_P D vwCl [(k, .inr (11, [.ref k0, .ref k1, .ref k2, .int c3, .ref k4, .ref k5, .ref k6, .ref k7, .ref k8, .int c9, .ref ka, .ref kb, .int cc, .int cd, .int ce, .int cf, .int cg, .int ch, .int ci, .int cj, .int ck, .ref kl, .int cm, .int cn, .ref ko])), (k0, .inl (cI, 1201, .inl g2_k0))] H → va_D A [(k, .inr (11, [.ref k0, .ref k1, .ref k2, .int c3, .ref k4, .ref k5, .ref k6, .ref k7, .ref k8, .int c9, .ref ka, .ref kb, .int cc, .int cd, .int ce, .int cf, .int cg, .int ch, .int ci, .int cj, .int ck, .ref kl, .int cm, .int cn, .ref ko])), (k0, .inl (cI, 1201, .inl g2_k0))] → va_S A s.heap H locs → W p l e ({ frames := 4, cells := 0, slots := 0, locals := 86 } : Room) s m args below meth c H locs 0 0 Q (F0 m 2 ls []) := by
    intro fu_; induction fu_ with
    | zero => intro l2_1 g2_k0 i2_0 i2_1 i2_2 i2_3 i2_4 i2_5 i2_6 hm; exact absurd hm (by omega)
    | succ fu_ ih2 =>
        intro l2_1 g2_k0 i2_0 i2_1 i2_2 i2_3 i2_4 i2_5 i2_6 hm ls H locs hl hP hD hS
        have lo_l2_1 := k_lo l2_1
        have hi_l2_1 := k_hi l2_1
        have i2_1 : SIX g2_k0 (-1) := i2_1
        have i2_5 : g2_k0 = eatN c0 l2_1.toInt.toNat := i2_5
        refine lv_iload_n hx hb dX11_eaten_2 rfl (lv_at hl 0 rfl) ?_
        refine lv_aload_n hx hb dX11_eaten_3 rfl (lv_at hl 1 rfl) ?_
        refine va_get (D := D) (ci := 11) (v := .ref k0) (C := RX11) (T := TX11) (N := 25) hx hb hT giX11 hown hK hP 0 rfl rfl 0 (by decide +kernel) (hT (Cond.fieldLink RX11 9 "DesertWireModel" "s" "[I") mw_1156) (fun _ h9 => h9) rfl dX11_eaten_4 ?_
        refine lv_iconst (v := 1) hx hb dX11_eaten_7 (by decide +kernel) ?_
        refine k_iald (v := (g2_k0 1)) hx hb hK hP 1 0 rfl rfl (k_inl (by decide +kernel)) rfl dX11_eaten_8 ?_
        refine lv_topi (fun v_4 ev_4 => ?_)
        have lo_v_4 := k_lo v_4
        have hi_v_4 := k_hi v_4
        have tv_4 : v_4.toInt = (g2_k0 1).toInt := by rw [ev_4]
        have b_5 : 0 ≤ v_4.toInt ∧ v_4.toInt ≤ 60 := by first | (rw [tv_4]; exact SB.n1 (And.left i2_1)) | exact SB.n1 (And.left i2_1) | omega
        refine b_icmp_ge hx hb rfl rfl (tgt := 47) dX11_eaten_9 (by decide +kernel) (fun c_6 => ?_) (fun c_6 => ?_)
        · exact hRet g2_k0 [0, 1] ⟨i2_1, (by first | omega | decide | assumption | rfl), (by first | omega | decide | assumption | rfl), (by first | omega | decide | assumption | rfl), (by unfold eatS; rw [show (c0 1).toInt.toNat = l2_1.toInt.toNat from by omega]; exact i2_5)⟩ hP hD (by decide +kernel) rfl hS dX11_eaten_47
        · refine lv_aload_n hx hb dX11_eaten_12 rfl (lv_at hl 1 rfl) ?_
          refine lv_iload_n hx hb dX11_eaten_13 rfl (lv_at hl 0 rfl) ?_
          refine kJi (wr := []) (va_runV (As := [.int l2_1]) (rest := []) ⟨hx, hb, hml, hown, hT⟩ (c_X11_eatenOnG l D cI aK aV k k0 k1 k2 k4 k5 k6 k7 k8 ka kb kl ko H.size c3 c9 cc cd ce cf cg ch ci cj ck cm cn g2_k0 l2_1 (And.left i2_1) (by first | omega | decide | assumption | rfl) (by first | omega | decide | assumption | rfl)) (cwV 1 hT (gV_in mw_1291 mw_1288 mw_1290 mw_p3_13 mw_12) rfl rfl rfl (by decide +kernel) ⟨Nat.le_of_ble_eq_true rfl, Nat.le_of_ble_eq_true rfl⟩) (kRecvX (q0 := 0) (ci := 11) hK hP hD hN hXS hS hA rfl rfl [0, 1] rfl (by decide +kernel)) rfl rfl hl.1 rfl (lv_room (Nat.le_of_ble_eq_true rfl)) dX11_eaten_14 ⟨Nat.le_of_ble_eq_true rfl, Nat.le_of_ble_eq_true rfl⟩) hP hD hS hA [0, 1] [] rfl rfl (by decide +kernel) (by decide +kernel) ?_
          clear hP hD hS
          intro r_7 u_9 H locs w_8 hP hD hS
          replace hP : va_P D vwCl [(k, .inr (11, [.ref k0, .ref k1, .ref k2, .int c3, .ref k4, .ref k5, .ref k6, .ref k7, .ref k8, .int c9, .ref ka, .ref kb, .int cc, .int cd, .int ce, .int cf, .int cg, .int ch, .int ci, .int cj, .int ck, .ref kl, .int cm, .int cn, .ref ko])), (k0, .inl (cI, 1201, .inl g2_k0))] H := hP
          replace hD : va_D A [(k, .inr (11, [.ref k0, .ref k1, .ref k2, .int c3, .ref k4, .ref k5, .ref k6, .ref k7, .ref k8, .int c9, .ref ka, .ref kb, .int cc, .int cd, .int ce, .int cf, .int cg, .int ch, .int ci, .int cj, .int ck, .ref kl, .int cm, .int cn, .ref ko])), (k0, .inl (cI, 1201, .inl g2_k0))] := hD
          have h_10 := w_8
          have h_10 : r_7 = eoN g2_k0 l2_1.toInt.toNat := h_10
          have h_10 : r_7 = eoN g2_k0 l2_1.toInt.toNat := h_10
          have lo_r_7 := k_lo r_7
          have hi_r_7 := k_hi r_7
          refine lv_istore_n (lv' := [(2, .int r_7), (1, .int l2_1), (0, .ref k)]) hx hb dX11_eaten_17 rfl hl (by decide +kernel) rfl ?_
          clear hl
          intro ls hl
          refine lv_iload_n hx hb dX11_eaten_18 rfl (lv_at hl 0 rfl) ?_
          refine b_if_lt hx hb rfl (tgt := 41) dX11_eaten_19 (by decide +kernel) (fun c_11 => ?_) (fun c_11 => ?_)
          · obtain ⟨v_12, ev_12⟩ : ∃ y : Int32, y = l2_1 + 1 := ⟨_, rfl⟩
            have tv_12 : v_12.toInt = l2_1.toInt + 1 := by rw [ev_12]; exact k_addv rfl zl_1 (by omega) (by omega)
            refine lv_iinc (v := v_12) (lv' := [(1, .int v_12), (2, .int r_7), (0, .ref k)]) hx hb dX11_eaten_41 hl (k := 1) rfl (by rw [ev_12]; rfl) (by decide +kernel) rfl ?_
            clear hl
            intro ls hl
            refine lv_goto (tgt := 2) hx hb dX11_eaten_44 (by decide +kernel) ?_
            exact ih2 v_12 g2_k0 (by first | omega | decide | assumption | rfl) i2_1 (by first | omega | decide | assumption | rfl) (by first | omega | decide | assumption | rfl) (by first | omega | decide | assumption | rfl) (ref_en i2_5 (by omega) (by omega) h_10 (by omega)) (by first | omega | decide | assumption | rfl) (by omega) ls _ _ (lv_sub hl [0, 2] rfl) (hP.sub [0, 1] rfl) (hD.sub [0, 1] (by decide +kernel) rfl) hS
          · refine lv_iload_n hx hb dX11_eaten_22 rfl (lv_at hl 0 rfl) ?_
            refine lv_aload_n hx hb dX11_eaten_23 rfl (lv_at hl 2 rfl) ?_
            refine va_get (D := D) (ci := 11) (v := .ref k0) (C := RX11) (T := TX11) (N := 25) hx hb hT giX11 hown hK hP 0 rfl rfl 0 (by decide +kernel) (hT (Cond.fieldLink RX11 9 "DesertWireModel" "s" "[I") mw_1156) (fun _ h9 => h9) rfl dX11_eaten_24 ?_
            refine lv_iconst (v := 0) hx hb dX11_eaten_27 (by decide +kernel) ?_
            refine k_iald (v := (g2_k0 0)) hx hb hK hP 1 0 rfl rfl (k_inl (by decide +kernel)) rfl dX11_eaten_28 ?_
            refine lv_topi (fun v_13 ev_13 => ?_)
            have lo_v_13 := k_lo v_13
            have hi_v_13 := k_hi v_13
            have tv_13 : v_13.toInt = (g2_k0 0).toInt := by rw [ev_13]
            have b_14 : 0 ≤ v_13.toInt ∧ v_13.toInt ≤ 2000 := by first | (rw [tv_13]; exact SB.n0 (And.left i2_1)) | exact SB.n0 (And.left i2_1) | omega
            refine lv_iconst (v := 1) hx hb dX11_eaten_29 (by decide +kernel) ?_
            refine lv_iadd hx hb dX11_eaten_30 ?_
            refine lv_topi (fun v_15 ev_15 => ?_)
            have tv_15 : v_15.toInt = v_13.toInt + 1 := by rw [ev_15]; exact k_addv rfl zl_1 (by omega) (by omega)
            refine b_icmp_gt hx hb rfl rfl (tgt := 41) dX11_eaten_31 (by decide +kernel) (fun c_16 => ?_) (fun c_16 => ?_)
            · obtain ⟨v_17, ev_17⟩ : ∃ y : Int32, y = l2_1 + 1 := ⟨_, rfl⟩
              have tv_17 : v_17.toInt = l2_1.toInt + 1 := by rw [ev_17]; exact k_addv rfl zl_1 (by omega) (by omega)
              refine lv_iinc (v := v_17) (lv' := [(1, .int v_17), (2, .int r_7), (0, .ref k)]) hx hb dX11_eaten_41 hl (k := 1) rfl (by rw [ev_17]; rfl) (by decide +kernel) rfl ?_
              clear hl
              intro ls hl
              refine lv_goto (tgt := 2) hx hb dX11_eaten_44 (by decide +kernel) ?_
              exact ih2 v_17 g2_k0 (by first | omega | decide | assumption | rfl) i2_1 (by first | omega | decide | assumption | rfl) (by first | omega | decide | assumption | rfl) (by first | omega | decide | assumption | rfl) (ref_en i2_5 (by omega) (by omega) h_10 (by omega)) (by first | omega | decide | assumption | rfl) (by omega) ls _ _ (lv_sub hl [0, 2] rfl) (hP.sub [0, 1] rfl) (hD.sub [0, 1] (by decide +kernel) rfl) hS
            · refine lv_aload_n hx hb dX11_eaten_34 rfl (lv_at hl 2 rfl) ?_
              refine lv_iload_n hx hb dX11_eaten_35 rfl (lv_at hl 1 rfl) ?_
              refine lv_iconst (v := 4) hx hb dX11_eaten_36 (by decide +kernel) ?_
              refine lv_iconst (v := 1) hx hb dX11_eaten_37 (by decide +kernel) ?_
              refine kJv (wr := []) (va_runV (As := [.int l2_1, .int 4, .int 1]) (rest := []) ⟨hx, hb, hml, hown, hT⟩ (c_X11_setWorkG4 l D cI aK aV k k0 k1 k2 k4 k5 k6 k7 k8 ka kb kl ko H.size c3 c9 cc cd ce cf cg ch ci cj ck cm cn g2_k0 l2_1 4 1 (by first | omega | (simp only [zl_1, zl_4]; first | done | omega) | decide | assumption | rfl) (by first | omega | (simp only [zl_1, zl_4]; first | done | omega) | decide | assumption | rfl) (by first | omega | (simp only [zl_1, zl_4]; first | done | omega) | decide | assumption | rfl)) (cwV 3 hT (gV_in mw_1264 mw_1261 mw_1263 mw_p3_10 mw_12) rfl rfl rfl (by decide +kernel) ⟨Nat.le_of_ble_eq_true rfl, Nat.le_of_ble_eq_true rfl⟩) (kRecvX (q0 := 0) (ci := 11) hK hP hD hN hXS hS hA rfl rfl [0, 1] rfl (by decide +kernel)) rfl rfl hl.1 rfl (lv_room (Nat.le_of_ble_eq_true rfl)) dX11_eaten_38 ⟨Nat.le_of_ble_eq_true rfl, Nat.le_of_ble_eq_true rfl⟩) hP hD hS hA [0, 1] [] rfl rfl (by decide +kernel) (by decide +kernel) ?_
              clear hP hD hS
              intro sc0_20 H locs w_19 hP hD hS
              replace hP : va_P D vwCl [(k, .inr (11, [.ref k0, .ref k1, .ref k2, .int c3, .ref k4, .ref k5, .ref k6, .ref k7, .ref k8, .int c9, .ref ka, .ref kb, .int cc, .int cd, .int ce, .int cf, .int cg, .int ch, .int ci, .int cj, .int ck, .ref kl, .int cm, .int cn, .ref ko])), (k0, .inl (cI, 1201, .inl sc0_20))] H := hP
              replace hD : va_D A [(k, .inr (11, [.ref k0, .ref k1, .ref k2, .int c3, .ref k4, .ref k5, .ref k6, .ref k7, .ref k8, .int c9, .ref ka, .ref kb, .int cc, .int cd, .int ce, .int cf, .int cg, .int ch, .int ci, .int cj, .int ck, .ref kl, .int cm, .int cn, .ref ko])), (k0, .inl (cI, 1201, .inl sc0_20))] := hD
              have h_21 := w_19
              try simp only [zl_1, zl_4] at h_21
              have h_21 : sc0_20 = upd g2_k0 (99 + 6 * l2_1.toInt.toNat + 4) 1 := h_21
              have h_21 : sc0_20 = upd g2_k0 (99 + 6 * l2_1.toInt.toNat + 4) 1 := h_21
              have hS_22 : SIX sc0_20 (-1) := SIX.w i2_1 h_21 zl_1 (by omega) (by decide +kernel) (by omega)
              have n_23 : (sc0_20 0).toInt = (g2_k0 0).toInt := by rw [updN h_21 (by omega)]
              have n_24 : (sc0_20 1).toInt = (g2_k0 1).toInt := by rw [updN h_21 (by omega)]
              have n_25 : (sc0_20 2).toInt = (g2_k0 2).toInt := by rw [updN h_21 (by omega)]
              obtain ⟨v_26, ev_26⟩ : ∃ y : Int32, y = l2_1 + 1 := ⟨_, rfl⟩
              have tv_26 : v_26.toInt = l2_1.toInt + 1 := by rw [ev_26]; exact k_addv rfl zl_1 (by omega) (by omega)
              refine lv_iinc (v := v_26) (lv' := [(1, .int v_26), (2, .int r_7), (0, .ref k)]) hx hb dX11_eaten_41 hl (k := 1) rfl (by rw [ev_26]; rfl) (by decide +kernel) rfl ?_
              clear hl
              intro ls hl
              refine lv_goto (tgt := 2) hx hb dX11_eaten_44 (by decide +kernel) ?_
              exact ih2 v_26 sc0_20 (by first | omega | decide | assumption | rfl) hS_22 (by first | omega | decide | assumption | rfl) (by first | omega | decide | assumption | rfl) (by first | omega | decide | assumption | rfl) (ref_ey i2_5 (by omega) (by omega) h_10 (by omega) (by omega) h_21) (by first | omega | decide | assumption | rfl) (by omega) ls _ _ (lv_sub hl [0, 2] rfl) (hP.sub [0, 1] rfl) (hD.sub [0, 1] (by decide +kernel) rfl) hS
  exact hloop_2 _ 0 c0 (by first | omega | (simp only [zl_0]; first | done | omega) | decide | assumption | rfl) pre0 (by first | omega | (simp only [zl_0]; first | done | omega) | decide | assumption | rfl) (by first | omega | (simp only [zl_0]; first | done | omega) | decide | assumption | rfl) (by first | omega | (simp only [zl_0]; first | done | omega) | decide | assumption | rfl) (by rw [zl_0]; rfl) (by first | omega | (simp only [zl_0]; first | done | omega) | decide | assumption | rfl) (Nat.lt_succ_self _) ls _ _ (lv_sub hl [0, 1] rfl) hP hD hS
theorem bn_cX11_drinks_0 : BN cX11_drinks 0 0xe0ac0c160e0ac0c370301402a803820029f3e8056e070e0ac48014e8142c051b994c2693e8056e070e0ac0c7d00adc0c1c158142c051b8142c0600aa0fa015b81c221c1583802a33e8056e070887056050b0146e050b01802a80f02002a50f0142c051b984da015b8745661179843a3c0882802b5159f402b703844382b1f9a4c27d00adc0e1c159f402b7030705633088f8fa015b810382b := by
  unfold BN; decide +kernel
theorem dX11_drinks_0 : decode cX11_drinks 0 = .ok (.aload_n 0, 1) := dR0 (k := 0) (i := 0) bn_cX11_drinks_0 dop_42 (by decide +kernel)
theorem dX11_drinks_1 : decode cX11_drinks 1 = .ok (.iload_n 1, 1) := dR0 (k := 0) (i := 1) bn_cX11_drinks_0 dop_27 (by decide +kernel)
theorem dX11_drinks_2 : decode cX11_drinks 2 = .ok (.iconst 0, 1) := dR0 (k := 0) (i := 2) bn_cX11_drinks_0 dop_3 (by decide +kernel)
theorem dX11_drinks_3 : decode cX11_drinks 3 = .ok (.invokevirtual 124, 3) := dR2 (f := Instr.invokevirtual) (k := 0) (i := 3) bn_cX11_drinks_0 dop_182 124 (by decide +kernel)
theorem dX11_drinks_6 : decode cX11_drinks 6 = .ok (.istore_n 2, 1) := dR0 (k := 0) (i := 6) bn_cX11_drinks_0 dop_61 (by decide +kernel)
theorem dX11_drinks_7 : decode cX11_drinks 7 = .ok (.bipush 50, 2) := dR1s (f := Instr.bipush) (k := 0) (i := 7) bn_cX11_drinks_0 dop_16 50 50 (by decide +kernel)
theorem dX11_drinks_9 : decode cX11_drinks 9 = .ok (.aload_n 0, 1) := dR0 (k := 0) (i := 9) bn_cX11_drinks_0 dop_42 (by decide +kernel)
theorem dX11_drinks_10 : decode cX11_drinks 10 = .ok (.iload_n 1, 1) := dR0 (k := 0) (i := 10) bn_cX11_drinks_0 dop_27 (by decide +kernel)
theorem dX11_drinks_11 : decode cX11_drinks 11 = .ok (.iconst 2, 1) := dR0 (k := 0) (i := 11) bn_cX11_drinks_0 dop_5 (by decide +kernel)
theorem dX11_drinks_12 : decode cX11_drinks 12 = .ok (.invokevirtual 124, 3) := dR2 (f := Instr.invokevirtual) (k := 0) (i := 12) bn_cX11_drinks_0 dop_182 124 (by decide +kernel)
theorem dX11_drinks_15 : decode cX11_drinks 15 = .ok (.aload_n 0, 1) := dR0 (k := 0) (i := 15) bn_cX11_drinks_0 dop_42 (by decide +kernel)
theorem dX11_drinks_16 : decode cX11_drinks 16 = .ok (.iload_n 1, 1) := dR0 (k := 0) (i := 16) bn_cX11_drinks_0 dop_27 (by decide +kernel)
theorem dX11_drinks_17 : decode cX11_drinks 17 = .ok (.iconst 3, 1) := dR0 (k := 0) (i := 17) bn_cX11_drinks_0 dop_6 (by decide +kernel)
theorem dX11_drinks_18 : decode cX11_drinks 18 = .ok (.invokevirtual 124, 3) := dR2 (f := Instr.invokevirtual) (k := 0) (i := 18) bn_cX11_drinks_0 dop_182 124 (by decide +kernel)
theorem dX11_drinks_21 : decode cX11_drinks 21 = .ok (.iadd, 1) := dR0 (k := 0) (i := 21) bn_cX11_drinks_0 dop_96 (by decide +kernel)
theorem dX11_drinks_22 : decode cX11_drinks 22 = .ok (.imul, 1) := dR0 (k := 0) (i := 22) bn_cX11_drinks_0 dop_104 (by decide +kernel)
theorem dX11_drinks_23 : decode cX11_drinks 23 = .ok (.istore_n 3, 1) := dR0 (k := 0) (i := 23) bn_cX11_drinks_0 dop_62 (by decide +kernel)
theorem dX11_drinks_24 : decode cX11_drinks 24 = .ok (.aload_n 0, 1) := dR0 (k := 0) (i := 24) bn_cX11_drinks_0 dop_42 (by decide +kernel)
theorem dX11_drinks_25 : decode cX11_drinks 25 = .ok (.iload_n 1, 1) := dR0 (k := 0) (i := 25) bn_cX11_drinks_0 dop_27 (by decide +kernel)
theorem dX11_drinks_26 : decode cX11_drinks 26 = .ok (.bipush 6, 2) := dR1s (f := Instr.bipush) (k := 0) (i := 26) bn_cX11_drinks_0 dop_16 6 6 (by decide +kernel)
theorem dX11_drinks_28 : decode cX11_drinks 28 = .ok (.invokevirtual 124, 3) := dR2 (f := Instr.invokevirtual) (k := 0) (i := 28) bn_cX11_drinks_0 dop_182 124 (by decide +kernel)
theorem dX11_drinks_31 : decode cX11_drinks 31 = .ok (.aload_n 0, 1) := dR0 (k := 0) (i := 31) bn_cX11_drinks_0 dop_42 (by decide +kernel)
theorem dX11_drinks_32 : decode cX11_drinks 32 = .ok (.getfield 9, 3) := dR2 (f := Instr.getfield) (k := 0) (i := 32) bn_cX11_drinks_0 dop_180 9 (by decide +kernel)
theorem dX11_drinks_35 : decode cX11_drinks 35 = .ok (.bipush 59, 2) := dR1s (f := Instr.bipush) (k := 0) (i := 35) bn_cX11_drinks_0 dop_16 59 59 (by decide +kernel)
theorem dX11_drinks_37 : decode cX11_drinks 37 = .ok (.iload_n 2, 1) := dR0 (k := 0) (i := 37) bn_cX11_drinks_0 dop_28 (by decide +kernel)
theorem dX11_drinks_38 : decode cX11_drinks 38 = .ok (.iadd, 1) := dR0 (k := 0) (i := 38) bn_cX11_drinks_0 dop_96 (by decide +kernel)
theorem dX11_drinks_39 : decode cX11_drinks 39 = .ok (.iaload, 1) := dR0 (k := 0) (i := 39) bn_cX11_drinks_0 dop_46 (by decide +kernel)
theorem dX11_drinks_40 : decode cX11_drinks 40 = .ok (.iadd, 1) := dR0 (k := 0) (i := 40) bn_cX11_drinks_0 dop_96 (by decide +kernel)
theorem dX11_drinks_41 : decode cX11_drinks 41 = .ok (.aload_n 0, 1) := dR0 (k := 0) (i := 41) bn_cX11_drinks_0 dop_42 (by decide +kernel)
theorem dX11_drinks_42 : decode cX11_drinks 42 = .ok (.iload_n 2, 1) := dR0 (k := 0) (i := 42) bn_cX11_drinks_0 dop_28 (by decide +kernel)
theorem dX11_drinks_43 : decode cX11_drinks 43 = .ok (.invokevirtual 108, 3) := dR2 (f := Instr.invokevirtual) (k := 0) (i := 43) bn_cX11_drinks_0 dop_182 108 (by decide +kernel)
theorem dX11_drinks_46 : decode cX11_drinks 46 = .ok (.iadd, 1) := dR0 (k := 0) (i := 46) bn_cX11_drinks_0 dop_96 (by decide +kernel)
theorem dX11_drinks_47 : decode cX11_drinks 47 = .ok (.istore 4, 2) := dR1 (f := Instr.istore) (k := 0) (i := 47) bn_cX11_drinks_0 dop_54 4 (by decide +kernel)
theorem dX11_drinks_49 : decode cX11_drinks 49 = .ok (.iload 4, 2) := dR1 (f := Instr.iload) (k := 0) (i := 49) bn_cX11_drinks_0 dop_21 4 (by decide +kernel)
theorem dX11_drinks_51 : decode cX11_drinks 51 = .ok (.iload_n 3, 1) := dR0 (k := 0) (i := 51) bn_cX11_drinks_0 dop_29 (by decide +kernel)
theorem dX11_drinks_52 : decode cX11_drinks 52 = .ok (.if_icmp .le 7, 3) := dR2s (f := Instr.if_icmp .le) (k := 0) (i := 52) bn_cX11_drinks_0 dop_164 7 7 (by decide +kernel)
theorem dX11_drinks_55 : decode cX11_drinks 55 = .ok (.iload_n 3, 1) := dR0 (k := 0) (i := 55) bn_cX11_drinks_0 dop_29 (by decide +kernel)
theorem dX11_drinks_56 : decode cX11_drinks 56 = .ok (.goto 5, 3) := dR2s (f := Instr.goto) (k := 0) (i := 56) bn_cX11_drinks_0 dop_167 5 5 (by decide +kernel)
theorem dX11_drinks_59 : decode cX11_drinks 59 = .ok (.iload 4, 2) := dR1 (f := Instr.iload) (k := 0) (i := 59) bn_cX11_drinks_0 dop_21 4 (by decide +kernel)
theorem dX11_drinks_61 : decode cX11_drinks 61 = .ok (.istore 4, 2) := dR1 (f := Instr.istore) (k := 0) (i := 61) bn_cX11_drinks_0 dop_54 4 (by decide +kernel)
theorem dX11_drinks_63 : decode cX11_drinks 63 = .ok (.iload 4, 2) := dR1 (f := Instr.iload) (k := 0) (i := 63) bn_cX11_drinks_0 dop_21 4 (by decide +kernel)
theorem dX11_drinks_65 : decode cX11_drinks 65 = .ok (.aload_n 0, 1) := dR0 (k := 0) (i := 65) bn_cX11_drinks_0 dop_42 (by decide +kernel)
theorem dX11_drinks_66 : decode cX11_drinks 66 = .ok (.iload_n 1, 1) := dR0 (k := 0) (i := 66) bn_cX11_drinks_0 dop_27 (by decide +kernel)
theorem dX11_drinks_67 : decode cX11_drinks 67 = .ok (.bipush 6, 2) := dR1s (f := Instr.bipush) (k := 0) (i := 67) bn_cX11_drinks_0 dop_16 6 6 (by decide +kernel)
theorem dX11_drinks_69 : decode cX11_drinks 69 = .ok (.invokevirtual 124, 3) := dR2 (f := Instr.invokevirtual) (k := 0) (i := 69) bn_cX11_drinks_0 dop_182 124 (by decide +kernel)
theorem dX11_drinks_72 : decode cX11_drinks 72 = .ok (.if_icmp .ge 13, 3) := dR2s (f := Instr.if_icmp .ge) (k := 0) (i := 72) bn_cX11_drinks_0 dop_162 13 13 (by decide +kernel)
theorem dX11_drinks_75 : decode cX11_drinks 75 = .ok (.aload_n 0, 1) := dR0 (k := 0) (i := 75) bn_cX11_drinks_0 dop_42 (by decide +kernel)
theorem dX11_drinks_76 : decode cX11_drinks 76 = .ok (.iload_n 1, 1) := dR0 (k := 0) (i := 76) bn_cX11_drinks_0 dop_27 (by decide +kernel)
theorem dX11_drinks_77 : decode cX11_drinks 77 = .ok (.bipush 6, 2) := dR1s (f := Instr.bipush) (k := 0) (i := 77) bn_cX11_drinks_0 dop_16 6 6 (by decide +kernel)
theorem dX11_drinks_79 : decode cX11_drinks 79 = .ok (.invokevirtual 124, 3) := dR2 (f := Instr.invokevirtual) (k := 0) (i := 79) bn_cX11_drinks_0 dop_182 124 (by decide +kernel)
theorem dX11_drinks_82 : decode cX11_drinks 82 = .ok (.goto 5, 3) := dR2s (f := Instr.goto) (k := 0) (i := 82) bn_cX11_drinks_0 dop_167 5 5 (by decide +kernel)
theorem dX11_drinks_85 : decode cX11_drinks 85 = .ok (.iload 4, 2) := dR1 (f := Instr.iload) (k := 0) (i := 85) bn_cX11_drinks_0 dop_21 4 (by decide +kernel)
theorem dX11_drinks_87 : decode cX11_drinks 87 = .ok (.istore 4, 2) := dR1 (f := Instr.istore) (k := 0) (i := 87) bn_cX11_drinks_0 dop_54 4 (by decide +kernel)
theorem dX11_drinks_89 : decode cX11_drinks 89 = .ok (.iload 4, 2) := dR1 (f := Instr.iload) (k := 0) (i := 89) bn_cX11_drinks_0 dop_21 4 (by decide +kernel)
theorem dX11_drinks_91 : decode cX11_drinks 91 = .ok (.aload_n 0, 1) := dR0 (k := 0) (i := 91) bn_cX11_drinks_0 dop_42 (by decide +kernel)
theorem dX11_drinks_92 : decode cX11_drinks 92 = .ok (.iload_n 1, 1) := dR0 (k := 0) (i := 92) bn_cX11_drinks_0 dop_27 (by decide +kernel)
theorem dX11_drinks_93 : decode cX11_drinks 93 = .ok (.iconst 2, 1) := dR0 (k := 0) (i := 93) bn_cX11_drinks_0 dop_5 (by decide +kernel)
theorem dX11_drinks_94 : decode cX11_drinks 94 = .ok (.invokevirtual 124, 3) := dR2 (f := Instr.invokevirtual) (k := 0) (i := 94) bn_cX11_drinks_0 dop_182 124 (by decide +kernel)
theorem dX11_drinks_97 : decode cX11_drinks 97 = .ok (.iconst 2, 1) := dR0 (k := 0) (i := 97) bn_cX11_drinks_0 dop_5 (by decide +kernel)
theorem dX11_drinks_98 : decode cX11_drinks 98 = .ok (.aload_n 0, 1) := dR0 (k := 0) (i := 98) bn_cX11_drinks_0 dop_42 (by decide +kernel)
theorem dX11_drinks_99 : decode cX11_drinks 99 = .ok (.iload_n 1, 1) := dR0 (k := 0) (i := 99) bn_cX11_drinks_0 dop_27 (by decide +kernel)
theorem dX11_drinks_100 : decode cX11_drinks 100 = .ok (.iconst 3, 1) := dR0 (k := 0) (i := 100) bn_cX11_drinks_0 dop_6 (by decide +kernel)
theorem dX11_drinks_101 : decode cX11_drinks 101 = .ok (.invokevirtual 124, 3) := dR2 (f := Instr.invokevirtual) (k := 0) (i := 101) bn_cX11_drinks_0 dop_182 124 (by decide +kernel)
theorem dX11_drinks_104 : decode cX11_drinks 104 = .ok (.imul, 1) := dR0 (k := 0) (i := 104) bn_cX11_drinks_0 dop_104 (by decide +kernel)
theorem dX11_drinks_105 : decode cX11_drinks 105 = .ok (.iadd, 1) := dR0 (k := 0) (i := 105) bn_cX11_drinks_0 dop_96 (by decide +kernel)
theorem dX11_drinks_106 : decode cX11_drinks 106 = .ok (.isub, 1) := dR0 (k := 0) (i := 106) bn_cX11_drinks_0 dop_100 (by decide +kernel)
theorem dX11_drinks_107 : decode cX11_drinks 107 = .ok (.istore 4, 2) := dR1 (f := Instr.istore) (k := 0) (i := 107) bn_cX11_drinks_0 dop_54 4 (by decide +kernel)
theorem dX11_drinks_109 : decode cX11_drinks 109 = .ok (.iload 4, 2) := dR1 (f := Instr.iload) (k := 0) (i := 109) bn_cX11_drinks_0 dop_21 4 (by decide +kernel)
theorem dX11_drinks_111 : decode cX11_drinks 111 = .ok (.ifCond .ge 35, 3) := dR2s (f := Instr.ifCond .ge) (k := 0) (i := 111) bn_cX11_drinks_0 dop_156 35 35 (by decide +kernel)
theorem dX11_drinks_114 : decode cX11_drinks 114 = .ok (.aload_n 0, 1) := dR0 (k := 0) (i := 114) bn_cX11_drinks_0 dop_42 (by decide +kernel)
theorem dX11_drinks_115 : decode cX11_drinks 115 = .ok (.iload_n 1, 1) := dR0 (k := 0) (i := 115) bn_cX11_drinks_0 dop_27 (by decide +kernel)
theorem dX11_drinks_116 : decode cX11_drinks 116 = .ok (.iconst 3, 1) := dR0 (k := 0) (i := 116) bn_cX11_drinks_0 dop_6 (by decide +kernel)
theorem dX11_drinks_117 : decode cX11_drinks 117 = .ok (.invokevirtual 124, 3) := dR2 (f := Instr.invokevirtual) (k := 0) (i := 117) bn_cX11_drinks_0 dop_182 124 (by decide +kernel)
theorem dX11_drinks_120 : decode cX11_drinks 120 = .ok (.ifCond .le 7, 3) := dR2s (f := Instr.ifCond .le) (k := 0) (i := 120) bn_cX11_drinks_0 dop_158 7 7 (by decide +kernel)
theorem dX11_drinks_123 : decode cX11_drinks 123 = .ok (.iconst 3, 1) := dR0 (k := 0) (i := 123) bn_cX11_drinks_0 dop_6 (by decide +kernel)
theorem dX11_drinks_124 : decode cX11_drinks 124 = .ok (.goto 4, 3) := dR2s (f := Instr.goto) (k := 0) (i := 124) bn_cX11_drinks_0 dop_167 4 4 (by decide +kernel)
theorem dX11_drinks_127 : decode cX11_drinks 127 = .ok (.iconst 2, 1) := dR0 (k := 0) (i := 127) bn_cX11_drinks_0 dop_5 (by decide +kernel)
theorem bn_cX11_drinks_128 : BN cX11_drinks 128 0xb23b8056e050b01802a802020029d028580e110e0acee015b9940a7d00adc0c160e0ac0c160e0ac0c37 := by
  unfold BN; decide +kernel
theorem dX11_drinks_128 : decode cX11_drinks 128 = .ok (.istore 5, 2) := dR1 (f := Instr.istore) (k := 128) (i := 0) bn_cX11_drinks_128 dop_54 5 (by decide +kernel)
theorem dX11_drinks_130 : decode cX11_drinks 130 = .ok (.aload_n 0, 1) := dR0 (k := 128) (i := 2) bn_cX11_drinks_128 dop_42 (by decide +kernel)
theorem dX11_drinks_131 : decode cX11_drinks 131 = .ok (.iload_n 1, 1) := dR0 (k := 128) (i := 3) bn_cX11_drinks_128 dop_27 (by decide +kernel)
theorem dX11_drinks_132 : decode cX11_drinks 132 = .ok (.iload 5, 2) := dR1 (f := Instr.iload) (k := 128) (i := 4) bn_cX11_drinks_128 dop_21 5 (by decide +kernel)
theorem dX11_drinks_134 : decode cX11_drinks 134 = .ok (.aload_n 0, 1) := dR0 (k := 128) (i := 6) bn_cX11_drinks_128 dop_42 (by decide +kernel)
theorem dX11_drinks_135 : decode cX11_drinks 135 = .ok (.iload_n 1, 1) := dR0 (k := 128) (i := 7) bn_cX11_drinks_128 dop_27 (by decide +kernel)
theorem dX11_drinks_136 : decode cX11_drinks 136 = .ok (.iload 5, 2) := dR1 (f := Instr.iload) (k := 128) (i := 8) bn_cX11_drinks_128 dop_21 5 (by decide +kernel)
theorem dX11_drinks_138 : decode cX11_drinks 138 = .ok (.invokevirtual 124, 3) := dR2 (f := Instr.invokevirtual) (k := 128) (i := 10) bn_cX11_drinks_128 dop_182 124 (by decide +kernel)
theorem dX11_drinks_141 : decode cX11_drinks 141 = .ok (.iconst 1, 1) := dR0 (k := 128) (i := 13) bn_cX11_drinks_128 dop_4 (by decide +kernel)
theorem dX11_drinks_142 : decode cX11_drinks 142 = .ok (.isub, 1) := dR0 (k := 128) (i := 14) bn_cX11_drinks_128 dop_100 (by decide +kernel)
theorem dX11_drinks_143 : decode cX11_drinks 143 = .ok (.invokevirtual 118, 3) := dR2 (f := Instr.invokevirtual) (k := 128) (i := 15) bn_cX11_drinks_128 dop_182 118 (by decide +kernel)
theorem dX11_drinks_146 : decode cX11_drinks 146 = .ok (.aload_n 0, 1) := dR0 (k := 128) (i := 18) bn_cX11_drinks_128 dop_42 (by decide +kernel)
theorem dX11_drinks_147 : decode cX11_drinks 147 = .ok (.iload_n 1, 1) := dR0 (k := 128) (i := 19) bn_cX11_drinks_128 dop_27 (by decide +kernel)
theorem dX11_drinks_148 : decode cX11_drinks 148 = .ok (.bipush 6, 2) := dR1s (f := Instr.bipush) (k := 128) (i := 20) bn_cX11_drinks_128 dop_16 6 6 (by decide +kernel)
theorem dX11_drinks_150 : decode cX11_drinks 150 = .ok (.iload 4, 2) := dR1 (f := Instr.iload) (k := 128) (i := 22) bn_cX11_drinks_128 dop_21 4 (by decide +kernel)
theorem dX11_drinks_152 : decode cX11_drinks 152 = .ok (.ifCond .ge 7, 3) := dR2s (f := Instr.ifCond .ge) (k := 128) (i := 24) bn_cX11_drinks_128 dop_156 7 7 (by decide +kernel)
theorem dX11_drinks_155 : decode cX11_drinks 155 = .ok (.iconst 0, 1) := dR0 (k := 128) (i := 27) bn_cX11_drinks_128 dop_3 (by decide +kernel)
theorem dX11_drinks_156 : decode cX11_drinks 156 = .ok (.goto 5, 3) := dR2s (f := Instr.goto) (k := 128) (i := 28) bn_cX11_drinks_128 dop_167 5 5 (by decide +kernel)
theorem dX11_drinks_159 : decode cX11_drinks 159 = .ok (.iload 4, 2) := dR1 (f := Instr.iload) (k := 128) (i := 31) bn_cX11_drinks_128 dop_21 4 (by decide +kernel)
theorem dX11_drinks_161 : decode cX11_drinks 161 = .ok (.invokevirtual 118, 3) := dR2 (f := Instr.invokevirtual) (k := 128) (i := 33) bn_cX11_drinks_128 dop_182 118 (by decide +kernel)
theorem dX11_drinks_164 : decode cX11_drinks 164 = .ok (.return_, 1) := dR0 (k := 128) (i := 36) bn_cX11_drinks_128 dop_177 (by decide +kernel)
set_option maxHeartbeats 4000000 in
set_option maxRecDepth 100000 in
theorem c_X11_drinksG (l : Launch) (D : va_G) (cI : ClassId) (aK aV : Nat → Nat) (k k0 k1 k2 k4 k5 k6 k7 k8 ka kb kl ko : Nat) (sz : Nat) (c3 : Int32) (c9 : Int32) (cc : Int32) (cd : Int32) (ce : Int32) (cf : Int32) (cg : Int32) (ch : Int32) (ci : Int32) (cj : Int32) (ck : Int32) (cm : Int32) (cn : Int32) (c0 : Nat → Int32) (a0 : Int32) (pre0 : SIX c0 (-1)) (pre1 : 0 ≤ a0.toInt) (pre2 : a0.toInt ≤ 3) (pre3 : a0.toInt < (c0 2).toInt) (pre4 : 1 ≤ (pW c0 a0 2).toInt) : Met l yX11_drinks (gW yX11_drinks cX11_drinks 6 none) ({ frames := 2, cells := 0, slots := 0, locals := 45 } : Room) (kPreX D cI aK aV [.ref k, .int a0] [(k, .inr (11, [.ref k0, .ref k1, .ref k2, .int c3, .ref k4, .ref k5, .ref k6, .ref k7, .ref k8, .int c9, .ref ka, .ref kb, .int cc, .int cd, .int ce, .int cf, .int cg, .int ch, .int ci, .int cj, .int ck, .ref kl, .int cm, .int cn, .ref ko])), (k0, .inl (cI, 1201, .inl c0))] sz) (va_Qv (fun (u : (Nat → Int32)) => SIX u a0.toInt ∧ (u 0).toInt = (c0 0).toInt ∧ (u 1).toInt = (c0 1).toInt ∧ (u 2).toInt = (c0 2).toInt ∧ u = drkS c0 a0.toInt.toNat) (fun u t => kWd D cI (va_A [(k, .inr (11, [.ref k0, .ref k1, .ref k2, .int c3, .ref k4, .ref k5, .ref k6, .ref k7, .ref k8, .int c9, .ref ka, .ref kb, .int cc, .int cd, .int ce, .int cf, .int cg, .int ch, .int ci, .int cj, .int ck, .ref kl, .int cm, .int cn, .ref ko])), (k0, .inl (cI, 1201, .inl c0))] sz) [(k, .inr (11, [.ref k0, .ref k1, .ref k2, .int c3, .ref k4, .ref k5, .ref k6, .ref k7, .ref k8, .int c9, .ref ka, .ref kb, .int cc, .int cd, .int ce, .int cf, .int cg, .int ch, .int ci, .int cj, .int ck, .ref kl, .int cm, .int cn, .ref ko])), (k0, .inl (cI, 1201, .inl u))] t) (va_A [(k, .inr (11, [.ref k0, .ref k1, .ref k2, .int c3, .ref k4, .ref k5, .ref k6, .ref k7, .ref k8, .int c9, .ref ka, .ref kb, .int cc, .int cd, .int ce, .int cf, .int cg, .int ch, .int ci, .int cj, .int ck, .ref kl, .int cm, .int cn, .ref ko])), (k0, .inl (cI, 1201, .inl c0))] sz)) 0 0 (va_A [(k, .inr (11, [.ref k0, .ref k1, .ref k2, .int c3, .ref k4, .ref k5, .ref k6, .ref k7, .ref k8, .int c9, .ref ka, .ref kb, .int cc, .int cd, .int ce, .int cf, .int cg, .int ch, .int ci, .int cj, .int ck, .ref kl, .int cm, .int cn, .ref ko])), (k0, .inl (cI, 1201, .inl c0))] sz) := by
  refine kMetVX (own := RX11) (by decide +kernel) rfl (Nat.le_of_ble_eq_true rfl) ?_
  intro p e s m args below meth c hx hb hT hown hname hml A Q hK hP hD hS hA hN hXS hRet ls hl
  have hl : lv_has ls 6 [(0, .ref k), (1, .int a0)] := hl
  have lo_a0 := k_lo a0
  have hi_a0 := k_hi a0
  have lo_ci := k_lo ci
  have hi_ci := k_hi ci
  have pre0 : SIX c0 (-1) := pre0
  have nb_1 : 0 ≤ (c0 0).toInt ∧ (c0 0).toInt ≤ 2000 := SB.n0 (And.left pre0)
  have nb_2 : 0 ≤ (c0 1).toInt ∧ (c0 1).toInt ≤ 60 := SB.n1 (And.left pre0)
  have nb_3 : 0 ≤ (c0 2).toInt ∧ (c0 2).toInt ≤ 4 := SB.n2 (And.left pre0)
  refine lv_aload_n hx hb dX11_drinks_0 rfl (lv_at hl 0 rfl) ?_
  refine lv_iload_n hx hb dX11_drinks_1 rfl (lv_at hl 1 rfl) ?_
  refine lv_iconst (v := 0) hx hb dX11_drinks_2 (by decide +kernel) ?_
  refine kJi (wr := []) (va_runV (As := [.int a0, .int 0]) (rest := []) ⟨hx, hb, hml, hown, hT⟩ (c_X11_partyG0 l D cI aK aV k k0 k1 k2 k4 k5 k6 k7 k8 ka kb kl ko s.heap.size c3 c9 cc cd ce cf cg ch ci cj ck cm cn c0 a0 0 (by first | omega | (simp only [zl_0]; first | done | omega) | decide | assumption | rfl) (by first | omega | (simp only [zl_0]; first | done | omega) | decide | assumption | rfl) (by first | omega | (simp only [zl_0]; first | done | omega) | decide | assumption | rfl)) (cwV 2 hT (gV_in mw_1416 mw_1413 mw_1415 mw_p5_5 mw_12) rfl rfl rfl (by decide +kernel) ⟨Nat.le_of_ble_eq_true rfl, Nat.le_of_ble_eq_true rfl⟩) (kRecvX (q0 := 0) (ci := 11) hK hP hD hN hXS hS hA rfl rfl [0, 1] rfl (by decide +kernel)) rfl rfl hl.1 rfl (lv_room (Nat.le_of_ble_eq_true rfl)) dX11_drinks_3 ⟨Nat.le_of_ble_eq_true rfl, Nat.le_of_ble_eq_true rfl⟩) hP hD hS hA [0, 1] [] rfl rfl (by decide +kernel) (by decide +kernel) ?_
  clear hP hD hS
  intro r_4 u_6 H locs w_5 hP hD hS
  replace hP : va_P D vwCl [(k, .inr (11, [.ref k0, .ref k1, .ref k2, .int c3, .ref k4, .ref k5, .ref k6, .ref k7, .ref k8, .int c9, .ref ka, .ref kb, .int cc, .int cd, .int ce, .int cf, .int cg, .int ch, .int ci, .int cj, .int ck, .ref kl, .int cm, .int cn, .ref ko])), (k0, .inl (cI, 1201, .inl c0))] H := hP
  replace hD : va_D A [(k, .inr (11, [.ref k0, .ref k1, .ref k2, .int c3, .ref k4, .ref k5, .ref k6, .ref k7, .ref k8, .int c9, .ref ka, .ref kb, .int cc, .int cd, .int ce, .int cf, .int cg, .int ch, .int ci, .int cj, .int ck, .ref kl, .int cm, .int cn, .ref ko])), (k0, .inl (cI, 1201, .inl c0))] := hD
  have h_7 := w_5
  have h_7 : r_4 = pW c0 a0 0 := h_7
  have t_8 : r_4.toInt = (pW c0 a0 0).toInt := by rw [h_7]
  have b_9 : 0 ≤ r_4.toInt ∧ r_4.toInt ≤ 39 := by rw [h_7]; exact SB.p0 (And.left pre0) (by omega) (by omega)
  have lo_r_4 := k_lo r_4
  have hi_r_4 := k_hi r_4
  refine lv_istore_n (lv' := [(2, .int r_4), (0, .ref k), (1, .int a0)]) hx hb dX11_drinks_6 rfl hl (by decide +kernel) rfl ?_
  clear hl
  intro ls hl
  refine lv_bipush (v := 50) hx hb dX11_drinks_7 (by decide +kernel) ?_
  refine lv_aload_n hx hb dX11_drinks_9 rfl (lv_at hl 1 rfl) ?_
  refine lv_iload_n hx hb dX11_drinks_10 rfl (lv_at hl 2 rfl) ?_
  refine lv_iconst (v := 2) hx hb dX11_drinks_11 (by decide +kernel) ?_
  refine kJi (wr := []) (va_runV (As := [.int a0, .int 2]) (rest := [.int 50]) ⟨hx, hb, hml, hown, hT⟩ (c_X11_partyG2 l D cI aK aV k k0 k1 k2 k4 k5 k6 k7 k8 ka kb kl ko H.size c3 c9 cc cd ce cf cg ch ci cj ck cm cn c0 a0 2 (by first | omega | (simp only [zl_2]; first | done | omega) | decide | assumption | rfl) (by first | omega | (simp only [zl_2]; first | done | omega) | decide | assumption | rfl) (by first | omega | (simp only [zl_2]; first | done | omega) | decide | assumption | rfl)) (cwV 2 hT (gV_in mw_1416 mw_1413 mw_1415 mw_p5_5 mw_12) rfl rfl rfl (by decide +kernel) ⟨Nat.le_of_ble_eq_true rfl, Nat.le_of_ble_eq_true rfl⟩) (kRecvX (q0 := 0) (ci := 11) hK hP hD hN hXS hS hA rfl rfl [0, 1] rfl (by decide +kernel)) rfl rfl hl.1 rfl (lv_room (Nat.le_of_ble_eq_true rfl)) dX11_drinks_12 ⟨Nat.le_of_ble_eq_true rfl, Nat.le_of_ble_eq_true rfl⟩) hP hD hS hA [0, 1] [] rfl rfl (by decide +kernel) (by decide +kernel) ?_
  clear hP hD hS
  intro r_10 u_12 H locs w_11 hP hD hS
  replace hP : va_P D vwCl [(k, .inr (11, [.ref k0, .ref k1, .ref k2, .int c3, .ref k4, .ref k5, .ref k6, .ref k7, .ref k8, .int c9, .ref ka, .ref kb, .int cc, .int cd, .int ce, .int cf, .int cg, .int ch, .int ci, .int cj, .int ck, .ref kl, .int cm, .int cn, .ref ko])), (k0, .inl (cI, 1201, .inl c0))] H := hP
  replace hD : va_D A [(k, .inr (11, [.ref k0, .ref k1, .ref k2, .int c3, .ref k4, .ref k5, .ref k6, .ref k7, .ref k8, .int c9, .ref ka, .ref kb, .int cc, .int cd, .int ce, .int cf, .int cg, .int ch, .int ci, .int cj, .int ck, .ref kl, .int cm, .int cn, .ref ko])), (k0, .inl (cI, 1201, .inl c0))] := hD
  have h_13 := w_11
  have h_13 : r_10 = pW c0 a0 2 := h_13
  have t_14 : r_10.toInt = (pW c0 a0 2).toInt := by rw [h_13]
  have b_15 : 0 ≤ r_10.toInt ∧ r_10.toInt ≤ 50 := by rw [h_13]; exact SB.p2 (And.left pre0) (by omega) (by omega)
  have lo_r_10 := k_lo r_10
  have hi_r_10 := k_hi r_10
  refine lv_aload_n hx hb dX11_drinks_15 rfl (lv_at hl 1 rfl) ?_
  refine lv_iload_n hx hb dX11_drinks_16 rfl (lv_at hl 2 rfl) ?_
  refine lv_iconst (v := 3) hx hb dX11_drinks_17 (by decide +kernel) ?_
  refine kJi (wr := []) (va_runV (As := [.int a0, .int 3]) (rest := [.int r_10, .int 50]) ⟨hx, hb, hml, hown, hT⟩ (c_X11_partyG3 l D cI aK aV k k0 k1 k2 k4 k5 k6 k7 k8 ka kb kl ko H.size c3 c9 cc cd ce cf cg ch ci cj ck cm cn c0 a0 3 (by first | omega | (simp only [zl_3]; first | done | omega) | decide | assumption | rfl) (by first | omega | (simp only [zl_3]; first | done | omega) | decide | assumption | rfl) (by first | omega | (simp only [zl_3]; first | done | omega) | decide | assumption | rfl)) (cwV 2 hT (gV_in mw_1416 mw_1413 mw_1415 mw_p5_5 mw_12) rfl rfl rfl (by decide +kernel) ⟨Nat.le_of_ble_eq_true rfl, Nat.le_of_ble_eq_true rfl⟩) (kRecvX (q0 := 0) (ci := 11) hK hP hD hN hXS hS hA rfl rfl [0, 1] rfl (by decide +kernel)) rfl rfl hl.1 rfl (lv_room (Nat.le_of_ble_eq_true rfl)) dX11_drinks_18 ⟨Nat.le_of_ble_eq_true rfl, Nat.le_of_ble_eq_true rfl⟩) hP hD hS hA [0, 1] [] rfl rfl (by decide +kernel) (by decide +kernel) ?_
  clear hP hD hS
  intro r_16 u_18 H locs w_17 hP hD hS
  replace hP : va_P D vwCl [(k, .inr (11, [.ref k0, .ref k1, .ref k2, .int c3, .ref k4, .ref k5, .ref k6, .ref k7, .ref k8, .int c9, .ref ka, .ref kb, .int cc, .int cd, .int ce, .int cf, .int cg, .int ch, .int ci, .int cj, .int ck, .ref kl, .int cm, .int cn, .ref ko])), (k0, .inl (cI, 1201, .inl c0))] H := hP
  replace hD : va_D A [(k, .inr (11, [.ref k0, .ref k1, .ref k2, .int c3, .ref k4, .ref k5, .ref k6, .ref k7, .ref k8, .int c9, .ref ka, .ref kb, .int cc, .int cd, .int ce, .int cf, .int cg, .int ch, .int ci, .int cj, .int ck, .ref kl, .int cm, .int cn, .ref ko])), (k0, .inl (cI, 1201, .inl c0))] := hD
  have h_19 := w_17
  have h_19 : r_16 = pW c0 a0 3 := h_19
  have t_20 : r_16.toInt = (pW c0 a0 3).toInt := by rw [h_19]
  have b_21 : 0 ≤ r_16.toInt ∧ r_16.toInt ≤ 50 := by rw [h_19]; exact SB.p3 (And.left pre0) (by omega) (by omega)
  have lo_r_16 := k_lo r_16
  have hi_r_16 := k_hi r_16
  refine lv_iadd hx hb dX11_drinks_21 ?_
  refine lv_topi (fun v_22 ev_22 => ?_)
  have tv_22 : v_22.toInt = r_10.toInt + r_16.toInt := by rw [ev_22]; exact k_addv rfl rfl (by omega) (by omega)
  refine lv_imul hx hb dX11_drinks_22 ?_
  refine lv_topi (fun v_23 ev_23 => ?_)
  have tv_23 : v_23.toInt = 50 * v_22.toInt := by rw [ev_23]; exact k_mulv zl_50 rfl (by omega) (by omega)
  refine lv_istore_n (lv' := [(3, .int v_23), (2, .int r_4), (0, .ref k), (1, .int a0)]) hx hb dX11_drinks_23 rfl hl (by decide +kernel) rfl ?_
  clear hl
  intro ls hl
  refine lv_aload_n hx hb dX11_drinks_24 rfl (lv_at hl 2 rfl) ?_
  refine lv_iload_n hx hb dX11_drinks_25 rfl (lv_at hl 3 rfl) ?_
  refine lv_bipush (v := 6) hx hb dX11_drinks_26 (by decide +kernel) ?_
  refine kJi (wr := []) (va_runV (As := [.int a0, .int 6]) (rest := []) ⟨hx, hb, hml, hown, hT⟩ (c_X11_partyG6 l D cI aK aV k k0 k1 k2 k4 k5 k6 k7 k8 ka kb kl ko H.size c3 c9 cc cd ce cf cg ch ci cj ck cm cn c0 a0 6 (by first | omega | (simp only [zl_6]; first | done | omega) | decide | assumption | rfl) (by first | omega | (simp only [zl_6]; first | done | omega) | decide | assumption | rfl) (by first | omega | (simp only [zl_6]; first | done | omega) | decide | assumption | rfl)) (cwV 2 hT (gV_in mw_1416 mw_1413 mw_1415 mw_p5_5 mw_12) rfl rfl rfl (by decide +kernel) ⟨Nat.le_of_ble_eq_true rfl, Nat.le_of_ble_eq_true rfl⟩) (kRecvX (q0 := 0) (ci := 11) hK hP hD hN hXS hS hA rfl rfl [0, 1] rfl (by decide +kernel)) rfl rfl hl.1 rfl (lv_room (Nat.le_of_ble_eq_true rfl)) dX11_drinks_28 ⟨Nat.le_of_ble_eq_true rfl, Nat.le_of_ble_eq_true rfl⟩) hP hD hS hA [0, 1] [] rfl rfl (by decide +kernel) (by decide +kernel) ?_
  clear hP hD hS
  intro r_24 u_26 H locs w_25 hP hD hS
  replace hP : va_P D vwCl [(k, .inr (11, [.ref k0, .ref k1, .ref k2, .int c3, .ref k4, .ref k5, .ref k6, .ref k7, .ref k8, .int c9, .ref ka, .ref kb, .int cc, .int cd, .int ce, .int cf, .int cg, .int ch, .int ci, .int cj, .int ck, .ref kl, .int cm, .int cn, .ref ko])), (k0, .inl (cI, 1201, .inl c0))] H := hP
  replace hD : va_D A [(k, .inr (11, [.ref k0, .ref k1, .ref k2, .int c3, .ref k4, .ref k5, .ref k6, .ref k7, .ref k8, .int c9, .ref ka, .ref kb, .int cc, .int cd, .int ce, .int cf, .int cg, .int ch, .int ci, .int cj, .int ck, .ref kl, .int cm, .int cn, .ref ko])), (k0, .inl (cI, 1201, .inl c0))] := hD
  have h_27 := w_25
  have h_27 : r_24 = pW c0 a0 6 := h_27
  have t_28 : r_24.toInt = (pW c0 a0 6).toInt := by rw [h_27]
  have lo_r_24 := k_lo r_24
  have hi_r_24 := k_hi r_24
  refine lv_aload_n hx hb dX11_drinks_31 rfl (lv_at hl 2 rfl) ?_
  refine va_get (D := D) (ci := 11) (v := .ref k0) (C := RX11) (T := TX11) (N := 25) hx hb hT giX11 hown hK hP 0 rfl rfl 0 (by decide +kernel) (hT (Cond.fieldLink RX11 9 "DesertWireModel" "s" "[I") mw_1156) (fun _ h9 => h9) rfl dX11_drinks_32 ?_
  refine lv_bipush (v := 59) hx hb dX11_drinks_35 (by decide +kernel) ?_
  refine lv_iload_n hx hb dX11_drinks_37 rfl (lv_at hl 1 rfl) ?_
  refine lv_iadd hx hb dX11_drinks_38 ?_
  refine lv_topi (fun v_29 ev_29 => ?_)
  have tv_29 : v_29.toInt = 59 + r_4.toInt := by rw [ev_29]; exact k_addv zl_59 rfl (by omega) (by omega)
  refine k_iald (v := (c0 v_29.toNatClampNeg)) hx hb hK hP 1 0 rfl rfl (k_in (by omega) (by omega)) rfl dX11_drinks_39 ?_
  refine lv_topi (fun v_30 ev_30 => ?_)
  have lo_v_30 := k_lo v_30
  have hi_v_30 := k_hi v_30
  have tv_30 : v_30.toInt = (c0 v_29.toNatClampNeg).toInt := by rw [ev_30]
  refine lv_iadd hx hb dX11_drinks_40 ?_
  refine lv_topi (fun v_31 ev_31 => ?_)
  have lo_v_31 := k_lo v_31
  have hi_v_31 := k_hi v_31
  refine lv_aload_n hx hb dX11_drinks_41 rfl (lv_at hl 2 rfl) ?_
  refine lv_iload_n hx hb dX11_drinks_42 rfl (lv_at hl 1 rfl) ?_
  refine kJi (wr := []) (va_runV (As := [.int r_4]) (rest := [.int v_31]) ⟨hx, hb, hml, hown, hT⟩ (c_X11_wellsInG l D cI aK aV k k0 k1 k2 k4 k5 k6 k7 k8 ka kb kl ko H.size c3 c9 cc cd ce cf cg ch ci cj ck cm cn c0 r_4 (And.left pre0)) (cwV 1 hT (gV_in mw_1384 mw_1381 mw_1383 mw_p5_1 mw_12) rfl rfl rfl (by decide +kernel) ⟨Nat.le_of_ble_eq_true rfl, Nat.le_of_ble_eq_true rfl⟩) (kRecvX (q0 := 0) (ci := 11) hK hP hD hN hXS hS hA rfl rfl [0, 1] rfl (by decide +kernel)) rfl rfl hl.1 rfl (lv_room (Nat.le_of_ble_eq_true rfl)) dX11_drinks_43 ⟨Nat.le_of_ble_eq_true rfl, Nat.le_of_ble_eq_true rfl⟩) hP hD hS hA [0, 1] [] rfl rfl (by decide +kernel) (by decide +kernel) ?_
  clear hP hD hS
  intro r_32 u_34 H locs w_33 hP hD hS
  replace hP : va_P D vwCl [(k, .inr (11, [.ref k0, .ref k1, .ref k2, .int c3, .ref k4, .ref k5, .ref k6, .ref k7, .ref k8, .int c9, .ref ka, .ref kb, .int cc, .int cd, .int ce, .int cf, .int cg, .int ch, .int ci, .int cj, .int ck, .ref kl, .int cm, .int cn, .ref ko])), (k0, .inl (cI, 1201, .inl c0))] H := hP
  replace hD : va_D A [(k, .inr (11, [.ref k0, .ref k1, .ref k2, .int c3, .ref k4, .ref k5, .ref k6, .ref k7, .ref k8, .int c9, .ref ka, .ref kb, .int cc, .int cd, .int ce, .int cf, .int cg, .int ch, .int ci, .int cj, .int ck, .ref kl, .int cm, .int cn, .ref ko])), (k0, .inl (cI, 1201, .inl c0))] := hD
  have h_35 := w_33
  have h_35 : r_32 = wlF c0 r_4.toInt := h_35
  have h_35 : r_32 = wlF c0 r_4.toInt := h_35
  have lo_r_32 := k_lo r_32
  have hi_r_32 := k_hi r_32
  refine lv_iadd hx hb dX11_drinks_46 ?_
  refine lv_topi (fun v_36 ev_36 => ?_)
  have lo_v_36 := k_lo v_36
  have hi_v_36 := k_hi v_36
  refine lv_istore (lv' := [(4, .int v_36), (3, .int v_23), (2, .int r_4), (0, .ref k), (1, .int a0)]) hx hb dX11_drinks_47 hl (by decide +kernel) rfl ?_
  clear hl
  intro ls hl
  refine lv_iload hx hb dX11_drinks_49 (lv_at hl 0 rfl) ?_
  refine lv_iload_n hx hb dX11_drinks_51 rfl (lv_at hl 1 rfl) ?_
  refine b_icmp_le hx hb rfl rfl (tgt := 59) dX11_drinks_52 (by decide +kernel) (fun c_37 => ?_) (fun c_37 => ?_)
  · refine lv_iload hx hb dX11_drinks_59 (lv_at hl 0 rfl) ?_
    refine lv_istore (lv' := [(4, .int v_36), (3, .int v_23), (2, .int r_4), (0, .ref k), (1, .int a0)]) hx hb dX11_drinks_61 hl (by decide +kernel) rfl ?_
    clear hl
    intro ls hl
    refine lv_iload hx hb dX11_drinks_63 (lv_at hl 0 rfl) ?_
    refine lv_aload_n hx hb dX11_drinks_65 rfl (lv_at hl 3 rfl) ?_
    refine lv_iload_n hx hb dX11_drinks_66 rfl (lv_at hl 4 rfl) ?_
    refine lv_bipush (v := 6) hx hb dX11_drinks_67 (by decide +kernel) ?_
    refine kJi (wr := []) (va_runV (As := [.int a0, .int 6]) (rest := [.int v_36]) ⟨hx, hb, hml, hown, hT⟩ (c_X11_partyG6 l D cI aK aV k k0 k1 k2 k4 k5 k6 k7 k8 ka kb kl ko H.size c3 c9 cc cd ce cf cg ch ci cj ck cm cn c0 a0 6 (by first | omega | (simp only [zl_6]; first | done | omega) | decide | assumption | rfl) (by first | omega | (simp only [zl_6]; first | done | omega) | decide | assumption | rfl) (by first | omega | (simp only [zl_6]; first | done | omega) | decide | assumption | rfl)) (cwV 2 hT (gV_in mw_1416 mw_1413 mw_1415 mw_p5_5 mw_12) rfl rfl rfl (by decide +kernel) ⟨Nat.le_of_ble_eq_true rfl, Nat.le_of_ble_eq_true rfl⟩) (kRecvX (q0 := 0) (ci := 11) hK hP hD hN hXS hS hA rfl rfl [0, 1] rfl (by decide +kernel)) rfl rfl hl.1 rfl (lv_room (Nat.le_of_ble_eq_true rfl)) dX11_drinks_69 ⟨Nat.le_of_ble_eq_true rfl, Nat.le_of_ble_eq_true rfl⟩) hP hD hS hA [0, 1] [] rfl rfl (by decide +kernel) (by decide +kernel) ?_
    clear hP hD hS
    intro r_38 u_40 H locs w_39 hP hD hS
    replace hP : va_P D vwCl [(k, .inr (11, [.ref k0, .ref k1, .ref k2, .int c3, .ref k4, .ref k5, .ref k6, .ref k7, .ref k8, .int c9, .ref ka, .ref kb, .int cc, .int cd, .int ce, .int cf, .int cg, .int ch, .int ci, .int cj, .int ck, .ref kl, .int cm, .int cn, .ref ko])), (k0, .inl (cI, 1201, .inl c0))] H := hP
    replace hD : va_D A [(k, .inr (11, [.ref k0, .ref k1, .ref k2, .int c3, .ref k4, .ref k5, .ref k6, .ref k7, .ref k8, .int c9, .ref ka, .ref kb, .int cc, .int cd, .int ce, .int cf, .int cg, .int ch, .int ci, .int cj, .int ck, .ref kl, .int cm, .int cn, .ref ko])), (k0, .inl (cI, 1201, .inl c0))] := hD
    have h_41 := w_39
    have h_41 : r_38 = pW c0 a0 6 := h_41
    have t_42 : r_38.toInt = (pW c0 a0 6).toInt := by rw [h_41]
    have lo_r_38 := k_lo r_38
    have hi_r_38 := k_hi r_38
    refine b_icmp_ge hx hb rfl rfl (tgt := 85) dX11_drinks_72 (by decide +kernel) (fun c_43 => ?_) (fun c_43 => ?_)
    · refine lv_iload hx hb dX11_drinks_85 (lv_at hl 0 rfl) ?_
      refine lv_istore (lv' := [(4, .int v_36), (3, .int v_23), (2, .int r_4), (0, .ref k), (1, .int a0)]) hx hb dX11_drinks_87 hl (by decide +kernel) rfl ?_
      clear hl
      intro ls hl
      refine lv_iload hx hb dX11_drinks_89 (lv_at hl 0 rfl) ?_
      refine lv_aload_n hx hb dX11_drinks_91 rfl (lv_at hl 3 rfl) ?_
      refine lv_iload_n hx hb dX11_drinks_92 rfl (lv_at hl 4 rfl) ?_
      refine lv_iconst (v := 2) hx hb dX11_drinks_93 (by decide +kernel) ?_
      refine kJi (wr := []) (va_runV (As := [.int a0, .int 2]) (rest := [.int v_36]) ⟨hx, hb, hml, hown, hT⟩ (c_X11_partyG2 l D cI aK aV k k0 k1 k2 k4 k5 k6 k7 k8 ka kb kl ko H.size c3 c9 cc cd ce cf cg ch ci cj ck cm cn c0 a0 2 (by first | omega | (simp only [zl_2]; first | done | omega) | decide | assumption | rfl) (by first | omega | (simp only [zl_2]; first | done | omega) | decide | assumption | rfl) (by first | omega | (simp only [zl_2]; first | done | omega) | decide | assumption | rfl)) (cwV 2 hT (gV_in mw_1416 mw_1413 mw_1415 mw_p5_5 mw_12) rfl rfl rfl (by decide +kernel) ⟨Nat.le_of_ble_eq_true rfl, Nat.le_of_ble_eq_true rfl⟩) (kRecvX (q0 := 0) (ci := 11) hK hP hD hN hXS hS hA rfl rfl [0, 1] rfl (by decide +kernel)) rfl rfl hl.1 rfl (lv_room (Nat.le_of_ble_eq_true rfl)) dX11_drinks_94 ⟨Nat.le_of_ble_eq_true rfl, Nat.le_of_ble_eq_true rfl⟩) hP hD hS hA [0, 1] [] rfl rfl (by decide +kernel) (by decide +kernel) ?_
      clear hP hD hS
      intro r_44 u_46 H locs w_45 hP hD hS
      replace hP : va_P D vwCl [(k, .inr (11, [.ref k0, .ref k1, .ref k2, .int c3, .ref k4, .ref k5, .ref k6, .ref k7, .ref k8, .int c9, .ref ka, .ref kb, .int cc, .int cd, .int ce, .int cf, .int cg, .int ch, .int ci, .int cj, .int ck, .ref kl, .int cm, .int cn, .ref ko])), (k0, .inl (cI, 1201, .inl c0))] H := hP
      replace hD : va_D A [(k, .inr (11, [.ref k0, .ref k1, .ref k2, .int c3, .ref k4, .ref k5, .ref k6, .ref k7, .ref k8, .int c9, .ref ka, .ref kb, .int cc, .int cd, .int ce, .int cf, .int cg, .int ch, .int ci, .int cj, .int ck, .ref kl, .int cm, .int cn, .ref ko])), (k0, .inl (cI, 1201, .inl c0))] := hD
      have h_47 := w_45
      have h_47 : r_44 = pW c0 a0 2 := h_47
      have t_48 : r_44.toInt = (pW c0 a0 2).toInt := by rw [h_47]
      have b_49 : 0 ≤ r_44.toInt ∧ r_44.toInt ≤ 50 := by rw [h_47]; exact SB.p2 (And.left pre0) (by omega) (by omega)
      have lo_r_44 := k_lo r_44
      have hi_r_44 := k_hi r_44
      refine lv_iconst (v := 2) hx hb dX11_drinks_97 (by decide +kernel) ?_
      refine lv_aload_n hx hb dX11_drinks_98 rfl (lv_at hl 3 rfl) ?_
      refine lv_iload_n hx hb dX11_drinks_99 rfl (lv_at hl 4 rfl) ?_
      refine lv_iconst (v := 3) hx hb dX11_drinks_100 (by decide +kernel) ?_
      refine kJi (wr := []) (va_runV (As := [.int a0, .int 3]) (rest := [.int 2, .int r_44, .int v_36]) ⟨hx, hb, hml, hown, hT⟩ (c_X11_partyG3 l D cI aK aV k k0 k1 k2 k4 k5 k6 k7 k8 ka kb kl ko H.size c3 c9 cc cd ce cf cg ch ci cj ck cm cn c0 a0 3 (by first | omega | (simp only [zl_3]; first | done | omega) | decide | assumption | rfl) (by first | omega | (simp only [zl_3]; first | done | omega) | decide | assumption | rfl) (by first | omega | (simp only [zl_3]; first | done | omega) | decide | assumption | rfl)) (cwV 2 hT (gV_in mw_1416 mw_1413 mw_1415 mw_p5_5 mw_12) rfl rfl rfl (by decide +kernel) ⟨Nat.le_of_ble_eq_true rfl, Nat.le_of_ble_eq_true rfl⟩) (kRecvX (q0 := 0) (ci := 11) hK hP hD hN hXS hS hA rfl rfl [0, 1] rfl (by decide +kernel)) rfl rfl hl.1 rfl (lv_room (Nat.le_of_ble_eq_true rfl)) dX11_drinks_101 ⟨Nat.le_of_ble_eq_true rfl, Nat.le_of_ble_eq_true rfl⟩) hP hD hS hA [0, 1] [] rfl rfl (by decide +kernel) (by decide +kernel) ?_
      clear hP hD hS
      intro r_50 u_52 H locs w_51 hP hD hS
      replace hP : va_P D vwCl [(k, .inr (11, [.ref k0, .ref k1, .ref k2, .int c3, .ref k4, .ref k5, .ref k6, .ref k7, .ref k8, .int c9, .ref ka, .ref kb, .int cc, .int cd, .int ce, .int cf, .int cg, .int ch, .int ci, .int cj, .int ck, .ref kl, .int cm, .int cn, .ref ko])), (k0, .inl (cI, 1201, .inl c0))] H := hP
      replace hD : va_D A [(k, .inr (11, [.ref k0, .ref k1, .ref k2, .int c3, .ref k4, .ref k5, .ref k6, .ref k7, .ref k8, .int c9, .ref ka, .ref kb, .int cc, .int cd, .int ce, .int cf, .int cg, .int ch, .int ci, .int cj, .int ck, .ref kl, .int cm, .int cn, .ref ko])), (k0, .inl (cI, 1201, .inl c0))] := hD
      have h_53 := w_51
      have h_53 : r_50 = pW c0 a0 3 := h_53
      have t_54 : r_50.toInt = (pW c0 a0 3).toInt := by rw [h_53]
      have b_55 : 0 ≤ r_50.toInt ∧ r_50.toInt ≤ 50 := by rw [h_53]; exact SB.p3 (And.left pre0) (by omega) (by omega)
      have lo_r_50 := k_lo r_50
      have hi_r_50 := k_hi r_50
      refine lv_imul hx hb dX11_drinks_104 ?_
      refine lv_topi (fun v_56 ev_56 => ?_)
      have tv_56 : v_56.toInt = 2 * r_50.toInt := by rw [ev_56]; exact k_mulv zl_2 rfl (by omega) (by omega)
      refine lv_iadd hx hb dX11_drinks_105 ?_
      refine lv_topi (fun v_57 ev_57 => ?_)
      have tv_57 : v_57.toInt = r_44.toInt + v_56.toInt := by rw [ev_57]; exact k_addv rfl rfl (by omega) (by omega)
      refine lv_isub hx hb dX11_drinks_106 ?_
      refine lv_topi (fun v_58 ev_58 => ?_)
      have lo_v_58 := k_lo v_58
      have hi_v_58 := k_hi v_58
      refine lv_istore (lv' := [(4, .int v_58), (3, .int v_23), (2, .int r_4), (0, .ref k), (1, .int a0)]) hx hb dX11_drinks_107 hl (by decide +kernel) rfl ?_
      clear hl
      intro ls hl
      refine lv_iload hx hb dX11_drinks_109 (lv_at hl 0 rfl) ?_
      refine b_if_ge hx hb rfl (tgt := 146) dX11_drinks_111 (by decide +kernel) (fun c_59 => ?_) (fun c_59 => ?_)
      · refine lv_aload_n hx hb dX11_drinks_146 rfl (lv_at hl 3 rfl) ?_
        refine lv_iload_n hx hb dX11_drinks_147 rfl (lv_at hl 4 rfl) ?_
        refine lv_bipush (v := 6) hx hb dX11_drinks_148 (by decide +kernel) ?_
        refine lv_iload hx hb dX11_drinks_150 (lv_at hl 0 rfl) ?_
        refine b_if_ge hx hb rfl (tgt := 159) dX11_drinks_152 (by decide +kernel) (fun c_60 => ?_) (fun c_60 => by exfalso; omega)
        refine lv_iload hx hb dX11_drinks_159 (lv_at hl 0 rfl) ?_
        refine kJv (wr := []) (va_runV (As := [.int a0, .int 6, .int v_58]) (rest := []) ⟨hx, hb, hml, hown, hT⟩ (c_X11_setPartyG6 l D cI aK aV k k0 k1 k2 k4 k5 k6 k7 k8 ka kb kl ko H.size c3 c9 cc cd ce cf cg ch ci cj ck cm cn c0 a0 6 v_58 (by first | omega | (simp only [zl_6]; first | done | omega) | decide | assumption | rfl) (by first | omega | (simp only [zl_6]; first | done | omega) | decide | assumption | rfl) (by first | omega | (simp only [zl_6]; first | done | omega) | decide | assumption | rfl)) (cwV 3 hT (gV_in mw_1404 mw_1401 mw_1403 mw_p5_3 mw_12) rfl rfl rfl (by decide +kernel) ⟨Nat.le_of_ble_eq_true rfl, Nat.le_of_ble_eq_true rfl⟩) (kRecvX (q0 := 0) (ci := 11) hK hP hD hN hXS hS hA rfl rfl [0, 1] rfl (by decide +kernel)) rfl rfl hl.1 rfl (lv_room (Nat.le_of_ble_eq_true rfl)) dX11_drinks_161 ⟨Nat.le_of_ble_eq_true rfl, Nat.le_of_ble_eq_true rfl⟩) hP hD hS hA [0, 1] [] rfl rfl (by decide +kernel) (by decide +kernel) ?_
        clear hP hD hS
        intro sc0_63 H locs w_62 hP hD hS
        replace hP : va_P D vwCl [(k, .inr (11, [.ref k0, .ref k1, .ref k2, .int c3, .ref k4, .ref k5, .ref k6, .ref k7, .ref k8, .int c9, .ref ka, .ref kb, .int cc, .int cd, .int ce, .int cf, .int cg, .int ch, .int ci, .int cj, .int ck, .ref kl, .int cm, .int cn, .ref ko])), (k0, .inl (cI, 1201, .inl sc0_63))] H := hP
        replace hD : va_D A [(k, .inr (11, [.ref k0, .ref k1, .ref k2, .int c3, .ref k4, .ref k5, .ref k6, .ref k7, .ref k8, .int c9, .ref ka, .ref kb, .int cc, .int cd, .int ce, .int cf, .int cg, .int ch, .int ci, .int cj, .int ck, .ref kl, .int cm, .int cn, .ref ko])), (k0, .inl (cI, 1201, .inl sc0_63))] := hD
        have h_64 := w_62
        try simp only [zl_6] at h_64
        have h_64 : sc0_63 = upd c0 (459 + 9 * a0.toInt.toNat + 6) v_58 := h_64
        have h_64 : sc0_63 = upd c0 (459 + 9 * a0.toInt.toNat + 6) v_58 := h_64
        have hS_65 : SIX sc0_63 (-1) := SIX.p pre0 h_64 rfl (by omega) (by omega) (by decide +kernel) (by omega) (fun z => by omega) (fun z => by omega)
        have n_66 : (sc0_63 0).toInt = (c0 0).toInt := by rw [updN h_64 (by omega)]
        have n_67 : (sc0_63 1).toInt = (c0 1).toInt := by rw [updN h_64 (by omega)]
        have n_68 : (sc0_63 2).toInt = (c0 2).toInt := by rw [updN h_64 (by omega)]
        have n_69 : (pW sc0_63 a0 2).toInt = (pW c0 a0 2).toInt := by rw [pW_upd h_64 (by decide +kernel) (by decide +kernel) (Or.inl (by decide +kernel))]
        exact hRet sc0_63 [0, 1] ⟨(SIX.but hS_65), (by first | omega | decide | assumption | rfl), (by first | omega | decide | assumption | rfl), (by first | omega | decide | assumption | rfl), (ref_dy (ref_dV (mi := r_4) (me := r_10) (be := r_16) (ha := r_24) (sp := v_30) (wl := r_32) (va := v_31) (vb := v_36) (vc := v_22) (vd := v_23) (ve := v_36) (vf := v_36) (vg := v_57) (vh := v_56) (vl := v_58) h_7 h_13 h_19 h_27 (rd_in ev_30 (by omega)) h_35 (by rw [ev_31]) ev_36 (by rw [ev_22]) ev_23 (by first | exact Or.inl ⟨by omega, rfl⟩ | exact Or.inr ⟨by omega, rfl⟩) (Or.inr ⟨by omega, rfl⟩) (by rw [ev_56, show r_50 = r_16 from h_53.trans h_19.symm]) (by rw [ev_57, show r_44 = r_10 from h_47.trans h_13.symm]) ev_58) (by omega) h_64)⟩ hP hD (by decide +kernel) rfl hS dX11_drinks_164
      · refine lv_aload_n hx hb dX11_drinks_114 rfl (lv_at hl 3 rfl) ?_
        refine lv_iload_n hx hb dX11_drinks_115 rfl (lv_at hl 4 rfl) ?_
        refine lv_iconst (v := 3) hx hb dX11_drinks_116 (by decide +kernel) ?_
        refine kJi (wr := []) (va_runV (As := [.int a0, .int 3]) (rest := []) ⟨hx, hb, hml, hown, hT⟩ (c_X11_partyG3 l D cI aK aV k k0 k1 k2 k4 k5 k6 k7 k8 ka kb kl ko H.size c3 c9 cc cd ce cf cg ch ci cj ck cm cn c0 a0 3 (by first | omega | (simp only [zl_3]; first | done | omega) | decide | assumption | rfl) (by first | omega | (simp only [zl_3]; first | done | omega) | decide | assumption | rfl) (by first | omega | (simp only [zl_3]; first | done | omega) | decide | assumption | rfl)) (cwV 2 hT (gV_in mw_1416 mw_1413 mw_1415 mw_p5_5 mw_12) rfl rfl rfl (by decide +kernel) ⟨Nat.le_of_ble_eq_true rfl, Nat.le_of_ble_eq_true rfl⟩) (kRecvX (q0 := 0) (ci := 11) hK hP hD hN hXS hS hA rfl rfl [0, 1] rfl (by decide +kernel)) rfl rfl hl.1 rfl (lv_room (Nat.le_of_ble_eq_true rfl)) dX11_drinks_117 ⟨Nat.le_of_ble_eq_true rfl, Nat.le_of_ble_eq_true rfl⟩) hP hD hS hA [0, 1] [] rfl rfl (by decide +kernel) (by decide +kernel) ?_
        clear hP hD hS
        intro r_70 u_72 H locs w_71 hP hD hS
        replace hP : va_P D vwCl [(k, .inr (11, [.ref k0, .ref k1, .ref k2, .int c3, .ref k4, .ref k5, .ref k6, .ref k7, .ref k8, .int c9, .ref ka, .ref kb, .int cc, .int cd, .int ce, .int cf, .int cg, .int ch, .int ci, .int cj, .int ck, .ref kl, .int cm, .int cn, .ref ko])), (k0, .inl (cI, 1201, .inl c0))] H := hP
        replace hD : va_D A [(k, .inr (11, [.ref k0, .ref k1, .ref k2, .int c3, .ref k4, .ref k5, .ref k6, .ref k7, .ref k8, .int c9, .ref ka, .ref kb, .int cc, .int cd, .int ce, .int cf, .int cg, .int ch, .int ci, .int cj, .int ck, .ref kl, .int cm, .int cn, .ref ko])), (k0, .inl (cI, 1201, .inl c0))] := hD
        have h_73 := w_71
        have h_73 : r_70 = pW c0 a0 3 := h_73
        have t_74 : r_70.toInt = (pW c0 a0 3).toInt := by rw [h_73]
        have b_75 : 0 ≤ r_70.toInt ∧ r_70.toInt ≤ 50 := by rw [h_73]; exact SB.p3 (And.left pre0) (by omega) (by omega)
        have lo_r_70 := k_lo r_70
        have hi_r_70 := k_hi r_70
        refine b_if_le hx hb rfl (tgt := 127) dX11_drinks_120 (by decide +kernel) (fun c_76 => ?_) (fun c_76 => ?_)
        · refine lv_iconst (v := 2) hx hb dX11_drinks_127 (by decide +kernel) ?_
          refine lv_istore (lv' := [(5, .int 2), (4, .int v_58), (3, .int v_23), (2, .int r_4), (0, .ref k), (1, .int a0)]) hx hb dX11_drinks_128 hl (by decide +kernel) rfl ?_
          clear hl
          intro ls hl
          refine lv_aload_n hx hb dX11_drinks_130 rfl (lv_at hl 4 rfl) ?_
          refine lv_iload_n hx hb dX11_drinks_131 rfl (lv_at hl 5 rfl) ?_
          refine lv_iload hx hb dX11_drinks_132 (lv_at hl 0 rfl) ?_
          refine lv_aload_n hx hb dX11_drinks_134 rfl (lv_at hl 4 rfl) ?_
          refine lv_iload_n hx hb dX11_drinks_135 rfl (lv_at hl 5 rfl) ?_
          refine lv_iload hx hb dX11_drinks_136 (lv_at hl 0 rfl) ?_
          refine kJi (wr := []) (va_runV (As := [.int a0, .int 2]) (rest := [.int 2, .int a0, .ref k]) ⟨hx, hb, hml, hown, hT⟩ (c_X11_partyG2 l D cI aK aV k k0 k1 k2 k4 k5 k6 k7 k8 ka kb kl ko H.size c3 c9 cc cd ce cf cg ch ci cj ck cm cn c0 a0 2 (by first | omega | (simp only [zl_2]; first | done | omega) | decide | assumption | rfl) (by first | omega | (simp only [zl_2]; first | done | omega) | decide | assumption | rfl) (by first | omega | (simp only [zl_2]; first | done | omega) | decide | assumption | rfl)) (cwV 2 hT (gV_in mw_1416 mw_1413 mw_1415 mw_p5_5 mw_12) rfl rfl rfl (by decide +kernel) ⟨Nat.le_of_ble_eq_true rfl, Nat.le_of_ble_eq_true rfl⟩) (kRecvX (q0 := 0) (ci := 11) hK hP hD hN hXS hS hA rfl rfl [0, 1] rfl (by decide +kernel)) rfl rfl hl.1 rfl (lv_room (Nat.le_of_ble_eq_true rfl)) dX11_drinks_138 ⟨Nat.le_of_ble_eq_true rfl, Nat.le_of_ble_eq_true rfl⟩) hP hD hS hA [0, 1] [] rfl rfl (by decide +kernel) (by decide +kernel) ?_
          clear hP hD hS
          intro r_77 u_79 H locs w_78 hP hD hS
          replace hP : va_P D vwCl [(k, .inr (11, [.ref k0, .ref k1, .ref k2, .int c3, .ref k4, .ref k5, .ref k6, .ref k7, .ref k8, .int c9, .ref ka, .ref kb, .int cc, .int cd, .int ce, .int cf, .int cg, .int ch, .int ci, .int cj, .int ck, .ref kl, .int cm, .int cn, .ref ko])), (k0, .inl (cI, 1201, .inl c0))] H := hP
          replace hD : va_D A [(k, .inr (11, [.ref k0, .ref k1, .ref k2, .int c3, .ref k4, .ref k5, .ref k6, .ref k7, .ref k8, .int c9, .ref ka, .ref kb, .int cc, .int cd, .int ce, .int cf, .int cg, .int ch, .int ci, .int cj, .int ck, .ref kl, .int cm, .int cn, .ref ko])), (k0, .inl (cI, 1201, .inl c0))] := hD
          have h_80 := w_78
          have h_80 : r_77 = pW c0 a0 2 := h_80
          have t_81 : r_77.toInt = (pW c0 a0 2).toInt := by rw [h_80]
          have b_82 : 0 ≤ r_77.toInt ∧ r_77.toInt ≤ 50 := by rw [h_80]; exact SB.p2 (And.left pre0) (by omega) (by omega)
          have lo_r_77 := k_lo r_77
          have hi_r_77 := k_hi r_77
          refine lv_iconst (v := 1) hx hb dX11_drinks_141 (by decide +kernel) ?_
          refine lv_isub hx hb dX11_drinks_142 ?_
          refine lv_topi (fun v_83 ev_83 => ?_)
          have tv_83 : v_83.toInt = r_77.toInt - 1 := by rw [ev_83]; exact k_subv rfl zl_1 (by omega) (by omega)
          refine kJv (wr := []) (va_runV (As := [.int a0, .int 2, .int v_83]) (rest := []) ⟨hx, hb, hml, hown, hT⟩ (c_X11_setPartyG2 l D cI aK aV k k0 k1 k2 k4 k5 k6 k7 k8 ka kb kl ko H.size c3 c9 cc cd ce cf cg ch ci cj ck cm cn c0 a0 2 v_83 (by first | omega | (simp only [zl_2]; first | done | omega) | decide | assumption | rfl) (by first | omega | (simp only [zl_2]; first | done | omega) | decide | assumption | rfl) (by first | omega | (simp only [zl_2]; first | done | omega) | decide | assumption | rfl)) (cwV 3 hT (gV_in mw_1404 mw_1401 mw_1403 mw_p5_3 mw_12) rfl rfl rfl (by decide +kernel) ⟨Nat.le_of_ble_eq_true rfl, Nat.le_of_ble_eq_true rfl⟩) (kRecvX (q0 := 0) (ci := 11) hK hP hD hN hXS hS hA rfl rfl [0, 1] rfl (by decide +kernel)) rfl rfl hl.1 rfl (lv_room (Nat.le_of_ble_eq_true rfl)) dX11_drinks_143 ⟨Nat.le_of_ble_eq_true rfl, Nat.le_of_ble_eq_true rfl⟩) hP hD hS hA [0, 1] [] rfl rfl (by decide +kernel) (by decide +kernel) ?_
          clear hP hD hS
          intro sc0_86 H locs w_85 hP hD hS
          replace hP : va_P D vwCl [(k, .inr (11, [.ref k0, .ref k1, .ref k2, .int c3, .ref k4, .ref k5, .ref k6, .ref k7, .ref k8, .int c9, .ref ka, .ref kb, .int cc, .int cd, .int ce, .int cf, .int cg, .int ch, .int ci, .int cj, .int ck, .ref kl, .int cm, .int cn, .ref ko])), (k0, .inl (cI, 1201, .inl sc0_86))] H := hP
          replace hD : va_D A [(k, .inr (11, [.ref k0, .ref k1, .ref k2, .int c3, .ref k4, .ref k5, .ref k6, .ref k7, .ref k8, .int c9, .ref ka, .ref kb, .int cc, .int cd, .int ce, .int cf, .int cg, .int ch, .int ci, .int cj, .int ck, .ref kl, .int cm, .int cn, .ref ko])), (k0, .inl (cI, 1201, .inl sc0_86))] := hD
          have h_87 := w_85
          try simp only [zl_2] at h_87
          have h_87 : sc0_86 = upd c0 (459 + 9 * a0.toInt.toNat + 2) v_83 := h_87
          have h_87 : sc0_86 = upd c0 (459 + 9 * a0.toInt.toNat + 2) v_83 := h_87
          have hS_88 : SIX sc0_86 a0.toInt := SIX.p (SIX.but pre0) h_87 rfl (by omega) (by omega) (by decide +kernel) (by omega) (fun _ => Or.inr rfl) (fun z => by omega)
          have n_89 : (sc0_86 0).toInt = (c0 0).toInt := by rw [updN h_87 (by omega)]
          have n_90 : (sc0_86 1).toInt = (c0 1).toInt := by rw [updN h_87 (by omega)]
          have n_91 : (sc0_86 2).toInt = (c0 2).toInt := by rw [updN h_87 (by omega)]
          refine lv_aload_n hx hb dX11_drinks_146 rfl (lv_at hl 4 rfl) ?_
          refine lv_iload_n hx hb dX11_drinks_147 rfl (lv_at hl 5 rfl) ?_
          refine lv_bipush (v := 6) hx hb dX11_drinks_148 (by decide +kernel) ?_
          refine lv_iload hx hb dX11_drinks_150 (lv_at hl 1 rfl) ?_
          refine b_if_ge hx hb rfl (tgt := 159) dX11_drinks_152 (by decide +kernel) (fun c_93 => by exfalso; omega) (fun c_93 => ?_)
          refine lv_iconst (v := 0) hx hb dX11_drinks_155 (by decide +kernel) ?_
          refine lv_goto (tgt := 161) hx hb dX11_drinks_156 (by decide +kernel) ?_
          refine kJv (wr := []) (va_runV (As := [.int a0, .int 6, .int 0]) (rest := []) ⟨hx, hb, hml, hown, hT⟩ (c_X11_setPartyG6 l D cI aK aV k k0 k1 k2 k4 k5 k6 k7 k8 ka kb kl ko H.size c3 c9 cc cd ce cf cg ch ci cj ck cm cn sc0_86 a0 6 0 (by first | omega | (simp only [zl_0, zl_6]; first | done | omega) | decide | assumption | rfl) (by first | omega | (simp only [zl_0, zl_6]; first | done | omega) | decide | assumption | rfl) (by first | omega | (simp only [zl_0, zl_6]; first | done | omega) | decide | assumption | rfl)) (cwV 3 hT (gV_in mw_1404 mw_1401 mw_1403 mw_p5_3 mw_12) rfl rfl rfl (by decide +kernel) ⟨Nat.le_of_ble_eq_true rfl, Nat.le_of_ble_eq_true rfl⟩) (kRecvX (q0 := 0) (ci := 11) hK hP hD hN hXS hS hA rfl rfl [0, 1] rfl (by decide +kernel)) rfl rfl hl.1 rfl (lv_room (Nat.le_of_ble_eq_true rfl)) dX11_drinks_161 ⟨Nat.le_of_ble_eq_true rfl, Nat.le_of_ble_eq_true rfl⟩) hP hD hS hA [0, 1] [] rfl rfl (by decide +kernel) (by decide +kernel) ?_
          clear hP hD hS
          intro sc0_96 H locs w_95 hP hD hS
          replace hP : va_P D vwCl [(k, .inr (11, [.ref k0, .ref k1, .ref k2, .int c3, .ref k4, .ref k5, .ref k6, .ref k7, .ref k8, .int c9, .ref ka, .ref kb, .int cc, .int cd, .int ce, .int cf, .int cg, .int ch, .int ci, .int cj, .int ck, .ref kl, .int cm, .int cn, .ref ko])), (k0, .inl (cI, 1201, .inl sc0_96))] H := hP
          replace hD : va_D A [(k, .inr (11, [.ref k0, .ref k1, .ref k2, .int c3, .ref k4, .ref k5, .ref k6, .ref k7, .ref k8, .int c9, .ref ka, .ref kb, .int cc, .int cd, .int ce, .int cf, .int cg, .int ch, .int ci, .int cj, .int ck, .ref kl, .int cm, .int cn, .ref ko])), (k0, .inl (cI, 1201, .inl sc0_96))] := hD
          have h_97 := w_95
          try simp only [zl_0, zl_6] at h_97
          have h_97 : sc0_96 = upd sc0_86 (459 + 9 * a0.toInt.toNat + 6) 0 := h_97
          have h_97 : sc0_96 = upd sc0_86 (459 + 9 * a0.toInt.toNat + 6) 0 := h_97
          have hS_98 : SIX sc0_96 a0.toInt := SIX.p hS_88 h_97 zl_0 (by omega) (by omega) (by decide +kernel) (by omega) (fun z => by omega) (fun z => by omega)
          have n_99 : (sc0_96 0).toInt = (sc0_86 0).toInt := by rw [updN h_97 (by omega)]
          have n_100 : (sc0_96 1).toInt = (sc0_86 1).toInt := by rw [updN h_97 (by omega)]
          have n_101 : (sc0_96 2).toInt = (sc0_86 2).toInt := by rw [updN h_97 (by omega)]
          have n_102 : (pW sc0_96 a0 2).toInt = (pW sc0_86 a0 2).toInt := by rw [pW_upd h_97 (by decide +kernel) (by decide +kernel) (Or.inl (by decide +kernel))]
          exact hRet sc0_96 [0, 1] ⟨hS_98, (by first | omega | decide | assumption | rfl), (by first | omega | decide | assumption | rfl), (by first | omega | decide | assumption | rfl), (ref_dm (be := r_70) (me := r_77) (x := v_83) (ref_dV (mi := r_4) (me := r_10) (be := r_16) (ha := r_24) (sp := v_30) (wl := r_32) (va := v_31) (vb := v_36) (vc := v_22) (vd := v_23) (ve := v_36) (vf := v_36) (vg := v_57) (vh := v_56) (vl := v_58) h_7 h_13 h_19 h_27 (rd_in ev_30 (by omega)) h_35 (by rw [ev_31]) ev_36 (by rw [ev_22]) ev_23 (by first | exact Or.inl ⟨by omega, rfl⟩ | exact Or.inr ⟨by omega, rfl⟩) (Or.inr ⟨by omega, rfl⟩) (by rw [ev_56, show r_50 = r_16 from h_53.trans h_19.symm]) (by rw [ev_57, show r_44 = r_10 from h_47.trans h_13.symm]) ev_58) (by omega) h_73 (by omega) h_80 ev_83 h_87 h_97)⟩ hP hD (by decide +kernel) rfl hS dX11_drinks_164
        · refine lv_iconst (v := 3) hx hb dX11_drinks_123 (by decide +kernel) ?_
          refine lv_goto (tgt := 128) hx hb dX11_drinks_124 (by decide +kernel) ?_
          refine lv_istore (lv' := [(5, .int 3), (4, .int v_58), (3, .int v_23), (2, .int r_4), (0, .ref k), (1, .int a0)]) hx hb dX11_drinks_128 hl (by decide +kernel) rfl ?_
          clear hl
          intro ls hl
          refine lv_aload_n hx hb dX11_drinks_130 rfl (lv_at hl 4 rfl) ?_
          refine lv_iload_n hx hb dX11_drinks_131 rfl (lv_at hl 5 rfl) ?_
          refine lv_iload hx hb dX11_drinks_132 (lv_at hl 0 rfl) ?_
          refine lv_aload_n hx hb dX11_drinks_134 rfl (lv_at hl 4 rfl) ?_
          refine lv_iload_n hx hb dX11_drinks_135 rfl (lv_at hl 5 rfl) ?_
          refine lv_iload hx hb dX11_drinks_136 (lv_at hl 0 rfl) ?_
          refine kJi (wr := []) (va_runV (As := [.int a0, .int 3]) (rest := [.int 3, .int a0, .ref k]) ⟨hx, hb, hml, hown, hT⟩ (c_X11_partyG3 l D cI aK aV k k0 k1 k2 k4 k5 k6 k7 k8 ka kb kl ko H.size c3 c9 cc cd ce cf cg ch ci cj ck cm cn c0 a0 3 (by first | omega | (simp only [zl_3]; first | done | omega) | decide | assumption | rfl) (by first | omega | (simp only [zl_3]; first | done | omega) | decide | assumption | rfl) (by first | omega | (simp only [zl_3]; first | done | omega) | decide | assumption | rfl)) (cwV 2 hT (gV_in mw_1416 mw_1413 mw_1415 mw_p5_5 mw_12) rfl rfl rfl (by decide +kernel) ⟨Nat.le_of_ble_eq_true rfl, Nat.le_of_ble_eq_true rfl⟩) (kRecvX (q0 := 0) (ci := 11) hK hP hD hN hXS hS hA rfl rfl [0, 1] rfl (by decide +kernel)) rfl rfl hl.1 rfl (lv_room (Nat.le_of_ble_eq_true rfl)) dX11_drinks_138 ⟨Nat.le_of_ble_eq_true rfl, Nat.le_of_ble_eq_true rfl⟩) hP hD hS hA [0, 1] [] rfl rfl (by decide +kernel) (by decide +kernel) ?_
          clear hP hD hS
          intro r_103 u_105 H locs w_104 hP hD hS
          replace hP : va_P D vwCl [(k, .inr (11, [.ref k0, .ref k1, .ref k2, .int c3, .ref k4, .ref k5, .ref k6, .ref k7, .ref k8, .int c9, .ref ka, .ref kb, .int cc, .int cd, .int ce, .int cf, .int cg, .int ch, .int ci, .int cj, .int ck, .ref kl, .int cm, .int cn, .ref ko])), (k0, .inl (cI, 1201, .inl c0))] H := hP
          replace hD : va_D A [(k, .inr (11, [.ref k0, .ref k1, .ref k2, .int c3, .ref k4, .ref k5, .ref k6, .ref k7, .ref k8, .int c9, .ref ka, .ref kb, .int cc, .int cd, .int ce, .int cf, .int cg, .int ch, .int ci, .int cj, .int ck, .ref kl, .int cm, .int cn, .ref ko])), (k0, .inl (cI, 1201, .inl c0))] := hD
          have h_106 := w_104
          have h_106 : r_103 = pW c0 a0 3 := h_106
          have t_107 : r_103.toInt = (pW c0 a0 3).toInt := by rw [h_106]
          have b_108 : 0 ≤ r_103.toInt ∧ r_103.toInt ≤ 50 := by rw [h_106]; exact SB.p3 (And.left pre0) (by omega) (by omega)
          have lo_r_103 := k_lo r_103
          have hi_r_103 := k_hi r_103
          refine lv_iconst (v := 1) hx hb dX11_drinks_141 (by decide +kernel) ?_
          refine lv_isub hx hb dX11_drinks_142 ?_
          refine lv_topi (fun v_109 ev_109 => ?_)
          have tv_109 : v_109.toInt = r_103.toInt - 1 := by rw [ev_109]; exact k_subv rfl zl_1 (by omega) (by omega)
          refine kJv (wr := []) (va_runV (As := [.int a0, .int 3, .int v_109]) (rest := []) ⟨hx, hb, hml, hown, hT⟩ (c_X11_setPartyG3 l D cI aK aV k k0 k1 k2 k4 k5 k6 k7 k8 ka kb kl ko H.size c3 c9 cc cd ce cf cg ch ci cj ck cm cn c0 a0 3 v_109 (by first | omega | (simp only [zl_3]; first | done | omega) | decide | assumption | rfl) (by first | omega | (simp only [zl_3]; first | done | omega) | decide | assumption | rfl) (by first | omega | (simp only [zl_3]; first | done | omega) | decide | assumption | rfl)) (cwV 3 hT (gV_in mw_1404 mw_1401 mw_1403 mw_p5_3 mw_12) rfl rfl rfl (by decide +kernel) ⟨Nat.le_of_ble_eq_true rfl, Nat.le_of_ble_eq_true rfl⟩) (kRecvX (q0 := 0) (ci := 11) hK hP hD hN hXS hS hA rfl rfl [0, 1] rfl (by decide +kernel)) rfl rfl hl.1 rfl (lv_room (Nat.le_of_ble_eq_true rfl)) dX11_drinks_143 ⟨Nat.le_of_ble_eq_true rfl, Nat.le_of_ble_eq_true rfl⟩) hP hD hS hA [0, 1] [] rfl rfl (by decide +kernel) (by decide +kernel) ?_
          clear hP hD hS
          intro sc0_112 H locs w_111 hP hD hS
          replace hP : va_P D vwCl [(k, .inr (11, [.ref k0, .ref k1, .ref k2, .int c3, .ref k4, .ref k5, .ref k6, .ref k7, .ref k8, .int c9, .ref ka, .ref kb, .int cc, .int cd, .int ce, .int cf, .int cg, .int ch, .int ci, .int cj, .int ck, .ref kl, .int cm, .int cn, .ref ko])), (k0, .inl (cI, 1201, .inl sc0_112))] H := hP
          replace hD : va_D A [(k, .inr (11, [.ref k0, .ref k1, .ref k2, .int c3, .ref k4, .ref k5, .ref k6, .ref k7, .ref k8, .int c9, .ref ka, .ref kb, .int cc, .int cd, .int ce, .int cf, .int cg, .int ch, .int ci, .int cj, .int ck, .ref kl, .int cm, .int cn, .ref ko])), (k0, .inl (cI, 1201, .inl sc0_112))] := hD
          have h_113 := w_111
          try simp only [zl_3] at h_113
          have h_113 : sc0_112 = upd c0 (459 + 9 * a0.toInt.toNat + 3) v_109 := h_113
          have h_113 : sc0_112 = upd c0 (459 + 9 * a0.toInt.toNat + 3) v_109 := h_113
          have hS_114 : SIX sc0_112 (-1) := SIX.p pre0 h_113 rfl (by omega) (by omega) (by decide +kernel) (by omega) (fun z => by omega) (fun z => by omega)
          have n_115 : (sc0_112 0).toInt = (c0 0).toInt := by rw [updN h_113 (by omega)]
          have n_116 : (sc0_112 1).toInt = (c0 1).toInt := by rw [updN h_113 (by omega)]
          have n_117 : (sc0_112 2).toInt = (c0 2).toInt := by rw [updN h_113 (by omega)]
          have n_118 : (pW sc0_112 a0 2).toInt = (pW c0 a0 2).toInt := by rw [pW_upd h_113 (by decide +kernel) (by decide +kernel) (Or.inl (by decide +kernel))]
          refine lv_aload_n hx hb dX11_drinks_146 rfl (lv_at hl 4 rfl) ?_
          refine lv_iload_n hx hb dX11_drinks_147 rfl (lv_at hl 5 rfl) ?_
          refine lv_bipush (v := 6) hx hb dX11_drinks_148 (by decide +kernel) ?_
          refine lv_iload hx hb dX11_drinks_150 (lv_at hl 1 rfl) ?_
          refine b_if_ge hx hb rfl (tgt := 159) dX11_drinks_152 (by decide +kernel) (fun c_119 => by exfalso; omega) (fun c_119 => ?_)
          refine lv_iconst (v := 0) hx hb dX11_drinks_155 (by decide +kernel) ?_
          refine lv_goto (tgt := 161) hx hb dX11_drinks_156 (by decide +kernel) ?_
          refine kJv (wr := []) (va_runV (As := [.int a0, .int 6, .int 0]) (rest := []) ⟨hx, hb, hml, hown, hT⟩ (c_X11_setPartyG6 l D cI aK aV k k0 k1 k2 k4 k5 k6 k7 k8 ka kb kl ko H.size c3 c9 cc cd ce cf cg ch ci cj ck cm cn sc0_112 a0 6 0 (by first | omega | (simp only [zl_0, zl_6]; first | done | omega) | decide | assumption | rfl) (by first | omega | (simp only [zl_0, zl_6]; first | done | omega) | decide | assumption | rfl) (by first | omega | (simp only [zl_0, zl_6]; first | done | omega) | decide | assumption | rfl)) (cwV 3 hT (gV_in mw_1404 mw_1401 mw_1403 mw_p5_3 mw_12) rfl rfl rfl (by decide +kernel) ⟨Nat.le_of_ble_eq_true rfl, Nat.le_of_ble_eq_true rfl⟩) (kRecvX (q0 := 0) (ci := 11) hK hP hD hN hXS hS hA rfl rfl [0, 1] rfl (by decide +kernel)) rfl rfl hl.1 rfl (lv_room (Nat.le_of_ble_eq_true rfl)) dX11_drinks_161 ⟨Nat.le_of_ble_eq_true rfl, Nat.le_of_ble_eq_true rfl⟩) hP hD hS hA [0, 1] [] rfl rfl (by decide +kernel) (by decide +kernel) ?_
          clear hP hD hS
          intro sc0_122 H locs w_121 hP hD hS
          replace hP : va_P D vwCl [(k, .inr (11, [.ref k0, .ref k1, .ref k2, .int c3, .ref k4, .ref k5, .ref k6, .ref k7, .ref k8, .int c9, .ref ka, .ref kb, .int cc, .int cd, .int ce, .int cf, .int cg, .int ch, .int ci, .int cj, .int ck, .ref kl, .int cm, .int cn, .ref ko])), (k0, .inl (cI, 1201, .inl sc0_122))] H := hP
          replace hD : va_D A [(k, .inr (11, [.ref k0, .ref k1, .ref k2, .int c3, .ref k4, .ref k5, .ref k6, .ref k7, .ref k8, .int c9, .ref ka, .ref kb, .int cc, .int cd, .int ce, .int cf, .int cg, .int ch, .int ci, .int cj, .int ck, .ref kl, .int cm, .int cn, .ref ko])), (k0, .inl (cI, 1201, .inl sc0_122))] := hD
          have h_123 := w_121
          try simp only [zl_0, zl_6] at h_123
          have h_123 : sc0_122 = upd sc0_112 (459 + 9 * a0.toInt.toNat + 6) 0 := h_123
          have h_123 : sc0_122 = upd sc0_112 (459 + 9 * a0.toInt.toNat + 6) 0 := h_123
          have hS_124 : SIX sc0_122 (-1) := SIX.p hS_114 h_123 zl_0 (by omega) (by omega) (by decide +kernel) (by omega) (fun z => by omega) (fun z => by omega)
          have n_125 : (sc0_122 0).toInt = (sc0_112 0).toInt := by rw [updN h_123 (by omega)]
          have n_126 : (sc0_122 1).toInt = (sc0_112 1).toInt := by rw [updN h_123 (by omega)]
          have n_127 : (sc0_122 2).toInt = (sc0_112 2).toInt := by rw [updN h_123 (by omega)]
          have n_128 : (pW sc0_122 a0 2).toInt = (pW sc0_112 a0 2).toInt := by rw [pW_upd h_123 (by decide +kernel) (by decide +kernel) (Or.inl (by decide +kernel))]
          exact hRet sc0_122 [0, 1] ⟨(SIX.but hS_124), (by first | omega | decide | assumption | rfl), (by first | omega | decide | assumption | rfl), (by first | omega | decide | assumption | rfl), (ref_db (be := r_103) (x := v_109) (ref_dV (mi := r_4) (me := r_10) (be := r_16) (ha := r_24) (sp := v_30) (wl := r_32) (va := v_31) (vb := v_36) (vc := v_22) (vd := v_23) (ve := v_36) (vf := v_36) (vg := v_57) (vh := v_56) (vl := v_58) h_7 h_13 h_19 h_27 (rd_in ev_30 (by omega)) h_35 (by rw [ev_31]) ev_36 (by rw [ev_22]) ev_23 (by first | exact Or.inl ⟨by omega, rfl⟩ | exact Or.inr ⟨by omega, rfl⟩) (Or.inr ⟨by omega, rfl⟩) (by rw [ev_56, show r_50 = r_16 from h_53.trans h_19.symm]) (by rw [ev_57, show r_44 = r_10 from h_47.trans h_13.symm]) ev_58) (by omega) h_106 (by omega) ev_109 h_113 h_123)⟩ hP hD (by decide +kernel) rfl hS dX11_drinks_164
    · refine lv_aload_n hx hb dX11_drinks_75 rfl (lv_at hl 3 rfl) ?_
      refine lv_iload_n hx hb dX11_drinks_76 rfl (lv_at hl 4 rfl) ?_
      refine lv_bipush (v := 6) hx hb dX11_drinks_77 (by decide +kernel) ?_
      refine kJi (wr := []) (va_runV (As := [.int a0, .int 6]) (rest := []) ⟨hx, hb, hml, hown, hT⟩ (c_X11_partyG6 l D cI aK aV k k0 k1 k2 k4 k5 k6 k7 k8 ka kb kl ko H.size c3 c9 cc cd ce cf cg ch ci cj ck cm cn c0 a0 6 (by first | omega | (simp only [zl_6]; first | done | omega) | decide | assumption | rfl) (by first | omega | (simp only [zl_6]; first | done | omega) | decide | assumption | rfl) (by first | omega | (simp only [zl_6]; first | done | omega) | decide | assumption | rfl)) (cwV 2 hT (gV_in mw_1416 mw_1413 mw_1415 mw_p5_5 mw_12) rfl rfl rfl (by decide +kernel) ⟨Nat.le_of_ble_eq_true rfl, Nat.le_of_ble_eq_true rfl⟩) (kRecvX (q0 := 0) (ci := 11) hK hP hD hN hXS hS hA rfl rfl [0, 1] rfl (by decide +kernel)) rfl rfl hl.1 rfl (lv_room (Nat.le_of_ble_eq_true rfl)) dX11_drinks_79 ⟨Nat.le_of_ble_eq_true rfl, Nat.le_of_ble_eq_true rfl⟩) hP hD hS hA [0, 1] [] rfl rfl (by decide +kernel) (by decide +kernel) ?_
      clear hP hD hS
      intro r_129 u_131 H locs w_130 hP hD hS
      replace hP : va_P D vwCl [(k, .inr (11, [.ref k0, .ref k1, .ref k2, .int c3, .ref k4, .ref k5, .ref k6, .ref k7, .ref k8, .int c9, .ref ka, .ref kb, .int cc, .int cd, .int ce, .int cf, .int cg, .int ch, .int ci, .int cj, .int ck, .ref kl, .int cm, .int cn, .ref ko])), (k0, .inl (cI, 1201, .inl c0))] H := hP
      replace hD : va_D A [(k, .inr (11, [.ref k0, .ref k1, .ref k2, .int c3, .ref k4, .ref k5, .ref k6, .ref k7, .ref k8, .int c9, .ref ka, .ref kb, .int cc, .int cd, .int ce, .int cf, .int cg, .int ch, .int ci, .int cj, .int ck, .ref kl, .int cm, .int cn, .ref ko])), (k0, .inl (cI, 1201, .inl c0))] := hD
      have h_132 := w_130
      have h_132 : r_129 = pW c0 a0 6 := h_132
      have t_133 : r_129.toInt = (pW c0 a0 6).toInt := by rw [h_132]
      have lo_r_129 := k_lo r_129
      have hi_r_129 := k_hi r_129
      refine lv_goto (tgt := 87) hx hb dX11_drinks_82 (by decide +kernel) ?_
      refine lv_istore (lv' := [(4, .int r_129), (3, .int v_23), (2, .int r_4), (0, .ref k), (1, .int a0)]) hx hb dX11_drinks_87 hl (by decide +kernel) rfl ?_
      clear hl
      intro ls hl
      refine lv_iload hx hb dX11_drinks_89 (lv_at hl 0 rfl) ?_
      refine lv_aload_n hx hb dX11_drinks_91 rfl (lv_at hl 3 rfl) ?_
      refine lv_iload_n hx hb dX11_drinks_92 rfl (lv_at hl 4 rfl) ?_
      refine lv_iconst (v := 2) hx hb dX11_drinks_93 (by decide +kernel) ?_
      refine kJi (wr := []) (va_runV (As := [.int a0, .int 2]) (rest := [.int r_129]) ⟨hx, hb, hml, hown, hT⟩ (c_X11_partyG2 l D cI aK aV k k0 k1 k2 k4 k5 k6 k7 k8 ka kb kl ko H.size c3 c9 cc cd ce cf cg ch ci cj ck cm cn c0 a0 2 (by first | omega | (simp only [zl_2]; first | done | omega) | decide | assumption | rfl) (by first | omega | (simp only [zl_2]; first | done | omega) | decide | assumption | rfl) (by first | omega | (simp only [zl_2]; first | done | omega) | decide | assumption | rfl)) (cwV 2 hT (gV_in mw_1416 mw_1413 mw_1415 mw_p5_5 mw_12) rfl rfl rfl (by decide +kernel) ⟨Nat.le_of_ble_eq_true rfl, Nat.le_of_ble_eq_true rfl⟩) (kRecvX (q0 := 0) (ci := 11) hK hP hD hN hXS hS hA rfl rfl [0, 1] rfl (by decide +kernel)) rfl rfl hl.1 rfl (lv_room (Nat.le_of_ble_eq_true rfl)) dX11_drinks_94 ⟨Nat.le_of_ble_eq_true rfl, Nat.le_of_ble_eq_true rfl⟩) hP hD hS hA [0, 1] [] rfl rfl (by decide +kernel) (by decide +kernel) ?_
      clear hP hD hS
      intro r_134 u_136 H locs w_135 hP hD hS
      replace hP : va_P D vwCl [(k, .inr (11, [.ref k0, .ref k1, .ref k2, .int c3, .ref k4, .ref k5, .ref k6, .ref k7, .ref k8, .int c9, .ref ka, .ref kb, .int cc, .int cd, .int ce, .int cf, .int cg, .int ch, .int ci, .int cj, .int ck, .ref kl, .int cm, .int cn, .ref ko])), (k0, .inl (cI, 1201, .inl c0))] H := hP
      replace hD : va_D A [(k, .inr (11, [.ref k0, .ref k1, .ref k2, .int c3, .ref k4, .ref k5, .ref k6, .ref k7, .ref k8, .int c9, .ref ka, .ref kb, .int cc, .int cd, .int ce, .int cf, .int cg, .int ch, .int ci, .int cj, .int ck, .ref kl, .int cm, .int cn, .ref ko])), (k0, .inl (cI, 1201, .inl c0))] := hD
      have h_137 := w_135
      have h_137 : r_134 = pW c0 a0 2 := h_137
      have t_138 : r_134.toInt = (pW c0 a0 2).toInt := by rw [h_137]
      have b_139 : 0 ≤ r_134.toInt ∧ r_134.toInt ≤ 50 := by rw [h_137]; exact SB.p2 (And.left pre0) (by omega) (by omega)
      have lo_r_134 := k_lo r_134
      have hi_r_134 := k_hi r_134
      refine lv_iconst (v := 2) hx hb dX11_drinks_97 (by decide +kernel) ?_
      refine lv_aload_n hx hb dX11_drinks_98 rfl (lv_at hl 3 rfl) ?_
      refine lv_iload_n hx hb dX11_drinks_99 rfl (lv_at hl 4 rfl) ?_
      refine lv_iconst (v := 3) hx hb dX11_drinks_100 (by decide +kernel) ?_
      refine kJi (wr := []) (va_runV (As := [.int a0, .int 3]) (rest := [.int 2, .int r_134, .int r_129]) ⟨hx, hb, hml, hown, hT⟩ (c_X11_partyG3 l D cI aK aV k k0 k1 k2 k4 k5 k6 k7 k8 ka kb kl ko H.size c3 c9 cc cd ce cf cg ch ci cj ck cm cn c0 a0 3 (by first | omega | (simp only [zl_3]; first | done | omega) | decide | assumption | rfl) (by first | omega | (simp only [zl_3]; first | done | omega) | decide | assumption | rfl) (by first | omega | (simp only [zl_3]; first | done | omega) | decide | assumption | rfl)) (cwV 2 hT (gV_in mw_1416 mw_1413 mw_1415 mw_p5_5 mw_12) rfl rfl rfl (by decide +kernel) ⟨Nat.le_of_ble_eq_true rfl, Nat.le_of_ble_eq_true rfl⟩) (kRecvX (q0 := 0) (ci := 11) hK hP hD hN hXS hS hA rfl rfl [0, 1] rfl (by decide +kernel)) rfl rfl hl.1 rfl (lv_room (Nat.le_of_ble_eq_true rfl)) dX11_drinks_101 ⟨Nat.le_of_ble_eq_true rfl, Nat.le_of_ble_eq_true rfl⟩) hP hD hS hA [0, 1] [] rfl rfl (by decide +kernel) (by decide +kernel) ?_
      clear hP hD hS
      intro r_140 u_142 H locs w_141 hP hD hS
      replace hP : va_P D vwCl [(k, .inr (11, [.ref k0, .ref k1, .ref k2, .int c3, .ref k4, .ref k5, .ref k6, .ref k7, .ref k8, .int c9, .ref ka, .ref kb, .int cc, .int cd, .int ce, .int cf, .int cg, .int ch, .int ci, .int cj, .int ck, .ref kl, .int cm, .int cn, .ref ko])), (k0, .inl (cI, 1201, .inl c0))] H := hP
      replace hD : va_D A [(k, .inr (11, [.ref k0, .ref k1, .ref k2, .int c3, .ref k4, .ref k5, .ref k6, .ref k7, .ref k8, .int c9, .ref ka, .ref kb, .int cc, .int cd, .int ce, .int cf, .int cg, .int ch, .int ci, .int cj, .int ck, .ref kl, .int cm, .int cn, .ref ko])), (k0, .inl (cI, 1201, .inl c0))] := hD
      have h_143 := w_141
      have h_143 : r_140 = pW c0 a0 3 := h_143
      have t_144 : r_140.toInt = (pW c0 a0 3).toInt := by rw [h_143]
      have b_145 : 0 ≤ r_140.toInt ∧ r_140.toInt ≤ 50 := by rw [h_143]; exact SB.p3 (And.left pre0) (by omega) (by omega)
      have lo_r_140 := k_lo r_140
      have hi_r_140 := k_hi r_140
      refine lv_imul hx hb dX11_drinks_104 ?_
      refine lv_topi (fun v_146 ev_146 => ?_)
      have tv_146 : v_146.toInt = 2 * r_140.toInt := by rw [ev_146]; exact k_mulv zl_2 rfl (by omega) (by omega)
      refine lv_iadd hx hb dX11_drinks_105 ?_
      refine lv_topi (fun v_147 ev_147 => ?_)
      have tv_147 : v_147.toInt = r_134.toInt + v_146.toInt := by rw [ev_147]; exact k_addv rfl rfl (by omega) (by omega)
      refine lv_isub hx hb dX11_drinks_106 ?_
      refine lv_topi (fun v_148 ev_148 => ?_)
      have lo_v_148 := k_lo v_148
      have hi_v_148 := k_hi v_148
      refine lv_istore (lv' := [(4, .int v_148), (3, .int v_23), (2, .int r_4), (0, .ref k), (1, .int a0)]) hx hb dX11_drinks_107 hl (by decide +kernel) rfl ?_
      clear hl
      intro ls hl
      refine lv_iload hx hb dX11_drinks_109 (lv_at hl 0 rfl) ?_
      refine b_if_ge hx hb rfl (tgt := 146) dX11_drinks_111 (by decide +kernel) (fun c_149 => ?_) (fun c_149 => ?_)
      · refine lv_aload_n hx hb dX11_drinks_146 rfl (lv_at hl 3 rfl) ?_
        refine lv_iload_n hx hb dX11_drinks_147 rfl (lv_at hl 4 rfl) ?_
        refine lv_bipush (v := 6) hx hb dX11_drinks_148 (by decide +kernel) ?_
        refine lv_iload hx hb dX11_drinks_150 (lv_at hl 0 rfl) ?_
        refine b_if_ge hx hb rfl (tgt := 159) dX11_drinks_152 (by decide +kernel) (fun c_150 => ?_) (fun c_150 => by exfalso; omega)
        refine lv_iload hx hb dX11_drinks_159 (lv_at hl 0 rfl) ?_
        refine kJv (wr := []) (va_runV (As := [.int a0, .int 6, .int v_148]) (rest := []) ⟨hx, hb, hml, hown, hT⟩ (c_X11_setPartyG6 l D cI aK aV k k0 k1 k2 k4 k5 k6 k7 k8 ka kb kl ko H.size c3 c9 cc cd ce cf cg ch ci cj ck cm cn c0 a0 6 v_148 (by first | omega | (simp only [zl_6]; first | done | omega) | decide | assumption | rfl) (by first | omega | (simp only [zl_6]; first | done | omega) | decide | assumption | rfl) (by first | omega | (simp only [zl_6]; first | done | omega) | decide | assumption | rfl)) (cwV 3 hT (gV_in mw_1404 mw_1401 mw_1403 mw_p5_3 mw_12) rfl rfl rfl (by decide +kernel) ⟨Nat.le_of_ble_eq_true rfl, Nat.le_of_ble_eq_true rfl⟩) (kRecvX (q0 := 0) (ci := 11) hK hP hD hN hXS hS hA rfl rfl [0, 1] rfl (by decide +kernel)) rfl rfl hl.1 rfl (lv_room (Nat.le_of_ble_eq_true rfl)) dX11_drinks_161 ⟨Nat.le_of_ble_eq_true rfl, Nat.le_of_ble_eq_true rfl⟩) hP hD hS hA [0, 1] [] rfl rfl (by decide +kernel) (by decide +kernel) ?_
        clear hP hD hS
        intro sc0_153 H locs w_152 hP hD hS
        replace hP : va_P D vwCl [(k, .inr (11, [.ref k0, .ref k1, .ref k2, .int c3, .ref k4, .ref k5, .ref k6, .ref k7, .ref k8, .int c9, .ref ka, .ref kb, .int cc, .int cd, .int ce, .int cf, .int cg, .int ch, .int ci, .int cj, .int ck, .ref kl, .int cm, .int cn, .ref ko])), (k0, .inl (cI, 1201, .inl sc0_153))] H := hP
        replace hD : va_D A [(k, .inr (11, [.ref k0, .ref k1, .ref k2, .int c3, .ref k4, .ref k5, .ref k6, .ref k7, .ref k8, .int c9, .ref ka, .ref kb, .int cc, .int cd, .int ce, .int cf, .int cg, .int ch, .int ci, .int cj, .int ck, .ref kl, .int cm, .int cn, .ref ko])), (k0, .inl (cI, 1201, .inl sc0_153))] := hD
        have h_154 := w_152
        try simp only [zl_6] at h_154
        have h_154 : sc0_153 = upd c0 (459 + 9 * a0.toInt.toNat + 6) v_148 := h_154
        have h_154 : sc0_153 = upd c0 (459 + 9 * a0.toInt.toNat + 6) v_148 := h_154
        have hS_155 : SIX sc0_153 (-1) := SIX.p pre0 h_154 rfl (by omega) (by omega) (by decide +kernel) (by omega) (fun z => by omega) (fun z => by omega)
        have n_156 : (sc0_153 0).toInt = (c0 0).toInt := by rw [updN h_154 (by omega)]
        have n_157 : (sc0_153 1).toInt = (c0 1).toInt := by rw [updN h_154 (by omega)]
        have n_158 : (sc0_153 2).toInt = (c0 2).toInt := by rw [updN h_154 (by omega)]
        have n_159 : (pW sc0_153 a0 2).toInt = (pW c0 a0 2).toInt := by rw [pW_upd h_154 (by decide +kernel) (by decide +kernel) (Or.inl (by decide +kernel))]
        exact hRet sc0_153 [0, 1] ⟨(SIX.but hS_155), (by first | omega | decide | assumption | rfl), (by first | omega | decide | assumption | rfl), (by first | omega | decide | assumption | rfl), (ref_dy (ref_dV (mi := r_4) (me := r_10) (be := r_16) (ha := r_24) (sp := v_30) (wl := r_32) (va := v_31) (vb := v_36) (vc := v_22) (vd := v_23) (ve := v_36) (vf := r_129) (vg := v_147) (vh := v_146) (vl := v_148) h_7 h_13 h_19 h_27 (rd_in ev_30 (by omega)) h_35 (by rw [ev_31]) ev_36 (by rw [ev_22]) ev_23 (by first | exact Or.inl ⟨by omega, rfl⟩ | exact Or.inr ⟨by omega, rfl⟩) (Or.inl ⟨by omega, h_132.trans h_27.symm⟩) (by rw [ev_146, show r_140 = r_16 from h_143.trans h_19.symm]) (by rw [ev_147, show r_134 = r_10 from h_137.trans h_13.symm]) ev_148) (by omega) h_154)⟩ hP hD (by decide +kernel) rfl hS dX11_drinks_164
      · refine lv_aload_n hx hb dX11_drinks_114 rfl (lv_at hl 3 rfl) ?_
        refine lv_iload_n hx hb dX11_drinks_115 rfl (lv_at hl 4 rfl) ?_
        refine lv_iconst (v := 3) hx hb dX11_drinks_116 (by decide +kernel) ?_
        refine kJi (wr := []) (va_runV (As := [.int a0, .int 3]) (rest := []) ⟨hx, hb, hml, hown, hT⟩ (c_X11_partyG3 l D cI aK aV k k0 k1 k2 k4 k5 k6 k7 k8 ka kb kl ko H.size c3 c9 cc cd ce cf cg ch ci cj ck cm cn c0 a0 3 (by first | omega | (simp only [zl_3]; first | done | omega) | decide | assumption | rfl) (by first | omega | (simp only [zl_3]; first | done | omega) | decide | assumption | rfl) (by first | omega | (simp only [zl_3]; first | done | omega) | decide | assumption | rfl)) (cwV 2 hT (gV_in mw_1416 mw_1413 mw_1415 mw_p5_5 mw_12) rfl rfl rfl (by decide +kernel) ⟨Nat.le_of_ble_eq_true rfl, Nat.le_of_ble_eq_true rfl⟩) (kRecvX (q0 := 0) (ci := 11) hK hP hD hN hXS hS hA rfl rfl [0, 1] rfl (by decide +kernel)) rfl rfl hl.1 rfl (lv_room (Nat.le_of_ble_eq_true rfl)) dX11_drinks_117 ⟨Nat.le_of_ble_eq_true rfl, Nat.le_of_ble_eq_true rfl⟩) hP hD hS hA [0, 1] [] rfl rfl (by decide +kernel) (by decide +kernel) ?_
        clear hP hD hS
        intro r_160 u_162 H locs w_161 hP hD hS
        replace hP : va_P D vwCl [(k, .inr (11, [.ref k0, .ref k1, .ref k2, .int c3, .ref k4, .ref k5, .ref k6, .ref k7, .ref k8, .int c9, .ref ka, .ref kb, .int cc, .int cd, .int ce, .int cf, .int cg, .int ch, .int ci, .int cj, .int ck, .ref kl, .int cm, .int cn, .ref ko])), (k0, .inl (cI, 1201, .inl c0))] H := hP
        replace hD : va_D A [(k, .inr (11, [.ref k0, .ref k1, .ref k2, .int c3, .ref k4, .ref k5, .ref k6, .ref k7, .ref k8, .int c9, .ref ka, .ref kb, .int cc, .int cd, .int ce, .int cf, .int cg, .int ch, .int ci, .int cj, .int ck, .ref kl, .int cm, .int cn, .ref ko])), (k0, .inl (cI, 1201, .inl c0))] := hD
        have h_163 := w_161
        have h_163 : r_160 = pW c0 a0 3 := h_163
        have t_164 : r_160.toInt = (pW c0 a0 3).toInt := by rw [h_163]
        have b_165 : 0 ≤ r_160.toInt ∧ r_160.toInt ≤ 50 := by rw [h_163]; exact SB.p3 (And.left pre0) (by omega) (by omega)
        have lo_r_160 := k_lo r_160
        have hi_r_160 := k_hi r_160
        refine b_if_le hx hb rfl (tgt := 127) dX11_drinks_120 (by decide +kernel) (fun c_166 => ?_) (fun c_166 => ?_)
        · refine lv_iconst (v := 2) hx hb dX11_drinks_127 (by decide +kernel) ?_
          refine lv_istore (lv' := [(5, .int 2), (4, .int v_148), (3, .int v_23), (2, .int r_4), (0, .ref k), (1, .int a0)]) hx hb dX11_drinks_128 hl (by decide +kernel) rfl ?_
          clear hl
          intro ls hl
          refine lv_aload_n hx hb dX11_drinks_130 rfl (lv_at hl 4 rfl) ?_
          refine lv_iload_n hx hb dX11_drinks_131 rfl (lv_at hl 5 rfl) ?_
          refine lv_iload hx hb dX11_drinks_132 (lv_at hl 0 rfl) ?_
          refine lv_aload_n hx hb dX11_drinks_134 rfl (lv_at hl 4 rfl) ?_
          refine lv_iload_n hx hb dX11_drinks_135 rfl (lv_at hl 5 rfl) ?_
          refine lv_iload hx hb dX11_drinks_136 (lv_at hl 0 rfl) ?_
          refine kJi (wr := []) (va_runV (As := [.int a0, .int 2]) (rest := [.int 2, .int a0, .ref k]) ⟨hx, hb, hml, hown, hT⟩ (c_X11_partyG2 l D cI aK aV k k0 k1 k2 k4 k5 k6 k7 k8 ka kb kl ko H.size c3 c9 cc cd ce cf cg ch ci cj ck cm cn c0 a0 2 (by first | omega | (simp only [zl_2]; first | done | omega) | decide | assumption | rfl) (by first | omega | (simp only [zl_2]; first | done | omega) | decide | assumption | rfl) (by first | omega | (simp only [zl_2]; first | done | omega) | decide | assumption | rfl)) (cwV 2 hT (gV_in mw_1416 mw_1413 mw_1415 mw_p5_5 mw_12) rfl rfl rfl (by decide +kernel) ⟨Nat.le_of_ble_eq_true rfl, Nat.le_of_ble_eq_true rfl⟩) (kRecvX (q0 := 0) (ci := 11) hK hP hD hN hXS hS hA rfl rfl [0, 1] rfl (by decide +kernel)) rfl rfl hl.1 rfl (lv_room (Nat.le_of_ble_eq_true rfl)) dX11_drinks_138 ⟨Nat.le_of_ble_eq_true rfl, Nat.le_of_ble_eq_true rfl⟩) hP hD hS hA [0, 1] [] rfl rfl (by decide +kernel) (by decide +kernel) ?_
          clear hP hD hS
          intro r_167 u_169 H locs w_168 hP hD hS
          replace hP : va_P D vwCl [(k, .inr (11, [.ref k0, .ref k1, .ref k2, .int c3, .ref k4, .ref k5, .ref k6, .ref k7, .ref k8, .int c9, .ref ka, .ref kb, .int cc, .int cd, .int ce, .int cf, .int cg, .int ch, .int ci, .int cj, .int ck, .ref kl, .int cm, .int cn, .ref ko])), (k0, .inl (cI, 1201, .inl c0))] H := hP
          replace hD : va_D A [(k, .inr (11, [.ref k0, .ref k1, .ref k2, .int c3, .ref k4, .ref k5, .ref k6, .ref k7, .ref k8, .int c9, .ref ka, .ref kb, .int cc, .int cd, .int ce, .int cf, .int cg, .int ch, .int ci, .int cj, .int ck, .ref kl, .int cm, .int cn, .ref ko])), (k0, .inl (cI, 1201, .inl c0))] := hD
          have h_170 := w_168
          have h_170 : r_167 = pW c0 a0 2 := h_170
          have t_171 : r_167.toInt = (pW c0 a0 2).toInt := by rw [h_170]
          have b_172 : 0 ≤ r_167.toInt ∧ r_167.toInt ≤ 50 := by rw [h_170]; exact SB.p2 (And.left pre0) (by omega) (by omega)
          have lo_r_167 := k_lo r_167
          have hi_r_167 := k_hi r_167
          refine lv_iconst (v := 1) hx hb dX11_drinks_141 (by decide +kernel) ?_
          refine lv_isub hx hb dX11_drinks_142 ?_
          refine lv_topi (fun v_173 ev_173 => ?_)
          have tv_173 : v_173.toInt = r_167.toInt - 1 := by rw [ev_173]; exact k_subv rfl zl_1 (by omega) (by omega)
          refine kJv (wr := []) (va_runV (As := [.int a0, .int 2, .int v_173]) (rest := []) ⟨hx, hb, hml, hown, hT⟩ (c_X11_setPartyG2 l D cI aK aV k k0 k1 k2 k4 k5 k6 k7 k8 ka kb kl ko H.size c3 c9 cc cd ce cf cg ch ci cj ck cm cn c0 a0 2 v_173 (by first | omega | (simp only [zl_2]; first | done | omega) | decide | assumption | rfl) (by first | omega | (simp only [zl_2]; first | done | omega) | decide | assumption | rfl) (by first | omega | (simp only [zl_2]; first | done | omega) | decide | assumption | rfl)) (cwV 3 hT (gV_in mw_1404 mw_1401 mw_1403 mw_p5_3 mw_12) rfl rfl rfl (by decide +kernel) ⟨Nat.le_of_ble_eq_true rfl, Nat.le_of_ble_eq_true rfl⟩) (kRecvX (q0 := 0) (ci := 11) hK hP hD hN hXS hS hA rfl rfl [0, 1] rfl (by decide +kernel)) rfl rfl hl.1 rfl (lv_room (Nat.le_of_ble_eq_true rfl)) dX11_drinks_143 ⟨Nat.le_of_ble_eq_true rfl, Nat.le_of_ble_eq_true rfl⟩) hP hD hS hA [0, 1] [] rfl rfl (by decide +kernel) (by decide +kernel) ?_
          clear hP hD hS
          intro sc0_176 H locs w_175 hP hD hS
          replace hP : va_P D vwCl [(k, .inr (11, [.ref k0, .ref k1, .ref k2, .int c3, .ref k4, .ref k5, .ref k6, .ref k7, .ref k8, .int c9, .ref ka, .ref kb, .int cc, .int cd, .int ce, .int cf, .int cg, .int ch, .int ci, .int cj, .int ck, .ref kl, .int cm, .int cn, .ref ko])), (k0, .inl (cI, 1201, .inl sc0_176))] H := hP
          replace hD : va_D A [(k, .inr (11, [.ref k0, .ref k1, .ref k2, .int c3, .ref k4, .ref k5, .ref k6, .ref k7, .ref k8, .int c9, .ref ka, .ref kb, .int cc, .int cd, .int ce, .int cf, .int cg, .int ch, .int ci, .int cj, .int ck, .ref kl, .int cm, .int cn, .ref ko])), (k0, .inl (cI, 1201, .inl sc0_176))] := hD
          have h_177 := w_175
          try simp only [zl_2] at h_177
          have h_177 : sc0_176 = upd c0 (459 + 9 * a0.toInt.toNat + 2) v_173 := h_177
          have h_177 : sc0_176 = upd c0 (459 + 9 * a0.toInt.toNat + 2) v_173 := h_177
          have hS_178 : SIX sc0_176 a0.toInt := SIX.p (SIX.but pre0) h_177 rfl (by omega) (by omega) (by decide +kernel) (by omega) (fun _ => Or.inr rfl) (fun z => by omega)
          have n_179 : (sc0_176 0).toInt = (c0 0).toInt := by rw [updN h_177 (by omega)]
          have n_180 : (sc0_176 1).toInt = (c0 1).toInt := by rw [updN h_177 (by omega)]
          have n_181 : (sc0_176 2).toInt = (c0 2).toInt := by rw [updN h_177 (by omega)]
          refine lv_aload_n hx hb dX11_drinks_146 rfl (lv_at hl 4 rfl) ?_
          refine lv_iload_n hx hb dX11_drinks_147 rfl (lv_at hl 5 rfl) ?_
          refine lv_bipush (v := 6) hx hb dX11_drinks_148 (by decide +kernel) ?_
          refine lv_iload hx hb dX11_drinks_150 (lv_at hl 1 rfl) ?_
          refine b_if_ge hx hb rfl (tgt := 159) dX11_drinks_152 (by decide +kernel) (fun c_183 => by exfalso; omega) (fun c_183 => ?_)
          refine lv_iconst (v := 0) hx hb dX11_drinks_155 (by decide +kernel) ?_
          refine lv_goto (tgt := 161) hx hb dX11_drinks_156 (by decide +kernel) ?_
          refine kJv (wr := []) (va_runV (As := [.int a0, .int 6, .int 0]) (rest := []) ⟨hx, hb, hml, hown, hT⟩ (c_X11_setPartyG6 l D cI aK aV k k0 k1 k2 k4 k5 k6 k7 k8 ka kb kl ko H.size c3 c9 cc cd ce cf cg ch ci cj ck cm cn sc0_176 a0 6 0 (by first | omega | (simp only [zl_0, zl_6]; first | done | omega) | decide | assumption | rfl) (by first | omega | (simp only [zl_0, zl_6]; first | done | omega) | decide | assumption | rfl) (by first | omega | (simp only [zl_0, zl_6]; first | done | omega) | decide | assumption | rfl)) (cwV 3 hT (gV_in mw_1404 mw_1401 mw_1403 mw_p5_3 mw_12) rfl rfl rfl (by decide +kernel) ⟨Nat.le_of_ble_eq_true rfl, Nat.le_of_ble_eq_true rfl⟩) (kRecvX (q0 := 0) (ci := 11) hK hP hD hN hXS hS hA rfl rfl [0, 1] rfl (by decide +kernel)) rfl rfl hl.1 rfl (lv_room (Nat.le_of_ble_eq_true rfl)) dX11_drinks_161 ⟨Nat.le_of_ble_eq_true rfl, Nat.le_of_ble_eq_true rfl⟩) hP hD hS hA [0, 1] [] rfl rfl (by decide +kernel) (by decide +kernel) ?_
          clear hP hD hS
          intro sc0_186 H locs w_185 hP hD hS
          replace hP : va_P D vwCl [(k, .inr (11, [.ref k0, .ref k1, .ref k2, .int c3, .ref k4, .ref k5, .ref k6, .ref k7, .ref k8, .int c9, .ref ka, .ref kb, .int cc, .int cd, .int ce, .int cf, .int cg, .int ch, .int ci, .int cj, .int ck, .ref kl, .int cm, .int cn, .ref ko])), (k0, .inl (cI, 1201, .inl sc0_186))] H := hP
          replace hD : va_D A [(k, .inr (11, [.ref k0, .ref k1, .ref k2, .int c3, .ref k4, .ref k5, .ref k6, .ref k7, .ref k8, .int c9, .ref ka, .ref kb, .int cc, .int cd, .int ce, .int cf, .int cg, .int ch, .int ci, .int cj, .int ck, .ref kl, .int cm, .int cn, .ref ko])), (k0, .inl (cI, 1201, .inl sc0_186))] := hD
          have h_187 := w_185
          try simp only [zl_0, zl_6] at h_187
          have h_187 : sc0_186 = upd sc0_176 (459 + 9 * a0.toInt.toNat + 6) 0 := h_187
          have h_187 : sc0_186 = upd sc0_176 (459 + 9 * a0.toInt.toNat + 6) 0 := h_187
          have hS_188 : SIX sc0_186 a0.toInt := SIX.p hS_178 h_187 zl_0 (by omega) (by omega) (by decide +kernel) (by omega) (fun z => by omega) (fun z => by omega)
          have n_189 : (sc0_186 0).toInt = (sc0_176 0).toInt := by rw [updN h_187 (by omega)]
          have n_190 : (sc0_186 1).toInt = (sc0_176 1).toInt := by rw [updN h_187 (by omega)]
          have n_191 : (sc0_186 2).toInt = (sc0_176 2).toInt := by rw [updN h_187 (by omega)]
          have n_192 : (pW sc0_186 a0 2).toInt = (pW sc0_176 a0 2).toInt := by rw [pW_upd h_187 (by decide +kernel) (by decide +kernel) (Or.inl (by decide +kernel))]
          exact hRet sc0_186 [0, 1] ⟨hS_188, (by first | omega | decide | assumption | rfl), (by first | omega | decide | assumption | rfl), (by first | omega | decide | assumption | rfl), (ref_dm (be := r_160) (me := r_167) (x := v_173) (ref_dV (mi := r_4) (me := r_10) (be := r_16) (ha := r_24) (sp := v_30) (wl := r_32) (va := v_31) (vb := v_36) (vc := v_22) (vd := v_23) (ve := v_36) (vf := r_129) (vg := v_147) (vh := v_146) (vl := v_148) h_7 h_13 h_19 h_27 (rd_in ev_30 (by omega)) h_35 (by rw [ev_31]) ev_36 (by rw [ev_22]) ev_23 (by first | exact Or.inl ⟨by omega, rfl⟩ | exact Or.inr ⟨by omega, rfl⟩) (Or.inl ⟨by omega, h_132.trans h_27.symm⟩) (by rw [ev_146, show r_140 = r_16 from h_143.trans h_19.symm]) (by rw [ev_147, show r_134 = r_10 from h_137.trans h_13.symm]) ev_148) (by omega) h_163 (by omega) h_170 ev_173 h_177 h_187)⟩ hP hD (by decide +kernel) rfl hS dX11_drinks_164
        · refine lv_iconst (v := 3) hx hb dX11_drinks_123 (by decide +kernel) ?_
          refine lv_goto (tgt := 128) hx hb dX11_drinks_124 (by decide +kernel) ?_
          refine lv_istore (lv' := [(5, .int 3), (4, .int v_148), (3, .int v_23), (2, .int r_4), (0, .ref k), (1, .int a0)]) hx hb dX11_drinks_128 hl (by decide +kernel) rfl ?_
          clear hl
          intro ls hl
          refine lv_aload_n hx hb dX11_drinks_130 rfl (lv_at hl 4 rfl) ?_
          refine lv_iload_n hx hb dX11_drinks_131 rfl (lv_at hl 5 rfl) ?_
          refine lv_iload hx hb dX11_drinks_132 (lv_at hl 0 rfl) ?_
          refine lv_aload_n hx hb dX11_drinks_134 rfl (lv_at hl 4 rfl) ?_
          refine lv_iload_n hx hb dX11_drinks_135 rfl (lv_at hl 5 rfl) ?_
          refine lv_iload hx hb dX11_drinks_136 (lv_at hl 0 rfl) ?_
          refine kJi (wr := []) (va_runV (As := [.int a0, .int 3]) (rest := [.int 3, .int a0, .ref k]) ⟨hx, hb, hml, hown, hT⟩ (c_X11_partyG3 l D cI aK aV k k0 k1 k2 k4 k5 k6 k7 k8 ka kb kl ko H.size c3 c9 cc cd ce cf cg ch ci cj ck cm cn c0 a0 3 (by first | omega | (simp only [zl_3]; first | done | omega) | decide | assumption | rfl) (by first | omega | (simp only [zl_3]; first | done | omega) | decide | assumption | rfl) (by first | omega | (simp only [zl_3]; first | done | omega) | decide | assumption | rfl)) (cwV 2 hT (gV_in mw_1416 mw_1413 mw_1415 mw_p5_5 mw_12) rfl rfl rfl (by decide +kernel) ⟨Nat.le_of_ble_eq_true rfl, Nat.le_of_ble_eq_true rfl⟩) (kRecvX (q0 := 0) (ci := 11) hK hP hD hN hXS hS hA rfl rfl [0, 1] rfl (by decide +kernel)) rfl rfl hl.1 rfl (lv_room (Nat.le_of_ble_eq_true rfl)) dX11_drinks_138 ⟨Nat.le_of_ble_eq_true rfl, Nat.le_of_ble_eq_true rfl⟩) hP hD hS hA [0, 1] [] rfl rfl (by decide +kernel) (by decide +kernel) ?_
          clear hP hD hS
          intro r_193 u_195 H locs w_194 hP hD hS
          replace hP : va_P D vwCl [(k, .inr (11, [.ref k0, .ref k1, .ref k2, .int c3, .ref k4, .ref k5, .ref k6, .ref k7, .ref k8, .int c9, .ref ka, .ref kb, .int cc, .int cd, .int ce, .int cf, .int cg, .int ch, .int ci, .int cj, .int ck, .ref kl, .int cm, .int cn, .ref ko])), (k0, .inl (cI, 1201, .inl c0))] H := hP
          replace hD : va_D A [(k, .inr (11, [.ref k0, .ref k1, .ref k2, .int c3, .ref k4, .ref k5, .ref k6, .ref k7, .ref k8, .int c9, .ref ka, .ref kb, .int cc, .int cd, .int ce, .int cf, .int cg, .int ch, .int ci, .int cj, .int ck, .ref kl, .int cm, .int cn, .ref ko])), (k0, .inl (cI, 1201, .inl c0))] := hD
          have h_196 := w_194
          have h_196 : r_193 = pW c0 a0 3 := h_196
          have t_197 : r_193.toInt = (pW c0 a0 3).toInt := by rw [h_196]
          have b_198 : 0 ≤ r_193.toInt ∧ r_193.toInt ≤ 50 := by rw [h_196]; exact SB.p3 (And.left pre0) (by omega) (by omega)
          have lo_r_193 := k_lo r_193
          have hi_r_193 := k_hi r_193
          refine lv_iconst (v := 1) hx hb dX11_drinks_141 (by decide +kernel) ?_
          refine lv_isub hx hb dX11_drinks_142 ?_
          refine lv_topi (fun v_199 ev_199 => ?_)
          have tv_199 : v_199.toInt = r_193.toInt - 1 := by rw [ev_199]; exact k_subv rfl zl_1 (by omega) (by omega)
          refine kJv (wr := []) (va_runV (As := [.int a0, .int 3, .int v_199]) (rest := []) ⟨hx, hb, hml, hown, hT⟩ (c_X11_setPartyG3 l D cI aK aV k k0 k1 k2 k4 k5 k6 k7 k8 ka kb kl ko H.size c3 c9 cc cd ce cf cg ch ci cj ck cm cn c0 a0 3 v_199 (by first | omega | (simp only [zl_3]; first | done | omega) | decide | assumption | rfl) (by first | omega | (simp only [zl_3]; first | done | omega) | decide | assumption | rfl) (by first | omega | (simp only [zl_3]; first | done | omega) | decide | assumption | rfl)) (cwV 3 hT (gV_in mw_1404 mw_1401 mw_1403 mw_p5_3 mw_12) rfl rfl rfl (by decide +kernel) ⟨Nat.le_of_ble_eq_true rfl, Nat.le_of_ble_eq_true rfl⟩) (kRecvX (q0 := 0) (ci := 11) hK hP hD hN hXS hS hA rfl rfl [0, 1] rfl (by decide +kernel)) rfl rfl hl.1 rfl (lv_room (Nat.le_of_ble_eq_true rfl)) dX11_drinks_143 ⟨Nat.le_of_ble_eq_true rfl, Nat.le_of_ble_eq_true rfl⟩) hP hD hS hA [0, 1] [] rfl rfl (by decide +kernel) (by decide +kernel) ?_
          clear hP hD hS
          intro sc0_202 H locs w_201 hP hD hS
          replace hP : va_P D vwCl [(k, .inr (11, [.ref k0, .ref k1, .ref k2, .int c3, .ref k4, .ref k5, .ref k6, .ref k7, .ref k8, .int c9, .ref ka, .ref kb, .int cc, .int cd, .int ce, .int cf, .int cg, .int ch, .int ci, .int cj, .int ck, .ref kl, .int cm, .int cn, .ref ko])), (k0, .inl (cI, 1201, .inl sc0_202))] H := hP
          replace hD : va_D A [(k, .inr (11, [.ref k0, .ref k1, .ref k2, .int c3, .ref k4, .ref k5, .ref k6, .ref k7, .ref k8, .int c9, .ref ka, .ref kb, .int cc, .int cd, .int ce, .int cf, .int cg, .int ch, .int ci, .int cj, .int ck, .ref kl, .int cm, .int cn, .ref ko])), (k0, .inl (cI, 1201, .inl sc0_202))] := hD
          have h_203 := w_201
          try simp only [zl_3] at h_203
          have h_203 : sc0_202 = upd c0 (459 + 9 * a0.toInt.toNat + 3) v_199 := h_203
          have h_203 : sc0_202 = upd c0 (459 + 9 * a0.toInt.toNat + 3) v_199 := h_203
          have hS_204 : SIX sc0_202 (-1) := SIX.p pre0 h_203 rfl (by omega) (by omega) (by decide +kernel) (by omega) (fun z => by omega) (fun z => by omega)
          have n_205 : (sc0_202 0).toInt = (c0 0).toInt := by rw [updN h_203 (by omega)]
          have n_206 : (sc0_202 1).toInt = (c0 1).toInt := by rw [updN h_203 (by omega)]
          have n_207 : (sc0_202 2).toInt = (c0 2).toInt := by rw [updN h_203 (by omega)]
          have n_208 : (pW sc0_202 a0 2).toInt = (pW c0 a0 2).toInt := by rw [pW_upd h_203 (by decide +kernel) (by decide +kernel) (Or.inl (by decide +kernel))]
          refine lv_aload_n hx hb dX11_drinks_146 rfl (lv_at hl 4 rfl) ?_
          refine lv_iload_n hx hb dX11_drinks_147 rfl (lv_at hl 5 rfl) ?_
          refine lv_bipush (v := 6) hx hb dX11_drinks_148 (by decide +kernel) ?_
          refine lv_iload hx hb dX11_drinks_150 (lv_at hl 1 rfl) ?_
          refine b_if_ge hx hb rfl (tgt := 159) dX11_drinks_152 (by decide +kernel) (fun c_209 => by exfalso; omega) (fun c_209 => ?_)
          refine lv_iconst (v := 0) hx hb dX11_drinks_155 (by decide +kernel) ?_
          refine lv_goto (tgt := 161) hx hb dX11_drinks_156 (by decide +kernel) ?_
          refine kJv (wr := []) (va_runV (As := [.int a0, .int 6, .int 0]) (rest := []) ⟨hx, hb, hml, hown, hT⟩ (c_X11_setPartyG6 l D cI aK aV k k0 k1 k2 k4 k5 k6 k7 k8 ka kb kl ko H.size c3 c9 cc cd ce cf cg ch ci cj ck cm cn sc0_202 a0 6 0 (by first | omega | (simp only [zl_0, zl_6]; first | done | omega) | decide | assumption | rfl) (by first | omega | (simp only [zl_0, zl_6]; first | done | omega) | decide | assumption | rfl) (by first | omega | (simp only [zl_0, zl_6]; first | done | omega) | decide | assumption | rfl)) (cwV 3 hT (gV_in mw_1404 mw_1401 mw_1403 mw_p5_3 mw_12) rfl rfl rfl (by decide +kernel) ⟨Nat.le_of_ble_eq_true rfl, Nat.le_of_ble_eq_true rfl⟩) (kRecvX (q0 := 0) (ci := 11) hK hP hD hN hXS hS hA rfl rfl [0, 1] rfl (by decide +kernel)) rfl rfl hl.1 rfl (lv_room (Nat.le_of_ble_eq_true rfl)) dX11_drinks_161 ⟨Nat.le_of_ble_eq_true rfl, Nat.le_of_ble_eq_true rfl⟩) hP hD hS hA [0, 1] [] rfl rfl (by decide +kernel) (by decide +kernel) ?_
          clear hP hD hS
          intro sc0_212 H locs w_211 hP hD hS
          replace hP : va_P D vwCl [(k, .inr (11, [.ref k0, .ref k1, .ref k2, .int c3, .ref k4, .ref k5, .ref k6, .ref k7, .ref k8, .int c9, .ref ka, .ref kb, .int cc, .int cd, .int ce, .int cf, .int cg, .int ch, .int ci, .int cj, .int ck, .ref kl, .int cm, .int cn, .ref ko])), (k0, .inl (cI, 1201, .inl sc0_212))] H := hP
          replace hD : va_D A [(k, .inr (11, [.ref k0, .ref k1, .ref k2, .int c3, .ref k4, .ref k5, .ref k6, .ref k7, .ref k8, .int c9, .ref ka, .ref kb, .int cc, .int cd, .int ce, .int cf, .int cg, .int ch, .int ci, .int cj, .int ck, .ref kl, .int cm, .int cn, .ref ko])), (k0, .inl (cI, 1201, .inl sc0_212))] := hD
          have h_213 := w_211
          try simp only [zl_0, zl_6] at h_213
          have h_213 : sc0_212 = upd sc0_202 (459 + 9 * a0.toInt.toNat + 6) 0 := h_213
          have h_213 : sc0_212 = upd sc0_202 (459 + 9 * a0.toInt.toNat + 6) 0 := h_213
          have hS_214 : SIX sc0_212 (-1) := SIX.p hS_204 h_213 zl_0 (by omega) (by omega) (by decide +kernel) (by omega) (fun z => by omega) (fun z => by omega)
          have n_215 : (sc0_212 0).toInt = (sc0_202 0).toInt := by rw [updN h_213 (by omega)]
          have n_216 : (sc0_212 1).toInt = (sc0_202 1).toInt := by rw [updN h_213 (by omega)]
          have n_217 : (sc0_212 2).toInt = (sc0_202 2).toInt := by rw [updN h_213 (by omega)]
          have n_218 : (pW sc0_212 a0 2).toInt = (pW sc0_202 a0 2).toInt := by rw [pW_upd h_213 (by decide +kernel) (by decide +kernel) (Or.inl (by decide +kernel))]
          exact hRet sc0_212 [0, 1] ⟨(SIX.but hS_214), (by first | omega | decide | assumption | rfl), (by first | omega | decide | assumption | rfl), (by first | omega | decide | assumption | rfl), (ref_db (be := r_193) (x := v_199) (ref_dV (mi := r_4) (me := r_10) (be := r_16) (ha := r_24) (sp := v_30) (wl := r_32) (va := v_31) (vb := v_36) (vc := v_22) (vd := v_23) (ve := v_36) (vf := r_129) (vg := v_147) (vh := v_146) (vl := v_148) h_7 h_13 h_19 h_27 (rd_in ev_30 (by omega)) h_35 (by rw [ev_31]) ev_36 (by rw [ev_22]) ev_23 (by first | exact Or.inl ⟨by omega, rfl⟩ | exact Or.inr ⟨by omega, rfl⟩) (Or.inl ⟨by omega, h_132.trans h_27.symm⟩) (by rw [ev_146, show r_140 = r_16 from h_143.trans h_19.symm]) (by rw [ev_147, show r_134 = r_10 from h_137.trans h_13.symm]) ev_148) (by omega) h_196 (by omega) ev_199 h_203 h_213)⟩ hP hD (by decide +kernel) rfl hS dX11_drinks_164
  · refine lv_iload_n hx hb dX11_drinks_55 rfl (lv_at hl 1 rfl) ?_
    refine lv_goto (tgt := 61) hx hb dX11_drinks_56 (by decide +kernel) ?_
    refine lv_istore (lv' := [(4, .int v_23), (3, .int v_23), (2, .int r_4), (0, .ref k), (1, .int a0)]) hx hb dX11_drinks_61 hl (by decide +kernel) rfl ?_
    clear hl
    intro ls hl
    refine lv_iload hx hb dX11_drinks_63 (lv_at hl 0 rfl) ?_
    refine lv_aload_n hx hb dX11_drinks_65 rfl (lv_at hl 3 rfl) ?_
    refine lv_iload_n hx hb dX11_drinks_66 rfl (lv_at hl 4 rfl) ?_
    refine lv_bipush (v := 6) hx hb dX11_drinks_67 (by decide +kernel) ?_
    refine kJi (wr := []) (va_runV (As := [.int a0, .int 6]) (rest := [.int v_23]) ⟨hx, hb, hml, hown, hT⟩ (c_X11_partyG6 l D cI aK aV k k0 k1 k2 k4 k5 k6 k7 k8 ka kb kl ko H.size c3 c9 cc cd ce cf cg ch ci cj ck cm cn c0 a0 6 (by first | omega | (simp only [zl_6]; first | done | omega) | decide | assumption | rfl) (by first | omega | (simp only [zl_6]; first | done | omega) | decide | assumption | rfl) (by first | omega | (simp only [zl_6]; first | done | omega) | decide | assumption | rfl)) (cwV 2 hT (gV_in mw_1416 mw_1413 mw_1415 mw_p5_5 mw_12) rfl rfl rfl (by decide +kernel) ⟨Nat.le_of_ble_eq_true rfl, Nat.le_of_ble_eq_true rfl⟩) (kRecvX (q0 := 0) (ci := 11) hK hP hD hN hXS hS hA rfl rfl [0, 1] rfl (by decide +kernel)) rfl rfl hl.1 rfl (lv_room (Nat.le_of_ble_eq_true rfl)) dX11_drinks_69 ⟨Nat.le_of_ble_eq_true rfl, Nat.le_of_ble_eq_true rfl⟩) hP hD hS hA [0, 1] [] rfl rfl (by decide +kernel) (by decide +kernel) ?_
    clear hP hD hS
    intro r_219 u_221 H locs w_220 hP hD hS
    replace hP : va_P D vwCl [(k, .inr (11, [.ref k0, .ref k1, .ref k2, .int c3, .ref k4, .ref k5, .ref k6, .ref k7, .ref k8, .int c9, .ref ka, .ref kb, .int cc, .int cd, .int ce, .int cf, .int cg, .int ch, .int ci, .int cj, .int ck, .ref kl, .int cm, .int cn, .ref ko])), (k0, .inl (cI, 1201, .inl c0))] H := hP
    replace hD : va_D A [(k, .inr (11, [.ref k0, .ref k1, .ref k2, .int c3, .ref k4, .ref k5, .ref k6, .ref k7, .ref k8, .int c9, .ref ka, .ref kb, .int cc, .int cd, .int ce, .int cf, .int cg, .int ch, .int ci, .int cj, .int ck, .ref kl, .int cm, .int cn, .ref ko])), (k0, .inl (cI, 1201, .inl c0))] := hD
    have h_222 := w_220
    have h_222 : r_219 = pW c0 a0 6 := h_222
    have t_223 : r_219.toInt = (pW c0 a0 6).toInt := by rw [h_222]
    have lo_r_219 := k_lo r_219
    have hi_r_219 := k_hi r_219
    refine b_icmp_ge hx hb rfl rfl (tgt := 85) dX11_drinks_72 (by decide +kernel) (fun c_224 => ?_) (fun c_224 => ?_)
    · refine lv_iload hx hb dX11_drinks_85 (lv_at hl 0 rfl) ?_
      refine lv_istore (lv' := [(4, .int v_23), (3, .int v_23), (2, .int r_4), (0, .ref k), (1, .int a0)]) hx hb dX11_drinks_87 hl (by decide +kernel) rfl ?_
      clear hl
      intro ls hl
      refine lv_iload hx hb dX11_drinks_89 (lv_at hl 0 rfl) ?_
      refine lv_aload_n hx hb dX11_drinks_91 rfl (lv_at hl 3 rfl) ?_
      refine lv_iload_n hx hb dX11_drinks_92 rfl (lv_at hl 4 rfl) ?_
      refine lv_iconst (v := 2) hx hb dX11_drinks_93 (by decide +kernel) ?_
      refine kJi (wr := []) (va_runV (As := [.int a0, .int 2]) (rest := [.int v_23]) ⟨hx, hb, hml, hown, hT⟩ (c_X11_partyG2 l D cI aK aV k k0 k1 k2 k4 k5 k6 k7 k8 ka kb kl ko H.size c3 c9 cc cd ce cf cg ch ci cj ck cm cn c0 a0 2 (by first | omega | (simp only [zl_2]; first | done | omega) | decide | assumption | rfl) (by first | omega | (simp only [zl_2]; first | done | omega) | decide | assumption | rfl) (by first | omega | (simp only [zl_2]; first | done | omega) | decide | assumption | rfl)) (cwV 2 hT (gV_in mw_1416 mw_1413 mw_1415 mw_p5_5 mw_12) rfl rfl rfl (by decide +kernel) ⟨Nat.le_of_ble_eq_true rfl, Nat.le_of_ble_eq_true rfl⟩) (kRecvX (q0 := 0) (ci := 11) hK hP hD hN hXS hS hA rfl rfl [0, 1] rfl (by decide +kernel)) rfl rfl hl.1 rfl (lv_room (Nat.le_of_ble_eq_true rfl)) dX11_drinks_94 ⟨Nat.le_of_ble_eq_true rfl, Nat.le_of_ble_eq_true rfl⟩) hP hD hS hA [0, 1] [] rfl rfl (by decide +kernel) (by decide +kernel) ?_
      clear hP hD hS
      intro r_225 u_227 H locs w_226 hP hD hS
      replace hP : va_P D vwCl [(k, .inr (11, [.ref k0, .ref k1, .ref k2, .int c3, .ref k4, .ref k5, .ref k6, .ref k7, .ref k8, .int c9, .ref ka, .ref kb, .int cc, .int cd, .int ce, .int cf, .int cg, .int ch, .int ci, .int cj, .int ck, .ref kl, .int cm, .int cn, .ref ko])), (k0, .inl (cI, 1201, .inl c0))] H := hP
      replace hD : va_D A [(k, .inr (11, [.ref k0, .ref k1, .ref k2, .int c3, .ref k4, .ref k5, .ref k6, .ref k7, .ref k8, .int c9, .ref ka, .ref kb, .int cc, .int cd, .int ce, .int cf, .int cg, .int ch, .int ci, .int cj, .int ck, .ref kl, .int cm, .int cn, .ref ko])), (k0, .inl (cI, 1201, .inl c0))] := hD
      have h_228 := w_226
      have h_228 : r_225 = pW c0 a0 2 := h_228
      have t_229 : r_225.toInt = (pW c0 a0 2).toInt := by rw [h_228]
      have b_230 : 0 ≤ r_225.toInt ∧ r_225.toInt ≤ 50 := by rw [h_228]; exact SB.p2 (And.left pre0) (by omega) (by omega)
      have lo_r_225 := k_lo r_225
      have hi_r_225 := k_hi r_225
      refine lv_iconst (v := 2) hx hb dX11_drinks_97 (by decide +kernel) ?_
      refine lv_aload_n hx hb dX11_drinks_98 rfl (lv_at hl 3 rfl) ?_
      refine lv_iload_n hx hb dX11_drinks_99 rfl (lv_at hl 4 rfl) ?_
      refine lv_iconst (v := 3) hx hb dX11_drinks_100 (by decide +kernel) ?_
      refine kJi (wr := []) (va_runV (As := [.int a0, .int 3]) (rest := [.int 2, .int r_225, .int v_23]) ⟨hx, hb, hml, hown, hT⟩ (c_X11_partyG3 l D cI aK aV k k0 k1 k2 k4 k5 k6 k7 k8 ka kb kl ko H.size c3 c9 cc cd ce cf cg ch ci cj ck cm cn c0 a0 3 (by first | omega | (simp only [zl_3]; first | done | omega) | decide | assumption | rfl) (by first | omega | (simp only [zl_3]; first | done | omega) | decide | assumption | rfl) (by first | omega | (simp only [zl_3]; first | done | omega) | decide | assumption | rfl)) (cwV 2 hT (gV_in mw_1416 mw_1413 mw_1415 mw_p5_5 mw_12) rfl rfl rfl (by decide +kernel) ⟨Nat.le_of_ble_eq_true rfl, Nat.le_of_ble_eq_true rfl⟩) (kRecvX (q0 := 0) (ci := 11) hK hP hD hN hXS hS hA rfl rfl [0, 1] rfl (by decide +kernel)) rfl rfl hl.1 rfl (lv_room (Nat.le_of_ble_eq_true rfl)) dX11_drinks_101 ⟨Nat.le_of_ble_eq_true rfl, Nat.le_of_ble_eq_true rfl⟩) hP hD hS hA [0, 1] [] rfl rfl (by decide +kernel) (by decide +kernel) ?_
      clear hP hD hS
      intro r_231 u_233 H locs w_232 hP hD hS
      replace hP : va_P D vwCl [(k, .inr (11, [.ref k0, .ref k1, .ref k2, .int c3, .ref k4, .ref k5, .ref k6, .ref k7, .ref k8, .int c9, .ref ka, .ref kb, .int cc, .int cd, .int ce, .int cf, .int cg, .int ch, .int ci, .int cj, .int ck, .ref kl, .int cm, .int cn, .ref ko])), (k0, .inl (cI, 1201, .inl c0))] H := hP
      replace hD : va_D A [(k, .inr (11, [.ref k0, .ref k1, .ref k2, .int c3, .ref k4, .ref k5, .ref k6, .ref k7, .ref k8, .int c9, .ref ka, .ref kb, .int cc, .int cd, .int ce, .int cf, .int cg, .int ch, .int ci, .int cj, .int ck, .ref kl, .int cm, .int cn, .ref ko])), (k0, .inl (cI, 1201, .inl c0))] := hD
      have h_234 := w_232
      have h_234 : r_231 = pW c0 a0 3 := h_234
      have t_235 : r_231.toInt = (pW c0 a0 3).toInt := by rw [h_234]
      have b_236 : 0 ≤ r_231.toInt ∧ r_231.toInt ≤ 50 := by rw [h_234]; exact SB.p3 (And.left pre0) (by omega) (by omega)
      have lo_r_231 := k_lo r_231
      have hi_r_231 := k_hi r_231
      refine lv_imul hx hb dX11_drinks_104 ?_
      refine lv_topi (fun v_237 ev_237 => ?_)
      have tv_237 : v_237.toInt = 2 * r_231.toInt := by rw [ev_237]; exact k_mulv zl_2 rfl (by omega) (by omega)
      refine lv_iadd hx hb dX11_drinks_105 ?_
      refine lv_topi (fun v_238 ev_238 => ?_)
      have tv_238 : v_238.toInt = r_225.toInt + v_237.toInt := by rw [ev_238]; exact k_addv rfl rfl (by omega) (by omega)
      refine lv_isub hx hb dX11_drinks_106 ?_
      refine lv_topi (fun v_239 ev_239 => ?_)
      have tv_239 : v_239.toInt = v_23.toInt - v_238.toInt := by rw [ev_239]; exact k_subv rfl rfl (by omega) (by omega)
      refine lv_istore (lv' := [(4, .int v_239), (3, .int v_23), (2, .int r_4), (0, .ref k), (1, .int a0)]) hx hb dX11_drinks_107 hl (by decide +kernel) rfl ?_
      clear hl
      intro ls hl
      refine lv_iload hx hb dX11_drinks_109 (lv_at hl 0 rfl) ?_
      refine b_if_ge hx hb rfl (tgt := 146) dX11_drinks_111 (by decide +kernel) (fun c_240 => ?_) (fun c_240 => by exfalso; omega)
      refine lv_aload_n hx hb dX11_drinks_146 rfl (lv_at hl 3 rfl) ?_
      refine lv_iload_n hx hb dX11_drinks_147 rfl (lv_at hl 4 rfl) ?_
      refine lv_bipush (v := 6) hx hb dX11_drinks_148 (by decide +kernel) ?_
      refine lv_iload hx hb dX11_drinks_150 (lv_at hl 0 rfl) ?_
      refine b_if_ge hx hb rfl (tgt := 159) dX11_drinks_152 (by decide +kernel) (fun c_241 => ?_) (fun c_241 => by exfalso; omega)
      refine lv_iload hx hb dX11_drinks_159 (lv_at hl 0 rfl) ?_
      refine kJv (wr := []) (va_runV (As := [.int a0, .int 6, .int v_239]) (rest := []) ⟨hx, hb, hml, hown, hT⟩ (c_X11_setPartyG6 l D cI aK aV k k0 k1 k2 k4 k5 k6 k7 k8 ka kb kl ko H.size c3 c9 cc cd ce cf cg ch ci cj ck cm cn c0 a0 6 v_239 (by first | omega | (simp only [zl_6]; first | done | omega) | decide | assumption | rfl) (by first | omega | (simp only [zl_6]; first | done | omega) | decide | assumption | rfl) (by first | omega | (simp only [zl_6]; first | done | omega) | decide | assumption | rfl)) (cwV 3 hT (gV_in mw_1404 mw_1401 mw_1403 mw_p5_3 mw_12) rfl rfl rfl (by decide +kernel) ⟨Nat.le_of_ble_eq_true rfl, Nat.le_of_ble_eq_true rfl⟩) (kRecvX (q0 := 0) (ci := 11) hK hP hD hN hXS hS hA rfl rfl [0, 1] rfl (by decide +kernel)) rfl rfl hl.1 rfl (lv_room (Nat.le_of_ble_eq_true rfl)) dX11_drinks_161 ⟨Nat.le_of_ble_eq_true rfl, Nat.le_of_ble_eq_true rfl⟩) hP hD hS hA [0, 1] [] rfl rfl (by decide +kernel) (by decide +kernel) ?_
      clear hP hD hS
      intro sc0_244 H locs w_243 hP hD hS
      replace hP : va_P D vwCl [(k, .inr (11, [.ref k0, .ref k1, .ref k2, .int c3, .ref k4, .ref k5, .ref k6, .ref k7, .ref k8, .int c9, .ref ka, .ref kb, .int cc, .int cd, .int ce, .int cf, .int cg, .int ch, .int ci, .int cj, .int ck, .ref kl, .int cm, .int cn, .ref ko])), (k0, .inl (cI, 1201, .inl sc0_244))] H := hP
      replace hD : va_D A [(k, .inr (11, [.ref k0, .ref k1, .ref k2, .int c3, .ref k4, .ref k5, .ref k6, .ref k7, .ref k8, .int c9, .ref ka, .ref kb, .int cc, .int cd, .int ce, .int cf, .int cg, .int ch, .int ci, .int cj, .int ck, .ref kl, .int cm, .int cn, .ref ko])), (k0, .inl (cI, 1201, .inl sc0_244))] := hD
      have h_245 := w_243
      try simp only [zl_6] at h_245
      have h_245 : sc0_244 = upd c0 (459 + 9 * a0.toInt.toNat + 6) v_239 := h_245
      have h_245 : sc0_244 = upd c0 (459 + 9 * a0.toInt.toNat + 6) v_239 := h_245
      have hS_246 : SIX sc0_244 (-1) := SIX.p pre0 h_245 rfl (by omega) (by omega) (by decide +kernel) (by omega) (fun z => by omega) (fun z => by omega)
      have n_247 : (sc0_244 0).toInt = (c0 0).toInt := by rw [updN h_245 (by omega)]
      have n_248 : (sc0_244 1).toInt = (c0 1).toInt := by rw [updN h_245 (by omega)]
      have n_249 : (sc0_244 2).toInt = (c0 2).toInt := by rw [updN h_245 (by omega)]
      have n_250 : (pW sc0_244 a0 2).toInt = (pW c0 a0 2).toInt := by rw [pW_upd h_245 (by decide +kernel) (by decide +kernel) (Or.inl (by decide +kernel))]
      exact hRet sc0_244 [0, 1] ⟨(SIX.but hS_246), (by first | omega | decide | assumption | rfl), (by first | omega | decide | assumption | rfl), (by first | omega | decide | assumption | rfl), (ref_dy (ref_dV (mi := r_4) (me := r_10) (be := r_16) (ha := r_24) (sp := v_30) (wl := r_32) (va := v_31) (vb := v_36) (vc := v_22) (vd := v_23) (ve := v_23) (vf := v_23) (vg := v_238) (vh := v_237) (vl := v_239) h_7 h_13 h_19 h_27 (rd_in ev_30 (by omega)) h_35 (by rw [ev_31]) ev_36 (by rw [ev_22]) ev_23 (by first | exact Or.inl ⟨by omega, rfl⟩ | exact Or.inr ⟨by omega, rfl⟩) (Or.inr ⟨by omega, rfl⟩) (by rw [ev_237, show r_231 = r_16 from h_234.trans h_19.symm]) (by rw [ev_238, show r_225 = r_10 from h_228.trans h_13.symm]) ev_239) (by omega) h_245)⟩ hP hD (by decide +kernel) rfl hS dX11_drinks_164
    · refine lv_aload_n hx hb dX11_drinks_75 rfl (lv_at hl 3 rfl) ?_
      refine lv_iload_n hx hb dX11_drinks_76 rfl (lv_at hl 4 rfl) ?_
      refine lv_bipush (v := 6) hx hb dX11_drinks_77 (by decide +kernel) ?_
      refine kJi (wr := []) (va_runV (As := [.int a0, .int 6]) (rest := []) ⟨hx, hb, hml, hown, hT⟩ (c_X11_partyG6 l D cI aK aV k k0 k1 k2 k4 k5 k6 k7 k8 ka kb kl ko H.size c3 c9 cc cd ce cf cg ch ci cj ck cm cn c0 a0 6 (by first | omega | (simp only [zl_6]; first | done | omega) | decide | assumption | rfl) (by first | omega | (simp only [zl_6]; first | done | omega) | decide | assumption | rfl) (by first | omega | (simp only [zl_6]; first | done | omega) | decide | assumption | rfl)) (cwV 2 hT (gV_in mw_1416 mw_1413 mw_1415 mw_p5_5 mw_12) rfl rfl rfl (by decide +kernel) ⟨Nat.le_of_ble_eq_true rfl, Nat.le_of_ble_eq_true rfl⟩) (kRecvX (q0 := 0) (ci := 11) hK hP hD hN hXS hS hA rfl rfl [0, 1] rfl (by decide +kernel)) rfl rfl hl.1 rfl (lv_room (Nat.le_of_ble_eq_true rfl)) dX11_drinks_79 ⟨Nat.le_of_ble_eq_true rfl, Nat.le_of_ble_eq_true rfl⟩) hP hD hS hA [0, 1] [] rfl rfl (by decide +kernel) (by decide +kernel) ?_
      clear hP hD hS
      intro r_251 u_253 H locs w_252 hP hD hS
      replace hP : va_P D vwCl [(k, .inr (11, [.ref k0, .ref k1, .ref k2, .int c3, .ref k4, .ref k5, .ref k6, .ref k7, .ref k8, .int c9, .ref ka, .ref kb, .int cc, .int cd, .int ce, .int cf, .int cg, .int ch, .int ci, .int cj, .int ck, .ref kl, .int cm, .int cn, .ref ko])), (k0, .inl (cI, 1201, .inl c0))] H := hP
      replace hD : va_D A [(k, .inr (11, [.ref k0, .ref k1, .ref k2, .int c3, .ref k4, .ref k5, .ref k6, .ref k7, .ref k8, .int c9, .ref ka, .ref kb, .int cc, .int cd, .int ce, .int cf, .int cg, .int ch, .int ci, .int cj, .int ck, .ref kl, .int cm, .int cn, .ref ko])), (k0, .inl (cI, 1201, .inl c0))] := hD
      have h_254 := w_252
      have h_254 : r_251 = pW c0 a0 6 := h_254
      have t_255 : r_251.toInt = (pW c0 a0 6).toInt := by rw [h_254]
      have lo_r_251 := k_lo r_251
      have hi_r_251 := k_hi r_251
      refine lv_goto (tgt := 87) hx hb dX11_drinks_82 (by decide +kernel) ?_
      refine lv_istore (lv' := [(4, .int r_251), (3, .int v_23), (2, .int r_4), (0, .ref k), (1, .int a0)]) hx hb dX11_drinks_87 hl (by decide +kernel) rfl ?_
      clear hl
      intro ls hl
      refine lv_iload hx hb dX11_drinks_89 (lv_at hl 0 rfl) ?_
      refine lv_aload_n hx hb dX11_drinks_91 rfl (lv_at hl 3 rfl) ?_
      refine lv_iload_n hx hb dX11_drinks_92 rfl (lv_at hl 4 rfl) ?_
      refine lv_iconst (v := 2) hx hb dX11_drinks_93 (by decide +kernel) ?_
      refine kJi (wr := []) (va_runV (As := [.int a0, .int 2]) (rest := [.int r_251]) ⟨hx, hb, hml, hown, hT⟩ (c_X11_partyG2 l D cI aK aV k k0 k1 k2 k4 k5 k6 k7 k8 ka kb kl ko H.size c3 c9 cc cd ce cf cg ch ci cj ck cm cn c0 a0 2 (by first | omega | (simp only [zl_2]; first | done | omega) | decide | assumption | rfl) (by first | omega | (simp only [zl_2]; first | done | omega) | decide | assumption | rfl) (by first | omega | (simp only [zl_2]; first | done | omega) | decide | assumption | rfl)) (cwV 2 hT (gV_in mw_1416 mw_1413 mw_1415 mw_p5_5 mw_12) rfl rfl rfl (by decide +kernel) ⟨Nat.le_of_ble_eq_true rfl, Nat.le_of_ble_eq_true rfl⟩) (kRecvX (q0 := 0) (ci := 11) hK hP hD hN hXS hS hA rfl rfl [0, 1] rfl (by decide +kernel)) rfl rfl hl.1 rfl (lv_room (Nat.le_of_ble_eq_true rfl)) dX11_drinks_94 ⟨Nat.le_of_ble_eq_true rfl, Nat.le_of_ble_eq_true rfl⟩) hP hD hS hA [0, 1] [] rfl rfl (by decide +kernel) (by decide +kernel) ?_
      clear hP hD hS
      intro r_256 u_258 H locs w_257 hP hD hS
      replace hP : va_P D vwCl [(k, .inr (11, [.ref k0, .ref k1, .ref k2, .int c3, .ref k4, .ref k5, .ref k6, .ref k7, .ref k8, .int c9, .ref ka, .ref kb, .int cc, .int cd, .int ce, .int cf, .int cg, .int ch, .int ci, .int cj, .int ck, .ref kl, .int cm, .int cn, .ref ko])), (k0, .inl (cI, 1201, .inl c0))] H := hP
      replace hD : va_D A [(k, .inr (11, [.ref k0, .ref k1, .ref k2, .int c3, .ref k4, .ref k5, .ref k6, .ref k7, .ref k8, .int c9, .ref ka, .ref kb, .int cc, .int cd, .int ce, .int cf, .int cg, .int ch, .int ci, .int cj, .int ck, .ref kl, .int cm, .int cn, .ref ko])), (k0, .inl (cI, 1201, .inl c0))] := hD
      have h_259 := w_257
      have h_259 : r_256 = pW c0 a0 2 := h_259
      have t_260 : r_256.toInt = (pW c0 a0 2).toInt := by rw [h_259]
      have b_261 : 0 ≤ r_256.toInt ∧ r_256.toInt ≤ 50 := by rw [h_259]; exact SB.p2 (And.left pre0) (by omega) (by omega)
      have lo_r_256 := k_lo r_256
      have hi_r_256 := k_hi r_256
      refine lv_iconst (v := 2) hx hb dX11_drinks_97 (by decide +kernel) ?_
      refine lv_aload_n hx hb dX11_drinks_98 rfl (lv_at hl 3 rfl) ?_
      refine lv_iload_n hx hb dX11_drinks_99 rfl (lv_at hl 4 rfl) ?_
      refine lv_iconst (v := 3) hx hb dX11_drinks_100 (by decide +kernel) ?_
      refine kJi (wr := []) (va_runV (As := [.int a0, .int 3]) (rest := [.int 2, .int r_256, .int r_251]) ⟨hx, hb, hml, hown, hT⟩ (c_X11_partyG3 l D cI aK aV k k0 k1 k2 k4 k5 k6 k7 k8 ka kb kl ko H.size c3 c9 cc cd ce cf cg ch ci cj ck cm cn c0 a0 3 (by first | omega | (simp only [zl_3]; first | done | omega) | decide | assumption | rfl) (by first | omega | (simp only [zl_3]; first | done | omega) | decide | assumption | rfl) (by first | omega | (simp only [zl_3]; first | done | omega) | decide | assumption | rfl)) (cwV 2 hT (gV_in mw_1416 mw_1413 mw_1415 mw_p5_5 mw_12) rfl rfl rfl (by decide +kernel) ⟨Nat.le_of_ble_eq_true rfl, Nat.le_of_ble_eq_true rfl⟩) (kRecvX (q0 := 0) (ci := 11) hK hP hD hN hXS hS hA rfl rfl [0, 1] rfl (by decide +kernel)) rfl rfl hl.1 rfl (lv_room (Nat.le_of_ble_eq_true rfl)) dX11_drinks_101 ⟨Nat.le_of_ble_eq_true rfl, Nat.le_of_ble_eq_true rfl⟩) hP hD hS hA [0, 1] [] rfl rfl (by decide +kernel) (by decide +kernel) ?_
      clear hP hD hS
      intro r_262 u_264 H locs w_263 hP hD hS
      replace hP : va_P D vwCl [(k, .inr (11, [.ref k0, .ref k1, .ref k2, .int c3, .ref k4, .ref k5, .ref k6, .ref k7, .ref k8, .int c9, .ref ka, .ref kb, .int cc, .int cd, .int ce, .int cf, .int cg, .int ch, .int ci, .int cj, .int ck, .ref kl, .int cm, .int cn, .ref ko])), (k0, .inl (cI, 1201, .inl c0))] H := hP
      replace hD : va_D A [(k, .inr (11, [.ref k0, .ref k1, .ref k2, .int c3, .ref k4, .ref k5, .ref k6, .ref k7, .ref k8, .int c9, .ref ka, .ref kb, .int cc, .int cd, .int ce, .int cf, .int cg, .int ch, .int ci, .int cj, .int ck, .ref kl, .int cm, .int cn, .ref ko])), (k0, .inl (cI, 1201, .inl c0))] := hD
      have h_265 := w_263
      have h_265 : r_262 = pW c0 a0 3 := h_265
      have t_266 : r_262.toInt = (pW c0 a0 3).toInt := by rw [h_265]
      have b_267 : 0 ≤ r_262.toInt ∧ r_262.toInt ≤ 50 := by rw [h_265]; exact SB.p3 (And.left pre0) (by omega) (by omega)
      have lo_r_262 := k_lo r_262
      have hi_r_262 := k_hi r_262
      refine lv_imul hx hb dX11_drinks_104 ?_
      refine lv_topi (fun v_268 ev_268 => ?_)
      have tv_268 : v_268.toInt = 2 * r_262.toInt := by rw [ev_268]; exact k_mulv zl_2 rfl (by omega) (by omega)
      refine lv_iadd hx hb dX11_drinks_105 ?_
      refine lv_topi (fun v_269 ev_269 => ?_)
      have tv_269 : v_269.toInt = r_256.toInt + v_268.toInt := by rw [ev_269]; exact k_addv rfl rfl (by omega) (by omega)
      refine lv_isub hx hb dX11_drinks_106 ?_
      refine lv_topi (fun v_270 ev_270 => ?_)
      have tv_270 : v_270.toInt = r_251.toInt - v_269.toInt := by rw [ev_270]; exact k_subv rfl rfl (by omega) (by omega)
      refine lv_istore (lv' := [(4, .int v_270), (3, .int v_23), (2, .int r_4), (0, .ref k), (1, .int a0)]) hx hb dX11_drinks_107 hl (by decide +kernel) rfl ?_
      clear hl
      intro ls hl
      refine lv_iload hx hb dX11_drinks_109 (lv_at hl 0 rfl) ?_
      refine b_if_ge hx hb rfl (tgt := 146) dX11_drinks_111 (by decide +kernel) (fun c_271 => ?_) (fun c_271 => by exfalso; omega)
      refine lv_aload_n hx hb dX11_drinks_146 rfl (lv_at hl 3 rfl) ?_
      refine lv_iload_n hx hb dX11_drinks_147 rfl (lv_at hl 4 rfl) ?_
      refine lv_bipush (v := 6) hx hb dX11_drinks_148 (by decide +kernel) ?_
      refine lv_iload hx hb dX11_drinks_150 (lv_at hl 0 rfl) ?_
      refine b_if_ge hx hb rfl (tgt := 159) dX11_drinks_152 (by decide +kernel) (fun c_272 => ?_) (fun c_272 => by exfalso; omega)
      refine lv_iload hx hb dX11_drinks_159 (lv_at hl 0 rfl) ?_
      refine kJv (wr := []) (va_runV (As := [.int a0, .int 6, .int v_270]) (rest := []) ⟨hx, hb, hml, hown, hT⟩ (c_X11_setPartyG6 l D cI aK aV k k0 k1 k2 k4 k5 k6 k7 k8 ka kb kl ko H.size c3 c9 cc cd ce cf cg ch ci cj ck cm cn c0 a0 6 v_270 (by first | omega | (simp only [zl_6]; first | done | omega) | decide | assumption | rfl) (by first | omega | (simp only [zl_6]; first | done | omega) | decide | assumption | rfl) (by first | omega | (simp only [zl_6]; first | done | omega) | decide | assumption | rfl)) (cwV 3 hT (gV_in mw_1404 mw_1401 mw_1403 mw_p5_3 mw_12) rfl rfl rfl (by decide +kernel) ⟨Nat.le_of_ble_eq_true rfl, Nat.le_of_ble_eq_true rfl⟩) (kRecvX (q0 := 0) (ci := 11) hK hP hD hN hXS hS hA rfl rfl [0, 1] rfl (by decide +kernel)) rfl rfl hl.1 rfl (lv_room (Nat.le_of_ble_eq_true rfl)) dX11_drinks_161 ⟨Nat.le_of_ble_eq_true rfl, Nat.le_of_ble_eq_true rfl⟩) hP hD hS hA [0, 1] [] rfl rfl (by decide +kernel) (by decide +kernel) ?_
      clear hP hD hS
      intro sc0_275 H locs w_274 hP hD hS
      replace hP : va_P D vwCl [(k, .inr (11, [.ref k0, .ref k1, .ref k2, .int c3, .ref k4, .ref k5, .ref k6, .ref k7, .ref k8, .int c9, .ref ka, .ref kb, .int cc, .int cd, .int ce, .int cf, .int cg, .int ch, .int ci, .int cj, .int ck, .ref kl, .int cm, .int cn, .ref ko])), (k0, .inl (cI, 1201, .inl sc0_275))] H := hP
      replace hD : va_D A [(k, .inr (11, [.ref k0, .ref k1, .ref k2, .int c3, .ref k4, .ref k5, .ref k6, .ref k7, .ref k8, .int c9, .ref ka, .ref kb, .int cc, .int cd, .int ce, .int cf, .int cg, .int ch, .int ci, .int cj, .int ck, .ref kl, .int cm, .int cn, .ref ko])), (k0, .inl (cI, 1201, .inl sc0_275))] := hD
      have h_276 := w_274
      try simp only [zl_6] at h_276
      have h_276 : sc0_275 = upd c0 (459 + 9 * a0.toInt.toNat + 6) v_270 := h_276
      have h_276 : sc0_275 = upd c0 (459 + 9 * a0.toInt.toNat + 6) v_270 := h_276
      have hS_277 : SIX sc0_275 (-1) := SIX.p pre0 h_276 rfl (by omega) (by omega) (by decide +kernel) (by omega) (fun z => by omega) (fun z => by omega)
      have n_278 : (sc0_275 0).toInt = (c0 0).toInt := by rw [updN h_276 (by omega)]
      have n_279 : (sc0_275 1).toInt = (c0 1).toInt := by rw [updN h_276 (by omega)]
      have n_280 : (sc0_275 2).toInt = (c0 2).toInt := by rw [updN h_276 (by omega)]
      have n_281 : (pW sc0_275 a0 2).toInt = (pW c0 a0 2).toInt := by rw [pW_upd h_276 (by decide +kernel) (by decide +kernel) (Or.inl (by decide +kernel))]
      exact hRet sc0_275 [0, 1] ⟨(SIX.but hS_277), (by first | omega | decide | assumption | rfl), (by first | omega | decide | assumption | rfl), (by first | omega | decide | assumption | rfl), (ref_dy (ref_dV (mi := r_4) (me := r_10) (be := r_16) (ha := r_24) (sp := v_30) (wl := r_32) (va := v_31) (vb := v_36) (vc := v_22) (vd := v_23) (ve := v_23) (vf := r_251) (vg := v_269) (vh := v_268) (vl := v_270) h_7 h_13 h_19 h_27 (rd_in ev_30 (by omega)) h_35 (by rw [ev_31]) ev_36 (by rw [ev_22]) ev_23 (by first | exact Or.inl ⟨by omega, rfl⟩ | exact Or.inr ⟨by omega, rfl⟩) (Or.inl ⟨by omega, h_254.trans h_27.symm⟩) (by rw [ev_268, show r_262 = r_16 from h_265.trans h_19.symm]) (by rw [ev_269, show r_256 = r_10 from h_259.trans h_13.symm]) ev_270) (by omega) h_276)⟩ hP hD (by decide +kernel) rfl hS dX11_drinks_164
theorem bn_cX11_eats_0 : BN cX11_eats 0 0x802a004054292002b7328202c3800adc12050b0ac12050b0ac7c61040583a081b8e002b7048142c2b0580550070b02402a31c0056e090285856070b07002a802020029d0385812014d0182c071b9943a690f05422061b8100a015401410014d15402b7048142c2b09005427d00adc081c158e002b7028142c2b38805462f0282802b5158142c051b8107e7d00adc0c1c158f8fa015b824382b := by
  unfold BN; decide +kernel
theorem dX11_eats_0 : decode cX11_eats 0 = .ok (.aload_n 0, 1) := dR0 (k := 0) (i := 0) bn_cX11_eats_0 dop_42 (by decide +kernel)
theorem dX11_eats_1 : decode cX11_eats 1 = .ok (.iload_n 1, 1) := dR0 (k := 0) (i := 1) bn_cX11_eats_0 dop_27 (by decide +kernel)
theorem dX11_eats_2 : decode cX11_eats 2 = .ok (.iconst 5, 1) := dR0 (k := 0) (i := 2) bn_cX11_eats_0 dop_8 (by decide +kernel)
theorem dX11_eats_3 : decode cX11_eats 3 = .ok (.invokevirtual 124, 3) := dR2 (f := Instr.invokevirtual) (k := 0) (i := 3) bn_cX11_eats_0 dop_182 124 (by decide +kernel)
theorem dX11_eats_6 : decode cX11_eats 6 = .ok (.istore_n 2, 1) := dR0 (k := 0) (i := 6) bn_cX11_eats_0 dop_61 (by decide +kernel)
theorem dX11_eats_7 : decode cX11_eats 7 = .ok (.aload_n 0, 1) := dR0 (k := 0) (i := 7) bn_cX11_eats_0 dop_42 (by decide +kernel)
theorem dX11_eats_8 : decode cX11_eats 8 = .ok (.iload_n 1, 1) := dR0 (k := 0) (i := 8) bn_cX11_eats_0 dop_27 (by decide +kernel)
theorem dX11_eats_9 : decode cX11_eats 9 = .ok (.iconst 2, 1) := dR0 (k := 0) (i := 9) bn_cX11_eats_0 dop_5 (by decide +kernel)
theorem dX11_eats_10 : decode cX11_eats 10 = .ok (.invokevirtual 124, 3) := dR2 (f := Instr.invokevirtual) (k := 0) (i := 10) bn_cX11_eats_0 dop_182 124 (by decide +kernel)
theorem dX11_eats_13 : decode cX11_eats 13 = .ok (.istore_n 3, 1) := dR0 (k := 0) (i := 13) bn_cX11_eats_0 dop_62 (by decide +kernel)
theorem dX11_eats_14 : decode cX11_eats 14 = .ok (.iconst 0, 1) := dR0 (k := 0) (i := 14) bn_cX11_eats_0 dop_3 (by decide +kernel)
theorem dX11_eats_15 : decode cX11_eats 15 = .ok (.istore 4, 2) := dR1 (f := Instr.istore) (k := 0) (i := 15) bn_cX11_eats_0 dop_54 4 (by decide +kernel)
theorem dX11_eats_17 : decode cX11_eats 17 = .ok (.iload 4, 2) := dR1 (f := Instr.iload) (k := 0) (i := 17) bn_cX11_eats_0 dop_21 4 (by decide +kernel)
theorem dX11_eats_19 : decode cX11_eats 19 = .ok (.aload_n 0, 1) := dR0 (k := 0) (i := 19) bn_cX11_eats_0 dop_42 (by decide +kernel)
theorem dX11_eats_20 : decode cX11_eats 20 = .ok (.getfield 9, 3) := dR2 (f := Instr.getfield) (k := 0) (i := 20) bn_cX11_eats_0 dop_180 9 (by decide +kernel)
theorem dX11_eats_23 : decode cX11_eats 23 = .ok (.iconst 1, 1) := dR0 (k := 0) (i := 23) bn_cX11_eats_0 dop_4 (by decide +kernel)
theorem dX11_eats_24 : decode cX11_eats 24 = .ok (.iaload, 1) := dR0 (k := 0) (i := 24) bn_cX11_eats_0 dop_46 (by decide +kernel)
theorem dX11_eats_25 : decode cX11_eats 25 = .ok (.if_icmp .ge 112, 3) := dR2s (f := Instr.if_icmp .ge) (k := 0) (i := 25) bn_cX11_eats_0 dop_162 112 112 (by decide +kernel)
theorem dX11_eats_28 : decode cX11_eats 28 = .ok (.aload_n 0, 1) := dR0 (k := 0) (i := 28) bn_cX11_eats_0 dop_42 (by decide +kernel)
theorem dX11_eats_29 : decode cX11_eats 29 = .ok (.iload 4, 2) := dR1 (f := Instr.iload) (k := 0) (i := 29) bn_cX11_eats_0 dop_21 4 (by decide +kernel)
theorem dX11_eats_31 : decode cX11_eats 31 = .ok (.iconst 1, 1) := dR0 (k := 0) (i := 31) bn_cX11_eats_0 dop_4 (by decide +kernel)
theorem dX11_eats_32 : decode cX11_eats 32 = .ok (.invokevirtual 55, 3) := dR2 (f := Instr.invokevirtual) (k := 0) (i := 32) bn_cX11_eats_0 dop_182 55 (by decide +kernel)
theorem dX11_eats_35 : decode cX11_eats 35 = .ok (.aload_n 0, 1) := dR0 (k := 0) (i := 35) bn_cX11_eats_0 dop_42 (by decide +kernel)
theorem dX11_eats_36 : decode cX11_eats 36 = .ok (.iload_n 1, 1) := dR0 (k := 0) (i := 36) bn_cX11_eats_0 dop_27 (by decide +kernel)
theorem dX11_eats_37 : decode cX11_eats 37 = .ok (.iconst 0, 1) := dR0 (k := 0) (i := 37) bn_cX11_eats_0 dop_3 (by decide +kernel)
theorem dX11_eats_38 : decode cX11_eats 38 = .ok (.invokevirtual 124, 3) := dR2 (f := Instr.invokevirtual) (k := 0) (i := 38) bn_cX11_eats_0 dop_182 124 (by decide +kernel)
theorem dX11_eats_41 : decode cX11_eats 41 = .ok (.if_icmp .ne 17, 3) := dR2s (f := Instr.if_icmp .ne) (k := 0) (i := 41) bn_cX11_eats_0 dop_160 17 17 (by decide +kernel)
theorem dX11_eats_44 : decode cX11_eats 44 = .ok (.aload_n 0, 1) := dR0 (k := 0) (i := 44) bn_cX11_eats_0 dop_42 (by decide +kernel)
theorem dX11_eats_45 : decode cX11_eats 45 = .ok (.iload 4, 2) := dR1 (f := Instr.iload) (k := 0) (i := 45) bn_cX11_eats_0 dop_21 4 (by decide +kernel)
theorem dX11_eats_47 : decode cX11_eats 47 = .ok (.iconst 5, 1) := dR0 (k := 0) (i := 47) bn_cX11_eats_0 dop_8 (by decide +kernel)
theorem dX11_eats_48 : decode cX11_eats 48 = .ok (.invokevirtual 84, 3) := dR2 (f := Instr.invokevirtual) (k := 0) (i := 48) bn_cX11_eats_0 dop_182 84 (by decide +kernel)
theorem dX11_eats_51 : decode cX11_eats 51 = .ok (.ifCond .eq 7, 3) := dR2s (f := Instr.ifCond .eq) (k := 0) (i := 51) bn_cX11_eats_0 dop_153 7 7 (by decide +kernel)
theorem dX11_eats_54 : decode cX11_eats 54 = .ok (.iconst 1, 1) := dR0 (k := 0) (i := 54) bn_cX11_eats_0 dop_4 (by decide +kernel)
theorem dX11_eats_55 : decode cX11_eats 55 = .ok (.goto 4, 3) := dR2s (f := Instr.goto) (k := 0) (i := 55) bn_cX11_eats_0 dop_167 4 4 (by decide +kernel)
theorem dX11_eats_58 : decode cX11_eats 58 = .ok (.iconst 0, 1) := dR0 (k := 0) (i := 58) bn_cX11_eats_0 dop_3 (by decide +kernel)
theorem dX11_eats_59 : decode cX11_eats 59 = .ok (.istore 5, 2) := dR1 (f := Instr.istore) (k := 0) (i := 59) bn_cX11_eats_0 dop_54 5 (by decide +kernel)
theorem dX11_eats_61 : decode cX11_eats 61 = .ok (.bipush 20, 2) := dR1s (f := Instr.bipush) (k := 0) (i := 61) bn_cX11_eats_0 dop_16 20 20 (by decide +kernel)
theorem dX11_eats_63 : decode cX11_eats 63 = .ok (.iload_n 3, 1) := dR0 (k := 0) (i := 63) bn_cX11_eats_0 dop_29 (by decide +kernel)
theorem dX11_eats_64 : decode cX11_eats 64 = .ok (.imul, 1) := dR0 (k := 0) (i := 64) bn_cX11_eats_0 dop_104 (by decide +kernel)
theorem dX11_eats_65 : decode cX11_eats 65 = .ok (.iload_n 2, 1) := dR0 (k := 0) (i := 65) bn_cX11_eats_0 dop_28 (by decide +kernel)
theorem dX11_eats_66 : decode cX11_eats 66 = .ok (.isub, 1) := dR0 (k := 0) (i := 66) bn_cX11_eats_0 dop_100 (by decide +kernel)
theorem dX11_eats_67 : decode cX11_eats 67 = .ok (.istore 6, 2) := dR1 (f := Instr.istore) (k := 0) (i := 67) bn_cX11_eats_0 dop_54 6 (by decide +kernel)
theorem dX11_eats_69 : decode cX11_eats 69 = .ok (.iload 5, 2) := dR1 (f := Instr.iload) (k := 0) (i := 69) bn_cX11_eats_0 dop_21 5 (by decide +kernel)
theorem dX11_eats_71 : decode cX11_eats 71 = .ok (.ifCond .eq 8, 3) := dR2s (f := Instr.ifCond .eq) (k := 0) (i := 71) bn_cX11_eats_0 dop_153 8 8 (by decide +kernel)
theorem dX11_eats_74 : decode cX11_eats 74 = .ok (.iload 6, 2) := dR1 (f := Instr.iload) (k := 0) (i := 74) bn_cX11_eats_0 dop_21 6 (by decide +kernel)
theorem dX11_eats_76 : decode cX11_eats 76 = .ok (.ifCond .ge 7, 3) := dR2s (f := Instr.ifCond .ge) (k := 0) (i := 76) bn_cX11_eats_0 dop_156 7 7 (by decide +kernel)
theorem dX11_eats_79 : decode cX11_eats 79 = .ok (.iconst 0, 1) := dR0 (k := 0) (i := 79) bn_cX11_eats_0 dop_3 (by decide +kernel)
theorem dX11_eats_80 : decode cX11_eats 80 = .ok (.goto 27, 3) := dR2s (f := Instr.goto) (k := 0) (i := 80) bn_cX11_eats_0 dop_167 27 27 (by decide +kernel)
theorem dX11_eats_83 : decode cX11_eats 83 = .ok (.iload 6, 2) := dR1 (f := Instr.iload) (k := 0) (i := 83) bn_cX11_eats_0 dop_21 6 (by decide +kernel)
theorem dX11_eats_85 : decode cX11_eats 85 = .ok (.aload_n 0, 1) := dR0 (k := 0) (i := 85) bn_cX11_eats_0 dop_42 (by decide +kernel)
theorem dX11_eats_86 : decode cX11_eats 86 = .ok (.iload 4, 2) := dR1 (f := Instr.iload) (k := 0) (i := 86) bn_cX11_eats_0 dop_21 4 (by decide +kernel)
theorem dX11_eats_88 : decode cX11_eats 88 = .ok (.iconst 5, 1) := dR0 (k := 0) (i := 88) bn_cX11_eats_0 dop_8 (by decide +kernel)
theorem dX11_eats_89 : decode cX11_eats 89 = .ok (.invokevirtual 55, 3) := dR2 (f := Instr.invokevirtual) (k := 0) (i := 89) bn_cX11_eats_0 dop_182 55 (by decide +kernel)
theorem dX11_eats_92 : decode cX11_eats 92 = .ok (.if_icmp .ge 8, 3) := dR2s (f := Instr.if_icmp .ge) (k := 0) (i := 92) bn_cX11_eats_0 dop_162 8 8 (by decide +kernel)
theorem dX11_eats_95 : decode cX11_eats 95 = .ok (.iload 6, 2) := dR1 (f := Instr.iload) (k := 0) (i := 95) bn_cX11_eats_0 dop_21 6 (by decide +kernel)
theorem dX11_eats_97 : decode cX11_eats 97 = .ok (.goto 10, 3) := dR2s (f := Instr.goto) (k := 0) (i := 97) bn_cX11_eats_0 dop_167 10 10 (by decide +kernel)
theorem dX11_eats_100 : decode cX11_eats 100 = .ok (.aload_n 0, 1) := dR0 (k := 0) (i := 100) bn_cX11_eats_0 dop_42 (by decide +kernel)
theorem dX11_eats_101 : decode cX11_eats 101 = .ok (.iload 4, 2) := dR1 (f := Instr.iload) (k := 0) (i := 101) bn_cX11_eats_0 dop_21 4 (by decide +kernel)
theorem dX11_eats_103 : decode cX11_eats 103 = .ok (.iconst 5, 1) := dR0 (k := 0) (i := 103) bn_cX11_eats_0 dop_8 (by decide +kernel)
theorem dX11_eats_104 : decode cX11_eats 104 = .ok (.invokevirtual 55, 3) := dR2 (f := Instr.invokevirtual) (k := 0) (i := 104) bn_cX11_eats_0 dop_182 55 (by decide +kernel)
theorem dX11_eats_107 : decode cX11_eats 107 = .ok (.istore 7, 2) := dR1 (f := Instr.istore) (k := 0) (i := 107) bn_cX11_eats_0 dop_54 7 (by decide +kernel)
theorem dX11_eats_109 : decode cX11_eats 109 = .ok (.iload_n 2, 1) := dR0 (k := 0) (i := 109) bn_cX11_eats_0 dop_28 (by decide +kernel)
theorem dX11_eats_110 : decode cX11_eats 110 = .ok (.iload 7, 2) := dR1 (f := Instr.iload) (k := 0) (i := 110) bn_cX11_eats_0 dop_21 7 (by decide +kernel)
theorem dX11_eats_112 : decode cX11_eats 112 = .ok (.iadd, 1) := dR0 (k := 0) (i := 112) bn_cX11_eats_0 dop_96 (by decide +kernel)
theorem dX11_eats_113 : decode cX11_eats 113 = .ok (.istore_n 2, 1) := dR0 (k := 0) (i := 113) bn_cX11_eats_0 dop_61 (by decide +kernel)
theorem dX11_eats_114 : decode cX11_eats 114 = .ok (.aload_n 0, 1) := dR0 (k := 0) (i := 114) bn_cX11_eats_0 dop_42 (by decide +kernel)
theorem dX11_eats_115 : decode cX11_eats 115 = .ok (.iload 4, 2) := dR1 (f := Instr.iload) (k := 0) (i := 115) bn_cX11_eats_0 dop_21 4 (by decide +kernel)
theorem dX11_eats_117 : decode cX11_eats 117 = .ok (.iconst 5, 1) := dR0 (k := 0) (i := 117) bn_cX11_eats_0 dop_8 (by decide +kernel)
theorem dX11_eats_118 : decode cX11_eats 118 = .ok (.aload_n 0, 1) := dR0 (k := 0) (i := 118) bn_cX11_eats_0 dop_42 (by decide +kernel)
theorem dX11_eats_119 : decode cX11_eats 119 = .ok (.iload 4, 2) := dR1 (f := Instr.iload) (k := 0) (i := 119) bn_cX11_eats_0 dop_21 4 (by decide +kernel)
theorem dX11_eats_121 : decode cX11_eats 121 = .ok (.iconst 5, 1) := dR0 (k := 0) (i := 121) bn_cX11_eats_0 dop_8 (by decide +kernel)
theorem dX11_eats_122 : decode cX11_eats 122 = .ok (.invokevirtual 55, 3) := dR2 (f := Instr.invokevirtual) (k := 0) (i := 122) bn_cX11_eats_0 dop_182 55 (by decide +kernel)
theorem dX11_eats_125 : decode cX11_eats 125 = .ok (.iload 7, 2) := dR1 (f := Instr.iload) (k := 0) (i := 125) bn_cX11_eats_0 dop_21 7 (by decide +kernel)
theorem dX11_eats_127 : decode cX11_eats 127 = .ok (.isub, 1) := dR0 (k := 0) (i := 127) bn_cX11_eats_0 dop_100 (by decide +kernel)
theorem bn_cX11_eats_128 : BN cX11_eats 128 0x1647700adc3a0500aa0080800a743a090e0acee015b8780a01541940a1e050053a1d03070563e328783a8c802a004054292002b7 := by
  unfold BN; decide +kernel
theorem dX11_eats_128 : decode cX11_eats 128 = .ok (.invokevirtual 71, 3) := dR2 (f := Instr.invokevirtual) (k := 128) (i := 0) bn_cX11_eats_128 dop_182 71 (by decide +kernel)
theorem dX11_eats_131 : decode cX11_eats 131 = .ok (.iinc 4 1, 3) := dRii (f := Instr.iinc) (k := 128) (i := 3) bn_cX11_eats_128 dop_132 4 1 1 (by decide +kernel)
theorem dX11_eats_134 : decode cX11_eats 134 = .ok (.goto (-117), 3) := dR2s (f := Instr.goto) (k := 128) (i := 6) bn_cX11_eats_128 dop_167 65419 (-117) (by decide +kernel)
theorem dX11_eats_137 : decode cX11_eats 137 = .ok (.iload_n 2, 1) := dR0 (k := 128) (i := 9) bn_cX11_eats_128 dop_28 (by decide +kernel)
theorem dX11_eats_138 : decode cX11_eats 138 = .ok (.iload_n 3, 1) := dR0 (k := 128) (i := 10) bn_cX11_eats_128 dop_29 (by decide +kernel)
theorem dX11_eats_139 : decode cX11_eats 139 = .ok (.isub, 1) := dR0 (k := 128) (i := 11) bn_cX11_eats_128 dop_100 (by decide +kernel)
theorem dX11_eats_140 : decode cX11_eats 140 = .ok (.istore_n 2, 1) := dR0 (k := 128) (i := 12) bn_cX11_eats_128 dop_61 (by decide +kernel)
theorem dX11_eats_141 : decode cX11_eats 141 = .ok (.aload_n 0, 1) := dR0 (k := 128) (i := 13) bn_cX11_eats_128 dop_42 (by decide +kernel)
theorem dX11_eats_142 : decode cX11_eats 142 = .ok (.iload_n 1, 1) := dR0 (k := 128) (i := 14) bn_cX11_eats_128 dop_27 (by decide +kernel)
theorem dX11_eats_143 : decode cX11_eats 143 = .ok (.iconst 2, 1) := dR0 (k := 128) (i := 15) bn_cX11_eats_128 dop_5 (by decide +kernel)
theorem dX11_eats_144 : decode cX11_eats 144 = .ok (.iload_n 2, 1) := dR0 (k := 128) (i := 16) bn_cX11_eats_128 dop_28 (by decide +kernel)
theorem dX11_eats_145 : decode cX11_eats 145 = .ok (.ifCond .ge 9, 3) := dR2s (f := Instr.ifCond .ge) (k := 128) (i := 17) bn_cX11_eats_128 dop_156 9 9 (by decide +kernel)
theorem dX11_eats_148 : decode cX11_eats 148 = .ok (.iload_n 3, 1) := dR0 (k := 128) (i := 20) bn_cX11_eats_128 dop_29 (by decide +kernel)
theorem dX11_eats_149 : decode cX11_eats 149 = .ok (.iconst 1, 1) := dR0 (k := 128) (i := 21) bn_cX11_eats_128 dop_4 (by decide +kernel)
theorem dX11_eats_150 : decode cX11_eats 150 = .ok (.isub, 1) := dR0 (k := 128) (i := 22) bn_cX11_eats_128 dop_100 (by decide +kernel)
theorem dX11_eats_151 : decode cX11_eats 151 = .ok (.goto 4, 3) := dR2s (f := Instr.goto) (k := 128) (i := 23) bn_cX11_eats_128 dop_167 4 4 (by decide +kernel)
theorem dX11_eats_154 : decode cX11_eats 154 = .ok (.iload_n 3, 1) := dR0 (k := 128) (i := 26) bn_cX11_eats_128 dop_29 (by decide +kernel)
theorem dX11_eats_155 : decode cX11_eats 155 = .ok (.invokevirtual 118, 3) := dR2 (f := Instr.invokevirtual) (k := 128) (i := 27) bn_cX11_eats_128 dop_182 118 (by decide +kernel)
theorem dX11_eats_158 : decode cX11_eats 158 = .ok (.aload_n 0, 1) := dR0 (k := 128) (i := 30) bn_cX11_eats_128 dop_42 (by decide +kernel)
theorem dX11_eats_159 : decode cX11_eats 159 = .ok (.iload_n 1, 1) := dR0 (k := 128) (i := 31) bn_cX11_eats_128 dop_27 (by decide +kernel)
theorem dX11_eats_160 : decode cX11_eats 160 = .ok (.iconst 5, 1) := dR0 (k := 128) (i := 32) bn_cX11_eats_128 dop_8 (by decide +kernel)
theorem dX11_eats_161 : decode cX11_eats 161 = .ok (.iload_n 2, 1) := dR0 (k := 128) (i := 33) bn_cX11_eats_128 dop_28 (by decide +kernel)
theorem dX11_eats_162 : decode cX11_eats 162 = .ok (.ifCond .ge 7, 3) := dR2s (f := Instr.ifCond .ge) (k := 128) (i := 34) bn_cX11_eats_128 dop_156 7 7 (by decide +kernel)
theorem dX11_eats_165 : decode cX11_eats 165 = .ok (.iconst 0, 1) := dR0 (k := 128) (i := 37) bn_cX11_eats_128 dop_3 (by decide +kernel)
theorem dX11_eats_166 : decode cX11_eats 166 = .ok (.goto 4, 3) := dR2s (f := Instr.goto) (k := 128) (i := 38) bn_cX11_eats_128 dop_167 4 4 (by decide +kernel)
theorem dX11_eats_169 : decode cX11_eats 169 = .ok (.iload_n 2, 1) := dR0 (k := 128) (i := 41) bn_cX11_eats_128 dop_28 (by decide +kernel)
theorem dX11_eats_170 : decode cX11_eats 170 = .ok (.invokevirtual 118, 3) := dR2 (f := Instr.invokevirtual) (k := 128) (i := 42) bn_cX11_eats_128 dop_182 118 (by decide +kernel)
theorem dX11_eats_173 : decode cX11_eats 173 = .ok (.return_, 1) := dR0 (k := 128) (i := 45) bn_cX11_eats_128 dop_177 (by decide +kernel)
set_option maxHeartbeats 4000000 in
set_option maxRecDepth 100000 in
theorem c_X11_eatsG (l : Launch) (D : va_G) (cI : ClassId) (aK aV : Nat → Nat) (k k0 k1 k2 k4 k5 k6 k7 k8 ka kb kl ko : Nat) (sz : Nat) (c3 : Int32) (c9 : Int32) (cc : Int32) (cd : Int32) (ce : Int32) (cf : Int32) (cg : Int32) (ch : Int32) (ci : Int32) (cj : Int32) (ck : Int32) (cm : Int32) (cn : Int32) (c0 : Nat → Int32) (a0 : Int32) (pre0 : SIX c0 a0.toInt) (pre1 : 0 ≤ a0.toInt) (pre2 : a0.toInt ≤ 3) : Met l yX11_eats (gW yX11_eats cX11_eats 8 none) ({ frames := 3, cells := 0, slots := 0, locals := 64 } : Room) (kPreX D cI aK aV [.ref k, .int a0] [(k, .inr (11, [.ref k0, .ref k1, .ref k2, .int c3, .ref k4, .ref k5, .ref k6, .ref k7, .ref k8, .int c9, .ref ka, .ref kb, .int cc, .int cd, .int ce, .int cf, .int cg, .int ch, .int ci, .int cj, .int ck, .ref kl, .int cm, .int cn, .ref ko])), (k0, .inl (cI, 1201, .inl c0))] sz) (va_Qv (fun (u : (Nat → Int32)) => SIX u a0.toInt ∧ (u 0).toInt = (c0 0).toInt ∧ (u 1).toInt = (c0 1).toInt ∧ (u 2).toInt = (c0 2).toInt ∧ u = eatP c0 a0.toInt.toNat) (fun u t => kWd D cI (va_A [(k, .inr (11, [.ref k0, .ref k1, .ref k2, .int c3, .ref k4, .ref k5, .ref k6, .ref k7, .ref k8, .int c9, .ref ka, .ref kb, .int cc, .int cd, .int ce, .int cf, .int cg, .int ch, .int ci, .int cj, .int ck, .ref kl, .int cm, .int cn, .ref ko])), (k0, .inl (cI, 1201, .inl c0))] sz) [(k, .inr (11, [.ref k0, .ref k1, .ref k2, .int c3, .ref k4, .ref k5, .ref k6, .ref k7, .ref k8, .int c9, .ref ka, .ref kb, .int cc, .int cd, .int ce, .int cf, .int cg, .int ch, .int ci, .int cj, .int ck, .ref kl, .int cm, .int cn, .ref ko])), (k0, .inl (cI, 1201, .inl u))] t) (va_A [(k, .inr (11, [.ref k0, .ref k1, .ref k2, .int c3, .ref k4, .ref k5, .ref k6, .ref k7, .ref k8, .int c9, .ref ka, .ref kb, .int cc, .int cd, .int ce, .int cf, .int cg, .int ch, .int ci, .int cj, .int ck, .ref kl, .int cm, .int cn, .ref ko])), (k0, .inl (cI, 1201, .inl c0))] sz)) 0 0 (va_A [(k, .inr (11, [.ref k0, .ref k1, .ref k2, .int c3, .ref k4, .ref k5, .ref k6, .ref k7, .ref k8, .int c9, .ref ka, .ref kb, .int cc, .int cd, .int ce, .int cf, .int cg, .int ch, .int ci, .int cj, .int ck, .ref kl, .int cm, .int cn, .ref ko])), (k0, .inl (cI, 1201, .inl c0))] sz) := by
  refine kMetVX (own := RX11) (by decide +kernel) rfl (Nat.le_of_ble_eq_true rfl) ?_
  intro p e s m args below meth c hx hb hT hown hname hml A Q hK hP hD hS hA hN hXS hRet ls hl
  have hl : lv_has ls 8 [(0, .ref k), (1, .int a0)] := hl
  have lo_a0 := k_lo a0
  have hi_a0 := k_hi a0
  have lo_ci := k_lo ci
  have hi_ci := k_hi ci
  have pre0 : SIX c0 a0.toInt := pre0
  have nb_1 : 0 ≤ (c0 0).toInt ∧ (c0 0).toInt ≤ 2000 := SB.n0 (And.left pre0)
  have nb_2 : 0 ≤ (c0 1).toInt ∧ (c0 1).toInt ≤ 60 := SB.n1 (And.left pre0)
  have nb_3 : 0 ≤ (c0 2).toInt ∧ (c0 2).toInt ≤ 4 := SB.n2 (And.left pre0)
  refine lv_aload_n hx hb dX11_eats_0 rfl (lv_at hl 0 rfl) ?_
  refine lv_iload_n hx hb dX11_eats_1 rfl (lv_at hl 1 rfl) ?_
  refine lv_iconst (v := 5) hx hb dX11_eats_2 (by decide +kernel) ?_
  refine kJi (wr := []) (va_runV (As := [.int a0, .int 5]) (rest := []) ⟨hx, hb, hml, hown, hT⟩ (c_X11_partyG5 l D cI aK aV k k0 k1 k2 k4 k5 k6 k7 k8 ka kb kl ko s.heap.size c3 c9 cc cd ce cf cg ch ci cj ck cm cn c0 a0 5 (by first | omega | (simp only [zl_5]; first | done | omega) | decide | assumption | rfl) (by first | omega | (simp only [zl_5]; first | done | omega) | decide | assumption | rfl) (by first | omega | (simp only [zl_5]; first | done | omega) | decide | assumption | rfl)) (cwV 2 hT (gV_in mw_1416 mw_1413 mw_1415 mw_p5_5 mw_12) rfl rfl rfl (by decide +kernel) ⟨Nat.le_of_ble_eq_true rfl, Nat.le_of_ble_eq_true rfl⟩) (kRecvX (q0 := 0) (ci := 11) hK hP hD hN hXS hS hA rfl rfl [0, 1] rfl (by decide +kernel)) rfl rfl hl.1 rfl (lv_room (Nat.le_of_ble_eq_true rfl)) dX11_eats_3 ⟨Nat.le_of_ble_eq_true rfl, Nat.le_of_ble_eq_true rfl⟩) hP hD hS hA [0, 1] [] rfl rfl (by decide +kernel) (by decide +kernel) ?_
  clear hP hD hS
  intro r_4 u_6 H locs w_5 hP hD hS
  replace hP : va_P D vwCl [(k, .inr (11, [.ref k0, .ref k1, .ref k2, .int c3, .ref k4, .ref k5, .ref k6, .ref k7, .ref k8, .int c9, .ref ka, .ref kb, .int cc, .int cd, .int ce, .int cf, .int cg, .int ch, .int ci, .int cj, .int ck, .ref kl, .int cm, .int cn, .ref ko])), (k0, .inl (cI, 1201, .inl c0))] H := hP
  replace hD : va_D A [(k, .inr (11, [.ref k0, .ref k1, .ref k2, .int c3, .ref k4, .ref k5, .ref k6, .ref k7, .ref k8, .int c9, .ref ka, .ref kb, .int cc, .int cd, .int ce, .int cf, .int cg, .int ch, .int ci, .int cj, .int ck, .ref kl, .int cm, .int cn, .ref ko])), (k0, .inl (cI, 1201, .inl c0))] := hD
  have h_7 := w_5
  have h_7 : r_4 = pW c0 a0 5 := h_7
  have t_8 : r_4.toInt = (pW c0 a0 5).toInt := by rw [h_7]
  have b_9 : 0 ≤ r_4.toInt ∧ r_4.toInt ≤ 9999 := by rw [h_7]; exact SB.p5 (And.left pre0) (by omega) (by omega)
  have lo_r_4 := k_lo r_4
  have hi_r_4 := k_hi r_4
  refine lv_istore_n (lv' := [(2, .int r_4), (0, .ref k), (1, .int a0)]) hx hb dX11_eats_6 rfl hl (by decide +kernel) rfl ?_
  clear hl
  intro ls hl
  refine lv_aload_n hx hb dX11_eats_7 rfl (lv_at hl 1 rfl) ?_
  refine lv_iload_n hx hb dX11_eats_8 rfl (lv_at hl 2 rfl) ?_
  refine lv_iconst (v := 2) hx hb dX11_eats_9 (by decide +kernel) ?_
  refine kJi (wr := []) (va_runV (As := [.int a0, .int 2]) (rest := []) ⟨hx, hb, hml, hown, hT⟩ (c_X11_partyG2 l D cI aK aV k k0 k1 k2 k4 k5 k6 k7 k8 ka kb kl ko H.size c3 c9 cc cd ce cf cg ch ci cj ck cm cn c0 a0 2 (by first | omega | (simp only [zl_2]; first | done | omega) | decide | assumption | rfl) (by first | omega | (simp only [zl_2]; first | done | omega) | decide | assumption | rfl) (by first | omega | (simp only [zl_2]; first | done | omega) | decide | assumption | rfl)) (cwV 2 hT (gV_in mw_1416 mw_1413 mw_1415 mw_p5_5 mw_12) rfl rfl rfl (by decide +kernel) ⟨Nat.le_of_ble_eq_true rfl, Nat.le_of_ble_eq_true rfl⟩) (kRecvX (q0 := 0) (ci := 11) hK hP hD hN hXS hS hA rfl rfl [0, 1] rfl (by decide +kernel)) rfl rfl hl.1 rfl (lv_room (Nat.le_of_ble_eq_true rfl)) dX11_eats_10 ⟨Nat.le_of_ble_eq_true rfl, Nat.le_of_ble_eq_true rfl⟩) hP hD hS hA [0, 1] [] rfl rfl (by decide +kernel) (by decide +kernel) ?_
  clear hP hD hS
  intro r_10 u_12 H locs w_11 hP hD hS
  replace hP : va_P D vwCl [(k, .inr (11, [.ref k0, .ref k1, .ref k2, .int c3, .ref k4, .ref k5, .ref k6, .ref k7, .ref k8, .int c9, .ref ka, .ref kb, .int cc, .int cd, .int ce, .int cf, .int cg, .int ch, .int ci, .int cj, .int ck, .ref kl, .int cm, .int cn, .ref ko])), (k0, .inl (cI, 1201, .inl c0))] H := hP
  replace hD : va_D A [(k, .inr (11, [.ref k0, .ref k1, .ref k2, .int c3, .ref k4, .ref k5, .ref k6, .ref k7, .ref k8, .int c9, .ref ka, .ref kb, .int cc, .int cd, .int ce, .int cf, .int cg, .int ch, .int ci, .int cj, .int ck, .ref kl, .int cm, .int cn, .ref ko])), (k0, .inl (cI, 1201, .inl c0))] := hD
  have h_13 := w_11
  have h_13 : r_10 = pW c0 a0 2 := h_13
  have t_14 : r_10.toInt = (pW c0 a0 2).toInt := by rw [h_13]
  have b_15 : 0 ≤ r_10.toInt ∧ r_10.toInt ≤ 50 := by rw [h_13]; exact SB.p2 (And.left pre0) (by omega) (by omega)
  have lo_r_10 := k_lo r_10
  have hi_r_10 := k_hi r_10
  refine lv_istore_n (lv' := [(3, .int r_10), (2, .int r_4), (0, .ref k), (1, .int a0)]) hx hb dX11_eats_13 rfl hl (by decide +kernel) rfl ?_
  clear hl
  intro ls hl
  refine lv_iconst (v := 0) hx hb dX11_eats_14 (by decide +kernel) ?_
  refine lv_istore (lv' := [(4, .int 0), (3, .int r_10), (2, .int r_4), (0, .ref k), (1, .int a0)]) hx hb dX11_eats_15 hl (by decide +kernel) rfl ?_
  clear hl
  intro ls hl
  have hloop_17 : ∀ (fu_ : Nat) (l17_2 : Int32) (l17_4 : Int32) (g17_k0 : Nat → Int32), r_4.toInt ≤ l17_2.toInt → 0 ≤ l17_4.toInt → SIX g17_k0 a0.toInt → (g17_k0 0).toInt = (c0 0).toInt → (g17_k0 1).toInt = (c0 1).toInt → (g17_k0 2).toInt = (c0 2).toInt → 0 ≤ l17_2.toInt → l17_2.toInt ≤ 9999 → l17_2 = r_4 + (eaM c0 a0 l17_4.toInt.toNat).1 → g17_k0 = (eaM c0 a0 l17_4.toInt.toNat).2 → l17_4.toInt ≤ (c0 1).toInt → 0 ≤ l17_4.toInt → ((c0 1).toInt - l17_4.toInt).toNat < fu_ → ∀ (ls : Array Slot) (H : Heap) (locs : List Loc), lv_has ls 8 [(4, .int l17_4), (3, .int r_10), (2, .int l17_2), (0, .ref k), (1, .int a0)] → va_P D vwCl [(k, .inr (11, [.ref k0, .ref k1, .ref k2, .int c3, .ref k4, .ref k5, .ref k6, .ref k7, .ref k8, .int c9, .ref ka, .ref kb, .int cc, .int cd, .int ce, .int cf, .int cg, .int ch, .int ci, .int cj, .int ck, .ref kl, .int cm, .int cn, .ref ko])), (k0, .inl (cI, 1201, .inl g17_k0))] H → va_D A [(k, .inr (11, [.ref k0, .ref k1, .ref k2, .int c3, .ref k4, .ref k5, .ref k6, .ref k7, .ref k8, .int c9, .ref ka, .ref kb, .int cc, .int cd, .int ce, .int cf, .int cg, .int ch, .int ci, .int cj, .int ck, .ref kl, .int cm, .int cn, .ref ko])), (k0, .inl (cI, 1201, .inl g17_k0))] → va_S A s.heap H locs → W p l e ({ frames := 3, cells := 0, slots := 0, locals := 64 } : Room) s m args below meth c H locs 0 0 Q (F0 m 17 ls []) := by
    intro fu_; induction fu_ with
    | zero => intro l17_2 l17_4 g17_k0 i17_0 i17_1 i17_2 i17_3 i17_4 i17_5 i17_6 i17_7 i17_8 i17_9 i17_10 i17_11 hm; exact absurd hm (by omega)
    | succ fu_ ih17 =>
        intro l17_2 l17_4 g17_k0 i17_0 i17_1 i17_2 i17_3 i17_4 i17_5 i17_6 i17_7 i17_8 i17_9 i17_10 i17_11 hm ls H locs hl hP hD hS
        have lo_l17_2 := k_lo l17_2
        have hi_l17_2 := k_hi l17_2
        have lo_l17_4 := k_lo l17_4
        have hi_l17_4 := k_hi l17_4
        have i17_2 : SIX g17_k0 a0.toInt := i17_2
        refine lv_iload hx hb dX11_eats_17 (lv_at hl 0 rfl) ?_
        refine lv_aload_n hx hb dX11_eats_19 rfl (lv_at hl 3 rfl) ?_
        refine va_get (D := D) (ci := 11) (v := .ref k0) (C := RX11) (T := TX11) (N := 25) hx hb hT giX11 hown hK hP 0 rfl rfl 0 (by decide +kernel) (hT (Cond.fieldLink RX11 9 "DesertWireModel" "s" "[I") mw_1156) (fun _ h9 => h9) rfl dX11_eats_20 ?_
        refine lv_iconst (v := 1) hx hb dX11_eats_23 (by decide +kernel) ?_
        refine k_iald (v := (g17_k0 1)) hx hb hK hP 1 0 rfl rfl (k_inl (by decide +kernel)) rfl dX11_eats_24 ?_
        refine lv_topi (fun v_16 ev_16 => ?_)
        have lo_v_16 := k_lo v_16
        have hi_v_16 := k_hi v_16
        have tv_16 : v_16.toInt = (g17_k0 1).toInt := by rw [ev_16]
        have b_17 : 0 ≤ v_16.toInt ∧ v_16.toInt ≤ 60 := by first | (rw [tv_16]; exact SB.n1 (And.left i17_2)) | exact SB.n1 (And.left i17_2) | omega
        refine b_icmp_ge hx hb rfl rfl (tgt := 137) dX11_eats_25 (by decide +kernel) (fun c_18 => ?_) (fun c_18 => ?_)
        · refine lv_iload_n hx hb dX11_eats_137 rfl (lv_at hl 2 rfl) ?_
          refine lv_iload_n hx hb dX11_eats_138 rfl (lv_at hl 1 rfl) ?_
          refine lv_isub hx hb dX11_eats_139 ?_
          refine lv_topi (fun v_19 ev_19 => ?_)
          have tv_19 : v_19.toInt = l17_2.toInt - r_10.toInt := by rw [ev_19]; exact k_subv rfl rfl (by omega) (by omega)
          refine lv_istore_n (lv' := [(2, .int v_19), (4, .int l17_4), (3, .int r_10), (0, .ref k), (1, .int a0)]) hx hb dX11_eats_140 rfl hl (by decide +kernel) rfl ?_
          clear hl
          intro ls hl
          refine lv_aload_n hx hb dX11_eats_141 rfl (lv_at hl 3 rfl) ?_
          refine lv_iload_n hx hb dX11_eats_142 rfl (lv_at hl 4 rfl) ?_
          refine lv_iconst (v := 2) hx hb dX11_eats_143 (by decide +kernel) ?_
          refine lv_iload_n hx hb dX11_eats_144 rfl (lv_at hl 0 rfl) ?_
          refine b_if_ge hx hb rfl (tgt := 154) dX11_eats_145 (by decide +kernel) (fun c_20 => ?_) (fun c_20 => ?_)
          · refine lv_iload_n hx hb dX11_eats_154 rfl (lv_at hl 2 rfl) ?_
            refine kJv (wr := []) (va_runV (As := [.int a0, .int 2, .int r_10]) (rest := []) ⟨hx, hb, hml, hown, hT⟩ (c_X11_setPartyG2 l D cI aK aV k k0 k1 k2 k4 k5 k6 k7 k8 ka kb kl ko H.size c3 c9 cc cd ce cf cg ch ci cj ck cm cn g17_k0 a0 2 r_10 (by first | omega | (simp only [zl_2]; first | done | omega) | decide | assumption | rfl) (by first | omega | (simp only [zl_2]; first | done | omega) | decide | assumption | rfl) (by first | omega | (simp only [zl_2]; first | done | omega) | decide | assumption | rfl)) (cwV 3 hT (gV_in mw_1404 mw_1401 mw_1403 mw_p5_3 mw_12) rfl rfl rfl (by decide +kernel) ⟨Nat.le_of_ble_eq_true rfl, Nat.le_of_ble_eq_true rfl⟩) (kRecvX (q0 := 0) (ci := 11) hK hP hD hN hXS hS hA rfl rfl [0, 1] rfl (by decide +kernel)) rfl rfl hl.1 rfl (lv_room (Nat.le_of_ble_eq_true rfl)) dX11_eats_155 ⟨Nat.le_of_ble_eq_true rfl, Nat.le_of_ble_eq_true rfl⟩) hP hD hS hA [0, 1] [] rfl rfl (by decide +kernel) (by decide +kernel) ?_
            clear hP hD hS
            intro sc0_23 H locs w_22 hP hD hS
            replace hP : va_P D vwCl [(k, .inr (11, [.ref k0, .ref k1, .ref k2, .int c3, .ref k4, .ref k5, .ref k6, .ref k7, .ref k8, .int c9, .ref ka, .ref kb, .int cc, .int cd, .int ce, .int cf, .int cg, .int ch, .int ci, .int cj, .int ck, .ref kl, .int cm, .int cn, .ref ko])), (k0, .inl (cI, 1201, .inl sc0_23))] H := hP
            replace hD : va_D A [(k, .inr (11, [.ref k0, .ref k1, .ref k2, .int c3, .ref k4, .ref k5, .ref k6, .ref k7, .ref k8, .int c9, .ref ka, .ref kb, .int cc, .int cd, .int ce, .int cf, .int cg, .int ch, .int ci, .int cj, .int ck, .ref kl, .int cm, .int cn, .ref ko])), (k0, .inl (cI, 1201, .inl sc0_23))] := hD
            have h_24 := w_22
            try simp only [zl_2] at h_24
            have h_24 : sc0_23 = upd g17_k0 (459 + 9 * a0.toInt.toNat + 2) r_10 := h_24
            have h_24 : sc0_23 = upd g17_k0 (459 + 9 * a0.toInt.toNat + 2) r_10 := h_24
            have hS_25 : SIX sc0_23 a0.toInt := SIX.p i17_2 h_24 rfl (by omega) (by omega) (by decide +kernel) (by omega) (fun _ => Or.inr rfl) (fun z => by omega)
            have n_26 : (sc0_23 0).toInt = (g17_k0 0).toInt := by rw [updN h_24 (by omega)]
            have n_27 : (sc0_23 1).toInt = (g17_k0 1).toInt := by rw [updN h_24 (by omega)]
            have n_28 : (sc0_23 2).toInt = (g17_k0 2).toInt := by rw [updN h_24 (by omega)]
            refine lv_aload_n hx hb dX11_eats_158 rfl (lv_at hl 3 rfl) ?_
            refine lv_iload_n hx hb dX11_eats_159 rfl (lv_at hl 4 rfl) ?_
            refine lv_iconst (v := 5) hx hb dX11_eats_160 (by decide +kernel) ?_
            refine lv_iload_n hx hb dX11_eats_161 rfl (lv_at hl 0 rfl) ?_
            refine b_if_ge hx hb rfl (tgt := 169) dX11_eats_162 (by decide +kernel) (fun c_30 => ?_) (fun c_30 => by exfalso; omega)
            refine lv_iload_n hx hb dX11_eats_169 rfl (lv_at hl 0 rfl) ?_
            refine kJv (wr := []) (va_runV (As := [.int a0, .int 5, .int v_19]) (rest := []) ⟨hx, hb, hml, hown, hT⟩ (c_X11_setPartyG5 l D cI aK aV k k0 k1 k2 k4 k5 k6 k7 k8 ka kb kl ko H.size c3 c9 cc cd ce cf cg ch ci cj ck cm cn sc0_23 a0 5 v_19 (by first | omega | (simp only [zl_5]; first | done | omega) | decide | assumption | rfl) (by first | omega | (simp only [zl_5]; first | done | omega) | decide | assumption | rfl) (by first | omega | (simp only [zl_5]; first | done | omega) | decide | assumption | rfl)) (cwV 3 hT (gV_in mw_1404 mw_1401 mw_1403 mw_p5_3 mw_12) rfl rfl rfl (by decide +kernel) ⟨Nat.le_of_ble_eq_true rfl, Nat.le_of_ble_eq_true rfl⟩) (kRecvX (q0 := 0) (ci := 11) hK hP hD hN hXS hS hA rfl rfl [0, 1] rfl (by decide +kernel)) rfl rfl hl.1 rfl (lv_room (Nat.le_of_ble_eq_true rfl)) dX11_eats_170 ⟨Nat.le_of_ble_eq_true rfl, Nat.le_of_ble_eq_true rfl⟩) hP hD hS hA [0, 1] [] rfl rfl (by decide +kernel) (by decide +kernel) ?_
            clear hP hD hS
            intro sc0_33 H locs w_32 hP hD hS
            replace hP : va_P D vwCl [(k, .inr (11, [.ref k0, .ref k1, .ref k2, .int c3, .ref k4, .ref k5, .ref k6, .ref k7, .ref k8, .int c9, .ref ka, .ref kb, .int cc, .int cd, .int ce, .int cf, .int cg, .int ch, .int ci, .int cj, .int ck, .ref kl, .int cm, .int cn, .ref ko])), (k0, .inl (cI, 1201, .inl sc0_33))] H := hP
            replace hD : va_D A [(k, .inr (11, [.ref k0, .ref k1, .ref k2, .int c3, .ref k4, .ref k5, .ref k6, .ref k7, .ref k8, .int c9, .ref ka, .ref kb, .int cc, .int cd, .int ce, .int cf, .int cg, .int ch, .int ci, .int cj, .int ck, .ref kl, .int cm, .int cn, .ref ko])), (k0, .inl (cI, 1201, .inl sc0_33))] := hD
            have h_34 := w_32
            try simp only [zl_5] at h_34
            have h_34 : sc0_33 = upd sc0_23 (459 + 9 * a0.toInt.toNat + 5) v_19 := h_34
            have h_34 : sc0_33 = upd sc0_23 (459 + 9 * a0.toInt.toNat + 5) v_19 := h_34
            have hS_35 : SIX sc0_33 a0.toInt := SIX.p hS_25 h_34 rfl (by omega) (by omega) (by decide +kernel) (by omega) (fun z => by omega) (fun z => by omega)
            have n_36 : (sc0_33 0).toInt = (sc0_23 0).toInt := by rw [updN h_34 (by omega)]
            have n_37 : (sc0_33 1).toInt = (sc0_23 1).toInt := by rw [updN h_34 (by omega)]
            have n_38 : (sc0_33 2).toInt = (sc0_23 2).toInt := by rw [updN h_34 (by omega)]
            have n_39 : (pW sc0_33 a0 2).toInt = (pW sc0_23 a0 2).toInt := by rw [pW_upd h_34 (by decide +kernel) (by decide +kernel) (Or.inl (by decide +kernel))]
            exact hRet sc0_33 [0, 1] ⟨hS_35, (by first | omega | decide | assumption | rfl), (by first | omega | decide | assumption | rfl), (by first | omega | decide | assumption | rfl), (ref_eP (g := g17_k0) (fo := r_4) (me := r_10) (food := l17_2) (l := v_19) (x := r_10) (y := v_19) (by omega) (by omega) (by rw [show (c0 1).toInt.toNat = l17_4.toInt.toNat from by omega]; exact i17_9) (by rw [show (c0 1).toInt.toNat = l17_4.toInt.toNat from by omega]; exact i17_8) h_7 h_13 ev_19 (Or.inr ⟨by omega, rfl⟩) (Or.inr ⟨by omega, rfl⟩) h_24 h_34)⟩ hP hD (by decide +kernel) rfl hS dX11_eats_173
          · refine lv_iload_n hx hb dX11_eats_148 rfl (lv_at hl 2 rfl) ?_
            refine lv_iconst (v := 1) hx hb dX11_eats_149 (by decide +kernel) ?_
            refine lv_isub hx hb dX11_eats_150 ?_
            refine lv_topi (fun v_40 ev_40 => ?_)
            have tv_40 : v_40.toInt = r_10.toInt - 1 := by rw [ev_40]; exact k_subv rfl zl_1 (by omega) (by omega)
            refine lv_goto (tgt := 155) hx hb dX11_eats_151 (by decide +kernel) ?_
            refine kJv (wr := []) (va_runV (As := [.int a0, .int 2, .int v_40]) (rest := []) ⟨hx, hb, hml, hown, hT⟩ (c_X11_setPartyG2 l D cI aK aV k k0 k1 k2 k4 k5 k6 k7 k8 ka kb kl ko H.size c3 c9 cc cd ce cf cg ch ci cj ck cm cn g17_k0 a0 2 v_40 (by first | omega | (simp only [zl_2]; first | done | omega) | decide | assumption | rfl) (by first | omega | (simp only [zl_2]; first | done | omega) | decide | assumption | rfl) (by first | omega | (simp only [zl_2]; first | done | omega) | decide | assumption | rfl)) (cwV 3 hT (gV_in mw_1404 mw_1401 mw_1403 mw_p5_3 mw_12) rfl rfl rfl (by decide +kernel) ⟨Nat.le_of_ble_eq_true rfl, Nat.le_of_ble_eq_true rfl⟩) (kRecvX (q0 := 0) (ci := 11) hK hP hD hN hXS hS hA rfl rfl [0, 1] rfl (by decide +kernel)) rfl rfl hl.1 rfl (lv_room (Nat.le_of_ble_eq_true rfl)) dX11_eats_155 ⟨Nat.le_of_ble_eq_true rfl, Nat.le_of_ble_eq_true rfl⟩) hP hD hS hA [0, 1] [] rfl rfl (by decide +kernel) (by decide +kernel) ?_
            clear hP hD hS
            intro sc0_43 H locs w_42 hP hD hS
            replace hP : va_P D vwCl [(k, .inr (11, [.ref k0, .ref k1, .ref k2, .int c3, .ref k4, .ref k5, .ref k6, .ref k7, .ref k8, .int c9, .ref ka, .ref kb, .int cc, .int cd, .int ce, .int cf, .int cg, .int ch, .int ci, .int cj, .int ck, .ref kl, .int cm, .int cn, .ref ko])), (k0, .inl (cI, 1201, .inl sc0_43))] H := hP
            replace hD : va_D A [(k, .inr (11, [.ref k0, .ref k1, .ref k2, .int c3, .ref k4, .ref k5, .ref k6, .ref k7, .ref k8, .int c9, .ref ka, .ref kb, .int cc, .int cd, .int ce, .int cf, .int cg, .int ch, .int ci, .int cj, .int ck, .ref kl, .int cm, .int cn, .ref ko])), (k0, .inl (cI, 1201, .inl sc0_43))] := hD
            have h_44 := w_42
            try simp only [zl_2] at h_44
            have h_44 : sc0_43 = upd g17_k0 (459 + 9 * a0.toInt.toNat + 2) v_40 := h_44
            have h_44 : sc0_43 = upd g17_k0 (459 + 9 * a0.toInt.toNat + 2) v_40 := h_44
            have hS_45 : SIX sc0_43 a0.toInt := SIX.p i17_2 h_44 rfl (by omega) (by omega) (by decide +kernel) (by omega) (fun _ => Or.inr rfl) (fun z => by omega)
            have n_46 : (sc0_43 0).toInt = (g17_k0 0).toInt := by rw [updN h_44 (by omega)]
            have n_47 : (sc0_43 1).toInt = (g17_k0 1).toInt := by rw [updN h_44 (by omega)]
            have n_48 : (sc0_43 2).toInt = (g17_k0 2).toInt := by rw [updN h_44 (by omega)]
            refine lv_aload_n hx hb dX11_eats_158 rfl (lv_at hl 3 rfl) ?_
            refine lv_iload_n hx hb dX11_eats_159 rfl (lv_at hl 4 rfl) ?_
            refine lv_iconst (v := 5) hx hb dX11_eats_160 (by decide +kernel) ?_
            refine lv_iload_n hx hb dX11_eats_161 rfl (lv_at hl 0 rfl) ?_
            refine b_if_ge hx hb rfl (tgt := 169) dX11_eats_162 (by decide +kernel) (fun c_50 => by exfalso; omega) (fun c_50 => ?_)
            refine lv_iconst (v := 0) hx hb dX11_eats_165 (by decide +kernel) ?_
            refine lv_goto (tgt := 170) hx hb dX11_eats_166 (by decide +kernel) ?_
            refine kJv (wr := []) (va_runV (As := [.int a0, .int 5, .int 0]) (rest := []) ⟨hx, hb, hml, hown, hT⟩ (c_X11_setPartyG5 l D cI aK aV k k0 k1 k2 k4 k5 k6 k7 k8 ka kb kl ko H.size c3 c9 cc cd ce cf cg ch ci cj ck cm cn sc0_43 a0 5 0 (by first | omega | (simp only [zl_0, zl_5]; first | done | omega) | decide | assumption | rfl) (by first | omega | (simp only [zl_0, zl_5]; first | done | omega) | decide | assumption | rfl) (by first | omega | (simp only [zl_0, zl_5]; first | done | omega) | decide | assumption | rfl)) (cwV 3 hT (gV_in mw_1404 mw_1401 mw_1403 mw_p5_3 mw_12) rfl rfl rfl (by decide +kernel) ⟨Nat.le_of_ble_eq_true rfl, Nat.le_of_ble_eq_true rfl⟩) (kRecvX (q0 := 0) (ci := 11) hK hP hD hN hXS hS hA rfl rfl [0, 1] rfl (by decide +kernel)) rfl rfl hl.1 rfl (lv_room (Nat.le_of_ble_eq_true rfl)) dX11_eats_170 ⟨Nat.le_of_ble_eq_true rfl, Nat.le_of_ble_eq_true rfl⟩) hP hD hS hA [0, 1] [] rfl rfl (by decide +kernel) (by decide +kernel) ?_
            clear hP hD hS
            intro sc0_53 H locs w_52 hP hD hS
            replace hP : va_P D vwCl [(k, .inr (11, [.ref k0, .ref k1, .ref k2, .int c3, .ref k4, .ref k5, .ref k6, .ref k7, .ref k8, .int c9, .ref ka, .ref kb, .int cc, .int cd, .int ce, .int cf, .int cg, .int ch, .int ci, .int cj, .int ck, .ref kl, .int cm, .int cn, .ref ko])), (k0, .inl (cI, 1201, .inl sc0_53))] H := hP
            replace hD : va_D A [(k, .inr (11, [.ref k0, .ref k1, .ref k2, .int c3, .ref k4, .ref k5, .ref k6, .ref k7, .ref k8, .int c9, .ref ka, .ref kb, .int cc, .int cd, .int ce, .int cf, .int cg, .int ch, .int ci, .int cj, .int ck, .ref kl, .int cm, .int cn, .ref ko])), (k0, .inl (cI, 1201, .inl sc0_53))] := hD
            have h_54 := w_52
            try simp only [zl_0, zl_5] at h_54
            have h_54 : sc0_53 = upd sc0_43 (459 + 9 * a0.toInt.toNat + 5) 0 := h_54
            have h_54 : sc0_53 = upd sc0_43 (459 + 9 * a0.toInt.toNat + 5) 0 := h_54
            have hS_55 : SIX sc0_53 a0.toInt := SIX.p hS_45 h_54 zl_0 (by omega) (by omega) (by decide +kernel) (by omega) (fun z => by omega) (fun z => by omega)
            have n_56 : (sc0_53 0).toInt = (sc0_43 0).toInt := by rw [updN h_54 (by omega)]
            have n_57 : (sc0_53 1).toInt = (sc0_43 1).toInt := by rw [updN h_54 (by omega)]
            have n_58 : (sc0_53 2).toInt = (sc0_43 2).toInt := by rw [updN h_54 (by omega)]
            have n_59 : (pW sc0_53 a0 2).toInt = (pW sc0_43 a0 2).toInt := by rw [pW_upd h_54 (by decide +kernel) (by decide +kernel) (Or.inl (by decide +kernel))]
            exact hRet sc0_53 [0, 1] ⟨hS_55, (by first | omega | decide | assumption | rfl), (by first | omega | decide | assumption | rfl), (by first | omega | decide | assumption | rfl), (ref_eP (g := g17_k0) (fo := r_4) (me := r_10) (food := l17_2) (l := v_19) (x := v_40) (y := 0) (by omega) (by omega) (by rw [show (c0 1).toInt.toNat = l17_4.toInt.toNat from by omega]; exact i17_9) (by rw [show (c0 1).toInt.toNat = l17_4.toInt.toNat from by omega]; exact i17_8) h_7 h_13 ev_19 (Or.inl ⟨by omega, ev_40⟩) (Or.inl ⟨by omega, rfl⟩) h_44 h_54)⟩ hP hD (by decide +kernel) rfl hS dX11_eats_173
        · refine lv_aload_n hx hb dX11_eats_28 rfl (lv_at hl 3 rfl) ?_
          refine lv_iload hx hb dX11_eats_29 (lv_at hl 0 rfl) ?_
          refine lv_iconst (v := 1) hx hb dX11_eats_31 (by decide +kernel) ?_
          refine kJi (wr := []) (va_runV (As := [.int l17_4, .int 1]) (rest := []) ⟨hx, hb, hml, hown, hT⟩ (c_X11_workG1 l D cI aK aV k k0 k1 k2 k4 k5 k6 k7 k8 ka kb kl ko H.size c3 c9 cc cd ce cf cg ch ci cj ck cm cn g17_k0 l17_4 1 (by first | omega | (simp only [zl_1]; first | done | omega) | decide | assumption | rfl) (by first | omega | (simp only [zl_1]; first | done | omega) | decide | assumption | rfl) (by first | omega | (simp only [zl_1]; first | done | omega) | decide | assumption | rfl)) (cwV 2 hT (gV_in mw_1276 mw_1273 mw_1275 mw_p3_12 mw_12) rfl rfl rfl (by decide +kernel) ⟨Nat.le_of_ble_eq_true rfl, Nat.le_of_ble_eq_true rfl⟩) (kRecvX (q0 := 0) (ci := 11) hK hP hD hN hXS hS hA rfl rfl [0, 1] rfl (by decide +kernel)) rfl rfl hl.1 rfl (lv_room (Nat.le_of_ble_eq_true rfl)) dX11_eats_32 ⟨Nat.le_of_ble_eq_true rfl, Nat.le_of_ble_eq_true rfl⟩) hP hD hS hA [0, 1] [] rfl rfl (by decide +kernel) (by decide +kernel) ?_
          clear hP hD hS
          intro r_60 u_62 H locs w_61 hP hD hS
          replace hP : va_P D vwCl [(k, .inr (11, [.ref k0, .ref k1, .ref k2, .int c3, .ref k4, .ref k5, .ref k6, .ref k7, .ref k8, .int c9, .ref ka, .ref kb, .int cc, .int cd, .int ce, .int cf, .int cg, .int ch, .int ci, .int cj, .int ck, .ref kl, .int cm, .int cn, .ref ko])), (k0, .inl (cI, 1201, .inl g17_k0))] H := hP
          replace hD : va_D A [(k, .inr (11, [.ref k0, .ref k1, .ref k2, .int c3, .ref k4, .ref k5, .ref k6, .ref k7, .ref k8, .int c9, .ref ka, .ref kb, .int cc, .int cd, .int ce, .int cf, .int cg, .int ch, .int ci, .int cj, .int ck, .ref kl, .int cm, .int cn, .ref ko])), (k0, .inl (cI, 1201, .inl g17_k0))] := hD
          have h_63 := w_61
          have h_63 : r_60 = wW g17_k0 l17_4 1 := h_63
          have t_64 : r_60.toInt = (wW g17_k0 l17_4 1).toInt := by rw [h_63]
          have b_65 : 0 ≤ r_60.toInt ∧ r_60.toInt ≤ 39 := by rw [h_63]; exact SB.w1 (And.left i17_2) (by omega) (by omega)
          have lo_r_60 := k_lo r_60
          have hi_r_60 := k_hi r_60
          refine lv_aload_n hx hb dX11_eats_35 rfl (lv_at hl 3 rfl) ?_
          refine lv_iload_n hx hb dX11_eats_36 rfl (lv_at hl 4 rfl) ?_
          refine lv_iconst (v := 0) hx hb dX11_eats_37 (by decide +kernel) ?_
          refine kJi (wr := []) (va_runV (As := [.int a0, .int 0]) (rest := [.int r_60]) ⟨hx, hb, hml, hown, hT⟩ (c_X11_partyG0 l D cI aK aV k k0 k1 k2 k4 k5 k6 k7 k8 ka kb kl ko H.size c3 c9 cc cd ce cf cg ch ci cj ck cm cn g17_k0 a0 0 (by first | omega | (simp only [zl_0]; first | done | omega) | decide | assumption | rfl) (by first | omega | (simp only [zl_0]; first | done | omega) | decide | assumption | rfl) (by first | omega | (simp only [zl_0]; first | done | omega) | decide | assumption | rfl)) (cwV 2 hT (gV_in mw_1416 mw_1413 mw_1415 mw_p5_5 mw_12) rfl rfl rfl (by decide +kernel) ⟨Nat.le_of_ble_eq_true rfl, Nat.le_of_ble_eq_true rfl⟩) (kRecvX (q0 := 0) (ci := 11) hK hP hD hN hXS hS hA rfl rfl [0, 1] rfl (by decide +kernel)) rfl rfl hl.1 rfl (lv_room (Nat.le_of_ble_eq_true rfl)) dX11_eats_38 ⟨Nat.le_of_ble_eq_true rfl, Nat.le_of_ble_eq_true rfl⟩) hP hD hS hA [0, 1] [] rfl rfl (by decide +kernel) (by decide +kernel) ?_
          clear hP hD hS
          intro r_66 u_68 H locs w_67 hP hD hS
          replace hP : va_P D vwCl [(k, .inr (11, [.ref k0, .ref k1, .ref k2, .int c3, .ref k4, .ref k5, .ref k6, .ref k7, .ref k8, .int c9, .ref ka, .ref kb, .int cc, .int cd, .int ce, .int cf, .int cg, .int ch, .int ci, .int cj, .int ck, .ref kl, .int cm, .int cn, .ref ko])), (k0, .inl (cI, 1201, .inl g17_k0))] H := hP
          replace hD : va_D A [(k, .inr (11, [.ref k0, .ref k1, .ref k2, .int c3, .ref k4, .ref k5, .ref k6, .ref k7, .ref k8, .int c9, .ref ka, .ref kb, .int cc, .int cd, .int ce, .int cf, .int cg, .int ch, .int ci, .int cj, .int ck, .ref kl, .int cm, .int cn, .ref ko])), (k0, .inl (cI, 1201, .inl g17_k0))] := hD
          have h_69 := w_67
          have h_69 : r_66 = pW g17_k0 a0 0 := h_69
          have t_70 : r_66.toInt = (pW g17_k0 a0 0).toInt := by rw [h_69]
          have b_71 : 0 ≤ r_66.toInt ∧ r_66.toInt ≤ 39 := by rw [h_69]; exact SB.p0 (And.left i17_2) (by omega) (by omega)
          have lo_r_66 := k_lo r_66
          have hi_r_66 := k_hi r_66
          refine b_icmp_ne hx hb rfl rfl (tgt := 58) dX11_eats_41 (by decide +kernel) (fun c_72 => ?_) (fun c_72 => ?_)
          · refine lv_iconst (v := 0) hx hb dX11_eats_58 (by decide +kernel) ?_
            refine lv_istore (lv' := [(5, .int 0), (4, .int l17_4), (3, .int r_10), (2, .int l17_2), (0, .ref k), (1, .int a0)]) hx hb dX11_eats_59 hl (by decide +kernel) rfl ?_
            clear hl
            intro ls hl
            refine lv_bipush (v := 20) hx hb dX11_eats_61 (by decide +kernel) ?_
            refine lv_iload_n hx hb dX11_eats_63 rfl (lv_at hl 2 rfl) ?_
            refine lv_imul hx hb dX11_eats_64 ?_
            refine lv_topi (fun v_73 ev_73 => ?_)
            have tv_73 : v_73.toInt = 20 * r_10.toInt := by rw [ev_73]; exact k_mulv zl_20 rfl (by omega) (by omega)
            refine lv_iload_n hx hb dX11_eats_65 rfl (lv_at hl 3 rfl) ?_
            refine lv_isub hx hb dX11_eats_66 ?_
            refine lv_topi (fun v_74 ev_74 => ?_)
            have tv_74 : v_74.toInt = v_73.toInt - l17_2.toInt := by rw [ev_74]; exact k_subv rfl rfl (by omega) (by omega)
            refine lv_istore (lv' := [(6, .int v_74), (5, .int 0), (4, .int l17_4), (3, .int r_10), (2, .int l17_2), (0, .ref k), (1, .int a0)]) hx hb dX11_eats_67 hl (by decide +kernel) rfl ?_
            clear hl
            intro ls hl
            refine lv_iload hx hb dX11_eats_69 (lv_at hl 1 rfl) ?_
            refine b_if_eq hx hb zl_0 (tgt := 79) dX11_eats_71 (by decide +kernel) (fun c_75 => ?_) (fun c_75 => by exfalso; omega)
            refine lv_iconst (v := 0) hx hb dX11_eats_79 (by decide +kernel) ?_
            refine lv_goto (tgt := 107) hx hb dX11_eats_80 (by decide +kernel) ?_
            refine lv_istore (lv' := [(7, .int 0), (6, .int v_74), (5, .int 0), (4, .int l17_4), (3, .int r_10), (2, .int l17_2), (0, .ref k), (1, .int a0)]) hx hb dX11_eats_107 hl (by decide +kernel) rfl ?_
            clear hl
            intro ls hl
            refine lv_iload_n hx hb dX11_eats_109 rfl (lv_at hl 5 rfl) ?_
            refine lv_iload hx hb dX11_eats_110 (lv_at hl 0 rfl) ?_
            refine lv_iadd hx hb dX11_eats_112 ?_
            refine lv_topi (fun v_76 ev_76 => ?_)
            have tv_76 : v_76.toInt = l17_2.toInt + 0 := by rw [ev_76]; exact k_addv rfl zl_0 (by omega) (by omega)
            refine lv_istore_n (lv' := [(2, .int v_76), (7, .int 0), (6, .int v_74), (5, .int 0), (4, .int l17_4), (3, .int r_10), (0, .ref k), (1, .int a0)]) hx hb dX11_eats_113 rfl hl (by decide +kernel) rfl ?_
            clear hl
            intro ls hl
            refine lv_aload_n hx hb dX11_eats_114 rfl (lv_at hl 6 rfl) ?_
            refine lv_iload hx hb dX11_eats_115 (lv_at hl 4 rfl) ?_
            refine lv_iconst (v := 5) hx hb dX11_eats_117 (by decide +kernel) ?_
            refine lv_aload_n hx hb dX11_eats_118 rfl (lv_at hl 6 rfl) ?_
            refine lv_iload hx hb dX11_eats_119 (lv_at hl 4 rfl) ?_
            refine lv_iconst (v := 5) hx hb dX11_eats_121 (by decide +kernel) ?_
            refine kJi (wr := []) (va_runV (As := [.int l17_4, .int 5]) (rest := [.int 5, .int l17_4, .ref k]) ⟨hx, hb, hml, hown, hT⟩ (c_X11_workG5 l D cI aK aV k k0 k1 k2 k4 k5 k6 k7 k8 ka kb kl ko H.size c3 c9 cc cd ce cf cg ch ci cj ck cm cn g17_k0 l17_4 5 (by first | omega | (simp only [zl_5]; first | done | omega) | decide | assumption | rfl) (by first | omega | (simp only [zl_5]; first | done | omega) | decide | assumption | rfl) (by first | omega | (simp only [zl_5]; first | done | omega) | decide | assumption | rfl)) (cwV 2 hT (gV_in mw_1276 mw_1273 mw_1275 mw_p3_12 mw_12) rfl rfl rfl (by decide +kernel) ⟨Nat.le_of_ble_eq_true rfl, Nat.le_of_ble_eq_true rfl⟩) (kRecvX (q0 := 0) (ci := 11) hK hP hD hN hXS hS hA rfl rfl [0, 1] rfl (by decide +kernel)) rfl rfl hl.1 rfl (lv_room (Nat.le_of_ble_eq_true rfl)) dX11_eats_122 ⟨Nat.le_of_ble_eq_true rfl, Nat.le_of_ble_eq_true rfl⟩) hP hD hS hA [0, 1] [] rfl rfl (by decide +kernel) (by decide +kernel) ?_
            clear hP hD hS
            intro r_77 u_79 H locs w_78 hP hD hS
            replace hP : va_P D vwCl [(k, .inr (11, [.ref k0, .ref k1, .ref k2, .int c3, .ref k4, .ref k5, .ref k6, .ref k7, .ref k8, .int c9, .ref ka, .ref kb, .int cc, .int cd, .int ce, .int cf, .int cg, .int ch, .int ci, .int cj, .int ck, .ref kl, .int cm, .int cn, .ref ko])), (k0, .inl (cI, 1201, .inl g17_k0))] H := hP
            replace hD : va_D A [(k, .inr (11, [.ref k0, .ref k1, .ref k2, .int c3, .ref k4, .ref k5, .ref k6, .ref k7, .ref k8, .int c9, .ref ka, .ref kb, .int cc, .int cd, .int ce, .int cf, .int cg, .int ch, .int ci, .int cj, .int ck, .ref kl, .int cm, .int cn, .ref ko])), (k0, .inl (cI, 1201, .inl g17_k0))] := hD
            have h_80 := w_78
            have h_80 : r_77 = wW g17_k0 l17_4 5 := h_80
            have t_81 : r_77.toInt = (wW g17_k0 l17_4 5).toInt := by rw [h_80]
            have b_82 : 0 ≤ r_77.toInt ∧ r_77.toInt ≤ 9999 := by rw [h_80]; exact SB.w5 (And.left i17_2) (by omega) (by omega)
            have lo_r_77 := k_lo r_77
            have hi_r_77 := k_hi r_77
            refine lv_iload hx hb dX11_eats_125 (lv_at hl 1 rfl) ?_
            refine lv_isub hx hb dX11_eats_127 ?_
            refine lv_topi (fun v_83 ev_83 => ?_)
            have tv_83 : v_83.toInt = r_77.toInt - 0 := by rw [ev_83]; exact k_subv rfl zl_0 (by omega) (by omega)
            refine kJv (wr := []) (va_runV (As := [.int l17_4, .int 5, .int v_83]) (rest := []) ⟨hx, hb, hml, hown, hT⟩ (c_X11_setWorkG5 l D cI aK aV k k0 k1 k2 k4 k5 k6 k7 k8 ka kb kl ko H.size c3 c9 cc cd ce cf cg ch ci cj ck cm cn g17_k0 l17_4 5 v_83 (by first | omega | (simp only [zl_5]; first | done | omega) | decide | assumption | rfl) (by first | omega | (simp only [zl_5]; first | done | omega) | decide | assumption | rfl) (by first | omega | (simp only [zl_5]; first | done | omega) | decide | assumption | rfl)) (cwV 3 hT (gV_in mw_1264 mw_1261 mw_1263 mw_p3_10 mw_12) rfl rfl rfl (by decide +kernel) ⟨Nat.le_of_ble_eq_true rfl, Nat.le_of_ble_eq_true rfl⟩) (kRecvX (q0 := 0) (ci := 11) hK hP hD hN hXS hS hA rfl rfl [0, 1] rfl (by decide +kernel)) rfl rfl hl.1 rfl (lv_room (Nat.le_of_ble_eq_true rfl)) dX11_eats_128 ⟨Nat.le_of_ble_eq_true rfl, Nat.le_of_ble_eq_true rfl⟩) hP hD hS hA [0, 1] [] rfl rfl (by decide +kernel) (by decide +kernel) ?_
            clear hP hD hS
            intro sc0_86 H locs w_85 hP hD hS
            replace hP : va_P D vwCl [(k, .inr (11, [.ref k0, .ref k1, .ref k2, .int c3, .ref k4, .ref k5, .ref k6, .ref k7, .ref k8, .int c9, .ref ka, .ref kb, .int cc, .int cd, .int ce, .int cf, .int cg, .int ch, .int ci, .int cj, .int ck, .ref kl, .int cm, .int cn, .ref ko])), (k0, .inl (cI, 1201, .inl sc0_86))] H := hP
            replace hD : va_D A [(k, .inr (11, [.ref k0, .ref k1, .ref k2, .int c3, .ref k4, .ref k5, .ref k6, .ref k7, .ref k8, .int c9, .ref ka, .ref kb, .int cc, .int cd, .int ce, .int cf, .int cg, .int ch, .int ci, .int cj, .int ck, .ref kl, .int cm, .int cn, .ref ko])), (k0, .inl (cI, 1201, .inl sc0_86))] := hD
            have h_87 := w_85
            try simp only [zl_5] at h_87
            have h_87 : sc0_86 = upd g17_k0 (99 + 6 * l17_4.toInt.toNat + 5) v_83 := h_87
            have h_87 : sc0_86 = upd g17_k0 (99 + 6 * l17_4.toInt.toNat + 5) v_83 := h_87
            have hS_88 : SIX sc0_86 a0.toInt := SIX.w i17_2 h_87 rfl (by omega) (by decide +kernel) (by omega)
            have n_89 : (sc0_86 0).toInt = (g17_k0 0).toInt := by rw [updN h_87 (by omega)]
            have n_90 : (sc0_86 1).toInt = (g17_k0 1).toInt := by rw [updN h_87 (by omega)]
            have n_91 : (sc0_86 2).toInt = (g17_k0 2).toInt := by rw [updN h_87 (by omega)]
            obtain ⟨v_92, ev_92⟩ : ∃ y : Int32, y = l17_4 + 1 := ⟨_, rfl⟩
            have tv_92 : v_92.toInt = l17_4.toInt + 1 := by rw [ev_92]; exact k_addv rfl zl_1 (by omega) (by omega)
            refine lv_iinc (v := v_92) (lv' := [(4, .int v_92), (2, .int v_76), (7, .int 0), (6, .int v_74), (5, .int 0), (3, .int r_10), (0, .ref k), (1, .int a0)]) hx hb dX11_eats_131 hl (k := 4) rfl (by rw [ev_92]; rfl) (by decide +kernel) rfl ?_
            clear hl
            intro ls hl
            refine lv_goto (tgt := 17) hx hb dX11_eats_134 (by decide +kernel) ?_
            exact ih17 v_76 v_92 sc0_86 (by first | omega | decide | assumption | rfl) (by first | omega | decide | assumption | rfl) hS_88 (by first | omega | decide | assumption | rfl) (by first | omega | decide | assumption | rfl) (by first | omega | decide | assumption | rfl) (by first | omega | decide | assumption | rfl) (by first | omega | decide | assumption | rfl) (ref_es (a := v_73) (food := l17_2) (n := 0) (room := v_74) (x := v_83) (fd := r_77) (mi := r_60) (pm := r_66) ⟨by omega, by omega⟩ (by omega) i17_9 i17_8 h_7 h_13 ev_73 ev_74 h_80 h_69 h_63 (by omega) (by omega) (Or.inr ⟨Or.inl (by omega), rfl⟩) ev_76 ev_83 h_87).1 (ref_es (a := v_73) (food := l17_2) (n := 0) (room := v_74) (x := v_83) (fd := r_77) (mi := r_60) (pm := r_66) ⟨by omega, by omega⟩ (by omega) i17_9 i17_8 h_7 h_13 ev_73 ev_74 h_80 h_69 h_63 (by omega) (by omega) (Or.inr ⟨Or.inl (by omega), rfl⟩) ev_76 ev_83 h_87).2 (by first | omega | decide | assumption | rfl) (by first | omega | decide | assumption | rfl) (by omega) ls _ _ (lv_sub hl [0, 5, 1, 6, 7] rfl) (hP.sub [0, 1] rfl) (hD.sub [0, 1] (by decide +kernel) rfl) hS
          · refine lv_aload_n hx hb dX11_eats_44 rfl (lv_at hl 3 rfl) ?_
            refine lv_iload hx hb dX11_eats_45 (lv_at hl 0 rfl) ?_
            refine lv_iconst (v := 5) hx hb dX11_eats_47 (by decide +kernel) ?_
            refine kJi (wr := []) (va_runV (As := [.int l17_4, .int 5]) (rest := []) ⟨hx, hb, hml, hown, hT⟩ (c_X11_standsG l D cI aK aV k k0 k1 k2 k4 k5 k6 k7 k8 ka kb kl ko H.size c3 c9 cc cd ce cf cg ch ci cj ck cm cn g17_k0 l17_4 5 (by first | omega | (simp only [zl_5]; first | done | omega) | decide | assumption | rfl) (by first | omega | (simp only [zl_5]; first | done | omega) | decide | assumption | rfl) (And.left i17_2)) (cwV 2 hT (gV_in mw_1295 mw_1292 mw_1294 mw_p3_14 mw_12) rfl rfl rfl (by decide +kernel) ⟨Nat.le_of_ble_eq_true rfl, Nat.le_of_ble_eq_true rfl⟩) (kRecvX (q0 := 0) (ci := 11) hK hP hD hN hXS hS hA rfl rfl [0, 1] rfl (by decide +kernel)) rfl rfl hl.1 rfl (lv_room (Nat.le_of_ble_eq_true rfl)) dX11_eats_48 ⟨Nat.le_of_ble_eq_true rfl, Nat.le_of_ble_eq_true rfl⟩) hP hD hS hA [0, 1] [] rfl rfl (by decide +kernel) (by decide +kernel) ?_
            clear hP hD hS
            intro r_93 u_95 H locs w_94 hP hD hS
            replace hP : va_P D vwCl [(k, .inr (11, [.ref k0, .ref k1, .ref k2, .int c3, .ref k4, .ref k5, .ref k6, .ref k7, .ref k8, .int c9, .ref ka, .ref kb, .int cc, .int cd, .int ce, .int cf, .int cg, .int ch, .int ci, .int cj, .int ck, .ref kl, .int cm, .int cn, .ref ko])), (k0, .inl (cI, 1201, .inl g17_k0))] H := hP
            replace hD : va_D A [(k, .inr (11, [.ref k0, .ref k1, .ref k2, .int c3, .ref k4, .ref k5, .ref k6, .ref k7, .ref k8, .int c9, .ref ka, .ref kb, .int cc, .int cd, .int ce, .int cf, .int cg, .int ch, .int ci, .int cj, .int ck, .ref kl, .int cm, .int cn, .ref ko])), (k0, .inl (cI, 1201, .inl g17_k0))] := hD
            rcases w_94 with ⟨hr_93, h_96⟩ | ⟨hr_93, h_97⟩
            · try simp only [zl_5] at h_96
              have h_96 : stF g17_k0 l17_4 5 = 1 := h_96
              obtain rfl : r_93 = 1 := hr_93.trans (by decide +kernel)
              refine b_if_eq hx hb zl_1 (tgt := 58) dX11_eats_51 (by decide +kernel) (fun c_98 => by exfalso; omega) (fun c_98 => ?_)
              refine lv_iconst (v := 1) hx hb dX11_eats_54 (by decide +kernel) ?_
              refine lv_goto (tgt := 59) hx hb dX11_eats_55 (by decide +kernel) ?_
              refine lv_istore (lv' := [(5, .int 1), (4, .int l17_4), (3, .int r_10), (2, .int l17_2), (0, .ref k), (1, .int a0)]) hx hb dX11_eats_59 hl (by decide +kernel) rfl ?_
              clear hl
              intro ls hl
              refine lv_bipush (v := 20) hx hb dX11_eats_61 (by decide +kernel) ?_
              refine lv_iload_n hx hb dX11_eats_63 rfl (lv_at hl 2 rfl) ?_
              refine lv_imul hx hb dX11_eats_64 ?_
              refine lv_topi (fun v_99 ev_99 => ?_)
              have tv_99 : v_99.toInt = 20 * r_10.toInt := by rw [ev_99]; exact k_mulv zl_20 rfl (by omega) (by omega)
              refine lv_iload_n hx hb dX11_eats_65 rfl (lv_at hl 3 rfl) ?_
              refine lv_isub hx hb dX11_eats_66 ?_
              refine lv_topi (fun v_100 ev_100 => ?_)
              have tv_100 : v_100.toInt = v_99.toInt - l17_2.toInt := by rw [ev_100]; exact k_subv rfl rfl (by omega) (by omega)
              refine lv_istore (lv' := [(6, .int v_100), (5, .int 1), (4, .int l17_4), (3, .int r_10), (2, .int l17_2), (0, .ref k), (1, .int a0)]) hx hb dX11_eats_67 hl (by decide +kernel) rfl ?_
              clear hl
              intro ls hl
              refine lv_iload hx hb dX11_eats_69 (lv_at hl 1 rfl) ?_
              refine b_if_eq hx hb zl_1 (tgt := 79) dX11_eats_71 (by decide +kernel) (fun c_101 => by exfalso; omega) (fun c_101 => ?_)
              refine lv_iload hx hb dX11_eats_74 (lv_at hl 0 rfl) ?_
              refine b_if_ge hx hb rfl (tgt := 83) dX11_eats_76 (by decide +kernel) (fun c_102 => ?_) (fun c_102 => ?_)
              · refine lv_iload hx hb dX11_eats_83 (lv_at hl 0 rfl) ?_
                refine lv_aload_n hx hb dX11_eats_85 rfl (lv_at hl 5 rfl) ?_
                refine lv_iload hx hb dX11_eats_86 (lv_at hl 2 rfl) ?_
                refine lv_iconst (v := 5) hx hb dX11_eats_88 (by decide +kernel) ?_
                refine kJi (wr := []) (va_runV (As := [.int l17_4, .int 5]) (rest := [.int v_100]) ⟨hx, hb, hml, hown, hT⟩ (c_X11_workG5 l D cI aK aV k k0 k1 k2 k4 k5 k6 k7 k8 ka kb kl ko H.size c3 c9 cc cd ce cf cg ch ci cj ck cm cn g17_k0 l17_4 5 (by first | omega | (simp only [zl_5]; first | done | omega) | decide | assumption | rfl) (by first | omega | (simp only [zl_5]; first | done | omega) | decide | assumption | rfl) (by first | omega | (simp only [zl_5]; first | done | omega) | decide | assumption | rfl)) (cwV 2 hT (gV_in mw_1276 mw_1273 mw_1275 mw_p3_12 mw_12) rfl rfl rfl (by decide +kernel) ⟨Nat.le_of_ble_eq_true rfl, Nat.le_of_ble_eq_true rfl⟩) (kRecvX (q0 := 0) (ci := 11) hK hP hD hN hXS hS hA rfl rfl [0, 1] rfl (by decide +kernel)) rfl rfl hl.1 rfl (lv_room (Nat.le_of_ble_eq_true rfl)) dX11_eats_89 ⟨Nat.le_of_ble_eq_true rfl, Nat.le_of_ble_eq_true rfl⟩) hP hD hS hA [0, 1] [] rfl rfl (by decide +kernel) (by decide +kernel) ?_
                clear hP hD hS
                intro r_103 u_105 H locs w_104 hP hD hS
                replace hP : va_P D vwCl [(k, .inr (11, [.ref k0, .ref k1, .ref k2, .int c3, .ref k4, .ref k5, .ref k6, .ref k7, .ref k8, .int c9, .ref ka, .ref kb, .int cc, .int cd, .int ce, .int cf, .int cg, .int ch, .int ci, .int cj, .int ck, .ref kl, .int cm, .int cn, .ref ko])), (k0, .inl (cI, 1201, .inl g17_k0))] H := hP
                replace hD : va_D A [(k, .inr (11, [.ref k0, .ref k1, .ref k2, .int c3, .ref k4, .ref k5, .ref k6, .ref k7, .ref k8, .int c9, .ref ka, .ref kb, .int cc, .int cd, .int ce, .int cf, .int cg, .int ch, .int ci, .int cj, .int ck, .ref kl, .int cm, .int cn, .ref ko])), (k0, .inl (cI, 1201, .inl g17_k0))] := hD
                have h_106 := w_104
                have h_106 : r_103 = wW g17_k0 l17_4 5 := h_106
                have t_107 : r_103.toInt = (wW g17_k0 l17_4 5).toInt := by rw [h_106]
                have b_108 : 0 ≤ r_103.toInt ∧ r_103.toInt ≤ 9999 := by rw [h_106]; exact SB.w5 (And.left i17_2) (by omega) (by omega)
                have lo_r_103 := k_lo r_103
                have hi_r_103 := k_hi r_103
                refine b_icmp_ge hx hb rfl rfl (tgt := 100) dX11_eats_92 (by decide +kernel) (fun c_109 => ?_) (fun c_109 => ?_)
                · refine lv_aload_n hx hb dX11_eats_100 rfl (lv_at hl 5 rfl) ?_
                  refine lv_iload hx hb dX11_eats_101 (lv_at hl 2 rfl) ?_
                  refine lv_iconst (v := 5) hx hb dX11_eats_103 (by decide +kernel) ?_
                  refine kJi (wr := []) (va_runV (As := [.int l17_4, .int 5]) (rest := []) ⟨hx, hb, hml, hown, hT⟩ (c_X11_workG5 l D cI aK aV k k0 k1 k2 k4 k5 k6 k7 k8 ka kb kl ko H.size c3 c9 cc cd ce cf cg ch ci cj ck cm cn g17_k0 l17_4 5 (by first | omega | (simp only [zl_5]; first | done | omega) | decide | assumption | rfl) (by first | omega | (simp only [zl_5]; first | done | omega) | decide | assumption | rfl) (by first | omega | (simp only [zl_5]; first | done | omega) | decide | assumption | rfl)) (cwV 2 hT (gV_in mw_1276 mw_1273 mw_1275 mw_p3_12 mw_12) rfl rfl rfl (by decide +kernel) ⟨Nat.le_of_ble_eq_true rfl, Nat.le_of_ble_eq_true rfl⟩) (kRecvX (q0 := 0) (ci := 11) hK hP hD hN hXS hS hA rfl rfl [0, 1] rfl (by decide +kernel)) rfl rfl hl.1 rfl (lv_room (Nat.le_of_ble_eq_true rfl)) dX11_eats_104 ⟨Nat.le_of_ble_eq_true rfl, Nat.le_of_ble_eq_true rfl⟩) hP hD hS hA [0, 1] [] rfl rfl (by decide +kernel) (by decide +kernel) ?_
                  clear hP hD hS
                  intro r_110 u_112 H locs w_111 hP hD hS
                  replace hP : va_P D vwCl [(k, .inr (11, [.ref k0, .ref k1, .ref k2, .int c3, .ref k4, .ref k5, .ref k6, .ref k7, .ref k8, .int c9, .ref ka, .ref kb, .int cc, .int cd, .int ce, .int cf, .int cg, .int ch, .int ci, .int cj, .int ck, .ref kl, .int cm, .int cn, .ref ko])), (k0, .inl (cI, 1201, .inl g17_k0))] H := hP
                  replace hD : va_D A [(k, .inr (11, [.ref k0, .ref k1, .ref k2, .int c3, .ref k4, .ref k5, .ref k6, .ref k7, .ref k8, .int c9, .ref ka, .ref kb, .int cc, .int cd, .int ce, .int cf, .int cg, .int ch, .int ci, .int cj, .int ck, .ref kl, .int cm, .int cn, .ref ko])), (k0, .inl (cI, 1201, .inl g17_k0))] := hD
                  have h_113 := w_111
                  have h_113 : r_110 = wW g17_k0 l17_4 5 := h_113
                  have t_114 : r_110.toInt = (wW g17_k0 l17_4 5).toInt := by rw [h_113]
                  have b_115 : 0 ≤ r_110.toInt ∧ r_110.toInt ≤ 9999 := by rw [h_113]; exact SB.w5 (And.left i17_2) (by omega) (by omega)
                  have lo_r_110 := k_lo r_110
                  have hi_r_110 := k_hi r_110
                  refine lv_istore (lv' := [(7, .int r_110), (6, .int v_100), (5, .int 1), (4, .int l17_4), (3, .int r_10), (2, .int l17_2), (0, .ref k), (1, .int a0)]) hx hb dX11_eats_107 hl (by decide +kernel) rfl ?_
                  clear hl
                  intro ls hl
                  refine lv_iload_n hx hb dX11_eats_109 rfl (lv_at hl 5 rfl) ?_
                  refine lv_iload hx hb dX11_eats_110 (lv_at hl 0 rfl) ?_
                  refine lv_iadd hx hb dX11_eats_112 ?_
                  refine lv_topi (fun v_116 ev_116 => ?_)
                  have tv_116 : v_116.toInt = l17_2.toInt + r_110.toInt := by rw [ev_116]; exact k_addv rfl rfl (by omega) (by omega)
                  refine lv_istore_n (lv' := [(2, .int v_116), (7, .int r_110), (6, .int v_100), (5, .int 1), (4, .int l17_4), (3, .int r_10), (0, .ref k), (1, .int a0)]) hx hb dX11_eats_113 rfl hl (by decide +kernel) rfl ?_
                  clear hl
                  intro ls hl
                  refine lv_aload_n hx hb dX11_eats_114 rfl (lv_at hl 6 rfl) ?_
                  refine lv_iload hx hb dX11_eats_115 (lv_at hl 4 rfl) ?_
                  refine lv_iconst (v := 5) hx hb dX11_eats_117 (by decide +kernel) ?_
                  refine lv_aload_n hx hb dX11_eats_118 rfl (lv_at hl 6 rfl) ?_
                  refine lv_iload hx hb dX11_eats_119 (lv_at hl 4 rfl) ?_
                  refine lv_iconst (v := 5) hx hb dX11_eats_121 (by decide +kernel) ?_
                  refine kJi (wr := []) (va_runV (As := [.int l17_4, .int 5]) (rest := [.int 5, .int l17_4, .ref k]) ⟨hx, hb, hml, hown, hT⟩ (c_X11_workG5 l D cI aK aV k k0 k1 k2 k4 k5 k6 k7 k8 ka kb kl ko H.size c3 c9 cc cd ce cf cg ch ci cj ck cm cn g17_k0 l17_4 5 (by first | omega | (simp only [zl_5]; first | done | omega) | decide | assumption | rfl) (by first | omega | (simp only [zl_5]; first | done | omega) | decide | assumption | rfl) (by first | omega | (simp only [zl_5]; first | done | omega) | decide | assumption | rfl)) (cwV 2 hT (gV_in mw_1276 mw_1273 mw_1275 mw_p3_12 mw_12) rfl rfl rfl (by decide +kernel) ⟨Nat.le_of_ble_eq_true rfl, Nat.le_of_ble_eq_true rfl⟩) (kRecvX (q0 := 0) (ci := 11) hK hP hD hN hXS hS hA rfl rfl [0, 1] rfl (by decide +kernel)) rfl rfl hl.1 rfl (lv_room (Nat.le_of_ble_eq_true rfl)) dX11_eats_122 ⟨Nat.le_of_ble_eq_true rfl, Nat.le_of_ble_eq_true rfl⟩) hP hD hS hA [0, 1] [] rfl rfl (by decide +kernel) (by decide +kernel) ?_
                  clear hP hD hS
                  intro r_117 u_119 H locs w_118 hP hD hS
                  replace hP : va_P D vwCl [(k, .inr (11, [.ref k0, .ref k1, .ref k2, .int c3, .ref k4, .ref k5, .ref k6, .ref k7, .ref k8, .int c9, .ref ka, .ref kb, .int cc, .int cd, .int ce, .int cf, .int cg, .int ch, .int ci, .int cj, .int ck, .ref kl, .int cm, .int cn, .ref ko])), (k0, .inl (cI, 1201, .inl g17_k0))] H := hP
                  replace hD : va_D A [(k, .inr (11, [.ref k0, .ref k1, .ref k2, .int c3, .ref k4, .ref k5, .ref k6, .ref k7, .ref k8, .int c9, .ref ka, .ref kb, .int cc, .int cd, .int ce, .int cf, .int cg, .int ch, .int ci, .int cj, .int ck, .ref kl, .int cm, .int cn, .ref ko])), (k0, .inl (cI, 1201, .inl g17_k0))] := hD
                  have h_120 := w_118
                  have h_120 : r_117 = wW g17_k0 l17_4 5 := h_120
                  have t_121 : r_117.toInt = (wW g17_k0 l17_4 5).toInt := by rw [h_120]
                  have b_122 : 0 ≤ r_117.toInt ∧ r_117.toInt ≤ 9999 := by rw [h_120]; exact SB.w5 (And.left i17_2) (by omega) (by omega)
                  have lo_r_117 := k_lo r_117
                  have hi_r_117 := k_hi r_117
                  refine lv_iload hx hb dX11_eats_125 (lv_at hl 1 rfl) ?_
                  refine lv_isub hx hb dX11_eats_127 ?_
                  refine lv_topi (fun v_123 ev_123 => ?_)
                  have tv_123 : v_123.toInt = r_117.toInt - r_110.toInt := by rw [ev_123]; exact k_subv rfl rfl (by omega) (by omega)
                  refine kJv (wr := []) (va_runV (As := [.int l17_4, .int 5, .int v_123]) (rest := []) ⟨hx, hb, hml, hown, hT⟩ (c_X11_setWorkG5 l D cI aK aV k k0 k1 k2 k4 k5 k6 k7 k8 ka kb kl ko H.size c3 c9 cc cd ce cf cg ch ci cj ck cm cn g17_k0 l17_4 5 v_123 (by first | omega | (simp only [zl_5]; first | done | omega) | decide | assumption | rfl) (by first | omega | (simp only [zl_5]; first | done | omega) | decide | assumption | rfl) (by first | omega | (simp only [zl_5]; first | done | omega) | decide | assumption | rfl)) (cwV 3 hT (gV_in mw_1264 mw_1261 mw_1263 mw_p3_10 mw_12) rfl rfl rfl (by decide +kernel) ⟨Nat.le_of_ble_eq_true rfl, Nat.le_of_ble_eq_true rfl⟩) (kRecvX (q0 := 0) (ci := 11) hK hP hD hN hXS hS hA rfl rfl [0, 1] rfl (by decide +kernel)) rfl rfl hl.1 rfl (lv_room (Nat.le_of_ble_eq_true rfl)) dX11_eats_128 ⟨Nat.le_of_ble_eq_true rfl, Nat.le_of_ble_eq_true rfl⟩) hP hD hS hA [0, 1] [] rfl rfl (by decide +kernel) (by decide +kernel) ?_
                  clear hP hD hS
                  intro sc0_126 H locs w_125 hP hD hS
                  replace hP : va_P D vwCl [(k, .inr (11, [.ref k0, .ref k1, .ref k2, .int c3, .ref k4, .ref k5, .ref k6, .ref k7, .ref k8, .int c9, .ref ka, .ref kb, .int cc, .int cd, .int ce, .int cf, .int cg, .int ch, .int ci, .int cj, .int ck, .ref kl, .int cm, .int cn, .ref ko])), (k0, .inl (cI, 1201, .inl sc0_126))] H := hP
                  replace hD : va_D A [(k, .inr (11, [.ref k0, .ref k1, .ref k2, .int c3, .ref k4, .ref k5, .ref k6, .ref k7, .ref k8, .int c9, .ref ka, .ref kb, .int cc, .int cd, .int ce, .int cf, .int cg, .int ch, .int ci, .int cj, .int ck, .ref kl, .int cm, .int cn, .ref ko])), (k0, .inl (cI, 1201, .inl sc0_126))] := hD
                  have h_127 := w_125
                  try simp only [zl_5] at h_127
                  have h_127 : sc0_126 = upd g17_k0 (99 + 6 * l17_4.toInt.toNat + 5) v_123 := h_127
                  have h_127 : sc0_126 = upd g17_k0 (99 + 6 * l17_4.toInt.toNat + 5) v_123 := h_127
                  have hS_128 : SIX sc0_126 a0.toInt := SIX.w i17_2 h_127 rfl (by omega) (by decide +kernel) (by omega)
                  have n_129 : (sc0_126 0).toInt = (g17_k0 0).toInt := by rw [updN h_127 (by omega)]
                  have n_130 : (sc0_126 1).toInt = (g17_k0 1).toInt := by rw [updN h_127 (by omega)]
                  have n_131 : (sc0_126 2).toInt = (g17_k0 2).toInt := by rw [updN h_127 (by omega)]
                  obtain ⟨v_132, ev_132⟩ : ∃ y : Int32, y = l17_4 + 1 := ⟨_, rfl⟩
                  have tv_132 : v_132.toInt = l17_4.toInt + 1 := by rw [ev_132]; exact k_addv rfl zl_1 (by omega) (by omega)
                  refine lv_iinc (v := v_132) (lv' := [(4, .int v_132), (2, .int v_116), (7, .int r_110), (6, .int v_100), (5, .int 1), (3, .int r_10), (0, .ref k), (1, .int a0)]) hx hb dX11_eats_131 hl (k := 4) rfl (by rw [ev_132]; rfl) (by decide +kernel) rfl ?_
                  clear hl
                  intro ls hl
                  refine lv_goto (tgt := 17) hx hb dX11_eats_134 (by decide +kernel) ?_
                  exact ih17 v_116 v_132 sc0_126 (by first | omega | decide | assumption | rfl) (by first | omega | decide | assumption | rfl) hS_128 (by first | omega | decide | assumption | rfl) (by first | omega | decide | assumption | rfl) (by first | omega | decide | assumption | rfl) (by first | omega | decide | assumption | rfl) (by first | omega | decide | assumption | rfl) (ref_es (a := v_99) (food := l17_2) (n := r_110) (room := v_100) (x := v_123) (fd := r_117) (mi := r_60) (pm := r_66) ⟨by omega, by omega⟩ (by omega) i17_9 i17_8 h_7 h_13 ev_99 ev_100 h_120 h_69 h_63 (by omega) (by omega) (Or.inl ⟨by omega, h_96, by omega, Or.inr ⟨by omega, h_113.trans h_120.symm⟩⟩) ev_116 ev_123 h_127).1 (ref_es (a := v_99) (food := l17_2) (n := r_110) (room := v_100) (x := v_123) (fd := r_117) (mi := r_60) (pm := r_66) ⟨by omega, by omega⟩ (by omega) i17_9 i17_8 h_7 h_13 ev_99 ev_100 h_120 h_69 h_63 (by omega) (by omega) (Or.inl ⟨by omega, h_96, by omega, Or.inr ⟨by omega, h_113.trans h_120.symm⟩⟩) ev_116 ev_123 h_127).2 (by first | omega | decide | assumption | rfl) (by first | omega | decide | assumption | rfl) (by omega) ls _ _ (lv_sub hl [0, 5, 1, 6, 7] rfl) (hP.sub [0, 1] rfl) (hD.sub [0, 1] (by decide +kernel) rfl) hS
                · refine lv_iload hx hb dX11_eats_95 (lv_at hl 0 rfl) ?_
                  refine lv_goto (tgt := 107) hx hb dX11_eats_97 (by decide +kernel) ?_
                  refine lv_istore (lv' := [(7, .int v_100), (6, .int v_100), (5, .int 1), (4, .int l17_4), (3, .int r_10), (2, .int l17_2), (0, .ref k), (1, .int a0)]) hx hb dX11_eats_107 hl (by decide +kernel) rfl ?_
                  clear hl
                  intro ls hl
                  refine lv_iload_n hx hb dX11_eats_109 rfl (lv_at hl 5 rfl) ?_
                  refine lv_iload hx hb dX11_eats_110 (lv_at hl 0 rfl) ?_
                  refine lv_iadd hx hb dX11_eats_112 ?_
                  refine lv_topi (fun v_133 ev_133 => ?_)
                  have tv_133 : v_133.toInt = l17_2.toInt + v_100.toInt := by rw [ev_133]; exact k_addv rfl rfl (by omega) (by omega)
                  refine lv_istore_n (lv' := [(2, .int v_133), (7, .int v_100), (6, .int v_100), (5, .int 1), (4, .int l17_4), (3, .int r_10), (0, .ref k), (1, .int a0)]) hx hb dX11_eats_113 rfl hl (by decide +kernel) rfl ?_
                  clear hl
                  intro ls hl
                  refine lv_aload_n hx hb dX11_eats_114 rfl (lv_at hl 6 rfl) ?_
                  refine lv_iload hx hb dX11_eats_115 (lv_at hl 4 rfl) ?_
                  refine lv_iconst (v := 5) hx hb dX11_eats_117 (by decide +kernel) ?_
                  refine lv_aload_n hx hb dX11_eats_118 rfl (lv_at hl 6 rfl) ?_
                  refine lv_iload hx hb dX11_eats_119 (lv_at hl 4 rfl) ?_
                  refine lv_iconst (v := 5) hx hb dX11_eats_121 (by decide +kernel) ?_
                  refine kJi (wr := []) (va_runV (As := [.int l17_4, .int 5]) (rest := [.int 5, .int l17_4, .ref k]) ⟨hx, hb, hml, hown, hT⟩ (c_X11_workG5 l D cI aK aV k k0 k1 k2 k4 k5 k6 k7 k8 ka kb kl ko H.size c3 c9 cc cd ce cf cg ch ci cj ck cm cn g17_k0 l17_4 5 (by first | omega | (simp only [zl_5]; first | done | omega) | decide | assumption | rfl) (by first | omega | (simp only [zl_5]; first | done | omega) | decide | assumption | rfl) (by first | omega | (simp only [zl_5]; first | done | omega) | decide | assumption | rfl)) (cwV 2 hT (gV_in mw_1276 mw_1273 mw_1275 mw_p3_12 mw_12) rfl rfl rfl (by decide +kernel) ⟨Nat.le_of_ble_eq_true rfl, Nat.le_of_ble_eq_true rfl⟩) (kRecvX (q0 := 0) (ci := 11) hK hP hD hN hXS hS hA rfl rfl [0, 1] rfl (by decide +kernel)) rfl rfl hl.1 rfl (lv_room (Nat.le_of_ble_eq_true rfl)) dX11_eats_122 ⟨Nat.le_of_ble_eq_true rfl, Nat.le_of_ble_eq_true rfl⟩) hP hD hS hA [0, 1] [] rfl rfl (by decide +kernel) (by decide +kernel) ?_
                  clear hP hD hS
                  intro r_134 u_136 H locs w_135 hP hD hS
                  replace hP : va_P D vwCl [(k, .inr (11, [.ref k0, .ref k1, .ref k2, .int c3, .ref k4, .ref k5, .ref k6, .ref k7, .ref k8, .int c9, .ref ka, .ref kb, .int cc, .int cd, .int ce, .int cf, .int cg, .int ch, .int ci, .int cj, .int ck, .ref kl, .int cm, .int cn, .ref ko])), (k0, .inl (cI, 1201, .inl g17_k0))] H := hP
                  replace hD : va_D A [(k, .inr (11, [.ref k0, .ref k1, .ref k2, .int c3, .ref k4, .ref k5, .ref k6, .ref k7, .ref k8, .int c9, .ref ka, .ref kb, .int cc, .int cd, .int ce, .int cf, .int cg, .int ch, .int ci, .int cj, .int ck, .ref kl, .int cm, .int cn, .ref ko])), (k0, .inl (cI, 1201, .inl g17_k0))] := hD
                  have h_137 := w_135
                  have h_137 : r_134 = wW g17_k0 l17_4 5 := h_137
                  have t_138 : r_134.toInt = (wW g17_k0 l17_4 5).toInt := by rw [h_137]
                  have b_139 : 0 ≤ r_134.toInt ∧ r_134.toInt ≤ 9999 := by rw [h_137]; exact SB.w5 (And.left i17_2) (by omega) (by omega)
                  have lo_r_134 := k_lo r_134
                  have hi_r_134 := k_hi r_134
                  refine lv_iload hx hb dX11_eats_125 (lv_at hl 1 rfl) ?_
                  refine lv_isub hx hb dX11_eats_127 ?_
                  refine lv_topi (fun v_140 ev_140 => ?_)
                  have tv_140 : v_140.toInt = r_134.toInt - v_100.toInt := by rw [ev_140]; exact k_subv rfl rfl (by omega) (by omega)
                  refine kJv (wr := []) (va_runV (As := [.int l17_4, .int 5, .int v_140]) (rest := []) ⟨hx, hb, hml, hown, hT⟩ (c_X11_setWorkG5 l D cI aK aV k k0 k1 k2 k4 k5 k6 k7 k8 ka kb kl ko H.size c3 c9 cc cd ce cf cg ch ci cj ck cm cn g17_k0 l17_4 5 v_140 (by first | omega | (simp only [zl_5]; first | done | omega) | decide | assumption | rfl) (by first | omega | (simp only [zl_5]; first | done | omega) | decide | assumption | rfl) (by first | omega | (simp only [zl_5]; first | done | omega) | decide | assumption | rfl)) (cwV 3 hT (gV_in mw_1264 mw_1261 mw_1263 mw_p3_10 mw_12) rfl rfl rfl (by decide +kernel) ⟨Nat.le_of_ble_eq_true rfl, Nat.le_of_ble_eq_true rfl⟩) (kRecvX (q0 := 0) (ci := 11) hK hP hD hN hXS hS hA rfl rfl [0, 1] rfl (by decide +kernel)) rfl rfl hl.1 rfl (lv_room (Nat.le_of_ble_eq_true rfl)) dX11_eats_128 ⟨Nat.le_of_ble_eq_true rfl, Nat.le_of_ble_eq_true rfl⟩) hP hD hS hA [0, 1] [] rfl rfl (by decide +kernel) (by decide +kernel) ?_
                  clear hP hD hS
                  intro sc0_143 H locs w_142 hP hD hS
                  replace hP : va_P D vwCl [(k, .inr (11, [.ref k0, .ref k1, .ref k2, .int c3, .ref k4, .ref k5, .ref k6, .ref k7, .ref k8, .int c9, .ref ka, .ref kb, .int cc, .int cd, .int ce, .int cf, .int cg, .int ch, .int ci, .int cj, .int ck, .ref kl, .int cm, .int cn, .ref ko])), (k0, .inl (cI, 1201, .inl sc0_143))] H := hP
                  replace hD : va_D A [(k, .inr (11, [.ref k0, .ref k1, .ref k2, .int c3, .ref k4, .ref k5, .ref k6, .ref k7, .ref k8, .int c9, .ref ka, .ref kb, .int cc, .int cd, .int ce, .int cf, .int cg, .int ch, .int ci, .int cj, .int ck, .ref kl, .int cm, .int cn, .ref ko])), (k0, .inl (cI, 1201, .inl sc0_143))] := hD
                  have h_144 := w_142
                  try simp only [zl_5] at h_144
                  have h_144 : sc0_143 = upd g17_k0 (99 + 6 * l17_4.toInt.toNat + 5) v_140 := h_144
                  have h_144 : sc0_143 = upd g17_k0 (99 + 6 * l17_4.toInt.toNat + 5) v_140 := h_144
                  have hS_145 : SIX sc0_143 a0.toInt := SIX.w i17_2 h_144 rfl (by omega) (by decide +kernel) (by omega)
                  have n_146 : (sc0_143 0).toInt = (g17_k0 0).toInt := by rw [updN h_144 (by omega)]
                  have n_147 : (sc0_143 1).toInt = (g17_k0 1).toInt := by rw [updN h_144 (by omega)]
                  have n_148 : (sc0_143 2).toInt = (g17_k0 2).toInt := by rw [updN h_144 (by omega)]
                  obtain ⟨v_149, ev_149⟩ : ∃ y : Int32, y = l17_4 + 1 := ⟨_, rfl⟩
                  have tv_149 : v_149.toInt = l17_4.toInt + 1 := by rw [ev_149]; exact k_addv rfl zl_1 (by omega) (by omega)
                  refine lv_iinc (v := v_149) (lv' := [(4, .int v_149), (2, .int v_133), (7, .int v_100), (6, .int v_100), (5, .int 1), (3, .int r_10), (0, .ref k), (1, .int a0)]) hx hb dX11_eats_131 hl (k := 4) rfl (by rw [ev_149]; rfl) (by decide +kernel) rfl ?_
                  clear hl
                  intro ls hl
                  refine lv_goto (tgt := 17) hx hb dX11_eats_134 (by decide +kernel) ?_
                  exact ih17 v_133 v_149 sc0_143 (by first | omega | decide | assumption | rfl) (by first | omega | decide | assumption | rfl) hS_145 (by first | omega | decide | assumption | rfl) (by first | omega | decide | assumption | rfl) (by first | omega | decide | assumption | rfl) (by first | omega | decide | assumption | rfl) (by first | omega | decide | assumption | rfl) (ref_es (a := v_99) (food := l17_2) (n := v_100) (room := v_100) (x := v_140) (fd := r_134) (mi := r_60) (pm := r_66) ⟨by omega, by omega⟩ (by omega) i17_9 i17_8 h_7 h_13 ev_99 ev_100 h_137 h_69 h_63 (by omega) (by omega) (Or.inl ⟨by omega, h_96, by omega, Or.inl ⟨by omega, rfl⟩⟩) ev_133 ev_140 h_144).1 (ref_es (a := v_99) (food := l17_2) (n := v_100) (room := v_100) (x := v_140) (fd := r_134) (mi := r_60) (pm := r_66) ⟨by omega, by omega⟩ (by omega) i17_9 i17_8 h_7 h_13 ev_99 ev_100 h_137 h_69 h_63 (by omega) (by omega) (Or.inl ⟨by omega, h_96, by omega, Or.inl ⟨by omega, rfl⟩⟩) ev_133 ev_140 h_144).2 (by first | omega | decide | assumption | rfl) (by first | omega | decide | assumption | rfl) (by omega) ls _ _ (lv_sub hl [0, 5, 1, 6, 7] rfl) (hP.sub [0, 1] rfl) (hD.sub [0, 1] (by decide +kernel) rfl) hS
              · refine lv_iconst (v := 0) hx hb dX11_eats_79 (by decide +kernel) ?_
                refine lv_goto (tgt := 107) hx hb dX11_eats_80 (by decide +kernel) ?_
                refine lv_istore (lv' := [(7, .int 0), (6, .int v_100), (5, .int 1), (4, .int l17_4), (3, .int r_10), (2, .int l17_2), (0, .ref k), (1, .int a0)]) hx hb dX11_eats_107 hl (by decide +kernel) rfl ?_
                clear hl
                intro ls hl
                refine lv_iload_n hx hb dX11_eats_109 rfl (lv_at hl 5 rfl) ?_
                refine lv_iload hx hb dX11_eats_110 (lv_at hl 0 rfl) ?_
                refine lv_iadd hx hb dX11_eats_112 ?_
                refine lv_topi (fun v_150 ev_150 => ?_)
                have tv_150 : v_150.toInt = l17_2.toInt + 0 := by rw [ev_150]; exact k_addv rfl zl_0 (by omega) (by omega)
                refine lv_istore_n (lv' := [(2, .int v_150), (7, .int 0), (6, .int v_100), (5, .int 1), (4, .int l17_4), (3, .int r_10), (0, .ref k), (1, .int a0)]) hx hb dX11_eats_113 rfl hl (by decide +kernel) rfl ?_
                clear hl
                intro ls hl
                refine lv_aload_n hx hb dX11_eats_114 rfl (lv_at hl 6 rfl) ?_
                refine lv_iload hx hb dX11_eats_115 (lv_at hl 4 rfl) ?_
                refine lv_iconst (v := 5) hx hb dX11_eats_117 (by decide +kernel) ?_
                refine lv_aload_n hx hb dX11_eats_118 rfl (lv_at hl 6 rfl) ?_
                refine lv_iload hx hb dX11_eats_119 (lv_at hl 4 rfl) ?_
                refine lv_iconst (v := 5) hx hb dX11_eats_121 (by decide +kernel) ?_
                refine kJi (wr := []) (va_runV (As := [.int l17_4, .int 5]) (rest := [.int 5, .int l17_4, .ref k]) ⟨hx, hb, hml, hown, hT⟩ (c_X11_workG5 l D cI aK aV k k0 k1 k2 k4 k5 k6 k7 k8 ka kb kl ko H.size c3 c9 cc cd ce cf cg ch ci cj ck cm cn g17_k0 l17_4 5 (by first | omega | (simp only [zl_5]; first | done | omega) | decide | assumption | rfl) (by first | omega | (simp only [zl_5]; first | done | omega) | decide | assumption | rfl) (by first | omega | (simp only [zl_5]; first | done | omega) | decide | assumption | rfl)) (cwV 2 hT (gV_in mw_1276 mw_1273 mw_1275 mw_p3_12 mw_12) rfl rfl rfl (by decide +kernel) ⟨Nat.le_of_ble_eq_true rfl, Nat.le_of_ble_eq_true rfl⟩) (kRecvX (q0 := 0) (ci := 11) hK hP hD hN hXS hS hA rfl rfl [0, 1] rfl (by decide +kernel)) rfl rfl hl.1 rfl (lv_room (Nat.le_of_ble_eq_true rfl)) dX11_eats_122 ⟨Nat.le_of_ble_eq_true rfl, Nat.le_of_ble_eq_true rfl⟩) hP hD hS hA [0, 1] [] rfl rfl (by decide +kernel) (by decide +kernel) ?_
                clear hP hD hS
                intro r_151 u_153 H locs w_152 hP hD hS
                replace hP : va_P D vwCl [(k, .inr (11, [.ref k0, .ref k1, .ref k2, .int c3, .ref k4, .ref k5, .ref k6, .ref k7, .ref k8, .int c9, .ref ka, .ref kb, .int cc, .int cd, .int ce, .int cf, .int cg, .int ch, .int ci, .int cj, .int ck, .ref kl, .int cm, .int cn, .ref ko])), (k0, .inl (cI, 1201, .inl g17_k0))] H := hP
                replace hD : va_D A [(k, .inr (11, [.ref k0, .ref k1, .ref k2, .int c3, .ref k4, .ref k5, .ref k6, .ref k7, .ref k8, .int c9, .ref ka, .ref kb, .int cc, .int cd, .int ce, .int cf, .int cg, .int ch, .int ci, .int cj, .int ck, .ref kl, .int cm, .int cn, .ref ko])), (k0, .inl (cI, 1201, .inl g17_k0))] := hD
                have h_154 := w_152
                have h_154 : r_151 = wW g17_k0 l17_4 5 := h_154
                have t_155 : r_151.toInt = (wW g17_k0 l17_4 5).toInt := by rw [h_154]
                have b_156 : 0 ≤ r_151.toInt ∧ r_151.toInt ≤ 9999 := by rw [h_154]; exact SB.w5 (And.left i17_2) (by omega) (by omega)
                have lo_r_151 := k_lo r_151
                have hi_r_151 := k_hi r_151
                refine lv_iload hx hb dX11_eats_125 (lv_at hl 1 rfl) ?_
                refine lv_isub hx hb dX11_eats_127 ?_
                refine lv_topi (fun v_157 ev_157 => ?_)
                have tv_157 : v_157.toInt = r_151.toInt - 0 := by rw [ev_157]; exact k_subv rfl zl_0 (by omega) (by omega)
                refine kJv (wr := []) (va_runV (As := [.int l17_4, .int 5, .int v_157]) (rest := []) ⟨hx, hb, hml, hown, hT⟩ (c_X11_setWorkG5 l D cI aK aV k k0 k1 k2 k4 k5 k6 k7 k8 ka kb kl ko H.size c3 c9 cc cd ce cf cg ch ci cj ck cm cn g17_k0 l17_4 5 v_157 (by first | omega | (simp only [zl_5]; first | done | omega) | decide | assumption | rfl) (by first | omega | (simp only [zl_5]; first | done | omega) | decide | assumption | rfl) (by first | omega | (simp only [zl_5]; first | done | omega) | decide | assumption | rfl)) (cwV 3 hT (gV_in mw_1264 mw_1261 mw_1263 mw_p3_10 mw_12) rfl rfl rfl (by decide +kernel) ⟨Nat.le_of_ble_eq_true rfl, Nat.le_of_ble_eq_true rfl⟩) (kRecvX (q0 := 0) (ci := 11) hK hP hD hN hXS hS hA rfl rfl [0, 1] rfl (by decide +kernel)) rfl rfl hl.1 rfl (lv_room (Nat.le_of_ble_eq_true rfl)) dX11_eats_128 ⟨Nat.le_of_ble_eq_true rfl, Nat.le_of_ble_eq_true rfl⟩) hP hD hS hA [0, 1] [] rfl rfl (by decide +kernel) (by decide +kernel) ?_
                clear hP hD hS
                intro sc0_160 H locs w_159 hP hD hS
                replace hP : va_P D vwCl [(k, .inr (11, [.ref k0, .ref k1, .ref k2, .int c3, .ref k4, .ref k5, .ref k6, .ref k7, .ref k8, .int c9, .ref ka, .ref kb, .int cc, .int cd, .int ce, .int cf, .int cg, .int ch, .int ci, .int cj, .int ck, .ref kl, .int cm, .int cn, .ref ko])), (k0, .inl (cI, 1201, .inl sc0_160))] H := hP
                replace hD : va_D A [(k, .inr (11, [.ref k0, .ref k1, .ref k2, .int c3, .ref k4, .ref k5, .ref k6, .ref k7, .ref k8, .int c9, .ref ka, .ref kb, .int cc, .int cd, .int ce, .int cf, .int cg, .int ch, .int ci, .int cj, .int ck, .ref kl, .int cm, .int cn, .ref ko])), (k0, .inl (cI, 1201, .inl sc0_160))] := hD
                have h_161 := w_159
                try simp only [zl_5] at h_161
                have h_161 : sc0_160 = upd g17_k0 (99 + 6 * l17_4.toInt.toNat + 5) v_157 := h_161
                have h_161 : sc0_160 = upd g17_k0 (99 + 6 * l17_4.toInt.toNat + 5) v_157 := h_161
                have hS_162 : SIX sc0_160 a0.toInt := SIX.w i17_2 h_161 rfl (by omega) (by decide +kernel) (by omega)
                have n_163 : (sc0_160 0).toInt = (g17_k0 0).toInt := by rw [updN h_161 (by omega)]
                have n_164 : (sc0_160 1).toInt = (g17_k0 1).toInt := by rw [updN h_161 (by omega)]
                have n_165 : (sc0_160 2).toInt = (g17_k0 2).toInt := by rw [updN h_161 (by omega)]
                obtain ⟨v_166, ev_166⟩ : ∃ y : Int32, y = l17_4 + 1 := ⟨_, rfl⟩
                have tv_166 : v_166.toInt = l17_4.toInt + 1 := by rw [ev_166]; exact k_addv rfl zl_1 (by omega) (by omega)
                refine lv_iinc (v := v_166) (lv' := [(4, .int v_166), (2, .int v_150), (7, .int 0), (6, .int v_100), (5, .int 1), (3, .int r_10), (0, .ref k), (1, .int a0)]) hx hb dX11_eats_131 hl (k := 4) rfl (by rw [ev_166]; rfl) (by decide +kernel) rfl ?_
                clear hl
                intro ls hl
                refine lv_goto (tgt := 17) hx hb dX11_eats_134 (by decide +kernel) ?_
                exact ih17 v_150 v_166 sc0_160 (by first | omega | decide | assumption | rfl) (by first | omega | decide | assumption | rfl) hS_162 (by first | omega | decide | assumption | rfl) (by first | omega | decide | assumption | rfl) (by first | omega | decide | assumption | rfl) (by first | omega | decide | assumption | rfl) (by first | omega | decide | assumption | rfl) (ref_es (a := v_99) (food := l17_2) (n := 0) (room := v_100) (x := v_157) (fd := r_151) (mi := r_60) (pm := r_66) ⟨by omega, by omega⟩ (by omega) i17_9 i17_8 h_7 h_13 ev_99 ev_100 h_154 h_69 h_63 (by omega) (by omega) (Or.inr ⟨Or.inr (Or.inr (by omega)), rfl⟩) ev_150 ev_157 h_161).1 (ref_es (a := v_99) (food := l17_2) (n := 0) (room := v_100) (x := v_157) (fd := r_151) (mi := r_60) (pm := r_66) ⟨by omega, by omega⟩ (by omega) i17_9 i17_8 h_7 h_13 ev_99 ev_100 h_154 h_69 h_63 (by omega) (by omega) (Or.inr ⟨Or.inr (Or.inr (by omega)), rfl⟩) ev_150 ev_157 h_161).2 (by first | omega | decide | assumption | rfl) (by first | omega | decide | assumption | rfl) (by omega) ls _ _ (lv_sub hl [0, 5, 1, 6, 7] rfl) (hP.sub [0, 1] rfl) (hD.sub [0, 1] (by decide +kernel) rfl) hS
            · try simp only [zl_5] at h_97
              have h_97 : stF g17_k0 l17_4 5 = 0 := h_97
              obtain rfl : r_93 = 0 := hr_93.trans (by decide +kernel)
              refine b_if_eq hx hb zl_0 (tgt := 58) dX11_eats_51 (by decide +kernel) (fun c_167 => ?_) (fun c_167 => by exfalso; omega)
              refine lv_iconst (v := 0) hx hb dX11_eats_58 (by decide +kernel) ?_
              refine lv_istore (lv' := [(5, .int 0), (4, .int l17_4), (3, .int r_10), (2, .int l17_2), (0, .ref k), (1, .int a0)]) hx hb dX11_eats_59 hl (by decide +kernel) rfl ?_
              clear hl
              intro ls hl
              refine lv_bipush (v := 20) hx hb dX11_eats_61 (by decide +kernel) ?_
              refine lv_iload_n hx hb dX11_eats_63 rfl (lv_at hl 2 rfl) ?_
              refine lv_imul hx hb dX11_eats_64 ?_
              refine lv_topi (fun v_168 ev_168 => ?_)
              have tv_168 : v_168.toInt = 20 * r_10.toInt := by rw [ev_168]; exact k_mulv zl_20 rfl (by omega) (by omega)
              refine lv_iload_n hx hb dX11_eats_65 rfl (lv_at hl 3 rfl) ?_
              refine lv_isub hx hb dX11_eats_66 ?_
              refine lv_topi (fun v_169 ev_169 => ?_)
              have tv_169 : v_169.toInt = v_168.toInt - l17_2.toInt := by rw [ev_169]; exact k_subv rfl rfl (by omega) (by omega)
              refine lv_istore (lv' := [(6, .int v_169), (5, .int 0), (4, .int l17_4), (3, .int r_10), (2, .int l17_2), (0, .ref k), (1, .int a0)]) hx hb dX11_eats_67 hl (by decide +kernel) rfl ?_
              clear hl
              intro ls hl
              refine lv_iload hx hb dX11_eats_69 (lv_at hl 1 rfl) ?_
              refine b_if_eq hx hb zl_0 (tgt := 79) dX11_eats_71 (by decide +kernel) (fun c_170 => ?_) (fun c_170 => by exfalso; omega)
              refine lv_iconst (v := 0) hx hb dX11_eats_79 (by decide +kernel) ?_
              refine lv_goto (tgt := 107) hx hb dX11_eats_80 (by decide +kernel) ?_
              refine lv_istore (lv' := [(7, .int 0), (6, .int v_169), (5, .int 0), (4, .int l17_4), (3, .int r_10), (2, .int l17_2), (0, .ref k), (1, .int a0)]) hx hb dX11_eats_107 hl (by decide +kernel) rfl ?_
              clear hl
              intro ls hl
              refine lv_iload_n hx hb dX11_eats_109 rfl (lv_at hl 5 rfl) ?_
              refine lv_iload hx hb dX11_eats_110 (lv_at hl 0 rfl) ?_
              refine lv_iadd hx hb dX11_eats_112 ?_
              refine lv_topi (fun v_171 ev_171 => ?_)
              have tv_171 : v_171.toInt = l17_2.toInt + 0 := by rw [ev_171]; exact k_addv rfl zl_0 (by omega) (by omega)
              refine lv_istore_n (lv' := [(2, .int v_171), (7, .int 0), (6, .int v_169), (5, .int 0), (4, .int l17_4), (3, .int r_10), (0, .ref k), (1, .int a0)]) hx hb dX11_eats_113 rfl hl (by decide +kernel) rfl ?_
              clear hl
              intro ls hl
              refine lv_aload_n hx hb dX11_eats_114 rfl (lv_at hl 6 rfl) ?_
              refine lv_iload hx hb dX11_eats_115 (lv_at hl 4 rfl) ?_
              refine lv_iconst (v := 5) hx hb dX11_eats_117 (by decide +kernel) ?_
              refine lv_aload_n hx hb dX11_eats_118 rfl (lv_at hl 6 rfl) ?_
              refine lv_iload hx hb dX11_eats_119 (lv_at hl 4 rfl) ?_
              refine lv_iconst (v := 5) hx hb dX11_eats_121 (by decide +kernel) ?_
              refine kJi (wr := []) (va_runV (As := [.int l17_4, .int 5]) (rest := [.int 5, .int l17_4, .ref k]) ⟨hx, hb, hml, hown, hT⟩ (c_X11_workG5 l D cI aK aV k k0 k1 k2 k4 k5 k6 k7 k8 ka kb kl ko H.size c3 c9 cc cd ce cf cg ch ci cj ck cm cn g17_k0 l17_4 5 (by first | omega | (simp only [zl_5]; first | done | omega) | decide | assumption | rfl) (by first | omega | (simp only [zl_5]; first | done | omega) | decide | assumption | rfl) (by first | omega | (simp only [zl_5]; first | done | omega) | decide | assumption | rfl)) (cwV 2 hT (gV_in mw_1276 mw_1273 mw_1275 mw_p3_12 mw_12) rfl rfl rfl (by decide +kernel) ⟨Nat.le_of_ble_eq_true rfl, Nat.le_of_ble_eq_true rfl⟩) (kRecvX (q0 := 0) (ci := 11) hK hP hD hN hXS hS hA rfl rfl [0, 1] rfl (by decide +kernel)) rfl rfl hl.1 rfl (lv_room (Nat.le_of_ble_eq_true rfl)) dX11_eats_122 ⟨Nat.le_of_ble_eq_true rfl, Nat.le_of_ble_eq_true rfl⟩) hP hD hS hA [0, 1] [] rfl rfl (by decide +kernel) (by decide +kernel) ?_
              clear hP hD hS
              intro r_172 u_174 H locs w_173 hP hD hS
              replace hP : va_P D vwCl [(k, .inr (11, [.ref k0, .ref k1, .ref k2, .int c3, .ref k4, .ref k5, .ref k6, .ref k7, .ref k8, .int c9, .ref ka, .ref kb, .int cc, .int cd, .int ce, .int cf, .int cg, .int ch, .int ci, .int cj, .int ck, .ref kl, .int cm, .int cn, .ref ko])), (k0, .inl (cI, 1201, .inl g17_k0))] H := hP
              replace hD : va_D A [(k, .inr (11, [.ref k0, .ref k1, .ref k2, .int c3, .ref k4, .ref k5, .ref k6, .ref k7, .ref k8, .int c9, .ref ka, .ref kb, .int cc, .int cd, .int ce, .int cf, .int cg, .int ch, .int ci, .int cj, .int ck, .ref kl, .int cm, .int cn, .ref ko])), (k0, .inl (cI, 1201, .inl g17_k0))] := hD
              have h_175 := w_173
              have h_175 : r_172 = wW g17_k0 l17_4 5 := h_175
              have t_176 : r_172.toInt = (wW g17_k0 l17_4 5).toInt := by rw [h_175]
              have b_177 : 0 ≤ r_172.toInt ∧ r_172.toInt ≤ 9999 := by rw [h_175]; exact SB.w5 (And.left i17_2) (by omega) (by omega)
              have lo_r_172 := k_lo r_172
              have hi_r_172 := k_hi r_172
              refine lv_iload hx hb dX11_eats_125 (lv_at hl 1 rfl) ?_
              refine lv_isub hx hb dX11_eats_127 ?_
              refine lv_topi (fun v_178 ev_178 => ?_)
              have tv_178 : v_178.toInt = r_172.toInt - 0 := by rw [ev_178]; exact k_subv rfl zl_0 (by omega) (by omega)
              refine kJv (wr := []) (va_runV (As := [.int l17_4, .int 5, .int v_178]) (rest := []) ⟨hx, hb, hml, hown, hT⟩ (c_X11_setWorkG5 l D cI aK aV k k0 k1 k2 k4 k5 k6 k7 k8 ka kb kl ko H.size c3 c9 cc cd ce cf cg ch ci cj ck cm cn g17_k0 l17_4 5 v_178 (by first | omega | (simp only [zl_5]; first | done | omega) | decide | assumption | rfl) (by first | omega | (simp only [zl_5]; first | done | omega) | decide | assumption | rfl) (by first | omega | (simp only [zl_5]; first | done | omega) | decide | assumption | rfl)) (cwV 3 hT (gV_in mw_1264 mw_1261 mw_1263 mw_p3_10 mw_12) rfl rfl rfl (by decide +kernel) ⟨Nat.le_of_ble_eq_true rfl, Nat.le_of_ble_eq_true rfl⟩) (kRecvX (q0 := 0) (ci := 11) hK hP hD hN hXS hS hA rfl rfl [0, 1] rfl (by decide +kernel)) rfl rfl hl.1 rfl (lv_room (Nat.le_of_ble_eq_true rfl)) dX11_eats_128 ⟨Nat.le_of_ble_eq_true rfl, Nat.le_of_ble_eq_true rfl⟩) hP hD hS hA [0, 1] [] rfl rfl (by decide +kernel) (by decide +kernel) ?_
              clear hP hD hS
              intro sc0_181 H locs w_180 hP hD hS
              replace hP : va_P D vwCl [(k, .inr (11, [.ref k0, .ref k1, .ref k2, .int c3, .ref k4, .ref k5, .ref k6, .ref k7, .ref k8, .int c9, .ref ka, .ref kb, .int cc, .int cd, .int ce, .int cf, .int cg, .int ch, .int ci, .int cj, .int ck, .ref kl, .int cm, .int cn, .ref ko])), (k0, .inl (cI, 1201, .inl sc0_181))] H := hP
              replace hD : va_D A [(k, .inr (11, [.ref k0, .ref k1, .ref k2, .int c3, .ref k4, .ref k5, .ref k6, .ref k7, .ref k8, .int c9, .ref ka, .ref kb, .int cc, .int cd, .int ce, .int cf, .int cg, .int ch, .int ci, .int cj, .int ck, .ref kl, .int cm, .int cn, .ref ko])), (k0, .inl (cI, 1201, .inl sc0_181))] := hD
              have h_182 := w_180
              try simp only [zl_5] at h_182
              have h_182 : sc0_181 = upd g17_k0 (99 + 6 * l17_4.toInt.toNat + 5) v_178 := h_182
              have h_182 : sc0_181 = upd g17_k0 (99 + 6 * l17_4.toInt.toNat + 5) v_178 := h_182
              have hS_183 : SIX sc0_181 a0.toInt := SIX.w i17_2 h_182 rfl (by omega) (by decide +kernel) (by omega)
              have n_184 : (sc0_181 0).toInt = (g17_k0 0).toInt := by rw [updN h_182 (by omega)]
              have n_185 : (sc0_181 1).toInt = (g17_k0 1).toInt := by rw [updN h_182 (by omega)]
              have n_186 : (sc0_181 2).toInt = (g17_k0 2).toInt := by rw [updN h_182 (by omega)]
              obtain ⟨v_187, ev_187⟩ : ∃ y : Int32, y = l17_4 + 1 := ⟨_, rfl⟩
              have tv_187 : v_187.toInt = l17_4.toInt + 1 := by rw [ev_187]; exact k_addv rfl zl_1 (by omega) (by omega)
              refine lv_iinc (v := v_187) (lv' := [(4, .int v_187), (2, .int v_171), (7, .int 0), (6, .int v_169), (5, .int 0), (3, .int r_10), (0, .ref k), (1, .int a0)]) hx hb dX11_eats_131 hl (k := 4) rfl (by rw [ev_187]; rfl) (by decide +kernel) rfl ?_
              clear hl
              intro ls hl
              refine lv_goto (tgt := 17) hx hb dX11_eats_134 (by decide +kernel) ?_
              exact ih17 v_171 v_187 sc0_181 (by first | omega | decide | assumption | rfl) (by first | omega | decide | assumption | rfl) hS_183 (by first | omega | decide | assumption | rfl) (by first | omega | decide | assumption | rfl) (by first | omega | decide | assumption | rfl) (by first | omega | decide | assumption | rfl) (by first | omega | decide | assumption | rfl) (ref_es (a := v_168) (food := l17_2) (n := 0) (room := v_169) (x := v_178) (fd := r_172) (mi := r_60) (pm := r_66) ⟨by omega, by omega⟩ (by omega) i17_9 i17_8 h_7 h_13 ev_168 ev_169 h_175 h_69 h_63 (by omega) (by omega) (Or.inr ⟨Or.inr (Or.inl h_97), rfl⟩) ev_171 ev_178 h_182).1 (ref_es (a := v_168) (food := l17_2) (n := 0) (room := v_169) (x := v_178) (fd := r_172) (mi := r_60) (pm := r_66) ⟨by omega, by omega⟩ (by omega) i17_9 i17_8 h_7 h_13 ev_168 ev_169 h_175 h_69 h_63 (by omega) (by omega) (Or.inr ⟨Or.inr (Or.inl h_97), rfl⟩) ev_171 ev_178 h_182).2 (by first | omega | decide | assumption | rfl) (by first | omega | decide | assumption | rfl) (by omega) ls _ _ (lv_sub hl [0, 5, 1, 6, 7] rfl) (hP.sub [0, 1] rfl) (hD.sub [0, 1] (by decide +kernel) rfl) hS
  exact hloop_17 _ r_4 0 c0 (by first | omega | (simp only [zl_0]; first | done | omega) | decide | assumption | rfl) (by first | omega | (simp only [zl_0]; first | done | omega) | decide | assumption | rfl) pre0 (by first | omega | (simp only [zl_0]; first | done | omega) | decide | assumption | rfl) (by first | omega | (simp only [zl_0]; first | done | omega) | decide | assumption | rfl) (by first | omega | (simp only [zl_0]; first | done | omega) | decide | assumption | rfl) (by first | omega | (simp only [zl_0]; first | done | omega) | decide | assumption | rfl) (by first | omega | (simp only [zl_0]; first | done | omega) | decide | assumption | rfl) (by rw [zl_0]; exact (Int32.add_zero _).symm) (by rw [zl_0]; rfl) (by first | omega | (simp only [zl_0]; first | done | omega) | decide | assumption | rfl) (by first | omega | (simp only [zl_0]; first | done | omega) | decide | assumption | rfl) (Nat.lt_succ_self _) ls _ _ (lv_sub hl [0, 1, 2, 3, 4] rfl) hP hD hS
theorem bn_cX11_works_0 : BN cX11_works 0 0x4d11002b90f010382b3b8056e0404044382b1f984fa015b814382b0eac8ee015b81010110e0acee015b9940a7d00adc101c15820382b028dc9a015b9840a2f0202802b5158143a05158ac02a31e8445e05050056a2b1b0053e7d00adc101c158fc02a2350056e6300adc561d15878ee015b87810110e0ac7e613e8056e060e0acfa015b820221c15990029b300056e1d158f8fa015b810382b := by
  unfold BN; decide +kernel
theorem dX11_works_0 : decode cX11_works 0 = .ok (.aload_n 0, 1) := dR0 (k := 0) (i := 0) bn_cX11_works_0 dop_42 (by decide +kernel)
theorem dX11_works_1 : decode cX11_works 1 = .ok (.iload_n 1, 1) := dR0 (k := 0) (i := 1) bn_cX11_works_0 dop_27 (by decide +kernel)
theorem dX11_works_2 : decode cX11_works 2 = .ok (.iconst 0, 1) := dR0 (k := 0) (i := 2) bn_cX11_works_0 dop_3 (by decide +kernel)
theorem dX11_works_3 : decode cX11_works 3 = .ok (.invokevirtual 124, 3) := dR2 (f := Instr.invokevirtual) (k := 0) (i := 3) bn_cX11_works_0 dop_182 124 (by decide +kernel)
theorem dX11_works_6 : decode cX11_works 6 = .ok (.istore_n 2, 1) := dR0 (k := 0) (i := 6) bn_cX11_works_0 dop_61 (by decide +kernel)
theorem dX11_works_7 : decode cX11_works 7 = .ok (.aload_n 0, 1) := dR0 (k := 0) (i := 7) bn_cX11_works_0 dop_42 (by decide +kernel)
theorem dX11_works_8 : decode cX11_works 8 = .ok (.iload_n 2, 1) := dR0 (k := 0) (i := 8) bn_cX11_works_0 dop_28 (by decide +kernel)
theorem dX11_works_9 : decode cX11_works 9 = .ok (.invokevirtual 95, 3) := dR2 (f := Instr.invokevirtual) (k := 0) (i := 9) bn_cX11_works_0 dop_182 95 (by decide +kernel)
theorem dX11_works_12 : decode cX11_works 12 = .ok (.ifCond .ne 99, 3) := dR2s (f := Instr.ifCond .ne) (k := 0) (i := 12) bn_cX11_works_0 dop_154 99 99 (by decide +kernel)
theorem dX11_works_15 : decode cX11_works 15 = .ok (.aload_n 0, 1) := dR0 (k := 0) (i := 15) bn_cX11_works_0 dop_42 (by decide +kernel)
theorem dX11_works_16 : decode cX11_works 16 = .ok (.iload_n 1, 1) := dR0 (k := 0) (i := 16) bn_cX11_works_0 dop_27 (by decide +kernel)
theorem dX11_works_17 : decode cX11_works 17 = .ok (.bipush 7, 2) := dR1s (f := Instr.bipush) (k := 0) (i := 17) bn_cX11_works_0 dop_16 7 7 (by decide +kernel)
theorem dX11_works_19 : decode cX11_works 19 = .ok (.invokevirtual 124, 3) := dR2 (f := Instr.invokevirtual) (k := 0) (i := 19) bn_cX11_works_0 dop_182 124 (by decide +kernel)
theorem dX11_works_22 : decode cX11_works 22 = .ok (.aload_n 0, 1) := dR0 (k := 0) (i := 22) bn_cX11_works_0 dop_42 (by decide +kernel)
theorem dX11_works_23 : decode cX11_works 23 = .ok (.iload_n 1, 1) := dR0 (k := 0) (i := 23) bn_cX11_works_0 dop_27 (by decide +kernel)
theorem dX11_works_24 : decode cX11_works 24 = .ok (.iconst 2, 1) := dR0 (k := 0) (i := 24) bn_cX11_works_0 dop_5 (by decide +kernel)
theorem dX11_works_25 : decode cX11_works 25 = .ok (.invokevirtual 124, 3) := dR2 (f := Instr.invokevirtual) (k := 0) (i := 25) bn_cX11_works_0 dop_182 124 (by decide +kernel)
theorem dX11_works_28 : decode cX11_works 28 = .ok (.iadd, 1) := dR0 (k := 0) (i := 28) bn_cX11_works_0 dop_96 (by decide +kernel)
theorem dX11_works_29 : decode cX11_works 29 = .ok (.istore_n 3, 1) := dR0 (k := 0) (i := 29) bn_cX11_works_0 dop_62 (by decide +kernel)
theorem dX11_works_30 : decode cX11_works 30 = .ok (.aload_n 0, 1) := dR0 (k := 0) (i := 30) bn_cX11_works_0 dop_42 (by decide +kernel)
theorem dX11_works_31 : decode cX11_works 31 = .ok (.iload_n 1, 1) := dR0 (k := 0) (i := 31) bn_cX11_works_0 dop_27 (by decide +kernel)
theorem dX11_works_32 : decode cX11_works 32 = .ok (.bipush 7, 2) := dR1s (f := Instr.bipush) (k := 0) (i := 32) bn_cX11_works_0 dop_16 7 7 (by decide +kernel)
theorem dX11_works_34 : decode cX11_works 34 = .ok (.iload_n 3, 1) := dR0 (k := 0) (i := 34) bn_cX11_works_0 dop_29 (by decide +kernel)
theorem dX11_works_35 : decode cX11_works 35 = .ok (.invokevirtual 118, 3) := dR2 (f := Instr.invokevirtual) (k := 0) (i := 35) bn_cX11_works_0 dop_182 118 (by decide +kernel)
theorem dX11_works_38 : decode cX11_works 38 = .ok (.iload_n 3, 1) := dR0 (k := 0) (i := 38) bn_cX11_works_0 dop_29 (by decide +kernel)
theorem dX11_works_39 : decode cX11_works 39 = .ok (.aload_n 0, 1) := dR0 (k := 0) (i := 39) bn_cX11_works_0 dop_42 (by decide +kernel)
theorem dX11_works_40 : decode cX11_works 40 = .ok (.iload_n 2, 1) := dR0 (k := 0) (i := 40) bn_cX11_works_0 dop_28 (by decide +kernel)
theorem dX11_works_41 : decode cX11_works 41 = .ok (.aload_n 0, 1) := dR0 (k := 0) (i := 41) bn_cX11_works_0 dop_42 (by decide +kernel)
theorem dX11_works_42 : decode cX11_works 42 = .ok (.invokevirtual 98, 3) := dR2 (f := Instr.invokevirtual) (k := 0) (i := 42) bn_cX11_works_0 dop_182 98 (by decide +kernel)
theorem dX11_works_45 : decode cX11_works 45 = .ok (.invokevirtual 105, 3) := dR2 (f := Instr.invokevirtual) (k := 0) (i := 45) bn_cX11_works_0 dop_182 105 (by decide +kernel)
theorem dX11_works_48 : decode cX11_works 48 = .ok (.if_icmp .lt 62, 3) := dR2s (f := Instr.if_icmp .lt) (k := 0) (i := 48) bn_cX11_works_0 dop_161 62 62 (by decide +kernel)
theorem dX11_works_51 : decode cX11_works 51 = .ok (.aload_n 0, 1) := dR0 (k := 0) (i := 51) bn_cX11_works_0 dop_42 (by decide +kernel)
theorem dX11_works_52 : decode cX11_works 52 = .ok (.iload_n 1, 1) := dR0 (k := 0) (i := 52) bn_cX11_works_0 dop_27 (by decide +kernel)
theorem dX11_works_53 : decode cX11_works 53 = .ok (.iconst 4, 1) := dR0 (k := 0) (i := 53) bn_cX11_works_0 dop_7 (by decide +kernel)
theorem dX11_works_54 : decode cX11_works 54 = .ok (.invokevirtual 124, 3) := dR2 (f := Instr.invokevirtual) (k := 0) (i := 54) bn_cX11_works_0 dop_182 124 (by decide +kernel)
theorem dX11_works_57 : decode cX11_works 57 = .ok (.ifCond .le 53, 3) := dR2s (f := Instr.ifCond .le) (k := 0) (i := 57) bn_cX11_works_0 dop_158 53 53 (by decide +kernel)
theorem dX11_works_60 : decode cX11_works 60 = .ok (.aload_n 0, 1) := dR0 (k := 0) (i := 60) bn_cX11_works_0 dop_42 (by decide +kernel)
theorem dX11_works_61 : decode cX11_works 61 = .ok (.getfield 9, 3) := dR2 (f := Instr.getfield) (k := 0) (i := 61) bn_cX11_works_0 dop_180 9 (by decide +kernel)
theorem dX11_works_64 : decode cX11_works 64 = .ok (.iconst 1, 1) := dR0 (k := 0) (i := 64) bn_cX11_works_0 dop_4 (by decide +kernel)
theorem dX11_works_65 : decode cX11_works 65 = .ok (.iaload, 1) := dR0 (k := 0) (i := 65) bn_cX11_works_0 dop_46 (by decide +kernel)
theorem dX11_works_66 : decode cX11_works 66 = .ok (.bipush 60, 2) := dR1s (f := Instr.bipush) (k := 0) (i := 66) bn_cX11_works_0 dop_16 60 60 (by decide +kernel)
theorem dX11_works_68 : decode cX11_works 68 = .ok (.if_icmp .ge 42, 3) := dR2s (f := Instr.if_icmp .ge) (k := 0) (i := 68) bn_cX11_works_0 dop_162 42 42 (by decide +kernel)
theorem dX11_works_71 : decode cX11_works 71 = .ok (.aload_n 0, 1) := dR0 (k := 0) (i := 71) bn_cX11_works_0 dop_42 (by decide +kernel)
theorem dX11_works_72 : decode cX11_works 72 = .ok (.iconst 1, 1) := dR0 (k := 0) (i := 72) bn_cX11_works_0 dop_4 (by decide +kernel)
theorem dX11_works_73 : decode cX11_works 73 = .ok (.iload_n 2, 1) := dR0 (k := 0) (i := 73) bn_cX11_works_0 dop_28 (by decide +kernel)
theorem dX11_works_74 : decode cX11_works 74 = .ok (.iconst 1, 1) := dR0 (k := 0) (i := 74) bn_cX11_works_0 dop_4 (by decide +kernel)
theorem dX11_works_75 : decode cX11_works 75 = .ok (.aload_n 0, 1) := dR0 (k := 0) (i := 75) bn_cX11_works_0 dop_42 (by decide +kernel)
theorem dX11_works_76 : decode cX11_works 76 = .ok (.getfield 9, 3) := dR2 (f := Instr.getfield) (k := 0) (i := 76) bn_cX11_works_0 dop_180 9 (by decide +kernel)
theorem dX11_works_79 : decode cX11_works 79 = .ok (.iconst 0, 1) := dR0 (k := 0) (i := 79) bn_cX11_works_0 dop_3 (by decide +kernel)
theorem dX11_works_80 : decode cX11_works 80 = .ok (.iaload, 1) := dR0 (k := 0) (i := 80) bn_cX11_works_0 dop_46 (by decide +kernel)
theorem dX11_works_81 : decode cX11_works 81 = .ok (.iconst 1, 1) := dR0 (k := 0) (i := 81) bn_cX11_works_0 dop_4 (by decide +kernel)
theorem dX11_works_82 : decode cX11_works 82 = .ok (.iadd, 1) := dR0 (k := 0) (i := 82) bn_cX11_works_0 dop_96 (by decide +kernel)
theorem dX11_works_83 : decode cX11_works 83 = .ok (.invokevirtual 76, 3) := dR2 (f := Instr.invokevirtual) (k := 0) (i := 83) bn_cX11_works_0 dop_182 76 (by decide +kernel)
theorem dX11_works_86 : decode cX11_works 86 = .ok (.istore 4, 2) := dR1 (f := Instr.istore) (k := 0) (i := 86) bn_cX11_works_0 dop_54 4 (by decide +kernel)
theorem dX11_works_88 : decode cX11_works 88 = .ok (.aload_n 0, 1) := dR0 (k := 0) (i := 88) bn_cX11_works_0 dop_42 (by decide +kernel)
theorem dX11_works_89 : decode cX11_works 89 = .ok (.iload_n 1, 1) := dR0 (k := 0) (i := 89) bn_cX11_works_0 dop_27 (by decide +kernel)
theorem dX11_works_90 : decode cX11_works 90 = .ok (.iconst 4, 1) := dR0 (k := 0) (i := 90) bn_cX11_works_0 dop_7 (by decide +kernel)
theorem dX11_works_91 : decode cX11_works 91 = .ok (.aload_n 0, 1) := dR0 (k := 0) (i := 91) bn_cX11_works_0 dop_42 (by decide +kernel)
theorem dX11_works_92 : decode cX11_works 92 = .ok (.iload_n 1, 1) := dR0 (k := 0) (i := 92) bn_cX11_works_0 dop_27 (by decide +kernel)
theorem dX11_works_93 : decode cX11_works 93 = .ok (.iconst 4, 1) := dR0 (k := 0) (i := 93) bn_cX11_works_0 dop_7 (by decide +kernel)
theorem dX11_works_94 : decode cX11_works 94 = .ok (.invokevirtual 124, 3) := dR2 (f := Instr.invokevirtual) (k := 0) (i := 94) bn_cX11_works_0 dop_182 124 (by decide +kernel)
theorem dX11_works_97 : decode cX11_works 97 = .ok (.iconst 1, 1) := dR0 (k := 0) (i := 97) bn_cX11_works_0 dop_4 (by decide +kernel)
theorem dX11_works_98 : decode cX11_works 98 = .ok (.isub, 1) := dR0 (k := 0) (i := 98) bn_cX11_works_0 dop_100 (by decide +kernel)
theorem dX11_works_99 : decode cX11_works 99 = .ok (.invokevirtual 118, 3) := dR2 (f := Instr.invokevirtual) (k := 0) (i := 99) bn_cX11_works_0 dop_182 118 (by decide +kernel)
theorem dX11_works_102 : decode cX11_works 102 = .ok (.aload_n 0, 1) := dR0 (k := 0) (i := 102) bn_cX11_works_0 dop_42 (by decide +kernel)
theorem dX11_works_103 : decode cX11_works 103 = .ok (.iload_n 1, 1) := dR0 (k := 0) (i := 103) bn_cX11_works_0 dop_27 (by decide +kernel)
theorem dX11_works_104 : decode cX11_works 104 = .ok (.bipush 7, 2) := dR1s (f := Instr.bipush) (k := 0) (i := 104) bn_cX11_works_0 dop_16 7 7 (by decide +kernel)
theorem dX11_works_106 : decode cX11_works 106 = .ok (.iconst 0, 1) := dR0 (k := 0) (i := 106) bn_cX11_works_0 dop_3 (by decide +kernel)
theorem dX11_works_107 : decode cX11_works 107 = .ok (.invokevirtual 118, 3) := dR2 (f := Instr.invokevirtual) (k := 0) (i := 107) bn_cX11_works_0 dop_182 118 (by decide +kernel)
theorem dX11_works_110 : decode cX11_works 110 = .ok (.return_, 1) := dR0 (k := 0) (i := 110) bn_cX11_works_0 dop_177 (by decide +kernel)
theorem dX11_works_111 : decode cX11_works 111 = .ok (.iload_n 2, 1) := dR0 (k := 0) (i := 111) bn_cX11_works_0 dop_28 (by decide +kernel)
theorem dX11_works_112 : decode cX11_works 112 = .ok (.aload_n 0, 1) := dR0 (k := 0) (i := 112) bn_cX11_works_0 dop_42 (by decide +kernel)
theorem dX11_works_113 : decode cX11_works 113 = .ok (.iload_n 1, 1) := dR0 (k := 0) (i := 113) bn_cX11_works_0 dop_27 (by decide +kernel)
theorem dX11_works_114 : decode cX11_works 114 = .ok (.iconst 1, 1) := dR0 (k := 0) (i := 114) bn_cX11_works_0 dop_4 (by decide +kernel)
theorem dX11_works_115 : decode cX11_works 115 = .ok (.invokevirtual 124, 3) := dR2 (f := Instr.invokevirtual) (k := 0) (i := 115) bn_cX11_works_0 dop_182 124 (by decide +kernel)
theorem dX11_works_118 : decode cX11_works 118 = .ok (.iadd, 1) := dR0 (k := 0) (i := 118) bn_cX11_works_0 dop_96 (by decide +kernel)
theorem dX11_works_119 : decode cX11_works 119 = .ok (.istore_n 3, 1) := dR0 (k := 0) (i := 119) bn_cX11_works_0 dop_62 (by decide +kernel)
theorem dX11_works_120 : decode cX11_works 120 = .ok (.aload_n 0, 1) := dR0 (k := 0) (i := 120) bn_cX11_works_0 dop_42 (by decide +kernel)
theorem dX11_works_121 : decode cX11_works 121 = .ok (.iload_n 1, 1) := dR0 (k := 0) (i := 121) bn_cX11_works_0 dop_27 (by decide +kernel)
theorem dX11_works_122 : decode cX11_works 122 = .ok (.bipush 7, 2) := dR1s (f := Instr.bipush) (k := 0) (i := 122) bn_cX11_works_0 dop_16 7 7 (by decide +kernel)
theorem dX11_works_124 : decode cX11_works 124 = .ok (.iconst 0, 1) := dR0 (k := 0) (i := 124) bn_cX11_works_0 dop_3 (by decide +kernel)
theorem dX11_works_125 : decode cX11_works 125 = .ok (.invokevirtual 118, 3) := dR2 (f := Instr.invokevirtual) (k := 0) (i := 125) bn_cX11_works_0 dop_182 118 (by decide +kernel)
theorem bn_cX11_works_128 : BN cX11_works 128 0x1647700adc0a0500aa0080800a6888015c87812110e0acee015b8740a015407810014d11002b90f010382b := by
  unfold BN; decide +kernel
theorem dX11_works_128 : decode cX11_works 128 = .ok (.aload_n 0, 1) := dR0 (k := 128) (i := 0) bn_cX11_works_128 dop_42 (by decide +kernel)
theorem dX11_works_129 : decode cX11_works 129 = .ok (.iload_n 1, 1) := dR0 (k := 128) (i := 1) bn_cX11_works_128 dop_27 (by decide +kernel)
theorem dX11_works_130 : decode cX11_works 130 = .ok (.iconst 0, 1) := dR0 (k := 128) (i := 2) bn_cX11_works_128 dop_3 (by decide +kernel)
theorem dX11_works_131 : decode cX11_works 131 = .ok (.iload_n 3, 1) := dR0 (k := 128) (i := 3) bn_cX11_works_128 dop_29 (by decide +kernel)
theorem dX11_works_132 : decode cX11_works 132 = .ok (.invokestatic 67, 3) := dR2 (f := Instr.invokestatic) (k := 128) (i := 4) bn_cX11_works_128 dop_184 67 (by decide +kernel)
theorem dX11_works_135 : decode cX11_works 135 = .ok (.ifCond .eq 7, 3) := dR2s (f := Instr.ifCond .eq) (k := 128) (i := 7) bn_cX11_works_128 dop_153 7 7 (by decide +kernel)
theorem dX11_works_138 : decode cX11_works 138 = .ok (.iload_n 3, 1) := dR0 (k := 128) (i := 10) bn_cX11_works_128 dop_29 (by decide +kernel)
theorem dX11_works_139 : decode cX11_works 139 = .ok (.goto 4, 3) := dR2s (f := Instr.goto) (k := 128) (i := 11) bn_cX11_works_128 dop_167 4 4 (by decide +kernel)
theorem dX11_works_142 : decode cX11_works 142 = .ok (.iload_n 2, 1) := dR0 (k := 128) (i := 14) bn_cX11_works_128 dop_28 (by decide +kernel)
theorem dX11_works_143 : decode cX11_works 143 = .ok (.invokevirtual 118, 3) := dR2 (f := Instr.invokevirtual) (k := 128) (i := 15) bn_cX11_works_128 dop_182 118 (by decide +kernel)
theorem dX11_works_146 : decode cX11_works 146 = .ok (.aload_n 0, 1) := dR0 (k := 128) (i := 18) bn_cX11_works_128 dop_42 (by decide +kernel)
theorem dX11_works_147 : decode cX11_works 147 = .ok (.iload_n 1, 1) := dR0 (k := 128) (i := 19) bn_cX11_works_128 dop_27 (by decide +kernel)
theorem dX11_works_148 : decode cX11_works 148 = .ok (.bipush 8, 2) := dR1s (f := Instr.bipush) (k := 128) (i := 20) bn_cX11_works_128 dop_16 8 8 (by decide +kernel)
theorem dX11_works_150 : decode cX11_works 150 = .ok (.iload_n 3, 1) := dR0 (k := 128) (i := 22) bn_cX11_works_128 dop_29 (by decide +kernel)
theorem dX11_works_151 : decode cX11_works 151 = .ok (.invokestatic 67, 3) := dR2 (f := Instr.invokestatic) (k := 128) (i := 23) bn_cX11_works_128 dop_184 67 (by decide +kernel)
theorem dX11_works_154 : decode cX11_works 154 = .ok (.ifCond .eq 7, 3) := dR2s (f := Instr.ifCond .eq) (k := 128) (i := 26) bn_cX11_works_128 dop_153 7 7 (by decide +kernel)
theorem dX11_works_157 : decode cX11_works 157 = .ok (.iconst 0, 1) := dR0 (k := 128) (i := 29) bn_cX11_works_128 dop_3 (by decide +kernel)
theorem dX11_works_158 : decode cX11_works 158 = .ok (.goto 4, 3) := dR2s (f := Instr.goto) (k := 128) (i := 30) bn_cX11_works_128 dop_167 4 4 (by decide +kernel)
theorem dX11_works_161 : decode cX11_works 161 = .ok (.iconst 1, 1) := dR0 (k := 128) (i := 33) bn_cX11_works_128 dop_4 (by decide +kernel)
theorem dX11_works_162 : decode cX11_works 162 = .ok (.invokevirtual 118, 3) := dR2 (f := Instr.invokevirtual) (k := 128) (i := 34) bn_cX11_works_128 dop_182 118 (by decide +kernel)
theorem dX11_works_165 : decode cX11_works 165 = .ok (.return_, 1) := dR0 (k := 128) (i := 37) bn_cX11_works_128 dop_177 (by decide +kernel)
set_option maxHeartbeats 4000000 in
set_option maxRecDepth 100000 in
theorem c_X11_worksG (l : Launch) (D : va_G) (cI : ClassId) (aK aV : Nat → Nat) (k k0 k1 k2 k4 k5 k6 k7 k8 ka kb kl ko : Nat) (sz : Nat) (c3 : Int32) (c9 : Int32) (cc : Int32) (cd : Int32) (ce : Int32) (cf : Int32) (cg : Int32) (ch : Int32) (ci : Int32) (cj : Int32) (ck : Int32) (cm : Int32) (cn : Int32) (c0 : Nat → Int32) (a0 : Int32) (pre0 : SIX c0 (-1)) (pre1 : 0 ≤ a0.toInt) (pre2 : a0.toInt ≤ 3) (pre3 : 1 ≤ (pW c0 a0 2).toInt) : Met l yX11_works (gW yX11_works cX11_works 5 none) ({ frames := 4, cells := 0, slots := 0, locals := 87 } : Room) (kPreX D cI aK aV [.ref k, .int a0] [(k, .inr (11, [.ref k0, .ref k1, .ref k2, .int c3, .ref k4, .ref k5, .ref k6, .ref k7, .ref k8, .int c9, .ref ka, .ref kb, .int cc, .int cd, .int ce, .int cf, .int cg, .int ch, .int ci, .int cj, .int ck, .ref kl, .int cm, .int cn, .ref ko])), (k0, .inl (cI, 1201, .inl c0))] sz) (va_Qv (fun (u : (Nat → Int32)) => SIX u (-1) ∧ (u 0).toInt = (c0 0).toInt ∧ (u 2).toInt = (c0 2).toInt ∧ u = wrkS c0 a0.toInt.toNat) (fun u t => kWd D cI (va_A [(k, .inr (11, [.ref k0, .ref k1, .ref k2, .int c3, .ref k4, .ref k5, .ref k6, .ref k7, .ref k8, .int c9, .ref ka, .ref kb, .int cc, .int cd, .int ce, .int cf, .int cg, .int ch, .int ci, .int cj, .int ck, .ref kl, .int cm, .int cn, .ref ko])), (k0, .inl (cI, 1201, .inl c0))] sz) [(k, .inr (11, [.ref k0, .ref k1, .ref k2, .int c3, .ref k4, .ref k5, .ref k6, .ref k7, .ref k8, .int c9, .ref ka, .ref kb, .int cc, .int cd, .int ce, .int cf, .int cg, .int ch, .int ci, .int cj, .int ck, .ref kl, .int cm, .int cn, .ref ko])), (k0, .inl (cI, 1201, .inl u))] t) (va_A [(k, .inr (11, [.ref k0, .ref k1, .ref k2, .int c3, .ref k4, .ref k5, .ref k6, .ref k7, .ref k8, .int c9, .ref ka, .ref kb, .int cc, .int cd, .int ce, .int cf, .int cg, .int ch, .int ci, .int cj, .int ck, .ref kl, .int cm, .int cn, .ref ko])), (k0, .inl (cI, 1201, .inl c0))] sz)) 0 0 (va_A [(k, .inr (11, [.ref k0, .ref k1, .ref k2, .int c3, .ref k4, .ref k5, .ref k6, .ref k7, .ref k8, .int c9, .ref ka, .ref kb, .int cc, .int cd, .int ce, .int cf, .int cg, .int ch, .int ci, .int cj, .int ck, .ref kl, .int cm, .int cn, .ref ko])), (k0, .inl (cI, 1201, .inl c0))] sz) := by
  refine kMetVX (own := RX11) (by decide +kernel) rfl (Nat.le_of_ble_eq_true rfl) ?_
  intro p e s m args below meth c hx hb hT hown hname hml A Q hK hP hD hS hA hN hXS hRet ls hl
  have hl : lv_has ls 5 [(0, .ref k), (1, .int a0)] := hl
  have lo_a0 := k_lo a0
  have hi_a0 := k_hi a0
  have lo_ci := k_lo ci
  have hi_ci := k_hi ci
  have pre0 : SIX c0 (-1) := pre0
  have nb_1 : 0 ≤ (c0 0).toInt ∧ (c0 0).toInt ≤ 2000 := SB.n0 (And.left pre0)
  have nb_2 : 0 ≤ (c0 1).toInt ∧ (c0 1).toInt ≤ 60 := SB.n1 (And.left pre0)
  have nb_3 : 0 ≤ (c0 2).toInt ∧ (c0 2).toInt ≤ 4 := SB.n2 (And.left pre0)
  refine lv_aload_n hx hb dX11_works_0 rfl (lv_at hl 0 rfl) ?_
  refine lv_iload_n hx hb dX11_works_1 rfl (lv_at hl 1 rfl) ?_
  refine lv_iconst (v := 0) hx hb dX11_works_2 (by decide +kernel) ?_
  refine kJi (wr := []) (va_runV (As := [.int a0, .int 0]) (rest := []) ⟨hx, hb, hml, hown, hT⟩ (c_X11_partyG0 l D cI aK aV k k0 k1 k2 k4 k5 k6 k7 k8 ka kb kl ko s.heap.size c3 c9 cc cd ce cf cg ch ci cj ck cm cn c0 a0 0 (by first | omega | (simp only [zl_0]; first | done | omega) | decide | assumption | rfl) (by first | omega | (simp only [zl_0]; first | done | omega) | decide | assumption | rfl) (by first | omega | (simp only [zl_0]; first | done | omega) | decide | assumption | rfl)) (cwV 2 hT (gV_in mw_1416 mw_1413 mw_1415 mw_p5_5 mw_12) rfl rfl rfl (by decide +kernel) ⟨Nat.le_of_ble_eq_true rfl, Nat.le_of_ble_eq_true rfl⟩) (kRecvX (q0 := 0) (ci := 11) hK hP hD hN hXS hS hA rfl rfl [0, 1] rfl (by decide +kernel)) rfl rfl hl.1 rfl (lv_room (Nat.le_of_ble_eq_true rfl)) dX11_works_3 ⟨Nat.le_of_ble_eq_true rfl, Nat.le_of_ble_eq_true rfl⟩) hP hD hS hA [0, 1] [] rfl rfl (by decide +kernel) (by decide +kernel) ?_
  clear hP hD hS
  intro r_4 u_6 H locs w_5 hP hD hS
  replace hP : va_P D vwCl [(k, .inr (11, [.ref k0, .ref k1, .ref k2, .int c3, .ref k4, .ref k5, .ref k6, .ref k7, .ref k8, .int c9, .ref ka, .ref kb, .int cc, .int cd, .int ce, .int cf, .int cg, .int ch, .int ci, .int cj, .int ck, .ref kl, .int cm, .int cn, .ref ko])), (k0, .inl (cI, 1201, .inl c0))] H := hP
  replace hD : va_D A [(k, .inr (11, [.ref k0, .ref k1, .ref k2, .int c3, .ref k4, .ref k5, .ref k6, .ref k7, .ref k8, .int c9, .ref ka, .ref kb, .int cc, .int cd, .int ce, .int cf, .int cg, .int ch, .int ci, .int cj, .int ck, .ref kl, .int cm, .int cn, .ref ko])), (k0, .inl (cI, 1201, .inl c0))] := hD
  have h_7 := w_5
  have h_7 : r_4 = pW c0 a0 0 := h_7
  have t_8 : r_4.toInt = (pW c0 a0 0).toInt := by rw [h_7]
  have b_9 : 0 ≤ r_4.toInt ∧ r_4.toInt ≤ 39 := by rw [h_7]; exact SB.p0 (And.left pre0) (by omega) (by omega)
  have lo_r_4 := k_lo r_4
  have hi_r_4 := k_hi r_4
  refine lv_istore_n (lv' := [(2, .int r_4), (0, .ref k), (1, .int a0)]) hx hb dX11_works_6 rfl hl (by decide +kernel) rfl ?_
  clear hl
  intro ls hl
  refine lv_aload_n hx hb dX11_works_7 rfl (lv_at hl 1 rfl) ?_
  refine lv_iload_n hx hb dX11_works_8 rfl (lv_at hl 0 rfl) ?_
  refine kJi (wr := []) (va_runV (As := [.int r_4]) (rest := []) ⟨hx, hb, hml, hown, hT⟩ (c_X11_isWiredG l D cI aK aV k k0 k1 k2 k4 k5 k6 k7 k8 ka kb kl ko H.size c3 c9 cc cd ce cf cg ch ci cj ck cm cn c0 r_4 (And.left pre0)) (cwV 1 hT (gV_in mw_1368 mw_1365 mw_1367 mw_p4_13 mw_12) rfl rfl rfl (by decide +kernel) ⟨Nat.le_of_ble_eq_true rfl, Nat.le_of_ble_eq_true rfl⟩) (kRecvX (q0 := 0) (ci := 11) hK hP hD hN hXS hS hA rfl rfl [0, 1] rfl (by decide +kernel)) rfl rfl hl.1 rfl (lv_room (Nat.le_of_ble_eq_true rfl)) dX11_works_9 ⟨Nat.le_of_ble_eq_true rfl, Nat.le_of_ble_eq_true rfl⟩) hP hD hS hA [0, 1] [] rfl rfl (by decide +kernel) (by decide +kernel) ?_
  clear hP hD hS
  intro r_10 u_12 H locs w_11 hP hD hS
  replace hP : va_P D vwCl [(k, .inr (11, [.ref k0, .ref k1, .ref k2, .int c3, .ref k4, .ref k5, .ref k6, .ref k7, .ref k8, .int c9, .ref ka, .ref kb, .int cc, .int cd, .int ce, .int cf, .int cg, .int ch, .int ci, .int cj, .int ck, .ref kl, .int cm, .int cn, .ref ko])), (k0, .inl (cI, 1201, .inl c0))] H := hP
  replace hD : va_D A [(k, .inr (11, [.ref k0, .ref k1, .ref k2, .int c3, .ref k4, .ref k5, .ref k6, .ref k7, .ref k8, .int c9, .ref ka, .ref kb, .int cc, .int cd, .int ce, .int cf, .int cg, .int ch, .int ci, .int cj, .int ck, .ref kl, .int cm, .int cn, .ref ko])), (k0, .inl (cI, 1201, .inl c0))] := hD
  rcases w_11 with ⟨hr_10, h_13⟩ | ⟨hr_10, h_14⟩
  · have h_13 : wdF c0 r_4.toInt = 1 := h_13
    have h_13 : wdF c0 r_4.toInt = 1 := h_13
    obtain rfl : r_10 = 1 := hr_10.trans (by decide +kernel)
    refine b_if_ne hx hb zl_1 (tgt := 111) dX11_works_12 (by decide +kernel) (fun c_15 => ?_) (fun c_15 => by exfalso; omega)
    refine lv_iload_n hx hb dX11_works_111 rfl (lv_at hl 0 rfl) ?_
    refine lv_aload_n hx hb dX11_works_112 rfl (lv_at hl 1 rfl) ?_
    refine lv_iload_n hx hb dX11_works_113 rfl (lv_at hl 2 rfl) ?_
    refine lv_iconst (v := 1) hx hb dX11_works_114 (by decide +kernel) ?_
    refine kJi (wr := []) (va_runV (As := [.int a0, .int 1]) (rest := [.int r_4]) ⟨hx, hb, hml, hown, hT⟩ (c_X11_partyG1 l D cI aK aV k k0 k1 k2 k4 k5 k6 k7 k8 ka kb kl ko H.size c3 c9 cc cd ce cf cg ch ci cj ck cm cn c0 a0 1 (by first | omega | (simp only [zl_1]; first | done | omega) | decide | assumption | rfl) (by first | omega | (simp only [zl_1]; first | done | omega) | decide | assumption | rfl) (by first | omega | (simp only [zl_1]; first | done | omega) | decide | assumption | rfl)) (cwV 2 hT (gV_in mw_1416 mw_1413 mw_1415 mw_p5_5 mw_12) rfl rfl rfl (by decide +kernel) ⟨Nat.le_of_ble_eq_true rfl, Nat.le_of_ble_eq_true rfl⟩) (kRecvX (q0 := 0) (ci := 11) hK hP hD hN hXS hS hA rfl rfl [0, 1] rfl (by decide +kernel)) rfl rfl hl.1 rfl (lv_room (Nat.le_of_ble_eq_true rfl)) dX11_works_115 ⟨Nat.le_of_ble_eq_true rfl, Nat.le_of_ble_eq_true rfl⟩) hP hD hS hA [0, 1] [] rfl rfl (by decide +kernel) (by decide +kernel) ?_
    clear hP hD hS
    intro r_16 u_18 H locs w_17 hP hD hS
    replace hP : va_P D vwCl [(k, .inr (11, [.ref k0, .ref k1, .ref k2, .int c3, .ref k4, .ref k5, .ref k6, .ref k7, .ref k8, .int c9, .ref ka, .ref kb, .int cc, .int cd, .int ce, .int cf, .int cg, .int ch, .int ci, .int cj, .int ck, .ref kl, .int cm, .int cn, .ref ko])), (k0, .inl (cI, 1201, .inl c0))] H := hP
    replace hD : va_D A [(k, .inr (11, [.ref k0, .ref k1, .ref k2, .int c3, .ref k4, .ref k5, .ref k6, .ref k7, .ref k8, .int c9, .ref ka, .ref kb, .int cc, .int cd, .int ce, .int cf, .int cg, .int ch, .int ci, .int cj, .int ck, .ref kl, .int cm, .int cn, .ref ko])), (k0, .inl (cI, 1201, .inl c0))] := hD
    have h_19 := w_17
    have h_19 : r_16 = pW c0 a0 1 := h_19
    have t_20 : r_16.toInt = (pW c0 a0 1).toInt := by rw [h_19]
    have lo_r_16 := k_lo r_16
    have hi_r_16 := k_hi r_16
    refine lv_iadd hx hb dX11_works_118 ?_
    refine lv_topi (fun v_21 ev_21 => ?_)
    have lo_v_21 := k_lo v_21
    have hi_v_21 := k_hi v_21
    refine lv_istore_n (lv' := [(3, .int v_21), (2, .int r_4), (0, .ref k), (1, .int a0)]) hx hb dX11_works_119 rfl hl (by decide +kernel) rfl ?_
    clear hl
    intro ls hl
    refine lv_aload_n hx hb dX11_works_120 rfl (lv_at hl 2 rfl) ?_
    refine lv_iload_n hx hb dX11_works_121 rfl (lv_at hl 3 rfl) ?_
    refine lv_bipush (v := 7) hx hb dX11_works_122 (by decide +kernel) ?_
    refine lv_iconst (v := 0) hx hb dX11_works_124 (by decide +kernel) ?_
    refine kJv (wr := []) (va_runV (As := [.int a0, .int 7, .int 0]) (rest := []) ⟨hx, hb, hml, hown, hT⟩ (c_X11_setPartyG7 l D cI aK aV k k0 k1 k2 k4 k5 k6 k7 k8 ka kb kl ko H.size c3 c9 cc cd ce cf cg ch ci cj ck cm cn c0 a0 7 0 (by first | omega | (simp only [zl_0, zl_7]; first | done | omega) | decide | assumption | rfl) (by first | omega | (simp only [zl_0, zl_7]; first | done | omega) | decide | assumption | rfl) (by first | omega | (simp only [zl_0, zl_7]; first | done | omega) | decide | assumption | rfl)) (cwV 3 hT (gV_in mw_1404 mw_1401 mw_1403 mw_p5_3 mw_12) rfl rfl rfl (by decide +kernel) ⟨Nat.le_of_ble_eq_true rfl, Nat.le_of_ble_eq_true rfl⟩) (kRecvX (q0 := 0) (ci := 11) hK hP hD hN hXS hS hA rfl rfl [0, 1] rfl (by decide +kernel)) rfl rfl hl.1 rfl (lv_room (Nat.le_of_ble_eq_true rfl)) dX11_works_125 ⟨Nat.le_of_ble_eq_true rfl, Nat.le_of_ble_eq_true rfl⟩) hP hD hS hA [0, 1] [] rfl rfl (by decide +kernel) (by decide +kernel) ?_
    clear hP hD hS
    intro sc0_24 H locs w_23 hP hD hS
    replace hP : va_P D vwCl [(k, .inr (11, [.ref k0, .ref k1, .ref k2, .int c3, .ref k4, .ref k5, .ref k6, .ref k7, .ref k8, .int c9, .ref ka, .ref kb, .int cc, .int cd, .int ce, .int cf, .int cg, .int ch, .int ci, .int cj, .int ck, .ref kl, .int cm, .int cn, .ref ko])), (k0, .inl (cI, 1201, .inl sc0_24))] H := hP
    replace hD : va_D A [(k, .inr (11, [.ref k0, .ref k1, .ref k2, .int c3, .ref k4, .ref k5, .ref k6, .ref k7, .ref k8, .int c9, .ref ka, .ref kb, .int cc, .int cd, .int ce, .int cf, .int cg, .int ch, .int ci, .int cj, .int ck, .ref kl, .int cm, .int cn, .ref ko])), (k0, .inl (cI, 1201, .inl sc0_24))] := hD
    have h_25 := w_23
    try simp only [zl_0, zl_7] at h_25
    have h_25 : sc0_24 = upd c0 (459 + 9 * a0.toInt.toNat + 7) 0 := h_25
    have h_25 : sc0_24 = upd c0 (459 + 9 * a0.toInt.toNat + 7) 0 := h_25
    have hS_26 : SIX sc0_24 (-1) := SIX.p pre0 h_25 zl_0 (by omega) (by omega) (by decide +kernel) (by omega) (fun z => by omega) (fun z => by omega)
    have n_27 : (sc0_24 0).toInt = (c0 0).toInt := by rw [updN h_25 (by omega)]
    have n_28 : (sc0_24 1).toInt = (c0 1).toInt := by rw [updN h_25 (by omega)]
    have n_29 : (sc0_24 2).toInt = (c0 2).toInt := by rw [updN h_25 (by omega)]
    have n_30 : (pW sc0_24 a0 2).toInt = (pW c0 a0 2).toInt := by rw [pW_upd h_25 (by decide +kernel) (by decide +kernel) (Or.inl (by decide +kernel))]
    refine lv_aload_n hx hb dX11_works_128 rfl (lv_at hl 2 rfl) ?_
    refine lv_iload_n hx hb dX11_works_129 rfl (lv_at hl 3 rfl) ?_
    refine lv_iconst (v := 0) hx hb dX11_works_130 (by decide +kernel) ?_
    refine lv_iload_n hx hb dX11_works_131 rfl (lv_at hl 0 rfl) ?_
    refine kJi (wr := [(k, .inr (11, [.ref k0, .ref k1, .ref k2, .int c3, .ref k4, .ref k5, .ref k6, .ref k7, .ref k8, .int c9, .ref ka, .ref kb, .int cc, .int cd, .int ce, .int cf, .int cg, .int ch, .int ci, .int cj, .int ck, .ref kl, .int cm, .int cn, .ref ko])), (k0, .inl (cI, 1201, .inl sc0_24))]) (va_runS (As := [.int v_21]) (rest := [.int 0, .int a0, .ref k]) ⟨hx, hb, hml, hown, hT⟩ (c_X11_isMileG l D cI aK aV H.size v_21) (cwS 1 hT (gS_in mw_1251 mw_1249 mw_1250 mw_12) rfl rfl rfl (by decide +kernel) ⟨Nat.le_of_ble_eq_true rfl, Nat.le_of_ble_eq_true rfl⟩) (kStatX hK hP hD hN hXS hS hA [] rfl (by decide +kernel)) rfl rfl hl.1 rfl (lv_room (Nat.le_of_ble_eq_true rfl)) dX11_works_132 ⟨Nat.le_of_ble_eq_true rfl, Nat.le_of_ble_eq_true rfl⟩) hP hD hS hA [] [0, 1] rfl rfl (by decide +kernel) (by decide +kernel) ?_
    clear hP hD hS
    intro r_31 u_33 H locs w_32 hP hD hS
    replace hP : va_P D vwCl [(k, .inr (11, [.ref k0, .ref k1, .ref k2, .int c3, .ref k4, .ref k5, .ref k6, .ref k7, .ref k8, .int c9, .ref ka, .ref kb, .int cc, .int cd, .int ce, .int cf, .int cg, .int ch, .int ci, .int cj, .int ck, .ref kl, .int cm, .int cn, .ref ko])), (k0, .inl (cI, 1201, .inl sc0_24))] H := hP
    replace hD : va_D A [(k, .inr (11, [.ref k0, .ref k1, .ref k2, .int c3, .ref k4, .ref k5, .ref k6, .ref k7, .ref k8, .int c9, .ref ka, .ref kb, .int cc, .int cd, .int ce, .int cf, .int cg, .int ch, .int ci, .int cj, .int ck, .ref kl, .int cm, .int cn, .ref ko])), (k0, .inl (cI, 1201, .inl sc0_24))] := hD
    rcases w_32 with ⟨hr_31, h_34, h_35⟩ | ⟨hr_31, h_36⟩
    · have h_34 : 0 ≤ v_21.toInt := h_34
      have h_35 : v_21.toInt ≤ 39 := h_35
      obtain rfl : r_31 = 1 := hr_31.trans (by decide +kernel)
      refine b_if_eq hx hb zl_1 (tgt := 142) dX11_works_135 (by decide +kernel) (fun c_37 => by exfalso; omega) (fun c_37 => ?_)
      refine lv_iload_n hx hb dX11_works_138 rfl (lv_at hl 0 rfl) ?_
      refine lv_goto (tgt := 143) hx hb dX11_works_139 (by decide +kernel) ?_
      refine kJv (wr := []) (va_runV (As := [.int a0, .int 0, .int v_21]) (rest := []) ⟨hx, hb, hml, hown, hT⟩ (c_X11_setPartyG0 l D cI aK aV k k0 k1 k2 k4 k5 k6 k7 k8 ka kb kl ko H.size c3 c9 cc cd ce cf cg ch ci cj ck cm cn sc0_24 a0 0 v_21 (by first | omega | (simp only [zl_0]; first | done | omega) | decide | assumption | rfl) (by first | omega | (simp only [zl_0]; first | done | omega) | decide | assumption | rfl) (by first | omega | (simp only [zl_0]; first | done | omega) | decide | assumption | rfl)) (cwV 3 hT (gV_in mw_1404 mw_1401 mw_1403 mw_p5_3 mw_12) rfl rfl rfl (by decide +kernel) ⟨Nat.le_of_ble_eq_true rfl, Nat.le_of_ble_eq_true rfl⟩) (kRecvX (q0 := 0) (ci := 11) hK hP hD hN hXS hS hA rfl rfl [0, 1] rfl (by decide +kernel)) rfl rfl hl.1 rfl (lv_room (Nat.le_of_ble_eq_true rfl)) dX11_works_143 ⟨Nat.le_of_ble_eq_true rfl, Nat.le_of_ble_eq_true rfl⟩) hP hD hS hA [0, 1] [] rfl rfl (by decide +kernel) (by decide +kernel) ?_
      clear hP hD hS
      intro sc0_40 H locs w_39 hP hD hS
      replace hP : va_P D vwCl [(k, .inr (11, [.ref k0, .ref k1, .ref k2, .int c3, .ref k4, .ref k5, .ref k6, .ref k7, .ref k8, .int c9, .ref ka, .ref kb, .int cc, .int cd, .int ce, .int cf, .int cg, .int ch, .int ci, .int cj, .int ck, .ref kl, .int cm, .int cn, .ref ko])), (k0, .inl (cI, 1201, .inl sc0_40))] H := hP
      replace hD : va_D A [(k, .inr (11, [.ref k0, .ref k1, .ref k2, .int c3, .ref k4, .ref k5, .ref k6, .ref k7, .ref k8, .int c9, .ref ka, .ref kb, .int cc, .int cd, .int ce, .int cf, .int cg, .int ch, .int ci, .int cj, .int ck, .ref kl, .int cm, .int cn, .ref ko])), (k0, .inl (cI, 1201, .inl sc0_40))] := hD
      have h_41 := w_39
      try simp only [zl_0] at h_41
      have h_41 : sc0_40 = upd sc0_24 (459 + 9 * a0.toInt.toNat + 0) v_21 := h_41
      have h_41 : sc0_40 = upd sc0_24 (459 + 9 * a0.toInt.toNat + 0) v_21 := h_41
      have hS_42 : SIX sc0_40 (-1) := SIX.p hS_26 h_41 rfl (by omega) (by omega) (by decide +kernel) (by omega) (fun z => by omega) (fun z => by omega)
      have n_43 : (sc0_40 0).toInt = (sc0_24 0).toInt := by rw [updN h_41 (by omega)]
      have n_44 : (sc0_40 1).toInt = (sc0_24 1).toInt := by rw [updN h_41 (by omega)]
      have n_45 : (sc0_40 2).toInt = (sc0_24 2).toInt := by rw [updN h_41 (by omega)]
      have n_46 : (pW sc0_40 a0 2).toInt = (pW sc0_24 a0 2).toInt := by rw [pW_upd h_41 (by decide +kernel) (by decide +kernel) (Or.inl (by decide +kernel))]
      refine lv_aload_n hx hb dX11_works_146 rfl (lv_at hl 2 rfl) ?_
      refine lv_iload_n hx hb dX11_works_147 rfl (lv_at hl 3 rfl) ?_
      refine lv_bipush (v := 8) hx hb dX11_works_148 (by decide +kernel) ?_
      refine lv_iload_n hx hb dX11_works_150 rfl (lv_at hl 0 rfl) ?_
      refine kJi (wr := [(k, .inr (11, [.ref k0, .ref k1, .ref k2, .int c3, .ref k4, .ref k5, .ref k6, .ref k7, .ref k8, .int c9, .ref ka, .ref kb, .int cc, .int cd, .int ce, .int cf, .int cg, .int ch, .int ci, .int cj, .int ck, .ref kl, .int cm, .int cn, .ref ko])), (k0, .inl (cI, 1201, .inl sc0_40))]) (va_runS (As := [.int v_21]) (rest := [.int 8, .int a0, .ref k]) ⟨hx, hb, hml, hown, hT⟩ (c_X11_isMileG l D cI aK aV H.size v_21) (cwS 1 hT (gS_in mw_1251 mw_1249 mw_1250 mw_12) rfl rfl rfl (by decide +kernel) ⟨Nat.le_of_ble_eq_true rfl, Nat.le_of_ble_eq_true rfl⟩) (kStatX hK hP hD hN hXS hS hA [] rfl (by decide +kernel)) rfl rfl hl.1 rfl (lv_room (Nat.le_of_ble_eq_true rfl)) dX11_works_151 ⟨Nat.le_of_ble_eq_true rfl, Nat.le_of_ble_eq_true rfl⟩) hP hD hS hA [] [0, 1] rfl rfl (by decide +kernel) (by decide +kernel) ?_
      clear hP hD hS
      intro r_47 u_49 H locs w_48 hP hD hS
      replace hP : va_P D vwCl [(k, .inr (11, [.ref k0, .ref k1, .ref k2, .int c3, .ref k4, .ref k5, .ref k6, .ref k7, .ref k8, .int c9, .ref ka, .ref kb, .int cc, .int cd, .int ce, .int cf, .int cg, .int ch, .int ci, .int cj, .int ck, .ref kl, .int cm, .int cn, .ref ko])), (k0, .inl (cI, 1201, .inl sc0_40))] H := hP
      replace hD : va_D A [(k, .inr (11, [.ref k0, .ref k1, .ref k2, .int c3, .ref k4, .ref k5, .ref k6, .ref k7, .ref k8, .int c9, .ref ka, .ref kb, .int cc, .int cd, .int ce, .int cf, .int cg, .int ch, .int ci, .int cj, .int ck, .ref kl, .int cm, .int cn, .ref ko])), (k0, .inl (cI, 1201, .inl sc0_40))] := hD
      rcases w_48 with ⟨hr_47, h_50, h_51⟩ | ⟨hr_47, h_52⟩
      · have h_50 : 0 ≤ v_21.toInt := h_50
        have h_51 : v_21.toInt ≤ 39 := h_51
        obtain rfl : r_47 = 1 := hr_47.trans (by decide +kernel)
        refine b_if_eq hx hb zl_1 (tgt := 161) dX11_works_154 (by decide +kernel) (fun c_53 => by exfalso; omega) (fun c_53 => ?_)
        refine lv_iconst (v := 0) hx hb dX11_works_157 (by decide +kernel) ?_
        refine lv_goto (tgt := 162) hx hb dX11_works_158 (by decide +kernel) ?_
        refine kJv (wr := []) (va_runV (As := [.int a0, .int 8, .int 0]) (rest := []) ⟨hx, hb, hml, hown, hT⟩ (c_X11_setPartyG8 l D cI aK aV k k0 k1 k2 k4 k5 k6 k7 k8 ka kb kl ko H.size c3 c9 cc cd ce cf cg ch ci cj ck cm cn sc0_40 a0 8 0 (by first | omega | (simp only [zl_0, zl_8]; first | done | omega) | decide | assumption | rfl) (by first | omega | (simp only [zl_0, zl_8]; first | done | omega) | decide | assumption | rfl) (by first | omega | (simp only [zl_0, zl_8]; first | done | omega) | decide | assumption | rfl)) (cwV 3 hT (gV_in mw_1404 mw_1401 mw_1403 mw_p5_3 mw_12) rfl rfl rfl (by decide +kernel) ⟨Nat.le_of_ble_eq_true rfl, Nat.le_of_ble_eq_true rfl⟩) (kRecvX (q0 := 0) (ci := 11) hK hP hD hN hXS hS hA rfl rfl [0, 1] rfl (by decide +kernel)) rfl rfl hl.1 rfl (lv_room (Nat.le_of_ble_eq_true rfl)) dX11_works_162 ⟨Nat.le_of_ble_eq_true rfl, Nat.le_of_ble_eq_true rfl⟩) hP hD hS hA [0, 1] [] rfl rfl (by decide +kernel) (by decide +kernel) ?_
        clear hP hD hS
        intro sc0_56 H locs w_55 hP hD hS
        replace hP : va_P D vwCl [(k, .inr (11, [.ref k0, .ref k1, .ref k2, .int c3, .ref k4, .ref k5, .ref k6, .ref k7, .ref k8, .int c9, .ref ka, .ref kb, .int cc, .int cd, .int ce, .int cf, .int cg, .int ch, .int ci, .int cj, .int ck, .ref kl, .int cm, .int cn, .ref ko])), (k0, .inl (cI, 1201, .inl sc0_56))] H := hP
        replace hD : va_D A [(k, .inr (11, [.ref k0, .ref k1, .ref k2, .int c3, .ref k4, .ref k5, .ref k6, .ref k7, .ref k8, .int c9, .ref ka, .ref kb, .int cc, .int cd, .int ce, .int cf, .int cg, .int ch, .int ci, .int cj, .int ck, .ref kl, .int cm, .int cn, .ref ko])), (k0, .inl (cI, 1201, .inl sc0_56))] := hD
        have h_57 := w_55
        try simp only [zl_0, zl_8] at h_57
        have h_57 : sc0_56 = upd sc0_40 (459 + 9 * a0.toInt.toNat + 8) 0 := h_57
        have h_57 : sc0_56 = upd sc0_40 (459 + 9 * a0.toInt.toNat + 8) 0 := h_57
        have hS_58 : SIX sc0_56 (-1) := SIX.p hS_42 h_57 zl_0 (by omega) (by omega) (by decide +kernel) (by omega) (fun z => by omega) (fun _ => by omega)
        have n_59 : (sc0_56 0).toInt = (sc0_40 0).toInt := by rw [updN h_57 (by omega)]
        have n_60 : (sc0_56 1).toInt = (sc0_40 1).toInt := by rw [updN h_57 (by omega)]
        have n_61 : (sc0_56 2).toInt = (sc0_40 2).toInt := by rw [updN h_57 (by omega)]
        have n_62 : (pW sc0_56 a0 2).toInt = (pW sc0_40 a0 2).toInt := by rw [pW_upd h_57 (by decide +kernel) (by decide +kernel) (Or.inl (by decide +kernel))]
        exact hRet sc0_56 [0, 1] ⟨hS_58, (by first | omega | decide | assumption | rfl), (by first | omega | decide | assumption | rfl), (ref_wg (t := v_21) h_7 h_13 h_19 ev_21 (by first | (exfalso; omega) | exact Or.inl ⟨by omega, by omega, rfl, rfl⟩ | exact Or.inr ⟨by omega, rfl, rfl⟩) h_25 h_41 h_57)⟩ hP hD (by decide +kernel) rfl hS dX11_works_165
      · exfalso; omega
    · have h_36 : v_21.toInt < 0 ∨ 39 < v_21.toInt := h_36
      obtain rfl : r_31 = 0 := hr_31.trans (by decide +kernel)
      refine b_if_eq hx hb zl_0 (tgt := 142) dX11_works_135 (by decide +kernel) (fun c_63 => ?_) (fun c_63 => by exfalso; omega)
      refine lv_iload_n hx hb dX11_works_142 rfl (lv_at hl 1 rfl) ?_
      refine kJv (wr := []) (va_runV (As := [.int a0, .int 0, .int r_4]) (rest := []) ⟨hx, hb, hml, hown, hT⟩ (c_X11_setPartyG0 l D cI aK aV k k0 k1 k2 k4 k5 k6 k7 k8 ka kb kl ko H.size c3 c9 cc cd ce cf cg ch ci cj ck cm cn sc0_24 a0 0 r_4 (by first | omega | (simp only [zl_0]; first | done | omega) | decide | assumption | rfl) (by first | omega | (simp only [zl_0]; first | done | omega) | decide | assumption | rfl) (by first | omega | (simp only [zl_0]; first | done | omega) | decide | assumption | rfl)) (cwV 3 hT (gV_in mw_1404 mw_1401 mw_1403 mw_p5_3 mw_12) rfl rfl rfl (by decide +kernel) ⟨Nat.le_of_ble_eq_true rfl, Nat.le_of_ble_eq_true rfl⟩) (kRecvX (q0 := 0) (ci := 11) hK hP hD hN hXS hS hA rfl rfl [0, 1] rfl (by decide +kernel)) rfl rfl hl.1 rfl (lv_room (Nat.le_of_ble_eq_true rfl)) dX11_works_143 ⟨Nat.le_of_ble_eq_true rfl, Nat.le_of_ble_eq_true rfl⟩) hP hD hS hA [0, 1] [] rfl rfl (by decide +kernel) (by decide +kernel) ?_
      clear hP hD hS
      intro sc0_66 H locs w_65 hP hD hS
      replace hP : va_P D vwCl [(k, .inr (11, [.ref k0, .ref k1, .ref k2, .int c3, .ref k4, .ref k5, .ref k6, .ref k7, .ref k8, .int c9, .ref ka, .ref kb, .int cc, .int cd, .int ce, .int cf, .int cg, .int ch, .int ci, .int cj, .int ck, .ref kl, .int cm, .int cn, .ref ko])), (k0, .inl (cI, 1201, .inl sc0_66))] H := hP
      replace hD : va_D A [(k, .inr (11, [.ref k0, .ref k1, .ref k2, .int c3, .ref k4, .ref k5, .ref k6, .ref k7, .ref k8, .int c9, .ref ka, .ref kb, .int cc, .int cd, .int ce, .int cf, .int cg, .int ch, .int ci, .int cj, .int ck, .ref kl, .int cm, .int cn, .ref ko])), (k0, .inl (cI, 1201, .inl sc0_66))] := hD
      have h_67 := w_65
      try simp only [zl_0] at h_67
      have h_67 : sc0_66 = upd sc0_24 (459 + 9 * a0.toInt.toNat + 0) r_4 := h_67
      have h_67 : sc0_66 = upd sc0_24 (459 + 9 * a0.toInt.toNat + 0) r_4 := h_67
      have hS_68 : SIX sc0_66 (-1) := SIX.p hS_26 h_67 rfl (by omega) (by omega) (by decide +kernel) (by omega) (fun z => by omega) (fun z => by omega)
      have n_69 : (sc0_66 0).toInt = (sc0_24 0).toInt := by rw [updN h_67 (by omega)]
      have n_70 : (sc0_66 1).toInt = (sc0_24 1).toInt := by rw [updN h_67 (by omega)]
      have n_71 : (sc0_66 2).toInt = (sc0_24 2).toInt := by rw [updN h_67 (by omega)]
      have n_72 : (pW sc0_66 a0 2).toInt = (pW sc0_24 a0 2).toInt := by rw [pW_upd h_67 (by decide +kernel) (by decide +kernel) (Or.inl (by decide +kernel))]
      refine lv_aload_n hx hb dX11_works_146 rfl (lv_at hl 2 rfl) ?_
      refine lv_iload_n hx hb dX11_works_147 rfl (lv_at hl 3 rfl) ?_
      refine lv_bipush (v := 8) hx hb dX11_works_148 (by decide +kernel) ?_
      refine lv_iload_n hx hb dX11_works_150 rfl (lv_at hl 0 rfl) ?_
      refine kJi (wr := [(k, .inr (11, [.ref k0, .ref k1, .ref k2, .int c3, .ref k4, .ref k5, .ref k6, .ref k7, .ref k8, .int c9, .ref ka, .ref kb, .int cc, .int cd, .int ce, .int cf, .int cg, .int ch, .int ci, .int cj, .int ck, .ref kl, .int cm, .int cn, .ref ko])), (k0, .inl (cI, 1201, .inl sc0_66))]) (va_runS (As := [.int v_21]) (rest := [.int 8, .int a0, .ref k]) ⟨hx, hb, hml, hown, hT⟩ (c_X11_isMileG l D cI aK aV H.size v_21) (cwS 1 hT (gS_in mw_1251 mw_1249 mw_1250 mw_12) rfl rfl rfl (by decide +kernel) ⟨Nat.le_of_ble_eq_true rfl, Nat.le_of_ble_eq_true rfl⟩) (kStatX hK hP hD hN hXS hS hA [] rfl (by decide +kernel)) rfl rfl hl.1 rfl (lv_room (Nat.le_of_ble_eq_true rfl)) dX11_works_151 ⟨Nat.le_of_ble_eq_true rfl, Nat.le_of_ble_eq_true rfl⟩) hP hD hS hA [] [0, 1] rfl rfl (by decide +kernel) (by decide +kernel) ?_
      clear hP hD hS
      intro r_73 u_75 H locs w_74 hP hD hS
      replace hP : va_P D vwCl [(k, .inr (11, [.ref k0, .ref k1, .ref k2, .int c3, .ref k4, .ref k5, .ref k6, .ref k7, .ref k8, .int c9, .ref ka, .ref kb, .int cc, .int cd, .int ce, .int cf, .int cg, .int ch, .int ci, .int cj, .int ck, .ref kl, .int cm, .int cn, .ref ko])), (k0, .inl (cI, 1201, .inl sc0_66))] H := hP
      replace hD : va_D A [(k, .inr (11, [.ref k0, .ref k1, .ref k2, .int c3, .ref k4, .ref k5, .ref k6, .ref k7, .ref k8, .int c9, .ref ka, .ref kb, .int cc, .int cd, .int ce, .int cf, .int cg, .int ch, .int ci, .int cj, .int ck, .ref kl, .int cm, .int cn, .ref ko])), (k0, .inl (cI, 1201, .inl sc0_66))] := hD
      rcases w_74 with ⟨hr_73, h_76, h_77⟩ | ⟨hr_73, h_78⟩
      · have h_76 : 0 ≤ v_21.toInt := h_76
        have h_77 : v_21.toInt ≤ 39 := h_77
        obtain rfl : r_73 = 1 := hr_73.trans (by decide +kernel)
        refine b_if_eq hx hb zl_1 (tgt := 161) dX11_works_154 (by decide +kernel) (fun c_79 => by exfalso; omega) (fun c_79 => ?_)
        refine lv_iconst (v := 0) hx hb dX11_works_157 (by decide +kernel) ?_
        refine lv_goto (tgt := 162) hx hb dX11_works_158 (by decide +kernel) ?_
        refine kJv (wr := []) (va_runV (As := [.int a0, .int 8, .int 0]) (rest := []) ⟨hx, hb, hml, hown, hT⟩ (c_X11_setPartyG8 l D cI aK aV k k0 k1 k2 k4 k5 k6 k7 k8 ka kb kl ko H.size c3 c9 cc cd ce cf cg ch ci cj ck cm cn sc0_66 a0 8 0 (by first | omega | (simp only [zl_0, zl_8]; first | done | omega) | decide | assumption | rfl) (by first | omega | (simp only [zl_0, zl_8]; first | done | omega) | decide | assumption | rfl) (by first | omega | (simp only [zl_0, zl_8]; first | done | omega) | decide | assumption | rfl)) (cwV 3 hT (gV_in mw_1404 mw_1401 mw_1403 mw_p5_3 mw_12) rfl rfl rfl (by decide +kernel) ⟨Nat.le_of_ble_eq_true rfl, Nat.le_of_ble_eq_true rfl⟩) (kRecvX (q0 := 0) (ci := 11) hK hP hD hN hXS hS hA rfl rfl [0, 1] rfl (by decide +kernel)) rfl rfl hl.1 rfl (lv_room (Nat.le_of_ble_eq_true rfl)) dX11_works_162 ⟨Nat.le_of_ble_eq_true rfl, Nat.le_of_ble_eq_true rfl⟩) hP hD hS hA [0, 1] [] rfl rfl (by decide +kernel) (by decide +kernel) ?_
        clear hP hD hS
        intro sc0_82 H locs w_81 hP hD hS
        replace hP : va_P D vwCl [(k, .inr (11, [.ref k0, .ref k1, .ref k2, .int c3, .ref k4, .ref k5, .ref k6, .ref k7, .ref k8, .int c9, .ref ka, .ref kb, .int cc, .int cd, .int ce, .int cf, .int cg, .int ch, .int ci, .int cj, .int ck, .ref kl, .int cm, .int cn, .ref ko])), (k0, .inl (cI, 1201, .inl sc0_82))] H := hP
        replace hD : va_D A [(k, .inr (11, [.ref k0, .ref k1, .ref k2, .int c3, .ref k4, .ref k5, .ref k6, .ref k7, .ref k8, .int c9, .ref ka, .ref kb, .int cc, .int cd, .int ce, .int cf, .int cg, .int ch, .int ci, .int cj, .int ck, .ref kl, .int cm, .int cn, .ref ko])), (k0, .inl (cI, 1201, .inl sc0_82))] := hD
        have h_83 := w_81
        try simp only [zl_0, zl_8] at h_83
        have h_83 : sc0_82 = upd sc0_66 (459 + 9 * a0.toInt.toNat + 8) 0 := h_83
        have h_83 : sc0_82 = upd sc0_66 (459 + 9 * a0.toInt.toNat + 8) 0 := h_83
        have hS_84 : SIX sc0_82 (-1) := SIX.p hS_68 h_83 zl_0 (by omega) (by omega) (by decide +kernel) (by omega) (fun z => by omega) (fun _ => by omega)
        have n_85 : (sc0_82 0).toInt = (sc0_66 0).toInt := by rw [updN h_83 (by omega)]
        have n_86 : (sc0_82 1).toInt = (sc0_66 1).toInt := by rw [updN h_83 (by omega)]
        have n_87 : (sc0_82 2).toInt = (sc0_66 2).toInt := by rw [updN h_83 (by omega)]
        have n_88 : (pW sc0_82 a0 2).toInt = (pW sc0_66 a0 2).toInt := by rw [pW_upd h_83 (by decide +kernel) (by decide +kernel) (Or.inl (by decide +kernel))]
        exact hRet sc0_82 [0, 1] ⟨hS_84, (by first | omega | decide | assumption | rfl), (by first | omega | decide | assumption | rfl), (ref_wg (t := v_21) h_7 h_13 h_19 ev_21 (by first | (exfalso; omega) | exact Or.inl ⟨by omega, by omega, rfl, rfl⟩ | exact Or.inr ⟨by omega, rfl, rfl⟩) h_25 h_67 h_83)⟩ hP hD (by decide +kernel) rfl hS dX11_works_165
      · have h_78 : v_21.toInt < 0 ∨ 39 < v_21.toInt := h_78
        obtain rfl : r_73 = 0 := hr_73.trans (by decide +kernel)
        refine b_if_eq hx hb zl_0 (tgt := 161) dX11_works_154 (by decide +kernel) (fun c_89 => ?_) (fun c_89 => by exfalso; omega)
        refine lv_iconst (v := 1) hx hb dX11_works_161 (by decide +kernel) ?_
        refine kJv (wr := []) (va_runV (As := [.int a0, .int 8, .int 1]) (rest := []) ⟨hx, hb, hml, hown, hT⟩ (c_X11_setPartyG8 l D cI aK aV k k0 k1 k2 k4 k5 k6 k7 k8 ka kb kl ko H.size c3 c9 cc cd ce cf cg ch ci cj ck cm cn sc0_66 a0 8 1 (by first | omega | (simp only [zl_1, zl_8]; first | done | omega) | decide | assumption | rfl) (by first | omega | (simp only [zl_1, zl_8]; first | done | omega) | decide | assumption | rfl) (by first | omega | (simp only [zl_1, zl_8]; first | done | omega) | decide | assumption | rfl)) (cwV 3 hT (gV_in mw_1404 mw_1401 mw_1403 mw_p5_3 mw_12) rfl rfl rfl (by decide +kernel) ⟨Nat.le_of_ble_eq_true rfl, Nat.le_of_ble_eq_true rfl⟩) (kRecvX (q0 := 0) (ci := 11) hK hP hD hN hXS hS hA rfl rfl [0, 1] rfl (by decide +kernel)) rfl rfl hl.1 rfl (lv_room (Nat.le_of_ble_eq_true rfl)) dX11_works_162 ⟨Nat.le_of_ble_eq_true rfl, Nat.le_of_ble_eq_true rfl⟩) hP hD hS hA [0, 1] [] rfl rfl (by decide +kernel) (by decide +kernel) ?_
        clear hP hD hS
        intro sc0_92 H locs w_91 hP hD hS
        replace hP : va_P D vwCl [(k, .inr (11, [.ref k0, .ref k1, .ref k2, .int c3, .ref k4, .ref k5, .ref k6, .ref k7, .ref k8, .int c9, .ref ka, .ref kb, .int cc, .int cd, .int ce, .int cf, .int cg, .int ch, .int ci, .int cj, .int ck, .ref kl, .int cm, .int cn, .ref ko])), (k0, .inl (cI, 1201, .inl sc0_92))] H := hP
        replace hD : va_D A [(k, .inr (11, [.ref k0, .ref k1, .ref k2, .int c3, .ref k4, .ref k5, .ref k6, .ref k7, .ref k8, .int c9, .ref ka, .ref kb, .int cc, .int cd, .int ce, .int cf, .int cg, .int ch, .int ci, .int cj, .int ck, .ref kl, .int cm, .int cn, .ref ko])), (k0, .inl (cI, 1201, .inl sc0_92))] := hD
        have h_93 := w_91
        try simp only [zl_1, zl_8] at h_93
        have h_93 : sc0_92 = upd sc0_66 (459 + 9 * a0.toInt.toNat + 8) 1 := h_93
        have h_93 : sc0_92 = upd sc0_66 (459 + 9 * a0.toInt.toNat + 8) 1 := h_93
        have hS_94 : SIX sc0_92 (-1) := SIX.p hS_68 h_93 zl_1 (by omega) (by omega) (by decide +kernel) (by omega) (fun z => by omega) (fun _ => by omega)
        have n_95 : (sc0_92 0).toInt = (sc0_66 0).toInt := by rw [updN h_93 (by omega)]
        have n_96 : (sc0_92 1).toInt = (sc0_66 1).toInt := by rw [updN h_93 (by omega)]
        have n_97 : (sc0_92 2).toInt = (sc0_66 2).toInt := by rw [updN h_93 (by omega)]
        have n_98 : (pW sc0_92 a0 2).toInt = (pW sc0_66 a0 2).toInt := by rw [pW_upd h_93 (by decide +kernel) (by decide +kernel) (Or.inl (by decide +kernel))]
        exact hRet sc0_92 [0, 1] ⟨hS_94, (by first | omega | decide | assumption | rfl), (by first | omega | decide | assumption | rfl), (ref_wg (t := v_21) h_7 h_13 h_19 ev_21 (by first | (exfalso; omega) | exact Or.inl ⟨by omega, by omega, rfl, rfl⟩ | exact Or.inr ⟨by omega, rfl, rfl⟩) h_25 h_67 h_93)⟩ hP hD (by decide +kernel) rfl hS dX11_works_165
  · have h_14 : wdF c0 r_4.toInt = 0 := h_14
    have h_14 : wdF c0 r_4.toInt = 0 := h_14
    obtain rfl : r_10 = 0 := hr_10.trans (by decide +kernel)
    refine b_if_ne hx hb zl_0 (tgt := 111) dX11_works_12 (by decide +kernel) (fun c_99 => by exfalso; omega) (fun c_99 => ?_)
    refine lv_aload_n hx hb dX11_works_15 rfl (lv_at hl 1 rfl) ?_
    refine lv_iload_n hx hb dX11_works_16 rfl (lv_at hl 2 rfl) ?_
    refine lv_bipush (v := 7) hx hb dX11_works_17 (by decide +kernel) ?_
    refine kJi (wr := []) (va_runV (As := [.int a0, .int 7]) (rest := []) ⟨hx, hb, hml, hown, hT⟩ (c_X11_partyG7 l D cI aK aV k k0 k1 k2 k4 k5 k6 k7 k8 ka kb kl ko H.size c3 c9 cc cd ce cf cg ch ci cj ck cm cn c0 a0 7 (by first | omega | (simp only [zl_7]; first | done | omega) | decide | assumption | rfl) (by first | omega | (simp only [zl_7]; first | done | omega) | decide | assumption | rfl) (by first | omega | (simp only [zl_7]; first | done | omega) | decide | assumption | rfl)) (cwV 2 hT (gV_in mw_1416 mw_1413 mw_1415 mw_p5_5 mw_12) rfl rfl rfl (by decide +kernel) ⟨Nat.le_of_ble_eq_true rfl, Nat.le_of_ble_eq_true rfl⟩) (kRecvX (q0 := 0) (ci := 11) hK hP hD hN hXS hS hA rfl rfl [0, 1] rfl (by decide +kernel)) rfl rfl hl.1 rfl (lv_room (Nat.le_of_ble_eq_true rfl)) dX11_works_19 ⟨Nat.le_of_ble_eq_true rfl, Nat.le_of_ble_eq_true rfl⟩) hP hD hS hA [0, 1] [] rfl rfl (by decide +kernel) (by decide +kernel) ?_
    clear hP hD hS
    intro r_100 u_102 H locs w_101 hP hD hS
    replace hP : va_P D vwCl [(k, .inr (11, [.ref k0, .ref k1, .ref k2, .int c3, .ref k4, .ref k5, .ref k6, .ref k7, .ref k8, .int c9, .ref ka, .ref kb, .int cc, .int cd, .int ce, .int cf, .int cg, .int ch, .int ci, .int cj, .int ck, .ref kl, .int cm, .int cn, .ref ko])), (k0, .inl (cI, 1201, .inl c0))] H := hP
    replace hD : va_D A [(k, .inr (11, [.ref k0, .ref k1, .ref k2, .int c3, .ref k4, .ref k5, .ref k6, .ref k7, .ref k8, .int c9, .ref ka, .ref kb, .int cc, .int cd, .int ce, .int cf, .int cg, .int ch, .int ci, .int cj, .int ck, .ref kl, .int cm, .int cn, .ref ko])), (k0, .inl (cI, 1201, .inl c0))] := hD
    have h_103 := w_101
    have h_103 : r_100 = pW c0 a0 7 := h_103
    have t_104 : r_100.toInt = (pW c0 a0 7).toInt := by rw [h_103]
    have lo_r_100 := k_lo r_100
    have hi_r_100 := k_hi r_100
    refine lv_aload_n hx hb dX11_works_22 rfl (lv_at hl 1 rfl) ?_
    refine lv_iload_n hx hb dX11_works_23 rfl (lv_at hl 2 rfl) ?_
    refine lv_iconst (v := 2) hx hb dX11_works_24 (by decide +kernel) ?_
    refine kJi (wr := []) (va_runV (As := [.int a0, .int 2]) (rest := [.int r_100]) ⟨hx, hb, hml, hown, hT⟩ (c_X11_partyG2 l D cI aK aV k k0 k1 k2 k4 k5 k6 k7 k8 ka kb kl ko H.size c3 c9 cc cd ce cf cg ch ci cj ck cm cn c0 a0 2 (by first | omega | (simp only [zl_2]; first | done | omega) | decide | assumption | rfl) (by first | omega | (simp only [zl_2]; first | done | omega) | decide | assumption | rfl) (by first | omega | (simp only [zl_2]; first | done | omega) | decide | assumption | rfl)) (cwV 2 hT (gV_in mw_1416 mw_1413 mw_1415 mw_p5_5 mw_12) rfl rfl rfl (by decide +kernel) ⟨Nat.le_of_ble_eq_true rfl, Nat.le_of_ble_eq_true rfl⟩) (kRecvX (q0 := 0) (ci := 11) hK hP hD hN hXS hS hA rfl rfl [0, 1] rfl (by decide +kernel)) rfl rfl hl.1 rfl (lv_room (Nat.le_of_ble_eq_true rfl)) dX11_works_25 ⟨Nat.le_of_ble_eq_true rfl, Nat.le_of_ble_eq_true rfl⟩) hP hD hS hA [0, 1] [] rfl rfl (by decide +kernel) (by decide +kernel) ?_
    clear hP hD hS
    intro r_105 u_107 H locs w_106 hP hD hS
    replace hP : va_P D vwCl [(k, .inr (11, [.ref k0, .ref k1, .ref k2, .int c3, .ref k4, .ref k5, .ref k6, .ref k7, .ref k8, .int c9, .ref ka, .ref kb, .int cc, .int cd, .int ce, .int cf, .int cg, .int ch, .int ci, .int cj, .int ck, .ref kl, .int cm, .int cn, .ref ko])), (k0, .inl (cI, 1201, .inl c0))] H := hP
    replace hD : va_D A [(k, .inr (11, [.ref k0, .ref k1, .ref k2, .int c3, .ref k4, .ref k5, .ref k6, .ref k7, .ref k8, .int c9, .ref ka, .ref kb, .int cc, .int cd, .int ce, .int cf, .int cg, .int ch, .int ci, .int cj, .int ck, .ref kl, .int cm, .int cn, .ref ko])), (k0, .inl (cI, 1201, .inl c0))] := hD
    have h_108 := w_106
    have h_108 : r_105 = pW c0 a0 2 := h_108
    have t_109 : r_105.toInt = (pW c0 a0 2).toInt := by rw [h_108]
    have b_110 : 0 ≤ r_105.toInt ∧ r_105.toInt ≤ 50 := by rw [h_108]; exact SB.p2 (And.left pre0) (by omega) (by omega)
    have lo_r_105 := k_lo r_105
    have hi_r_105 := k_hi r_105
    refine lv_iadd hx hb dX11_works_28 ?_
    refine lv_topi (fun v_111 ev_111 => ?_)
    have lo_v_111 := k_lo v_111
    have hi_v_111 := k_hi v_111
    refine lv_istore_n (lv' := [(3, .int v_111), (2, .int r_4), (0, .ref k), (1, .int a0)]) hx hb dX11_works_29 rfl hl (by decide +kernel) rfl ?_
    clear hl
    intro ls hl
    refine lv_aload_n hx hb dX11_works_30 rfl (lv_at hl 2 rfl) ?_
    refine lv_iload_n hx hb dX11_works_31 rfl (lv_at hl 3 rfl) ?_
    refine lv_bipush (v := 7) hx hb dX11_works_32 (by decide +kernel) ?_
    refine lv_iload_n hx hb dX11_works_34 rfl (lv_at hl 0 rfl) ?_
    refine kJv (wr := []) (va_runV (As := [.int a0, .int 7, .int v_111]) (rest := []) ⟨hx, hb, hml, hown, hT⟩ (c_X11_setPartyG7 l D cI aK aV k k0 k1 k2 k4 k5 k6 k7 k8 ka kb kl ko H.size c3 c9 cc cd ce cf cg ch ci cj ck cm cn c0 a0 7 v_111 (by first | omega | (simp only [zl_7]; first | done | omega) | decide | assumption | rfl) (by first | omega | (simp only [zl_7]; first | done | omega) | decide | assumption | rfl) (by first | omega | (simp only [zl_7]; first | done | omega) | decide | assumption | rfl)) (cwV 3 hT (gV_in mw_1404 mw_1401 mw_1403 mw_p5_3 mw_12) rfl rfl rfl (by decide +kernel) ⟨Nat.le_of_ble_eq_true rfl, Nat.le_of_ble_eq_true rfl⟩) (kRecvX (q0 := 0) (ci := 11) hK hP hD hN hXS hS hA rfl rfl [0, 1] rfl (by decide +kernel)) rfl rfl hl.1 rfl (lv_room (Nat.le_of_ble_eq_true rfl)) dX11_works_35 ⟨Nat.le_of_ble_eq_true rfl, Nat.le_of_ble_eq_true rfl⟩) hP hD hS hA [0, 1] [] rfl rfl (by decide +kernel) (by decide +kernel) ?_
    clear hP hD hS
    intro sc0_114 H locs w_113 hP hD hS
    replace hP : va_P D vwCl [(k, .inr (11, [.ref k0, .ref k1, .ref k2, .int c3, .ref k4, .ref k5, .ref k6, .ref k7, .ref k8, .int c9, .ref ka, .ref kb, .int cc, .int cd, .int ce, .int cf, .int cg, .int ch, .int ci, .int cj, .int ck, .ref kl, .int cm, .int cn, .ref ko])), (k0, .inl (cI, 1201, .inl sc0_114))] H := hP
    replace hD : va_D A [(k, .inr (11, [.ref k0, .ref k1, .ref k2, .int c3, .ref k4, .ref k5, .ref k6, .ref k7, .ref k8, .int c9, .ref ka, .ref kb, .int cc, .int cd, .int ce, .int cf, .int cg, .int ch, .int ci, .int cj, .int ck, .ref kl, .int cm, .int cn, .ref ko])), (k0, .inl (cI, 1201, .inl sc0_114))] := hD
    have h_115 := w_113
    try simp only [zl_7] at h_115
    have h_115 : sc0_114 = upd c0 (459 + 9 * a0.toInt.toNat + 7) v_111 := h_115
    have h_115 : sc0_114 = upd c0 (459 + 9 * a0.toInt.toNat + 7) v_111 := h_115
    have hS_116 : SIX sc0_114 (-1) := SIX.p pre0 h_115 rfl (by omega) (by omega) (by decide +kernel) (by omega) (fun z => by omega) (fun z => by omega)
    have n_117 : (sc0_114 0).toInt = (c0 0).toInt := by rw [updN h_115 (by omega)]
    have n_118 : (sc0_114 1).toInt = (c0 1).toInt := by rw [updN h_115 (by omega)]
    have n_119 : (sc0_114 2).toInt = (c0 2).toInt := by rw [updN h_115 (by omega)]
    have n_120 : (pW sc0_114 a0 2).toInt = (pW c0 a0 2).toInt := by rw [pW_upd h_115 (by decide +kernel) (by decide +kernel) (Or.inl (by decide +kernel))]
    refine lv_iload_n hx hb dX11_works_38 rfl (lv_at hl 0 rfl) ?_
    refine lv_aload_n hx hb dX11_works_39 rfl (lv_at hl 2 rfl) ?_
    refine lv_iload_n hx hb dX11_works_40 rfl (lv_at hl 1 rfl) ?_
    refine lv_aload_n hx hb dX11_works_41 rfl (lv_at hl 2 rfl) ?_
    refine kJi (wr := []) (va_runV (As := []) (rest := [.int r_4, .ref k, .int v_111]) ⟨hx, hb, hml, hown, hT⟩ (c_X11_rainNowG l D cI aK aV k k0 k1 k2 k4 k5 k6 k7 k8 ka kb kl ko H.size c3 c9 cc cd ce cf cg ch ci cj ck cm cn sc0_114 (And.left hS_116)) (cwV 0 hT (gV_in mw_1376 mw_1373 mw_1375 mw_p4_15 mw_12) rfl rfl rfl (by decide +kernel) ⟨Nat.le_of_ble_eq_true rfl, Nat.le_of_ble_eq_true rfl⟩) (kRecvX (q0 := 0) (ci := 11) hK hP hD hN hXS hS hA rfl rfl [0, 1] rfl (by decide +kernel)) rfl rfl hl.1 rfl (lv_room (Nat.le_of_ble_eq_true rfl)) dX11_works_42 ⟨Nat.le_of_ble_eq_true rfl, Nat.le_of_ble_eq_true rfl⟩) hP hD hS hA [0, 1] [] rfl rfl (by decide +kernel) (by decide +kernel) ?_
    clear hP hD hS
    intro r_121 u_123 H locs w_122 hP hD hS
    replace hP : va_P D vwCl [(k, .inr (11, [.ref k0, .ref k1, .ref k2, .int c3, .ref k4, .ref k5, .ref k6, .ref k7, .ref k8, .int c9, .ref ka, .ref kb, .int cc, .int cd, .int ce, .int cf, .int cg, .int ch, .int ci, .int cj, .int ck, .ref kl, .int cm, .int cn, .ref ko])), (k0, .inl (cI, 1201, .inl sc0_114))] H := hP
    replace hD : va_D A [(k, .inr (11, [.ref k0, .ref k1, .ref k2, .int c3, .ref k4, .ref k5, .ref k6, .ref k7, .ref k8, .int c9, .ref ka, .ref kb, .int cc, .int cd, .int ce, .int cf, .int cg, .int ch, .int ci, .int cj, .int ck, .ref kl, .int cm, .int cn, .ref ko])), (k0, .inl (cI, 1201, .inl sc0_114))] := hD
    have h_124 := w_122
    have h_124 : r_121 = rnF sc0_114 := h_124
    have lo_r_121 := k_lo r_121
    have hi_r_121 := k_hi r_121
    refine kJi (wr := []) (va_runV (As := [.int r_4, .int r_121]) (rest := [.int v_111]) ⟨hx, hb, hml, hown, hT⟩ (c_X11_effortG l D cI aK aV k k0 k1 k2 k4 k5 k6 k7 k8 ka kb kl ko H.size c3 c9 cc cd ce cf cg ch ci cj ck cm cn sc0_114 r_4 r_121 (And.left hS_116) (by first | omega | decide | assumption | rfl) (by first | omega | decide | assumption | rfl)) (cwV 2 hT (gV_in mw_1380 mw_1377 mw_1379 mw_p5_0 mw_12) rfl rfl rfl (by decide +kernel) ⟨Nat.le_of_ble_eq_true rfl, Nat.le_of_ble_eq_true rfl⟩) (kRecvX (q0 := 0) (ci := 11) hK hP hD hN hXS hS hA rfl rfl [0, 1] rfl (by decide +kernel)) rfl rfl hl.1 rfl (lv_room (Nat.le_of_ble_eq_true rfl)) dX11_works_45 ⟨Nat.le_of_ble_eq_true rfl, Nat.le_of_ble_eq_true rfl⟩) hP hD hS hA [0, 1] [] rfl rfl (by decide +kernel) (by decide +kernel) ?_
    clear hP hD hS
    intro r_125 u_127 H locs w_126 hP hD hS
    replace hP : va_P D vwCl [(k, .inr (11, [.ref k0, .ref k1, .ref k2, .int c3, .ref k4, .ref k5, .ref k6, .ref k7, .ref k8, .int c9, .ref ka, .ref kb, .int cc, .int cd, .int ce, .int cf, .int cg, .int ch, .int ci, .int cj, .int ck, .ref kl, .int cm, .int cn, .ref ko])), (k0, .inl (cI, 1201, .inl sc0_114))] H := hP
    replace hD : va_D A [(k, .inr (11, [.ref k0, .ref k1, .ref k2, .int c3, .ref k4, .ref k5, .ref k6, .ref k7, .ref k8, .int c9, .ref ka, .ref kb, .int cc, .int cd, .int ce, .int cf, .int cg, .int ch, .int ci, .int cj, .int ck, .ref kl, .int cm, .int cn, .ref ko])), (k0, .inl (cI, 1201, .inl sc0_114))] := hD
    have h_128 := w_126
    have h_128 : r_125 = efN sc0_114 r_4.toInt r_121 := h_128
    have h_128 : r_125 = efN sc0_114 r_4.toInt r_121 := h_128
    have lo_r_125 := k_lo r_125
    have hi_r_125 := k_hi r_125
    refine b_icmp_lt hx hb rfl rfl (tgt := 110) dX11_works_48 (by decide +kernel) (fun c_129 => ?_) (fun c_129 => ?_)
    · exact hRet sc0_114 [0, 1] ⟨hS_116, (by first | omega | decide | assumption | rfl), (by first | omega | decide | assumption | rfl), (ref_w0 h_7 h_14 h_103 h_108 ev_111 h_115 (ef := r_125) (r := r_121)  h_124 h_128 rfl rfl (by omega))⟩ hP hD (by decide +kernel) rfl hS dX11_works_110
    · refine lv_aload_n hx hb dX11_works_51 rfl (lv_at hl 2 rfl) ?_
      refine lv_iload_n hx hb dX11_works_52 rfl (lv_at hl 3 rfl) ?_
      refine lv_iconst (v := 4) hx hb dX11_works_53 (by decide +kernel) ?_
      refine kJi (wr := []) (va_runV (As := [.int a0, .int 4]) (rest := []) ⟨hx, hb, hml, hown, hT⟩ (c_X11_partyG4 l D cI aK aV k k0 k1 k2 k4 k5 k6 k7 k8 ka kb kl ko H.size c3 c9 cc cd ce cf cg ch ci cj ck cm cn sc0_114 a0 4 (by first | omega | (simp only [zl_4]; first | done | omega) | decide | assumption | rfl) (by first | omega | (simp only [zl_4]; first | done | omega) | decide | assumption | rfl) (by first | omega | (simp only [zl_4]; first | done | omega) | decide | assumption | rfl)) (cwV 2 hT (gV_in mw_1416 mw_1413 mw_1415 mw_p5_5 mw_12) rfl rfl rfl (by decide +kernel) ⟨Nat.le_of_ble_eq_true rfl, Nat.le_of_ble_eq_true rfl⟩) (kRecvX (q0 := 0) (ci := 11) hK hP hD hN hXS hS hA rfl rfl [0, 1] rfl (by decide +kernel)) rfl rfl hl.1 rfl (lv_room (Nat.le_of_ble_eq_true rfl)) dX11_works_54 ⟨Nat.le_of_ble_eq_true rfl, Nat.le_of_ble_eq_true rfl⟩) hP hD hS hA [0, 1] [] rfl rfl (by decide +kernel) (by decide +kernel) ?_
      clear hP hD hS
      intro r_130 u_132 H locs w_131 hP hD hS
      replace hP : va_P D vwCl [(k, .inr (11, [.ref k0, .ref k1, .ref k2, .int c3, .ref k4, .ref k5, .ref k6, .ref k7, .ref k8, .int c9, .ref ka, .ref kb, .int cc, .int cd, .int ce, .int cf, .int cg, .int ch, .int ci, .int cj, .int ck, .ref kl, .int cm, .int cn, .ref ko])), (k0, .inl (cI, 1201, .inl sc0_114))] H := hP
      replace hD : va_D A [(k, .inr (11, [.ref k0, .ref k1, .ref k2, .int c3, .ref k4, .ref k5, .ref k6, .ref k7, .ref k8, .int c9, .ref ka, .ref kb, .int cc, .int cd, .int ce, .int cf, .int cg, .int ch, .int ci, .int cj, .int ck, .ref kl, .int cm, .int cn, .ref ko])), (k0, .inl (cI, 1201, .inl sc0_114))] := hD
      have h_133 := w_131
      have h_133 : r_130 = pW sc0_114 a0 4 := h_133
      have t_134 : r_130.toInt = (pW sc0_114 a0 4).toInt := by rw [h_133]
      have lo_r_130 := k_lo r_130
      have hi_r_130 := k_hi r_130
      refine b_if_le hx hb rfl (tgt := 110) dX11_works_57 (by decide +kernel) (fun c_135 => ?_) (fun c_135 => ?_)
      · exact hRet sc0_114 [0, 1] ⟨hS_116, (by first | omega | decide | assumption | rfl), (by first | omega | decide | assumption | rfl), (ref_w0 h_7 h_14 h_103 h_108 ev_111 h_115 (ef := r_125) (r := r_121) (po := r_130) h_124 h_128 h_133 rfl (by omega))⟩ hP hD (by decide +kernel) rfl hS dX11_works_110
      · refine lv_aload_n hx hb dX11_works_60 rfl (lv_at hl 2 rfl) ?_
        refine va_get (D := D) (ci := 11) (v := .ref k0) (C := RX11) (T := TX11) (N := 25) hx hb hT giX11 hown hK hP 0 rfl rfl 0 (by decide +kernel) (hT (Cond.fieldLink RX11 9 "DesertWireModel" "s" "[I") mw_1156) (fun _ h9 => h9) rfl dX11_works_61 ?_
        refine lv_iconst (v := 1) hx hb dX11_works_64 (by decide +kernel) ?_
        refine k_iald (v := (sc0_114 1)) hx hb hK hP 1 0 rfl rfl (k_inl (by decide +kernel)) rfl dX11_works_65 ?_
        refine lv_topi (fun v_136 ev_136 => ?_)
        have lo_v_136 := k_lo v_136
        have hi_v_136 := k_hi v_136
        have tv_136 : v_136.toInt = (sc0_114 1).toInt := by rw [ev_136]
        have b_137 : 0 ≤ v_136.toInt ∧ v_136.toInt ≤ 60 := by first | (rw [tv_136]; exact SB.n1 (And.left hS_116)) | exact SB.n1 (And.left hS_116) | omega
        refine lv_bipush (v := 60) hx hb dX11_works_66 (by decide +kernel) ?_
        refine b_icmp_ge hx hb rfl zl_60 (tgt := 110) dX11_works_68 (by decide +kernel) (fun c_138 => ?_) (fun c_138 => ?_)
        · exact hRet sc0_114 [0, 1] ⟨hS_116, (by first | omega | decide | assumption | rfl), (by first | omega | decide | assumption | rfl), (ref_w0 h_7 h_14 h_103 h_108 ev_111 h_115 (ef := r_125) (r := r_121) (po := r_130) h_124 h_128 h_133 ev_136 (by omega))⟩ hP hD (by decide +kernel) rfl hS dX11_works_110
        · refine lv_aload_n hx hb dX11_works_71 rfl (lv_at hl 2 rfl) ?_
          refine lv_iconst (v := 1) hx hb dX11_works_72 (by decide +kernel) ?_
          refine lv_iload_n hx hb dX11_works_73 rfl (lv_at hl 1 rfl) ?_
          refine lv_iconst (v := 1) hx hb dX11_works_74 (by decide +kernel) ?_
          refine lv_aload_n hx hb dX11_works_75 rfl (lv_at hl 2 rfl) ?_
          refine va_get (D := D) (ci := 11) (v := .ref k0) (C := RX11) (T := TX11) (N := 25) hx hb hT giX11 hown hK hP 0 rfl rfl 0 (by decide +kernel) (hT (Cond.fieldLink RX11 9 "DesertWireModel" "s" "[I") mw_1156) (fun _ h9 => h9) rfl dX11_works_76 ?_
          refine lv_iconst (v := 0) hx hb dX11_works_79 (by decide +kernel) ?_
          refine k_iald (v := (sc0_114 0)) hx hb hK hP 1 0 rfl rfl (k_inl (by decide +kernel)) rfl dX11_works_80 ?_
          refine lv_topi (fun v_139 ev_139 => ?_)
          have lo_v_139 := k_lo v_139
          have hi_v_139 := k_hi v_139
          have tv_139 : v_139.toInt = (sc0_114 0).toInt := by rw [ev_139]
          have b_140 : 0 ≤ v_139.toInt ∧ v_139.toInt ≤ 2000 := by first | (rw [tv_139]; exact SB.n0 (And.left hS_116)) | exact SB.n0 (And.left hS_116) | omega
          refine lv_iconst (v := 1) hx hb dX11_works_81 (by decide +kernel) ?_
          refine lv_iadd hx hb dX11_works_82 ?_
          refine lv_topi (fun v_141 ev_141 => ?_)
          have tv_141 : v_141.toInt = v_139.toInt + 1 := by rw [ev_141]; exact k_addv rfl zl_1 (by omega) (by omega)
          refine kJi (wr := []) (va_runV (As := [.int 1, .int r_4, .int 1, .int v_141]) (rest := []) ⟨hx, hb, hml, hown, hT⟩ (c_X11_comesG l D cI aK aV k k0 k1 k2 k4 k5 k6 k7 k8 ka kb kl ko H.size c3 c9 cc cd ce cf cg ch ci cj ck cm cn sc0_114 1 r_4 1 v_141 hS_116 (by first | omega | (simp only [zl_1]; first | done | omega) | decide | assumption | rfl) (by first | omega | (simp only [zl_1]; first | done | omega) | decide | assumption | rfl) (by first | omega | (simp only [zl_1]; first | done | omega) | decide | assumption | rfl) (by first | omega | (simp only [zl_1]; first | done | omega) | decide | assumption | rfl) (by first | omega | (simp only [zl_1]; first | done | omega) | decide | assumption | rfl) (by first | omega | (simp only [zl_1]; first | done | omega) | decide | assumption | rfl) (by first | omega | (simp only [zl_1]; first | done | omega) | decide | assumption | rfl)) (cwV 4 hT (gV_in mw_1260 mw_1257 mw_1259 mw_p3_9 mw_12) rfl rfl rfl (by decide +kernel) ⟨Nat.le_of_ble_eq_true rfl, Nat.le_of_ble_eq_true rfl⟩) (kRecvX (q0 := 0) (ci := 11) hK hP hD hN hXS hS hA rfl rfl [0, 1] rfl (by decide +kernel)) rfl rfl hl.1 rfl (lv_room (Nat.le_of_ble_eq_true rfl)) dX11_works_83 ⟨Nat.le_of_ble_eq_true rfl, Nat.le_of_ble_eq_true rfl⟩) hP hD hS hA [0, 1] [] rfl rfl (by decide +kernel) (by decide +kernel) ?_
          clear hP hD hS
          intro r_142 sc0_144 H locs w_143 hP hD hS
          replace hP : va_P D vwCl [(k, .inr (11, [.ref k0, .ref k1, .ref k2, .int c3, .ref k4, .ref k5, .ref k6, .ref k7, .ref k8, .int c9, .ref ka, .ref kb, .int cc, .int cd, .int ce, .int cf, .int cg, .int ch, .int ci, .int cj, .int ck, .ref kl, .int cm, .int cn, .ref ko])), (k0, .inl (cI, 1201, .inl sc0_144))] H := hP
          replace hD : va_D A [(k, .inr (11, [.ref k0, .ref k1, .ref k2, .int c3, .ref k4, .ref k5, .ref k6, .ref k7, .ref k8, .int c9, .ref ka, .ref kb, .int cc, .int cd, .int ce, .int cf, .int cg, .int ch, .int ci, .int cj, .int ck, .ref kl, .int cm, .int cn, .ref ko])), (k0, .inl (cI, 1201, .inl sc0_144))] := hD
          obtain ⟨h_145, h_146, h_147, h_148, h_149, h_150, h_151, h_152⟩ := w_143
          try simp only [zl_1] at h_145
          have h_145 : SIX sc0_144 (-1) := h_145
          try simp only [zl_1] at h_146
          have h_146 : (sc0_144 0).toInt = (sc0_114 0).toInt := h_146
          try simp only [zl_1] at h_147
          have h_147 : (sc0_144 2).toInt = (sc0_114 2).toInt := h_147
          try simp only [zl_1] at h_148
          have h_148 : (sc0_144 1).toInt = (sc0_114 1).toInt + 1 := h_148
          try simp only [zl_1] at h_149
          have h_149 : 0 ≤ r_142.toInt := h_149
          try simp only [zl_1] at h_150
          have h_150 : r_142.toInt ≤ 59 := h_150
          try simp only [zl_1] at h_151
          have h_151 : r_142 = sc0_114 1 := h_151
          have t_153 : r_142.toInt = (sc0_114 1).toInt := by rw [h_151]
          try simp only [zl_1] at h_152
          have h_152 : sc0_144 = comS sc0_114 1 r_4 1 v_141 := h_152
          have lo_r_142 := k_lo r_142
          have hi_r_142 := k_hi r_142
          refine lv_istore (lv' := [(4, .int r_142), (3, .int v_111), (2, .int r_4), (0, .ref k), (1, .int a0)]) hx hb dX11_works_86 hl (by decide +kernel) rfl ?_
          clear hl
          intro ls hl
          refine lv_aload_n hx hb dX11_works_88 rfl (lv_at hl 3 rfl) ?_
          refine lv_iload_n hx hb dX11_works_89 rfl (lv_at hl 4 rfl) ?_
          refine lv_iconst (v := 4) hx hb dX11_works_90 (by decide +kernel) ?_
          refine lv_aload_n hx hb dX11_works_91 rfl (lv_at hl 3 rfl) ?_
          refine lv_iload_n hx hb dX11_works_92 rfl (lv_at hl 4 rfl) ?_
          refine lv_iconst (v := 4) hx hb dX11_works_93 (by decide +kernel) ?_
          refine kJi (wr := []) (va_runV (As := [.int a0, .int 4]) (rest := [.int 4, .int a0, .ref k]) ⟨hx, hb, hml, hown, hT⟩ (c_X11_partyG4 l D cI aK aV k k0 k1 k2 k4 k5 k6 k7 k8 ka kb kl ko H.size c3 c9 cc cd ce cf cg ch ci cj ck cm cn sc0_144 a0 4 (by first | omega | (simp only [zl_4]; first | done | omega) | decide | assumption | rfl) (by first | omega | (simp only [zl_4]; first | done | omega) | decide | assumption | rfl) (by first | omega | (simp only [zl_4]; first | done | omega) | decide | assumption | rfl)) (cwV 2 hT (gV_in mw_1416 mw_1413 mw_1415 mw_p5_5 mw_12) rfl rfl rfl (by decide +kernel) ⟨Nat.le_of_ble_eq_true rfl, Nat.le_of_ble_eq_true rfl⟩) (kRecvX (q0 := 0) (ci := 11) hK hP hD hN hXS hS hA rfl rfl [0, 1] rfl (by decide +kernel)) rfl rfl hl.1 rfl (lv_room (Nat.le_of_ble_eq_true rfl)) dX11_works_94 ⟨Nat.le_of_ble_eq_true rfl, Nat.le_of_ble_eq_true rfl⟩) hP hD hS hA [0, 1] [] rfl rfl (by decide +kernel) (by decide +kernel) ?_
          clear hP hD hS
          intro r_154 u_156 H locs w_155 hP hD hS
          replace hP : va_P D vwCl [(k, .inr (11, [.ref k0, .ref k1, .ref k2, .int c3, .ref k4, .ref k5, .ref k6, .ref k7, .ref k8, .int c9, .ref ka, .ref kb, .int cc, .int cd, .int ce, .int cf, .int cg, .int ch, .int ci, .int cj, .int ck, .ref kl, .int cm, .int cn, .ref ko])), (k0, .inl (cI, 1201, .inl sc0_144))] H := hP
          replace hD : va_D A [(k, .inr (11, [.ref k0, .ref k1, .ref k2, .int c3, .ref k4, .ref k5, .ref k6, .ref k7, .ref k8, .int c9, .ref ka, .ref kb, .int cc, .int cd, .int ce, .int cf, .int cg, .int ch, .int ci, .int cj, .int ck, .ref kl, .int cm, .int cn, .ref ko])), (k0, .inl (cI, 1201, .inl sc0_144))] := hD
          have h_157 := w_155
          have h_157 : r_154 = pW sc0_144 a0 4 := h_157
          have t_158 : r_154.toInt = (pW sc0_144 a0 4).toInt := by rw [h_157]
          have lo_r_154 := k_lo r_154
          have hi_r_154 := k_hi r_154
          refine lv_iconst (v := 1) hx hb dX11_works_97 (by decide +kernel) ?_
          refine lv_isub hx hb dX11_works_98 ?_
          refine lv_topi (fun v_159 ev_159 => ?_)
          have lo_v_159 := k_lo v_159
          have hi_v_159 := k_hi v_159
          refine kJv (wr := []) (va_runV (As := [.int a0, .int 4, .int v_159]) (rest := []) ⟨hx, hb, hml, hown, hT⟩ (c_X11_setPartyG4 l D cI aK aV k k0 k1 k2 k4 k5 k6 k7 k8 ka kb kl ko H.size c3 c9 cc cd ce cf cg ch ci cj ck cm cn sc0_144 a0 4 v_159 (by first | omega | (simp only [zl_4]; first | done | omega) | decide | assumption | rfl) (by first | omega | (simp only [zl_4]; first | done | omega) | decide | assumption | rfl) (by first | omega | (simp only [zl_4]; first | done | omega) | decide | assumption | rfl)) (cwV 3 hT (gV_in mw_1404 mw_1401 mw_1403 mw_p5_3 mw_12) rfl rfl rfl (by decide +kernel) ⟨Nat.le_of_ble_eq_true rfl, Nat.le_of_ble_eq_true rfl⟩) (kRecvX (q0 := 0) (ci := 11) hK hP hD hN hXS hS hA rfl rfl [0, 1] rfl (by decide +kernel)) rfl rfl hl.1 rfl (lv_room (Nat.le_of_ble_eq_true rfl)) dX11_works_99 ⟨Nat.le_of_ble_eq_true rfl, Nat.le_of_ble_eq_true rfl⟩) hP hD hS hA [0, 1] [] rfl rfl (by decide +kernel) (by decide +kernel) ?_
          clear hP hD hS
          intro sc0_162 H locs w_161 hP hD hS
          replace hP : va_P D vwCl [(k, .inr (11, [.ref k0, .ref k1, .ref k2, .int c3, .ref k4, .ref k5, .ref k6, .ref k7, .ref k8, .int c9, .ref ka, .ref kb, .int cc, .int cd, .int ce, .int cf, .int cg, .int ch, .int ci, .int cj, .int ck, .ref kl, .int cm, .int cn, .ref ko])), (k0, .inl (cI, 1201, .inl sc0_162))] H := hP
          replace hD : va_D A [(k, .inr (11, [.ref k0, .ref k1, .ref k2, .int c3, .ref k4, .ref k5, .ref k6, .ref k7, .ref k8, .int c9, .ref ka, .ref kb, .int cc, .int cd, .int ce, .int cf, .int cg, .int ch, .int ci, .int cj, .int ck, .ref kl, .int cm, .int cn, .ref ko])), (k0, .inl (cI, 1201, .inl sc0_162))] := hD
          have h_163 := w_161
          try simp only [zl_4] at h_163
          have h_163 : sc0_162 = upd sc0_144 (459 + 9 * a0.toInt.toNat + 4) v_159 := h_163
          have h_163 : sc0_162 = upd sc0_144 (459 + 9 * a0.toInt.toNat + 4) v_159 := h_163
          have hS_164 : SIX sc0_162 (-1) := SIX.p h_145 h_163 rfl (by omega) (by omega) (by decide +kernel) (by omega) (fun z => by omega) (fun z => by omega)
          have n_165 : (sc0_162 0).toInt = (sc0_144 0).toInt := by rw [updN h_163 (by omega)]
          have n_166 : (sc0_162 1).toInt = (sc0_144 1).toInt := by rw [updN h_163 (by omega)]
          have n_167 : (sc0_162 2).toInt = (sc0_144 2).toInt := by rw [updN h_163 (by omega)]
          have n_168 : (pW sc0_162 a0 2).toInt = (pW sc0_144 a0 2).toInt := by rw [pW_upd h_163 (by decide +kernel) (by decide +kernel) (Or.inl (by decide +kernel))]
          refine lv_aload_n hx hb dX11_works_102 rfl (lv_at hl 3 rfl) ?_
          refine lv_iload_n hx hb dX11_works_103 rfl (lv_at hl 4 rfl) ?_
          refine lv_bipush (v := 7) hx hb dX11_works_104 (by decide +kernel) ?_
          refine lv_iconst (v := 0) hx hb dX11_works_106 (by decide +kernel) ?_
          refine kJv (wr := []) (va_runV (As := [.int a0, .int 7, .int 0]) (rest := []) ⟨hx, hb, hml, hown, hT⟩ (c_X11_setPartyG7 l D cI aK aV k k0 k1 k2 k4 k5 k6 k7 k8 ka kb kl ko H.size c3 c9 cc cd ce cf cg ch ci cj ck cm cn sc0_162 a0 7 0 (by first | omega | (simp only [zl_0, zl_7]; first | done | omega) | decide | assumption | rfl) (by first | omega | (simp only [zl_0, zl_7]; first | done | omega) | decide | assumption | rfl) (by first | omega | (simp only [zl_0, zl_7]; first | done | omega) | decide | assumption | rfl)) (cwV 3 hT (gV_in mw_1404 mw_1401 mw_1403 mw_p5_3 mw_12) rfl rfl rfl (by decide +kernel) ⟨Nat.le_of_ble_eq_true rfl, Nat.le_of_ble_eq_true rfl⟩) (kRecvX (q0 := 0) (ci := 11) hK hP hD hN hXS hS hA rfl rfl [0, 1] rfl (by decide +kernel)) rfl rfl hl.1 rfl (lv_room (Nat.le_of_ble_eq_true rfl)) dX11_works_107 ⟨Nat.le_of_ble_eq_true rfl, Nat.le_of_ble_eq_true rfl⟩) hP hD hS hA [0, 1] [] rfl rfl (by decide +kernel) (by decide +kernel) ?_
          clear hP hD hS
          intro sc0_171 H locs w_170 hP hD hS
          replace hP : va_P D vwCl [(k, .inr (11, [.ref k0, .ref k1, .ref k2, .int c3, .ref k4, .ref k5, .ref k6, .ref k7, .ref k8, .int c9, .ref ka, .ref kb, .int cc, .int cd, .int ce, .int cf, .int cg, .int ch, .int ci, .int cj, .int ck, .ref kl, .int cm, .int cn, .ref ko])), (k0, .inl (cI, 1201, .inl sc0_171))] H := hP
          replace hD : va_D A [(k, .inr (11, [.ref k0, .ref k1, .ref k2, .int c3, .ref k4, .ref k5, .ref k6, .ref k7, .ref k8, .int c9, .ref ka, .ref kb, .int cc, .int cd, .int ce, .int cf, .int cg, .int ch, .int ci, .int cj, .int ck, .ref kl, .int cm, .int cn, .ref ko])), (k0, .inl (cI, 1201, .inl sc0_171))] := hD
          have h_172 := w_170
          try simp only [zl_0, zl_7] at h_172
          have h_172 : sc0_171 = upd sc0_162 (459 + 9 * a0.toInt.toNat + 7) 0 := h_172
          have h_172 : sc0_171 = upd sc0_162 (459 + 9 * a0.toInt.toNat + 7) 0 := h_172
          have hS_173 : SIX sc0_171 (-1) := SIX.p hS_164 h_172 zl_0 (by omega) (by omega) (by decide +kernel) (by omega) (fun z => by omega) (fun z => by omega)
          have n_174 : (sc0_171 0).toInt = (sc0_162 0).toInt := by rw [updN h_172 (by omega)]
          have n_175 : (sc0_171 1).toInt = (sc0_162 1).toInt := by rw [updN h_172 (by omega)]
          have n_176 : (sc0_171 2).toInt = (sc0_162 2).toInt := by rw [updN h_172 (by omega)]
          have n_177 : (pW sc0_171 a0 2).toInt = (pW sc0_162 a0 2).toInt := by rw [pW_upd h_172 (by decide +kernel) (by decide +kernel) (Or.inl (by decide +kernel))]
          exact hRet sc0_171 [0, 1] ⟨hS_173, (by first | omega | decide | assumption | rfl), (by first | omega | decide | assumption | rfl), (ref_w1 h_7 h_14 h_103 h_108 ev_111 h_115 (ef := r_125) (r := r_121) (po := r_130) (n := v_136) (t := v_141) (p4 := r_154) (x := v_159) h_124 h_128 h_133 ev_136 ⟨by omega, by omega, by omega⟩ (by rw [ev_141, ev_139]) h_152 h_157 ev_159 h_163 h_172)⟩ hP hD (by decide +kernel) rfl hS dX11_works_110
theorem bn_cX11_oneDay_0 : BN cX11_oneDay 0 0x2c8a061028bcba04050056a2b72c01500201215f8015b870560900a6cfa015b824221c1586402a31781814015a8ac383d0231e00a8010090a7700adcfa015b824221c1582c02a803020029b3e8056e060e0ac12110e0adf2015b87056f500adc382b14805368000adc382b1b805462f0302802b5158707a04790056e2b := by
  unfold BN; decide +kernel
theorem dX11_oneDay_0 : decode cX11_oneDay 0 = .ok (.aload_n 0, 1) := dR0 (k := 0) (i := 0) bn_cX11_oneDay_0 dop_42 (by decide +kernel)
theorem dX11_oneDay_1 : decode cX11_oneDay 1 = .ok (.invokevirtual 241, 3) := dR2 (f := Instr.invokevirtual) (k := 0) (i := 1) bn_cX11_oneDay_0 dop_182 241 (by decide +kernel)
theorem dX11_oneDay_4 : decode cX11_oneDay 4 = .ok (.iconst 0, 1) := dR0 (k := 0) (i := 4) bn_cX11_oneDay_0 dop_3 (by decide +kernel)
theorem dX11_oneDay_5 : decode cX11_oneDay 5 = .ok (.istore_n 1, 1) := dR0 (k := 0) (i := 5) bn_cX11_oneDay_0 dop_60 (by decide +kernel)
theorem dX11_oneDay_6 : decode cX11_oneDay 6 = .ok (.iload_n 1, 1) := dR0 (k := 0) (i := 6) bn_cX11_oneDay_0 dop_27 (by decide +kernel)
theorem dX11_oneDay_7 : decode cX11_oneDay 7 = .ok (.aload_n 0, 1) := dR0 (k := 0) (i := 7) bn_cX11_oneDay_0 dop_42 (by decide +kernel)
theorem dX11_oneDay_8 : decode cX11_oneDay 8 = .ok (.getfield 9, 3) := dR2 (f := Instr.getfield) (k := 0) (i := 8) bn_cX11_oneDay_0 dop_180 9 (by decide +kernel)
theorem dX11_oneDay_11 : decode cX11_oneDay 11 = .ok (.iconst 2, 1) := dR0 (k := 0) (i := 11) bn_cX11_oneDay_0 dop_5 (by decide +kernel)
theorem dX11_oneDay_12 : decode cX11_oneDay 12 = .ok (.iaload, 1) := dR0 (k := 0) (i := 12) bn_cX11_oneDay_0 dop_46 (by decide +kernel)
theorem dX11_oneDay_13 : decode cX11_oneDay 13 = .ok (.if_icmp .ge 54, 3) := dR2s (f := Instr.if_icmp .ge) (k := 0) (i := 13) bn_cX11_oneDay_0 dop_162 54 54 (by decide +kernel)
theorem dX11_oneDay_16 : decode cX11_oneDay 16 = .ok (.aload_n 0, 1) := dR0 (k := 0) (i := 16) bn_cX11_oneDay_0 dop_42 (by decide +kernel)
theorem dX11_oneDay_17 : decode cX11_oneDay 17 = .ok (.iload_n 1, 1) := dR0 (k := 0) (i := 17) bn_cX11_oneDay_0 dop_27 (by decide +kernel)
theorem dX11_oneDay_18 : decode cX11_oneDay 18 = .ok (.invokevirtual 127, 3) := dR2 (f := Instr.invokevirtual) (k := 0) (i := 18) bn_cX11_oneDay_0 dop_182 127 (by decide +kernel)
theorem dX11_oneDay_21 : decode cX11_oneDay 21 = .ok (.ifCond .ne 40, 3) := dR2s (f := Instr.ifCond .ne) (k := 0) (i := 21) bn_cX11_oneDay_0 dop_154 40 40 (by decide +kernel)
theorem dX11_oneDay_24 : decode cX11_oneDay 24 = .ok (.aload_n 0, 1) := dR0 (k := 0) (i := 24) bn_cX11_oneDay_0 dop_42 (by decide +kernel)
theorem dX11_oneDay_25 : decode cX11_oneDay 25 = .ok (.iload_n 1, 1) := dR0 (k := 0) (i := 25) bn_cX11_oneDay_0 dop_27 (by decide +kernel)
theorem dX11_oneDay_26 : decode cX11_oneDay 26 = .ok (.invokevirtual 244, 3) := dR2 (f := Instr.invokevirtual) (k := 0) (i := 26) bn_cX11_oneDay_0 dop_182 244 (by decide +kernel)
theorem dX11_oneDay_29 : decode cX11_oneDay 29 = .ok (.aload_n 0, 1) := dR0 (k := 0) (i := 29) bn_cX11_oneDay_0 dop_42 (by decide +kernel)
theorem dX11_oneDay_30 : decode cX11_oneDay 30 = .ok (.iload_n 1, 1) := dR0 (k := 0) (i := 30) bn_cX11_oneDay_0 dop_27 (by decide +kernel)
theorem dX11_oneDay_31 : decode cX11_oneDay 31 = .ok (.invokevirtual 248, 3) := dR2 (f := Instr.invokevirtual) (k := 0) (i := 31) bn_cX11_oneDay_0 dop_182 248 (by decide +kernel)
theorem dX11_oneDay_34 : decode cX11_oneDay 34 = .ok (.aload_n 0, 1) := dR0 (k := 0) (i := 34) bn_cX11_oneDay_0 dop_42 (by decide +kernel)
theorem dX11_oneDay_35 : decode cX11_oneDay 35 = .ok (.iload_n 1, 1) := dR0 (k := 0) (i := 35) bn_cX11_oneDay_0 dop_27 (by decide +kernel)
theorem dX11_oneDay_36 : decode cX11_oneDay 36 = .ok (.bipush 8, 2) := dR1s (f := Instr.bipush) (k := 0) (i := 36) bn_cX11_oneDay_0 dop_16 8 8 (by decide +kernel)
theorem dX11_oneDay_38 : decode cX11_oneDay 38 = .ok (.aload_n 0, 1) := dR0 (k := 0) (i := 38) bn_cX11_oneDay_0 dop_42 (by decide +kernel)
theorem dX11_oneDay_39 : decode cX11_oneDay 39 = .ok (.iload_n 1, 1) := dR0 (k := 0) (i := 39) bn_cX11_oneDay_0 dop_27 (by decide +kernel)
theorem dX11_oneDay_40 : decode cX11_oneDay 40 = .ok (.iconst 2, 1) := dR0 (k := 0) (i := 40) bn_cX11_oneDay_0 dop_5 (by decide +kernel)
theorem dX11_oneDay_41 : decode cX11_oneDay 41 = .ok (.invokevirtual 124, 3) := dR2 (f := Instr.invokevirtual) (k := 0) (i := 41) bn_cX11_oneDay_0 dop_182 124 (by decide +kernel)
theorem dX11_oneDay_44 : decode cX11_oneDay 44 = .ok (.ifCond .ne 7, 3) := dR2s (f := Instr.ifCond .ne) (k := 0) (i := 44) bn_cX11_oneDay_0 dop_154 7 7 (by decide +kernel)
theorem dX11_oneDay_47 : decode cX11_oneDay 47 = .ok (.iconst 2, 1) := dR0 (k := 0) (i := 47) bn_cX11_oneDay_0 dop_5 (by decide +kernel)
theorem dX11_oneDay_48 : decode cX11_oneDay 48 = .ok (.goto 10, 3) := dR2s (f := Instr.goto) (k := 0) (i := 48) bn_cX11_oneDay_0 dop_167 10 10 (by decide +kernel)
theorem dX11_oneDay_51 : decode cX11_oneDay 51 = .ok (.aload_n 0, 1) := dR0 (k := 0) (i := 51) bn_cX11_oneDay_0 dop_42 (by decide +kernel)
theorem dX11_oneDay_52 : decode cX11_oneDay 52 = .ok (.iload_n 1, 1) := dR0 (k := 0) (i := 52) bn_cX11_oneDay_0 dop_27 (by decide +kernel)
theorem dX11_oneDay_53 : decode cX11_oneDay 53 = .ok (.bipush 8, 2) := dR1s (f := Instr.bipush) (k := 0) (i := 53) bn_cX11_oneDay_0 dop_16 8 8 (by decide +kernel)
theorem dX11_oneDay_55 : decode cX11_oneDay 55 = .ok (.invokevirtual 124, 3) := dR2 (f := Instr.invokevirtual) (k := 0) (i := 55) bn_cX11_oneDay_0 dop_182 124 (by decide +kernel)
theorem dX11_oneDay_58 : decode cX11_oneDay 58 = .ok (.invokevirtual 118, 3) := dR2 (f := Instr.invokevirtual) (k := 0) (i := 58) bn_cX11_oneDay_0 dop_182 118 (by decide +kernel)
theorem dX11_oneDay_61 : decode cX11_oneDay 61 = .ok (.iinc 1 1, 3) := dRii (f := Instr.iinc) (k := 0) (i := 61) bn_cX11_oneDay_0 dop_132 1 1 1 (by decide +kernel)
theorem dX11_oneDay_64 : decode cX11_oneDay 64 = .ok (.goto (-58), 3) := dR2s (f := Instr.goto) (k := 0) (i := 64) bn_cX11_oneDay_0 dop_167 65478 (-58) (by decide +kernel)
theorem dX11_oneDay_67 : decode cX11_oneDay 67 = .ok (.iconst 0, 1) := dR0 (k := 0) (i := 67) bn_cX11_oneDay_0 dop_3 (by decide +kernel)
theorem dX11_oneDay_68 : decode cX11_oneDay 68 = .ok (.istore_n 1, 1) := dR0 (k := 0) (i := 68) bn_cX11_oneDay_0 dop_60 (by decide +kernel)
theorem dX11_oneDay_69 : decode cX11_oneDay 69 = .ok (.iload_n 1, 1) := dR0 (k := 0) (i := 69) bn_cX11_oneDay_0 dop_27 (by decide +kernel)
theorem dX11_oneDay_70 : decode cX11_oneDay 70 = .ok (.aload_n 0, 1) := dR0 (k := 0) (i := 70) bn_cX11_oneDay_0 dop_42 (by decide +kernel)
theorem dX11_oneDay_71 : decode cX11_oneDay 71 = .ok (.getfield 9, 3) := dR2 (f := Instr.getfield) (k := 0) (i := 71) bn_cX11_oneDay_0 dop_180 9 (by decide +kernel)
theorem dX11_oneDay_74 : decode cX11_oneDay 74 = .ok (.iconst 2, 1) := dR0 (k := 0) (i := 74) bn_cX11_oneDay_0 dop_5 (by decide +kernel)
theorem dX11_oneDay_75 : decode cX11_oneDay 75 = .ok (.iaload, 1) := dR0 (k := 0) (i := 75) bn_cX11_oneDay_0 dop_46 (by decide +kernel)
theorem dX11_oneDay_76 : decode cX11_oneDay 76 = .ok (.if_icmp .ge 24, 3) := dR2s (f := Instr.if_icmp .ge) (k := 0) (i := 76) bn_cX11_oneDay_0 dop_162 24 24 (by decide +kernel)
theorem dX11_oneDay_79 : decode cX11_oneDay 79 = .ok (.aload_n 0, 1) := dR0 (k := 0) (i := 79) bn_cX11_oneDay_0 dop_42 (by decide +kernel)
theorem dX11_oneDay_80 : decode cX11_oneDay 80 = .ok (.iload_n 1, 1) := dR0 (k := 0) (i := 80) bn_cX11_oneDay_0 dop_27 (by decide +kernel)
theorem dX11_oneDay_81 : decode cX11_oneDay 81 = .ok (.bipush 8, 2) := dR1s (f := Instr.bipush) (k := 0) (i := 81) bn_cX11_oneDay_0 dop_16 8 8 (by decide +kernel)
theorem dX11_oneDay_83 : decode cX11_oneDay 83 = .ok (.invokevirtual 124, 3) := dR2 (f := Instr.invokevirtual) (k := 0) (i := 83) bn_cX11_oneDay_0 dop_182 124 (by decide +kernel)
theorem dX11_oneDay_86 : decode cX11_oneDay 86 = .ok (.ifCond .ne 8, 3) := dR2s (f := Instr.ifCond .ne) (k := 0) (i := 86) bn_cX11_oneDay_0 dop_154 8 8 (by decide +kernel)
theorem dX11_oneDay_89 : decode cX11_oneDay 89 = .ok (.aload_n 0, 1) := dR0 (k := 0) (i := 89) bn_cX11_oneDay_0 dop_42 (by decide +kernel)
theorem dX11_oneDay_90 : decode cX11_oneDay 90 = .ok (.iload_n 1, 1) := dR0 (k := 0) (i := 90) bn_cX11_oneDay_0 dop_27 (by decide +kernel)
theorem dX11_oneDay_91 : decode cX11_oneDay 91 = .ok (.invokevirtual 251, 3) := dR2 (f := Instr.invokevirtual) (k := 0) (i := 91) bn_cX11_oneDay_0 dop_182 251 (by decide +kernel)
theorem dX11_oneDay_94 : decode cX11_oneDay 94 = .ok (.iinc 1 1, 3) := dRii (f := Instr.iinc) (k := 0) (i := 94) bn_cX11_oneDay_0 dop_132 1 1 1 (by decide +kernel)
theorem dX11_oneDay_97 : decode cX11_oneDay 97 = .ok (.goto (-28), 3) := dR2s (f := Instr.goto) (k := 0) (i := 97) bn_cX11_oneDay_0 dop_167 65508 (-28) (by decide +kernel)
theorem dX11_oneDay_100 : decode cX11_oneDay 100 = .ok (.aload_n 0, 1) := dR0 (k := 0) (i := 100) bn_cX11_oneDay_0 dop_42 (by decide +kernel)
theorem dX11_oneDay_101 : decode cX11_oneDay 101 = .ok (.getfield 9, 3) := dR2 (f := Instr.getfield) (k := 0) (i := 101) bn_cX11_oneDay_0 dop_180 9 (by decide +kernel)
theorem dX11_oneDay_104 : decode cX11_oneDay 104 = .ok (.iconst 0, 1) := dR0 (k := 0) (i := 104) bn_cX11_oneDay_0 dop_3 (by decide +kernel)
theorem dX11_oneDay_105 : decode cX11_oneDay 105 = .ok (.dup2, 1) := dR0 (k := 0) (i := 105) bn_cX11_oneDay_0 dop_92 (by decide +kernel)
theorem dX11_oneDay_106 : decode cX11_oneDay 106 = .ok (.iaload, 1) := dR0 (k := 0) (i := 106) bn_cX11_oneDay_0 dop_46 (by decide +kernel)
theorem dX11_oneDay_107 : decode cX11_oneDay 107 = .ok (.iconst 1, 1) := dR0 (k := 0) (i := 107) bn_cX11_oneDay_0 dop_4 (by decide +kernel)
theorem dX11_oneDay_108 : decode cX11_oneDay 108 = .ok (.iadd, 1) := dR0 (k := 0) (i := 108) bn_cX11_oneDay_0 dop_96 (by decide +kernel)
theorem dX11_oneDay_109 : decode cX11_oneDay 109 = .ok (.iastore, 1) := dR0 (k := 0) (i := 109) bn_cX11_oneDay_0 dop_79 (by decide +kernel)
theorem dX11_oneDay_110 : decode cX11_oneDay 110 = .ok (.return_, 1) := dR0 (k := 0) (i := 110) bn_cX11_oneDay_0 dop_177 (by decide +kernel)
set_option maxHeartbeats 4000000 in
set_option maxRecDepth 100000 in
theorem c_X11_oneDayG (l : Launch) (D : va_G) (cI : ClassId) (aK aV : Nat → Nat) (k k0 k1 k2 k4 k5 k6 k7 k8 ka kb kl ko : Nat) (sz : Nat) (c3 : Int32) (c9 : Int32) (cc : Int32) (cd : Int32) (ce : Int32) (cf : Int32) (cg : Int32) (ch : Int32) (ci : Int32) (cj : Int32) (ck : Int32) (cm : Int32) (cn : Int32) (c0 : Nat → Int32) (pre0 : SIX c0 (-1)) (pre1 : (c0 0).toInt ≤ 1999) : Met l yX11_oneDay (gW yX11_oneDay cX11_oneDay 2 none) ({ frames := 5, cells := 0, slots := 0, locals := 111 } : Room) (kPreX D cI aK aV [.ref k] [(k, .inr (11, [.ref k0, .ref k1, .ref k2, .int c3, .ref k4, .ref k5, .ref k6, .ref k7, .ref k8, .int c9, .ref ka, .ref kb, .int cc, .int cd, .int ce, .int cf, .int cg, .int ch, .int ci, .int cj, .int ck, .ref kl, .int cm, .int cn, .ref ko])), (k0, .inl (cI, 1201, .inl c0))] sz) (va_Qv (fun (u : (Nat → Int32)) => SIX u (-1) ∧ (u 0).toInt = (c0 0).toInt + 1 ∧ (u 2).toInt = (c0 2).toInt ∧ u = dayS c0) (fun u t => kWd D cI (va_A [(k, .inr (11, [.ref k0, .ref k1, .ref k2, .int c3, .ref k4, .ref k5, .ref k6, .ref k7, .ref k8, .int c9, .ref ka, .ref kb, .int cc, .int cd, .int ce, .int cf, .int cg, .int ch, .int ci, .int cj, .int ck, .ref kl, .int cm, .int cn, .ref ko])), (k0, .inl (cI, 1201, .inl c0))] sz) [(k, .inr (11, [.ref k0, .ref k1, .ref k2, .int c3, .ref k4, .ref k5, .ref k6, .ref k7, .ref k8, .int c9, .ref ka, .ref kb, .int cc, .int cd, .int ce, .int cf, .int cg, .int ch, .int ci, .int cj, .int ck, .ref kl, .int cm, .int cn, .ref ko])), (k0, .inl (cI, 1201, .inl u))] t) (va_A [(k, .inr (11, [.ref k0, .ref k1, .ref k2, .int c3, .ref k4, .ref k5, .ref k6, .ref k7, .ref k8, .int c9, .ref ka, .ref kb, .int cc, .int cd, .int ce, .int cf, .int cg, .int ch, .int ci, .int cj, .int ck, .ref kl, .int cm, .int cn, .ref ko])), (k0, .inl (cI, 1201, .inl c0))] sz)) 0 0 (va_A [(k, .inr (11, [.ref k0, .ref k1, .ref k2, .int c3, .ref k4, .ref k5, .ref k6, .ref k7, .ref k8, .int c9, .ref ka, .ref kb, .int cc, .int cd, .int ce, .int cf, .int cg, .int ch, .int ci, .int cj, .int ck, .ref kl, .int cm, .int cn, .ref ko])), (k0, .inl (cI, 1201, .inl c0))] sz) := by
  refine kMetVX (own := RX11) (by decide +kernel) rfl (Nat.le_of_ble_eq_true rfl) ?_
  intro p e s m args below meth c hx hb hT hown hname hml A Q hK hP hD hS hA hN hXS hRet ls hl
  have hl : lv_has ls 2 [(0, .ref k)] := hl
  have lo_ci := k_lo ci
  have hi_ci := k_hi ci
  have pre0 : SIX c0 (-1) := pre0
  have nb_1 : 0 ≤ (c0 0).toInt ∧ (c0 0).toInt ≤ 2000 := SB.n0 (And.left pre0)
  have nb_2 : 0 ≤ (c0 1).toInt ∧ (c0 1).toInt ≤ 60 := SB.n1 (And.left pre0)
  have nb_3 : 0 ≤ (c0 2).toInt ∧ (c0 2).toInt ≤ 4 := SB.n2 (And.left pre0)
  refine lv_aload_n hx hb dX11_oneDay_0 rfl (lv_at hl 0 rfl) ?_
  refine kJv (wr := []) (va_runV (As := []) (rest := []) ⟨hx, hb, hml, hown, hT⟩ (c_X11_eatenG l D cI aK aV k k0 k1 k2 k4 k5 k6 k7 k8 ka kb kl ko s.heap.size c3 c9 cc cd ce cf cg ch ci cj ck cm cn c0 pre0) (cwV 0 hT (gV_in mw_1539 mw_1536 mw_1538 mw_p6_0 mw_12) rfl rfl rfl (by decide +kernel) ⟨Nat.le_of_ble_eq_true rfl, Nat.le_of_ble_eq_true rfl⟩) (kRecvX (q0 := 0) (ci := 11) hK hP hD hN hXS hS hA rfl rfl [0, 1] rfl (by decide +kernel)) rfl rfl hl.1 rfl (lv_room (Nat.le_of_ble_eq_true rfl)) dX11_oneDay_1 ⟨Nat.le_of_ble_eq_true rfl, Nat.le_of_ble_eq_true rfl⟩) hP hD hS hA [0, 1] [] rfl rfl (by decide +kernel) (by decide +kernel) ?_
  clear hP hD hS
  intro sc0_6 H locs w_5 hP hD hS
  replace hP : va_P D vwCl [(k, .inr (11, [.ref k0, .ref k1, .ref k2, .int c3, .ref k4, .ref k5, .ref k6, .ref k7, .ref k8, .int c9, .ref ka, .ref kb, .int cc, .int cd, .int ce, .int cf, .int cg, .int ch, .int ci, .int cj, .int ck, .ref kl, .int cm, .int cn, .ref ko])), (k0, .inl (cI, 1201, .inl sc0_6))] H := hP
  replace hD : va_D A [(k, .inr (11, [.ref k0, .ref k1, .ref k2, .int c3, .ref k4, .ref k5, .ref k6, .ref k7, .ref k8, .int c9, .ref ka, .ref kb, .int cc, .int cd, .int ce, .int cf, .int cg, .int ch, .int ci, .int cj, .int ck, .ref kl, .int cm, .int cn, .ref ko])), (k0, .inl (cI, 1201, .inl sc0_6))] := hD
  obtain ⟨h_7, h_8, h_9, h_10, h_11⟩ := w_5
  have h_7 : SIX sc0_6 (-1) := h_7
  have h_8 : (sc0_6 0).toInt = (c0 0).toInt := h_8
  have h_9 : (sc0_6 1).toInt = (c0 1).toInt := h_9
  have h_10 : (sc0_6 2).toInt = (c0 2).toInt := h_10
  have h_11 : sc0_6 = eatS c0 := h_11
  refine lv_iconst (v := 0) hx hb dX11_oneDay_4 (by decide +kernel) ?_
  refine lv_istore_n (lv' := [(1, .int 0), (0, .ref k)]) hx hb dX11_oneDay_5 rfl hl (by decide +kernel) rfl ?_
  clear hl
  intro ls hl
  have hloop_6 : ∀ (fu_ : Nat) (l6_1 : Int32) (g6_k0 : Nat → Int32), 0 ≤ l6_1.toInt → SIX g6_k0 (-1) → (g6_k0 0).toInt = (c0 0).toInt → (g6_k0 2).toInt = (c0 2).toInt → g6_k0 = dyA (eatS c0) l6_1.toInt.toNat → l6_1.toInt ≤ (c0 2).toInt → ((c0 2).toInt - l6_1.toInt).toNat < fu_ → ∀ (ls : Array Slot) (H : Heap) (locs : List Loc), lv_has ls 2 [(1, .int l6_1), (0, .ref k)] → va_P D vwCl [(k, .inr (11, [.ref k0, .ref k1, .ref k2, .int c3, .ref k4, .ref k5, .ref k6, .ref k7, .ref k8, .int c9, .ref ka, .ref kb, .int cc, .int cd, .int ce, .int cf, .int cg, .int ch, .int ci, .int cj, .int ck, .ref kl, .int cm, .int cn, .ref ko])), (k0, .inl (cI, 1201, .inl g6_k0))] H → va_D A [(k, .inr (11, [.ref k0, .ref k1, .ref k2, .int c3, .ref k4, .ref k5, .ref k6, .ref k7, .ref k8, .int c9, .ref ka, .ref kb, .int cc, .int cd, .int ce, .int cf, .int cg, .int ch, .int ci, .int cj, .int ck, .ref kl, .int cm, .int cn, .ref ko])), (k0, .inl (cI, 1201, .inl g6_k0))] → va_S A s.heap H locs → W p l e ({ frames := 5, cells := 0, slots := 0, locals := 111 } : Room) s m args below meth c H locs 0 0 Q (F0 m 6 ls []) := by
    intro fu_; induction fu_ with
    | zero => intro l6_1 g6_k0 i6_0 i6_1 i6_2 i6_3 i6_4 i6_5 hm; exact absurd hm (by omega)
    | succ fu_ ih6 =>
        intro l6_1 g6_k0 i6_0 i6_1 i6_2 i6_3 i6_4 i6_5 hm ls H locs hl hP hD hS
        have lo_l6_1 := k_lo l6_1
        have hi_l6_1 := k_hi l6_1
        have i6_1 : SIX g6_k0 (-1) := i6_1
        refine lv_iload_n hx hb dX11_oneDay_6 rfl (lv_at hl 0 rfl) ?_
        refine lv_aload_n hx hb dX11_oneDay_7 rfl (lv_at hl 1 rfl) ?_
        refine va_get (D := D) (ci := 11) (v := .ref k0) (C := RX11) (T := TX11) (N := 25) hx hb hT giX11 hown hK hP 0 rfl rfl 0 (by decide +kernel) (hT (Cond.fieldLink RX11 9 "DesertWireModel" "s" "[I") mw_1156) (fun _ h9 => h9) rfl dX11_oneDay_8 ?_
        refine lv_iconst (v := 2) hx hb dX11_oneDay_11 (by decide +kernel) ?_
        refine k_iald (v := (g6_k0 2)) hx hb hK hP 1 0 rfl rfl (k_inl (by decide +kernel)) rfl dX11_oneDay_12 ?_
        refine lv_topi (fun v_12 ev_12 => ?_)
        have lo_v_12 := k_lo v_12
        have hi_v_12 := k_hi v_12
        have tv_12 : v_12.toInt = (g6_k0 2).toInt := by rw [ev_12]
        have b_13 : 0 ≤ v_12.toInt ∧ v_12.toInt ≤ 4 := by first | (rw [tv_12]; exact SB.n2 (And.left i6_1)) | exact SB.n2 (And.left i6_1) | omega
        refine b_icmp_ge hx hb rfl rfl (tgt := 67) dX11_oneDay_13 (by decide +kernel) (fun c_14 => ?_) (fun c_14 => ?_)
        · refine lv_iconst (v := 0) hx hb dX11_oneDay_67 (by decide +kernel) ?_
          refine lv_istore_n (lv' := [(1, .int 0), (0, .ref k)]) hx hb dX11_oneDay_68 rfl hl (by decide +kernel) rfl ?_
          clear hl
          intro ls hl
          have hloop_69 : ∀ (fu_ : Nat) (l69_1 : Int32) (g69_k0 : Nat → Int32), 0 ≤ l69_1.toInt → SIX g69_k0 (-1) → (g69_k0 0).toInt = (c0 0).toInt → (g69_k0 2).toInt = (c0 2).toInt → g69_k0 = dyB (dyA (eatS c0) (c0 2).toInt.toNat) l69_1.toInt.toNat → l69_1.toInt ≤ (c0 2).toInt → ((c0 2).toInt - l69_1.toInt).toNat < fu_ → ∀ (ls : Array Slot) (H : Heap) (locs : List Loc), lv_has ls 2 [(1, .int l69_1), (0, .ref k)] → va_P D vwCl [(k, .inr (11, [.ref k0, .ref k1, .ref k2, .int c3, .ref k4, .ref k5, .ref k6, .ref k7, .ref k8, .int c9, .ref ka, .ref kb, .int cc, .int cd, .int ce, .int cf, .int cg, .int ch, .int ci, .int cj, .int ck, .ref kl, .int cm, .int cn, .ref ko])), (k0, .inl (cI, 1201, .inl g69_k0))] H → va_D A [(k, .inr (11, [.ref k0, .ref k1, .ref k2, .int c3, .ref k4, .ref k5, .ref k6, .ref k7, .ref k8, .int c9, .ref ka, .ref kb, .int cc, .int cd, .int ce, .int cf, .int cg, .int ch, .int ci, .int cj, .int ck, .ref kl, .int cm, .int cn, .ref ko])), (k0, .inl (cI, 1201, .inl g69_k0))] → va_S A s.heap H locs → W p l e ({ frames := 5, cells := 0, slots := 0, locals := 111 } : Room) s m args below meth c H locs 0 0 Q (F0 m 69 ls []) := by
            intro fu_; induction fu_ with
            | zero => intro l69_1 g69_k0 i69_0 i69_1 i69_2 i69_3 i69_4 i69_5 hm; exact absurd hm (by omega)
            | succ fu_ ih69 =>
                intro l69_1 g69_k0 i69_0 i69_1 i69_2 i69_3 i69_4 i69_5 hm ls H locs hl hP hD hS
                have lo_l69_1 := k_lo l69_1
                have hi_l69_1 := k_hi l69_1
                have i69_1 : SIX g69_k0 (-1) := i69_1
                refine lv_iload_n hx hb dX11_oneDay_69 rfl (lv_at hl 0 rfl) ?_
                refine lv_aload_n hx hb dX11_oneDay_70 rfl (lv_at hl 1 rfl) ?_
                refine va_get (D := D) (ci := 11) (v := .ref k0) (C := RX11) (T := TX11) (N := 25) hx hb hT giX11 hown hK hP 0 rfl rfl 0 (by decide +kernel) (hT (Cond.fieldLink RX11 9 "DesertWireModel" "s" "[I") mw_1156) (fun _ h9 => h9) rfl dX11_oneDay_71 ?_
                refine lv_iconst (v := 2) hx hb dX11_oneDay_74 (by decide +kernel) ?_
                refine k_iald (v := (g69_k0 2)) hx hb hK hP 1 0 rfl rfl (k_inl (by decide +kernel)) rfl dX11_oneDay_75 ?_
                refine lv_topi (fun v_15 ev_15 => ?_)
                have lo_v_15 := k_lo v_15
                have hi_v_15 := k_hi v_15
                have tv_15 : v_15.toInt = (g69_k0 2).toInt := by rw [ev_15]
                have b_16 : 0 ≤ v_15.toInt ∧ v_15.toInt ≤ 4 := by first | (rw [tv_15]; exact SB.n2 (And.left i69_1)) | exact SB.n2 (And.left i69_1) | omega
                refine b_icmp_ge hx hb rfl rfl (tgt := 100) dX11_oneDay_76 (by decide +kernel) (fun c_17 => ?_) (fun c_17 => ?_)
                · refine lv_aload_n hx hb dX11_oneDay_100 rfl (lv_at hl 1 rfl) ?_
                  refine va_get (D := D) (ci := 11) (v := .ref k0) (C := RX11) (T := TX11) (N := 25) hx hb hT giX11 hown hK hP 0 rfl rfl 0 (by decide +kernel) (hT (Cond.fieldLink RX11 9 "DesertWireModel" "s" "[I") mw_1156) (fun _ h9 => h9) rfl dX11_oneDay_101 ?_
                  refine lv_iconst (v := 0) hx hb dX11_oneDay_104 (by decide +kernel) ?_
                  refine lv_dup2_11 hx hb dX11_oneDay_105 rfl rfl ?_
                  refine k_iald (v := (g69_k0 0)) hx hb hK hP 1 0 rfl rfl (k_inl (by decide +kernel)) rfl dX11_oneDay_106 ?_
                  refine lv_topi (fun v_18 ev_18 => ?_)
                  have lo_v_18 := k_lo v_18
                  have hi_v_18 := k_hi v_18
                  have tv_18 : v_18.toInt = (g69_k0 0).toInt := by rw [ev_18]
                  have b_19 : 0 ≤ v_18.toInt ∧ v_18.toInt ≤ 2000 := by first | (rw [tv_18]; exact SB.n0 (And.left i69_1)) | exact SB.n0 (And.left i69_1) | omega
                  refine lv_iconst (v := 1) hx hb dX11_oneDay_107 (by decide +kernel) ?_
                  refine lv_iadd hx hb dX11_oneDay_108 ?_
                  refine lv_topi (fun v_20 ev_20 => ?_)
                  have tv_20 : v_20.toInt = v_18.toInt + 1 := by rw [ev_20]; exact k_addv rfl zl_1 (by omega) (by omega)
                  refine va_iast hx hb hK hP hD hS 1 0 rfl rfl (k_inl (by decide +kernel)) dX11_oneDay_109 ?_
                  clear hP hD hS
                  intro H locs hP hD hS
                  replace hP : va_P D vwCl [(k, .inr (11, [.ref k0, .ref k1, .ref k2, .int c3, .ref k4, .ref k5, .ref k6, .ref k7, .ref k8, .int c9, .ref ka, .ref kb, .int cc, .int cd, .int ce, .int cf, .int cg, .int ch, .int ci, .int cj, .int ck, .ref kl, .int cm, .int cn, .ref ko])), (k0, .inl (cI, 1201, .inl (upd g69_k0 0 v_20)))] H := hP
                  replace hD : va_D A [(k, .inr (11, [.ref k0, .ref k1, .ref k2, .int c3, .ref k4, .ref k5, .ref k6, .ref k7, .ref k8, .int c9, .ref ka, .ref kb, .int cc, .int cd, .int ce, .int cf, .int cg, .int ch, .int ci, .int cj, .int ck, .ref kl, .int cm, .int cn, .ref ko])), (k0, .inl (cI, 1201, .inl (upd g69_k0 0 v_20)))] := hD
                  obtain ⟨f_21, ef_21⟩ : ∃ g : Nat → Int32, g = upd g69_k0 0 v_20 := ⟨_, rfl⟩
                  rw [← ef_21] at hP hD
                  have hS_22 : SIX f_21 (-1) := SIX.n i69_1 ef_21 rfl (by decide +kernel) (by decide +kernel) (by omega)
                  have n_23 : (f_21 0).toInt = v_20.toInt := by rw [ef_21, upd_at]
                  have n_24 : (f_21 1).toInt = (g69_k0 1).toInt := by rw [updN ef_21 (by omega)]
                  have n_25 : (f_21 2).toInt = (g69_k0 2).toInt := by rw [updN ef_21 (by omega)]
                  exact hRet f_21 [0, 1] ⟨hS_22, (by first | omega | decide | assumption | rfl), (by first | omega | decide | assumption | rfl), (by rw [ef_21, ev_20, ev_18]; exact (day_eq i69_4 (by omega)).symm)⟩ hP hD (by decide +kernel) rfl hS dX11_oneDay_110
                · refine lv_aload_n hx hb dX11_oneDay_79 rfl (lv_at hl 1 rfl) ?_
                  refine lv_iload_n hx hb dX11_oneDay_80 rfl (lv_at hl 0 rfl) ?_
                  refine lv_bipush (v := 8) hx hb dX11_oneDay_81 (by decide +kernel) ?_
                  refine kJi (wr := []) (va_runV (As := [.int l69_1, .int 8]) (rest := []) ⟨hx, hb, hml, hown, hT⟩ (c_X11_partyG8 l D cI aK aV k k0 k1 k2 k4 k5 k6 k7 k8 ka kb kl ko H.size c3 c9 cc cd ce cf cg ch ci cj ck cm cn g69_k0 l69_1 8 (by first | omega | (simp only [zl_8]; first | done | omega) | decide | assumption | rfl) (by first | omega | (simp only [zl_8]; first | done | omega) | decide | assumption | rfl) (by first | omega | (simp only [zl_8]; first | done | omega) | decide | assumption | rfl)) (cwV 2 hT (gV_in mw_1416 mw_1413 mw_1415 mw_p5_5 mw_12) rfl rfl rfl (by decide +kernel) ⟨Nat.le_of_ble_eq_true rfl, Nat.le_of_ble_eq_true rfl⟩) (kRecvX (q0 := 0) (ci := 11) hK hP hD hN hXS hS hA rfl rfl [0, 1] rfl (by decide +kernel)) rfl rfl hl.1 rfl (lv_room (Nat.le_of_ble_eq_true rfl)) dX11_oneDay_83 ⟨Nat.le_of_ble_eq_true rfl, Nat.le_of_ble_eq_true rfl⟩) hP hD hS hA [0, 1] [] rfl rfl (by decide +kernel) (by decide +kernel) ?_
                  clear hP hD hS
                  intro r_26 u_28 H locs w_27 hP hD hS
                  replace hP : va_P D vwCl [(k, .inr (11, [.ref k0, .ref k1, .ref k2, .int c3, .ref k4, .ref k5, .ref k6, .ref k7, .ref k8, .int c9, .ref ka, .ref kb, .int cc, .int cd, .int ce, .int cf, .int cg, .int ch, .int ci, .int cj, .int ck, .ref kl, .int cm, .int cn, .ref ko])), (k0, .inl (cI, 1201, .inl g69_k0))] H := hP
                  replace hD : va_D A [(k, .inr (11, [.ref k0, .ref k1, .ref k2, .int c3, .ref k4, .ref k5, .ref k6, .ref k7, .ref k8, .int c9, .ref ka, .ref kb, .int cc, .int cd, .int ce, .int cf, .int cg, .int ch, .int ci, .int cj, .int ck, .ref kl, .int cm, .int cn, .ref ko])), (k0, .inl (cI, 1201, .inl g69_k0))] := hD
                  have h_29 := w_27
                  have h_29 : r_26 = pW g69_k0 l69_1 8 := h_29
                  have t_30 : r_26.toInt = (pW g69_k0 l69_1 8).toInt := by rw [h_29]
                  have lo_r_26 := k_lo r_26
                  have hi_r_26 := k_hi r_26
                  refine b_if_ne hx hb rfl (tgt := 94) dX11_oneDay_86 (by decide +kernel) (fun c_31 => ?_) (fun c_31 => ?_)
                  · obtain ⟨v_32, ev_32⟩ : ∃ y : Int32, y = l69_1 + 1 := ⟨_, rfl⟩
                    have tv_32 : v_32.toInt = l69_1.toInt + 1 := by rw [ev_32]; exact k_addv rfl zl_1 (by omega) (by omega)
                    refine lv_iinc (v := v_32) (lv' := [(1, .int v_32), (0, .ref k)]) hx hb dX11_oneDay_94 hl (k := 0) rfl (by rw [ev_32]; rfl) (by decide +kernel) rfl ?_
                    clear hl
                    intro ls hl
                    refine lv_goto (tgt := 69) hx hb dX11_oneDay_97 (by decide +kernel) ?_
                    exact ih69 v_32 g69_k0 (by first | omega | decide | assumption | rfl) i69_1 (by first | omega | decide | assumption | rfl) (by first | omega | decide | assumption | rfl) (i69_4.trans (dyB_n (by omega) (by omega) (by rw [← i69_4]; omega))) (by first | omega | decide | assumption | rfl) (by omega) ls _ _ (lv_sub hl [0, 1] rfl) (hP.sub [0, 1] rfl) (hD.sub [0, 1] (by decide +kernel) rfl) hS
                  · refine lv_aload_n hx hb dX11_oneDay_89 rfl (lv_at hl 1 rfl) ?_
                    refine lv_iload_n hx hb dX11_oneDay_90 rfl (lv_at hl 0 rfl) ?_
                    refine kJv (wr := []) (va_runV (As := [.int l69_1]) (rest := []) ⟨hx, hb, hml, hown, hT⟩ (c_X11_worksG l D cI aK aV k k0 k1 k2 k4 k5 k6 k7 k8 ka kb kl ko H.size c3 c9 cc cd ce cf cg ch ci cj ck cm cn g69_k0 l69_1 i69_1 (by first | omega | decide | assumption | rfl) (by first | omega | decide | assumption | rfl) (by first | omega | exact SIX.men i69_1 (by omega) (by omega) (by omega) (by omega))) (cwV 1 hT (gV_in mw_1551 mw_1548 mw_1550 mw_p6_3 mw_12) rfl rfl rfl (by decide +kernel) ⟨Nat.le_of_ble_eq_true rfl, Nat.le_of_ble_eq_true rfl⟩) (kRecvX (q0 := 0) (ci := 11) hK hP hD hN hXS hS hA rfl rfl [0, 1] rfl (by decide +kernel)) rfl rfl hl.1 rfl (lv_room (Nat.le_of_ble_eq_true rfl)) dX11_oneDay_91 ⟨Nat.le_of_ble_eq_true rfl, Nat.le_of_ble_eq_true rfl⟩) hP hD hS hA [0, 1] [] rfl rfl (by decide +kernel) (by decide +kernel) ?_
                    clear hP hD hS
                    intro sc0_35 H locs w_34 hP hD hS
                    replace hP : va_P D vwCl [(k, .inr (11, [.ref k0, .ref k1, .ref k2, .int c3, .ref k4, .ref k5, .ref k6, .ref k7, .ref k8, .int c9, .ref ka, .ref kb, .int cc, .int cd, .int ce, .int cf, .int cg, .int ch, .int ci, .int cj, .int ck, .ref kl, .int cm, .int cn, .ref ko])), (k0, .inl (cI, 1201, .inl sc0_35))] H := hP
                    replace hD : va_D A [(k, .inr (11, [.ref k0, .ref k1, .ref k2, .int c3, .ref k4, .ref k5, .ref k6, .ref k7, .ref k8, .int c9, .ref ka, .ref kb, .int cc, .int cd, .int ce, .int cf, .int cg, .int ch, .int ci, .int cj, .int ck, .ref kl, .int cm, .int cn, .ref ko])), (k0, .inl (cI, 1201, .inl sc0_35))] := hD
                    obtain ⟨h_36, h_37, h_38, h_39⟩ := w_34
                    have h_36 : SIX sc0_35 (-1) := h_36
                    have h_37 : (sc0_35 0).toInt = (g69_k0 0).toInt := h_37
                    have h_38 : (sc0_35 2).toInt = (g69_k0 2).toInt := h_38
                    have h_39 : sc0_35 = wrkS g69_k0 l69_1.toInt.toNat := h_39
                    have h_39 : sc0_35 = wrkS g69_k0 l69_1.toInt.toNat := h_39
                    obtain ⟨v_40, ev_40⟩ : ∃ y : Int32, y = l69_1 + 1 := ⟨_, rfl⟩
                    have tv_40 : v_40.toInt = l69_1.toInt + 1 := by rw [ev_40]; exact k_addv rfl zl_1 (by omega) (by omega)
                    refine lv_iinc (v := v_40) (lv' := [(1, .int v_40), (0, .ref k)]) hx hb dX11_oneDay_94 hl (k := 0) rfl (by rw [ev_40]; rfl) (by decide +kernel) rfl ?_
                    clear hl
                    intro ls hl
                    refine lv_goto (tgt := 69) hx hb dX11_oneDay_97 (by decide +kernel) ?_
                    exact ih69 v_40 sc0_35 (by first | omega | decide | assumption | rfl) h_36 (by first | omega | decide | assumption | rfl) (by first | omega | decide | assumption | rfl) (by rw [h_39, i69_4]; exact dyB_y (by omega) (by omega) (by rw [← i69_4]; omega)) (by first | omega | decide | assumption | rfl) (by omega) ls _ _ (lv_sub hl [0, 1] rfl) (hP.sub [0, 1] rfl) (hD.sub [0, 1] (by decide +kernel) rfl) hS
          exact hloop_69 _ 0 g6_k0 (by first | omega | (simp only [zl_0]; first | done | omega) | decide | assumption | rfl) i6_1 (by first | omega | (simp only [zl_0]; first | done | omega) | decide | assumption | rfl) (by first | omega | (simp only [zl_0]; first | done | omega) | decide | assumption | rfl) (by rw [zl_0, show (c0 2).toInt.toNat = l6_1.toInt.toNat from by omega]; exact i6_4) (by first | omega | (simp only [zl_0]; first | done | omega) | decide | assumption | rfl) (Nat.lt_succ_self _) ls _ _ (lv_sub hl [0, 1] rfl) hP hD hS
        · refine lv_aload_n hx hb dX11_oneDay_16 rfl (lv_at hl 1 rfl) ?_
          refine lv_iload_n hx hb dX11_oneDay_17 rfl (lv_at hl 0 rfl) ?_
          refine kJi (wr := []) (va_runV (As := [.int l6_1]) (rest := []) ⟨hx, hb, hml, hown, hT⟩ (c_X11_isLostG l D cI aK aV k k0 k1 k2 k4 k5 k6 k7 k8 ka kb kl ko H.size c3 c9 cc cd ce cf cg ch ci cj ck cm cn g6_k0 l6_1 i6_1 (by first | omega | decide | assumption | rfl) (by first | omega | decide | assumption | rfl) (by first | omega | decide | assumption | rfl)) (cwV 1 hT (gV_in mw_1424 mw_1421 mw_1423 mw_p5_6 mw_12) rfl rfl rfl (by decide +kernel) ⟨Nat.le_of_ble_eq_true rfl, Nat.le_of_ble_eq_true rfl⟩) (kRecvX (q0 := 0) (ci := 11) hK hP hD hN hXS hS hA rfl rfl [0, 1] rfl (by decide +kernel)) rfl rfl hl.1 rfl (lv_room (Nat.le_of_ble_eq_true rfl)) dX11_oneDay_18 ⟨Nat.le_of_ble_eq_true rfl, Nat.le_of_ble_eq_true rfl⟩) hP hD hS hA [0, 1] [] rfl rfl (by decide +kernel) (by decide +kernel) ?_
          clear hP hD hS
          intro r_41 u_43 H locs w_42 hP hD hS
          replace hP : va_P D vwCl [(k, .inr (11, [.ref k0, .ref k1, .ref k2, .int c3, .ref k4, .ref k5, .ref k6, .ref k7, .ref k8, .int c9, .ref ka, .ref kb, .int cc, .int cd, .int ce, .int cf, .int cg, .int ch, .int ci, .int cj, .int ck, .ref kl, .int cm, .int cn, .ref ko])), (k0, .inl (cI, 1201, .inl g6_k0))] H := hP
          replace hD : va_D A [(k, .inr (11, [.ref k0, .ref k1, .ref k2, .int c3, .ref k4, .ref k5, .ref k6, .ref k7, .ref k8, .int c9, .ref ka, .ref kb, .int cc, .int cd, .int ce, .int cf, .int cg, .int ch, .int ci, .int cj, .int ck, .ref kl, .int cm, .int cn, .ref ko])), (k0, .inl (cI, 1201, .inl g6_k0))] := hD
          rcases w_42 with ⟨hr_41, h_44⟩ | ⟨hr_41, h_45, h_46⟩
          · have h_44 : (pW g6_k0 l6_1 8).toInt = 2 := h_44
            obtain rfl : r_41 = 1 := hr_41.trans (by decide +kernel)
            refine b_if_ne hx hb zl_1 (tgt := 61) dX11_oneDay_21 (by decide +kernel) (fun c_47 => ?_) (fun c_47 => by exfalso; omega)
            obtain ⟨v_48, ev_48⟩ : ∃ y : Int32, y = l6_1 + 1 := ⟨_, rfl⟩
            have tv_48 : v_48.toInt = l6_1.toInt + 1 := by rw [ev_48]; exact k_addv rfl zl_1 (by omega) (by omega)
            refine lv_iinc (v := v_48) (lv' := [(1, .int v_48), (0, .ref k)]) hx hb dX11_oneDay_61 hl (k := 0) rfl (by rw [ev_48]; rfl) (by decide +kernel) rfl ?_
            clear hl
            intro ls hl
            refine lv_goto (tgt := 6) hx hb dX11_oneDay_64 (by decide +kernel) ?_
            exact ih6 v_48 g6_k0 (by first | omega | decide | assumption | rfl) i6_1 (by first | omega | decide | assumption | rfl) (by first | omega | decide | assumption | rfl) (i6_4.trans (dyA_y (by omega) (by omega) (by rw [← i6_4]; omega))) (by first | omega | decide | assumption | rfl) (by omega) ls _ _ (lv_sub hl [0, 1] rfl) (hP.sub [0, 1] rfl) (hD.sub [0, 1] (by decide +kernel) rfl) hS
          · have h_45 : (pW g6_k0 l6_1 8).toInt ≠ 2 := h_45
            have h_46 : 1 ≤ (pW g6_k0 l6_1 2).toInt := h_46
            obtain rfl : r_41 = 0 := hr_41.trans (by decide +kernel)
            refine b_if_ne hx hb zl_0 (tgt := 61) dX11_oneDay_21 (by decide +kernel) (fun c_49 => by exfalso; omega) (fun c_49 => ?_)
            refine lv_aload_n hx hb dX11_oneDay_24 rfl (lv_at hl 1 rfl) ?_
            refine lv_iload_n hx hb dX11_oneDay_25 rfl (lv_at hl 0 rfl) ?_
            refine kJv (wr := []) (va_runV (As := [.int l6_1]) (rest := []) ⟨hx, hb, hml, hown, hT⟩ (c_X11_drinksG l D cI aK aV k k0 k1 k2 k4 k5 k6 k7 k8 ka kb kl ko H.size c3 c9 cc cd ce cf cg ch ci cj ck cm cn g6_k0 l6_1 i6_1 (by first | omega | decide | assumption | rfl) (by first | omega | decide | assumption | rfl) (by first | omega | decide | assumption | rfl) (by first | omega | exact SIX.men i6_1 (by omega) (by omega) (by omega) (by omega))) (cwV 1 hT (gV_in mw_1543 mw_1540 mw_1542 mw_p6_1 mw_12) rfl rfl rfl (by decide +kernel) ⟨Nat.le_of_ble_eq_true rfl, Nat.le_of_ble_eq_true rfl⟩) (kRecvX (q0 := 0) (ci := 11) hK hP hD hN hXS hS hA rfl rfl [0, 1] rfl (by decide +kernel)) rfl rfl hl.1 rfl (lv_room (Nat.le_of_ble_eq_true rfl)) dX11_oneDay_26 ⟨Nat.le_of_ble_eq_true rfl, Nat.le_of_ble_eq_true rfl⟩) hP hD hS hA [0, 1] [] rfl rfl (by decide +kernel) (by decide +kernel) ?_
            clear hP hD hS
            intro sc0_52 H locs w_51 hP hD hS
            replace hP : va_P D vwCl [(k, .inr (11, [.ref k0, .ref k1, .ref k2, .int c3, .ref k4, .ref k5, .ref k6, .ref k7, .ref k8, .int c9, .ref ka, .ref kb, .int cc, .int cd, .int ce, .int cf, .int cg, .int ch, .int ci, .int cj, .int ck, .ref kl, .int cm, .int cn, .ref ko])), (k0, .inl (cI, 1201, .inl sc0_52))] H := hP
            replace hD : va_D A [(k, .inr (11, [.ref k0, .ref k1, .ref k2, .int c3, .ref k4, .ref k5, .ref k6, .ref k7, .ref k8, .int c9, .ref ka, .ref kb, .int cc, .int cd, .int ce, .int cf, .int cg, .int ch, .int ci, .int cj, .int ck, .ref kl, .int cm, .int cn, .ref ko])), (k0, .inl (cI, 1201, .inl sc0_52))] := hD
            obtain ⟨h_53, h_54, h_55, h_56, h_57⟩ := w_51
            have h_53 : SIX sc0_52 l6_1.toInt := h_53
            have h_53 : SIX sc0_52 l6_1.toInt := h_53
            have h_54 : (sc0_52 0).toInt = (g6_k0 0).toInt := h_54
            have h_55 : (sc0_52 1).toInt = (g6_k0 1).toInt := h_55
            have h_56 : (sc0_52 2).toInt = (g6_k0 2).toInt := h_56
            have h_57 : sc0_52 = drkS g6_k0 l6_1.toInt.toNat := h_57
            have h_57 : sc0_52 = drkS g6_k0 l6_1.toInt.toNat := h_57
            refine lv_aload_n hx hb dX11_oneDay_29 rfl (lv_at hl 1 rfl) ?_
            refine lv_iload_n hx hb dX11_oneDay_30 rfl (lv_at hl 0 rfl) ?_
            refine kJv (wr := []) (va_runV (As := [.int l6_1]) (rest := []) ⟨hx, hb, hml, hown, hT⟩ (c_X11_eatsG l D cI aK aV k k0 k1 k2 k4 k5 k6 k7 k8 ka kb kl ko H.size c3 c9 cc cd ce cf cg ch ci cj ck cm cn sc0_52 l6_1 h_53 (by first | omega | decide | assumption | rfl) (by first | omega | decide | assumption | rfl)) (cwV 1 hT (gV_in mw_1547 mw_1544 mw_1546 mw_p6_2 mw_12) rfl rfl rfl (by decide +kernel) ⟨Nat.le_of_ble_eq_true rfl, Nat.le_of_ble_eq_true rfl⟩) (kRecvX (q0 := 0) (ci := 11) hK hP hD hN hXS hS hA rfl rfl [0, 1] rfl (by decide +kernel)) rfl rfl hl.1 rfl (lv_room (Nat.le_of_ble_eq_true rfl)) dX11_oneDay_31 ⟨Nat.le_of_ble_eq_true rfl, Nat.le_of_ble_eq_true rfl⟩) hP hD hS hA [0, 1] [] rfl rfl (by decide +kernel) (by decide +kernel) ?_
            clear hP hD hS
            intro sc0_60 H locs w_59 hP hD hS
            replace hP : va_P D vwCl [(k, .inr (11, [.ref k0, .ref k1, .ref k2, .int c3, .ref k4, .ref k5, .ref k6, .ref k7, .ref k8, .int c9, .ref ka, .ref kb, .int cc, .int cd, .int ce, .int cf, .int cg, .int ch, .int ci, .int cj, .int ck, .ref kl, .int cm, .int cn, .ref ko])), (k0, .inl (cI, 1201, .inl sc0_60))] H := hP
            replace hD : va_D A [(k, .inr (11, [.ref k0, .ref k1, .ref k2, .int c3, .ref k4, .ref k5, .ref k6, .ref k7, .ref k8, .int c9, .ref ka, .ref kb, .int cc, .int cd, .int ce, .int cf, .int cg, .int ch, .int ci, .int cj, .int ck, .ref kl, .int cm, .int cn, .ref ko])), (k0, .inl (cI, 1201, .inl sc0_60))] := hD
            obtain ⟨h_61, h_62, h_63, h_64, h_65⟩ := w_59
            have h_61 : SIX sc0_60 l6_1.toInt := h_61
            have h_61 : SIX sc0_60 l6_1.toInt := h_61
            have h_62 : (sc0_60 0).toInt = (sc0_52 0).toInt := h_62
            have h_63 : (sc0_60 1).toInt = (sc0_52 1).toInt := h_63
            have h_64 : (sc0_60 2).toInt = (sc0_52 2).toInt := h_64
            have h_65 : sc0_60 = eatP sc0_52 l6_1.toInt.toNat := h_65
            have h_65 : sc0_60 = eatP sc0_52 l6_1.toInt.toNat := h_65
            refine lv_aload_n hx hb dX11_oneDay_34 rfl (lv_at hl 1 rfl) ?_
            refine lv_iload_n hx hb dX11_oneDay_35 rfl (lv_at hl 0 rfl) ?_
            refine lv_bipush (v := 8) hx hb dX11_oneDay_36 (by decide +kernel) ?_
            refine lv_aload_n hx hb dX11_oneDay_38 rfl (lv_at hl 1 rfl) ?_
            refine lv_iload_n hx hb dX11_oneDay_39 rfl (lv_at hl 0 rfl) ?_
            refine lv_iconst (v := 2) hx hb dX11_oneDay_40 (by decide +kernel) ?_
            refine kJi (wr := []) (va_runV (As := [.int l6_1, .int 2]) (rest := [.int 8, .int l6_1, .ref k]) ⟨hx, hb, hml, hown, hT⟩ (c_X11_partyG2 l D cI aK aV k k0 k1 k2 k4 k5 k6 k7 k8 ka kb kl ko H.size c3 c9 cc cd ce cf cg ch ci cj ck cm cn sc0_60 l6_1 2 (by first | omega | (simp only [zl_2]; first | done | omega) | decide | assumption | rfl) (by first | omega | (simp only [zl_2]; first | done | omega) | decide | assumption | rfl) (by first | omega | (simp only [zl_2]; first | done | omega) | decide | assumption | rfl)) (cwV 2 hT (gV_in mw_1416 mw_1413 mw_1415 mw_p5_5 mw_12) rfl rfl rfl (by decide +kernel) ⟨Nat.le_of_ble_eq_true rfl, Nat.le_of_ble_eq_true rfl⟩) (kRecvX (q0 := 0) (ci := 11) hK hP hD hN hXS hS hA rfl rfl [0, 1] rfl (by decide +kernel)) rfl rfl hl.1 rfl (lv_room (Nat.le_of_ble_eq_true rfl)) dX11_oneDay_41 ⟨Nat.le_of_ble_eq_true rfl, Nat.le_of_ble_eq_true rfl⟩) hP hD hS hA [0, 1] [] rfl rfl (by decide +kernel) (by decide +kernel) ?_
            clear hP hD hS
            intro r_66 u_68 H locs w_67 hP hD hS
            replace hP : va_P D vwCl [(k, .inr (11, [.ref k0, .ref k1, .ref k2, .int c3, .ref k4, .ref k5, .ref k6, .ref k7, .ref k8, .int c9, .ref ka, .ref kb, .int cc, .int cd, .int ce, .int cf, .int cg, .int ch, .int ci, .int cj, .int ck, .ref kl, .int cm, .int cn, .ref ko])), (k0, .inl (cI, 1201, .inl sc0_60))] H := hP
            replace hD : va_D A [(k, .inr (11, [.ref k0, .ref k1, .ref k2, .int c3, .ref k4, .ref k5, .ref k6, .ref k7, .ref k8, .int c9, .ref ka, .ref kb, .int cc, .int cd, .int ce, .int cf, .int cg, .int ch, .int ci, .int cj, .int ck, .ref kl, .int cm, .int cn, .ref ko])), (k0, .inl (cI, 1201, .inl sc0_60))] := hD
            have h_69 := w_67
            have h_69 : r_66 = pW sc0_60 l6_1 2 := h_69
            have t_70 : r_66.toInt = (pW sc0_60 l6_1 2).toInt := by rw [h_69]
            have b_71 : 0 ≤ r_66.toInt ∧ r_66.toInt ≤ 50 := by rw [h_69]; exact SB.p2 (And.left h_61) (by omega) (by omega)
            have lo_r_66 := k_lo r_66
            have hi_r_66 := k_hi r_66
            refine b_if_ne hx hb rfl (tgt := 51) dX11_oneDay_44 (by decide +kernel) (fun c_72 => ?_) (fun c_72 => ?_)
            · refine lv_aload_n hx hb dX11_oneDay_51 rfl (lv_at hl 1 rfl) ?_
              refine lv_iload_n hx hb dX11_oneDay_52 rfl (lv_at hl 0 rfl) ?_
              refine lv_bipush (v := 8) hx hb dX11_oneDay_53 (by decide +kernel) ?_
              refine kJi (wr := []) (va_runV (As := [.int l6_1, .int 8]) (rest := [.int 8, .int l6_1, .ref k]) ⟨hx, hb, hml, hown, hT⟩ (c_X11_partyG8 l D cI aK aV k k0 k1 k2 k4 k5 k6 k7 k8 ka kb kl ko H.size c3 c9 cc cd ce cf cg ch ci cj ck cm cn sc0_60 l6_1 8 (by first | omega | (simp only [zl_8]; first | done | omega) | decide | assumption | rfl) (by first | omega | (simp only [zl_8]; first | done | omega) | decide | assumption | rfl) (by first | omega | (simp only [zl_8]; first | done | omega) | decide | assumption | rfl)) (cwV 2 hT (gV_in mw_1416 mw_1413 mw_1415 mw_p5_5 mw_12) rfl rfl rfl (by decide +kernel) ⟨Nat.le_of_ble_eq_true rfl, Nat.le_of_ble_eq_true rfl⟩) (kRecvX (q0 := 0) (ci := 11) hK hP hD hN hXS hS hA rfl rfl [0, 1] rfl (by decide +kernel)) rfl rfl hl.1 rfl (lv_room (Nat.le_of_ble_eq_true rfl)) dX11_oneDay_55 ⟨Nat.le_of_ble_eq_true rfl, Nat.le_of_ble_eq_true rfl⟩) hP hD hS hA [0, 1] [] rfl rfl (by decide +kernel) (by decide +kernel) ?_
              clear hP hD hS
              intro r_73 u_75 H locs w_74 hP hD hS
              replace hP : va_P D vwCl [(k, .inr (11, [.ref k0, .ref k1, .ref k2, .int c3, .ref k4, .ref k5, .ref k6, .ref k7, .ref k8, .int c9, .ref ka, .ref kb, .int cc, .int cd, .int ce, .int cf, .int cg, .int ch, .int ci, .int cj, .int ck, .ref kl, .int cm, .int cn, .ref ko])), (k0, .inl (cI, 1201, .inl sc0_60))] H := hP
              replace hD : va_D A [(k, .inr (11, [.ref k0, .ref k1, .ref k2, .int c3, .ref k4, .ref k5, .ref k6, .ref k7, .ref k8, .int c9, .ref ka, .ref kb, .int cc, .int cd, .int ce, .int cf, .int cg, .int ch, .int ci, .int cj, .int ck, .ref kl, .int cm, .int cn, .ref ko])), (k0, .inl (cI, 1201, .inl sc0_60))] := hD
              have h_76 := w_74
              have h_76 : r_73 = pW sc0_60 l6_1 8 := h_76
              have t_77 : r_73.toInt = (pW sc0_60 l6_1 8).toInt := by rw [h_76]
              have lo_r_73 := k_lo r_73
              have hi_r_73 := k_hi r_73
              refine kJv (wr := []) (va_runV (As := [.int l6_1, .int 8, .int r_73]) (rest := []) ⟨hx, hb, hml, hown, hT⟩ (c_X11_setPartyG8 l D cI aK aV k k0 k1 k2 k4 k5 k6 k7 k8 ka kb kl ko H.size c3 c9 cc cd ce cf cg ch ci cj ck cm cn sc0_60 l6_1 8 r_73 (by first | omega | (simp only [zl_8]; first | done | omega) | decide | assumption | rfl) (by first | omega | (simp only [zl_8]; first | done | omega) | decide | assumption | rfl) (by first | omega | (simp only [zl_8]; first | done | omega) | decide | assumption | rfl)) (cwV 3 hT (gV_in mw_1404 mw_1401 mw_1403 mw_p5_3 mw_12) rfl rfl rfl (by decide +kernel) ⟨Nat.le_of_ble_eq_true rfl, Nat.le_of_ble_eq_true rfl⟩) (kRecvX (q0 := 0) (ci := 11) hK hP hD hN hXS hS hA rfl rfl [0, 1] rfl (by decide +kernel)) rfl rfl hl.1 rfl (lv_room (Nat.le_of_ble_eq_true rfl)) dX11_oneDay_58 ⟨Nat.le_of_ble_eq_true rfl, Nat.le_of_ble_eq_true rfl⟩) hP hD hS hA [0, 1] [] rfl rfl (by decide +kernel) (by decide +kernel) ?_
              clear hP hD hS
              intro sc0_80 H locs w_79 hP hD hS
              replace hP : va_P D vwCl [(k, .inr (11, [.ref k0, .ref k1, .ref k2, .int c3, .ref k4, .ref k5, .ref k6, .ref k7, .ref k8, .int c9, .ref ka, .ref kb, .int cc, .int cd, .int ce, .int cf, .int cg, .int ch, .int ci, .int cj, .int ck, .ref kl, .int cm, .int cn, .ref ko])), (k0, .inl (cI, 1201, .inl sc0_80))] H := hP
              replace hD : va_D A [(k, .inr (11, [.ref k0, .ref k1, .ref k2, .int c3, .ref k4, .ref k5, .ref k6, .ref k7, .ref k8, .int c9, .ref ka, .ref kb, .int cc, .int cd, .int ce, .int cf, .int cg, .int ch, .int ci, .int cj, .int ck, .ref kl, .int cm, .int cn, .ref ko])), (k0, .inl (cI, 1201, .inl sc0_80))] := hD
              have h_81 := w_79
              try simp only [zl_8] at h_81
              have h_81 : sc0_80 = upd sc0_60 (459 + 9 * l6_1.toInt.toNat + 8) r_73 := h_81
              have h_81 : sc0_80 = upd sc0_60 (459 + 9 * l6_1.toInt.toNat + 8) r_73 := h_81
              have hS_82 : SIX sc0_80 (-1) := SIX.all (p := l6_1) (SIX.p h_61 h_81 rfl (by omega) (by omega) (by decide +kernel) (by omega) (fun z => by omega) (fun _ => Or.inr (Or.inl rfl))) (by rw [pW_updE h_81, pW_upd h_81 (by decide +kernel) (by decide +kernel) (Or.inl (by decide +kernel))]; omega)
              have n_83 : (sc0_80 0).toInt = (sc0_60 0).toInt := by rw [updN h_81 (by omega)]
              have n_84 : (sc0_80 1).toInt = (sc0_60 1).toInt := by rw [updN h_81 (by omega)]
              have n_85 : (sc0_80 2).toInt = (sc0_60 2).toInt := by rw [updN h_81 (by omega)]
              have n_86 : (pW sc0_80 l6_1 2).toInt = (pW sc0_60 l6_1 2).toInt := by rw [pW_upd h_81 (by decide +kernel) (by decide +kernel) (Or.inl (by decide +kernel))]
              obtain ⟨v_87, ev_87⟩ : ∃ y : Int32, y = l6_1 + 1 := ⟨_, rfl⟩
              have tv_87 : v_87.toInt = l6_1.toInt + 1 := by rw [ev_87]; exact k_addv rfl zl_1 (by omega) (by omega)
              refine lv_iinc (v := v_87) (lv' := [(1, .int v_87), (0, .ref k)]) hx hb dX11_oneDay_61 hl (k := 0) rfl (by rw [ev_87]; rfl) (by decide +kernel) rfl ?_
              clear hl
              intro ls hl
              refine lv_goto (tgt := 6) hx hb dX11_oneDay_64 (by decide +kernel) ?_
              exact ih6 v_87 sc0_80 (by first | omega | decide | assumption | rfl) hS_82 (by first | omega | decide | assumption | rfl) (by first | omega | decide | assumption | rfl) (by rw [ref_st (t := r_73) (x := r_73) h_69 h_76 (Or.inr ⟨by omega, rfl⟩) h_81, h_65, h_57, i6_4]; exact dyA_n (by omega) (by omega) (by rw [← i6_4]; omega)) (by first | omega | decide | assumption | rfl) (by omega) ls _ _ (lv_sub hl [0, 1] rfl) (hP.sub [0, 1] rfl) (hD.sub [0, 1] (by decide +kernel) rfl) hS
            · refine lv_iconst (v := 2) hx hb dX11_oneDay_47 (by decide +kernel) ?_
              refine lv_goto (tgt := 58) hx hb dX11_oneDay_48 (by decide +kernel) ?_
              refine kJv (wr := []) (va_runV (As := [.int l6_1, .int 8, .int 2]) (rest := []) ⟨hx, hb, hml, hown, hT⟩ (c_X11_setPartyG8 l D cI aK aV k k0 k1 k2 k4 k5 k6 k7 k8 ka kb kl ko H.size c3 c9 cc cd ce cf cg ch ci cj ck cm cn sc0_60 l6_1 8 2 (by first | omega | (simp only [zl_2, zl_8]; first | done | omega) | decide | assumption | rfl) (by first | omega | (simp only [zl_2, zl_8]; first | done | omega) | decide | assumption | rfl) (by first | omega | (simp only [zl_2, zl_8]; first | done | omega) | decide | assumption | rfl)) (cwV 3 hT (gV_in mw_1404 mw_1401 mw_1403 mw_p5_3 mw_12) rfl rfl rfl (by decide +kernel) ⟨Nat.le_of_ble_eq_true rfl, Nat.le_of_ble_eq_true rfl⟩) (kRecvX (q0 := 0) (ci := 11) hK hP hD hN hXS hS hA rfl rfl [0, 1] rfl (by decide +kernel)) rfl rfl hl.1 rfl (lv_room (Nat.le_of_ble_eq_true rfl)) dX11_oneDay_58 ⟨Nat.le_of_ble_eq_true rfl, Nat.le_of_ble_eq_true rfl⟩) hP hD hS hA [0, 1] [] rfl rfl (by decide +kernel) (by decide +kernel) ?_
              clear hP hD hS
              intro sc0_90 H locs w_89 hP hD hS
              replace hP : va_P D vwCl [(k, .inr (11, [.ref k0, .ref k1, .ref k2, .int c3, .ref k4, .ref k5, .ref k6, .ref k7, .ref k8, .int c9, .ref ka, .ref kb, .int cc, .int cd, .int ce, .int cf, .int cg, .int ch, .int ci, .int cj, .int ck, .ref kl, .int cm, .int cn, .ref ko])), (k0, .inl (cI, 1201, .inl sc0_90))] H := hP
              replace hD : va_D A [(k, .inr (11, [.ref k0, .ref k1, .ref k2, .int c3, .ref k4, .ref k5, .ref k6, .ref k7, .ref k8, .int c9, .ref ka, .ref kb, .int cc, .int cd, .int ce, .int cf, .int cg, .int ch, .int ci, .int cj, .int ck, .ref kl, .int cm, .int cn, .ref ko])), (k0, .inl (cI, 1201, .inl sc0_90))] := hD
              have h_91 := w_89
              try simp only [zl_2, zl_8] at h_91
              have h_91 : sc0_90 = upd sc0_60 (459 + 9 * l6_1.toInt.toNat + 8) 2 := h_91
              have h_91 : sc0_90 = upd sc0_60 (459 + 9 * l6_1.toInt.toNat + 8) 2 := h_91
              have hS_92 : SIX sc0_90 (-1) := SIX.all (p := l6_1) (SIX.p h_61 h_91 zl_2 (by omega) (by omega) (by decide +kernel) (by omega) (fun z => by omega) (fun _ => Or.inr (Or.inl rfl))) (by rw [pW_updE h_91, pW_upd h_91 (by decide +kernel) (by decide +kernel) (Or.inl (by decide +kernel)), zl_2]; omega)
              have n_93 : (sc0_90 0).toInt = (sc0_60 0).toInt := by rw [updN h_91 (by omega)]
              have n_94 : (sc0_90 1).toInt = (sc0_60 1).toInt := by rw [updN h_91 (by omega)]
              have n_95 : (sc0_90 2).toInt = (sc0_60 2).toInt := by rw [updN h_91 (by omega)]
              have n_96 : (pW sc0_90 l6_1 2).toInt = (pW sc0_60 l6_1 2).toInt := by rw [pW_upd h_91 (by decide +kernel) (by decide +kernel) (Or.inl (by decide +kernel))]
              obtain ⟨v_97, ev_97⟩ : ∃ y : Int32, y = l6_1 + 1 := ⟨_, rfl⟩
              have tv_97 : v_97.toInt = l6_1.toInt + 1 := by rw [ev_97]; exact k_addv rfl zl_1 (by omega) (by omega)
              refine lv_iinc (v := v_97) (lv' := [(1, .int v_97), (0, .ref k)]) hx hb dX11_oneDay_61 hl (k := 0) rfl (by rw [ev_97]; rfl) (by decide +kernel) rfl ?_
              clear hl
              intro ls hl
              refine lv_goto (tgt := 6) hx hb dX11_oneDay_64 (by decide +kernel) ?_
              exact ih6 v_97 sc0_90 (by first | omega | decide | assumption | rfl) hS_92 (by first | omega | decide | assumption | rfl) (by first | omega | decide | assumption | rfl) (by rw [ref_st (t := (pW sc0_60 l6_1 8)) (x := 2) h_69 rfl (Or.inl ⟨by omega, rfl⟩) h_91, h_65, h_57, i6_4]; exact dyA_n (by omega) (by omega) (by rw [← i6_4]; omega)) (by first | omega | decide | assumption | rfl) (by omega) ls _ _ (lv_sub hl [0, 1] rfl) (hP.sub [0, 1] rfl) (hD.sub [0, 1] (by decide +kernel) rfl) hS
  exact hloop_6 _ 0 sc0_6 (by first | omega | (simp only [zl_0]; first | done | omega) | decide | assumption | rfl) h_7 (by first | omega | (simp only [zl_0]; first | done | omega) | decide | assumption | rfl) (by first | omega | (simp only [zl_0]; first | done | omega) | decide | assumption | rfl) (by rw [zl_0]; exact h_11) (by first | omega | (simp only [zl_0]; first | done | omega) | decide | assumption | rfl) (Nat.lt_succ_self _) ls _ _ (lv_sub hl [0, 1] rfl) hP hD hS
theorem bn_cX11_days_0 : BN cX11_days 0 0x568bc080a00ad456f5802a0040342bfc02b71583802a30e0747c045690402b72004c560b00a95a20809184382f0202802b515848029a1800572c9008480a1c := by
  unfold BN; decide +kernel
theorem dX11_days_0 : decode cX11_days 0 = .ok (.iload_n 1, 1) := dR0 (k := 0) (i := 0) bn_cX11_days_0 dop_27 (by decide +kernel)
theorem dX11_days_1 : decode cX11_days 1 = .ok (.iconst 1, 1) := dR0 (k := 0) (i := 1) bn_cX11_days_0 dop_4 (by decide +kernel)
theorem dX11_days_2 : decode cX11_days 2 = .ok (.sipush 200, 3) := dR2s (f := Instr.sipush) (k := 0) (i := 2) bn_cX11_days_0 dop_17 200 200 (by decide +kernel)
theorem dX11_days_5 : decode cX11_days 5 = .ok (.invokestatic 47, 3) := dR2 (f := Instr.invokestatic) (k := 0) (i := 5) bn_cX11_days_0 dop_184 47 (by decide +kernel)
theorem dX11_days_8 : decode cX11_days 8 = .ok (.ifCond .eq 17, 3) := dR2s (f := Instr.ifCond .eq) (k := 0) (i := 8) bn_cX11_days_0 dop_153 17 17 (by decide +kernel)
theorem dX11_days_11 : decode cX11_days 11 = .ok (.aload_n 0, 1) := dR0 (k := 0) (i := 11) bn_cX11_days_0 dop_42 (by decide +kernel)
theorem dX11_days_12 : decode cX11_days 12 = .ok (.getfield 9, 3) := dR2 (f := Instr.getfield) (k := 0) (i := 12) bn_cX11_days_0 dop_180 9 (by decide +kernel)
theorem dX11_days_15 : decode cX11_days 15 = .ok (.iconst 0, 1) := dR0 (k := 0) (i := 15) bn_cX11_days_0 dop_3 (by decide +kernel)
theorem dX11_days_16 : decode cX11_days 16 = .ok (.iaload, 1) := dR0 (k := 0) (i := 16) bn_cX11_days_0 dop_46 (by decide +kernel)
theorem dX11_days_17 : decode cX11_days 17 = .ok (.iload_n 1, 1) := dR0 (k := 0) (i := 17) bn_cX11_days_0 dop_27 (by decide +kernel)
theorem dX11_days_18 : decode cX11_days 18 = .ok (.iadd, 1) := dR0 (k := 0) (i := 18) bn_cX11_days_0 dop_96 (by decide +kernel)
theorem dX11_days_19 : decode cX11_days 19 = .ok (.sipush 2000, 3) := dR2s (f := Instr.sipush) (k := 0) (i := 19) bn_cX11_days_0 dop_17 2000 2000 (by decide +kernel)
theorem dX11_days_22 : decode cX11_days 22 = .ok (.if_icmp .le 10, 3) := dR2s (f := Instr.if_icmp .le) (k := 0) (i := 22) bn_cX11_days_0 dop_164 10 10 (by decide +kernel)
theorem dX11_days_25 : decode cX11_days 25 = .ok (.aload_n 0, 1) := dR0 (k := 0) (i := 25) bn_cX11_days_0 dop_42 (by decide +kernel)
theorem dX11_days_26 : decode cX11_days 26 = .ok (.ldc 63, 2) := dR1 (f := Instr.ldc) (k := 0) (i := 26) bn_cX11_days_0 dop_18 63 (by decide +kernel)
theorem dX11_days_28 : decode cX11_days 28 = .ok (.invokevirtual 64, 3) := dR2 (f := Instr.invokevirtual) (k := 0) (i := 28) bn_cX11_days_0 dop_182 64 (by decide +kernel)
theorem dX11_days_31 : decode cX11_days 31 = .ok (.ireturn, 1) := dR0 (k := 0) (i := 31) bn_cX11_days_0 dop_172 (by decide +kernel)
theorem dX11_days_32 : decode cX11_days 32 = .ok (.iconst 0, 1) := dR0 (k := 0) (i := 32) bn_cX11_days_0 dop_3 (by decide +kernel)
theorem dX11_days_33 : decode cX11_days 33 = .ok (.istore_n 2, 1) := dR0 (k := 0) (i := 33) bn_cX11_days_0 dop_61 (by decide +kernel)
theorem dX11_days_34 : decode cX11_days 34 = .ok (.iload_n 2, 1) := dR0 (k := 0) (i := 34) bn_cX11_days_0 dop_28 (by decide +kernel)
theorem dX11_days_35 : decode cX11_days 35 = .ok (.iload_n 1, 1) := dR0 (k := 0) (i := 35) bn_cX11_days_0 dop_27 (by decide +kernel)
theorem dX11_days_36 : decode cX11_days 36 = .ok (.if_icmp .ge 13, 3) := dR2s (f := Instr.if_icmp .ge) (k := 0) (i := 36) bn_cX11_days_0 dop_162 13 13 (by decide +kernel)
theorem dX11_days_39 : decode cX11_days 39 = .ok (.aload_n 0, 1) := dR0 (k := 0) (i := 39) bn_cX11_days_0 dop_42 (by decide +kernel)
theorem dX11_days_40 : decode cX11_days 40 = .ok (.invokevirtual 254, 3) := dR2 (f := Instr.invokevirtual) (k := 0) (i := 40) bn_cX11_days_0 dop_182 254 (by decide +kernel)
theorem dX11_days_43 : decode cX11_days 43 = .ok (.iinc 2 1, 3) := dRii (f := Instr.iinc) (k := 0) (i := 43) bn_cX11_days_0 dop_132 2 1 1 (by decide +kernel)
theorem dX11_days_46 : decode cX11_days 46 = .ok (.goto (-12), 3) := dR2s (f := Instr.goto) (k := 0) (i := 46) bn_cX11_days_0 dop_167 65524 (-12) (by decide +kernel)
theorem dX11_days_49 : decode cX11_days 49 = .ok (.aload_n 0, 1) := dR0 (k := 0) (i := 49) bn_cX11_days_0 dop_42 (by decide +kernel)
theorem dX11_days_50 : decode cX11_days 50 = .ok (.getfield 9, 3) := dR2 (f := Instr.getfield) (k := 0) (i := 50) bn_cX11_days_0 dop_180 9 (by decide +kernel)
theorem dX11_days_53 : decode cX11_days 53 = .ok (.iconst 0, 1) := dR0 (k := 0) (i := 53) bn_cX11_days_0 dop_3 (by decide +kernel)
theorem dX11_days_54 : decode cX11_days 54 = .ok (.iaload, 1) := dR0 (k := 0) (i := 54) bn_cX11_days_0 dop_46 (by decide +kernel)
theorem dX11_days_55 : decode cX11_days 55 = .ok (.ireturn, 1) := dR0 (k := 0) (i := 55) bn_cX11_days_0 dop_172 (by decide +kernel)
set_option maxHeartbeats 4000000 in
set_option maxRecDepth 100000 in
theorem c_X11_daysG (l : Launch) (D : va_G) (cI : ClassId) (aK aV : Nat → Nat) (k k0 k1 k2 k4 k5 k6 k7 k8 ka kb kl ko : Nat) (sz : Nat) (c3 : Int32) (c9 : Int32) (cc : Int32) (cd : Int32) (ce : Int32) (cf : Int32) (cg : Int32) (ch : Int32) (ci : Int32) (cj : Int32) (ck : Int32) (cm : Int32) (cn : Int32) (c0 : Nat → Int32) (c4 : Nat → Int32) (a0 : Int32) (pre0 : SIX c0 (-1)) : Met l yX11_days (gW yX11_days cX11_days 3 (some .int)) ({ frames := 6, cells := 0, slots := 0, locals := 132 } : Room) (kPreX D cI aK aV [.ref k, .int a0] [(k, .inr (11, [.ref k0, .ref k1, .ref k2, .int c3, .ref k4, .ref k5, .ref k6, .ref k7, .ref k8, .int c9, .ref ka, .ref kb, .int cc, .int cd, .int ce, .int cf, .int cg, .int ch, .int ci, .int cj, .int ck, .ref kl, .int cm, .int cn, .ref ko])), (k0, .inl (cI, 1201, .inl c0)), (k4, .inl (cI, 6, .inl c4))] sz) (va_Qi (fun (r : Int32) (u : (Nat → Int32) × (Nat → Int32)) => SIX u.1 (-1) ∧ r.toInt = daysR (c0 0) a0 ∧ u.1 = dysS c0 a0) (fun u t => kWd D cI (va_A [(k, .inr (11, [.ref k0, .ref k1, .ref k2, .int c3, .ref k4, .ref k5, .ref k6, .ref k7, .ref k8, .int c9, .ref ka, .ref kb, .int cc, .int cd, .int ce, .int cf, .int cg, .int ch, .int ci, .int cj, .int ck, .ref kl, .int cm, .int cn, .ref ko])), (k0, .inl (cI, 1201, .inl c0)), (k4, .inl (cI, 6, .inl c4))] sz) [(k, .inr (11, [.ref k0, .ref k1, .ref k2, .int c3, .ref k4, .ref k5, .ref k6, .ref k7, .ref k8, .int c9, .ref ka, .ref kb, .int cc, .int cd, .int ce, .int cf, .int cg, .int ch, .int ci, .int cj, .int ck, .ref kl, .int cm, .int cn, .ref ko])), (k0, .inl (cI, 1201, .inl u.1)), (k4, .inl (cI, 6, .inl u.2))] t) (va_A [(k, .inr (11, [.ref k0, .ref k1, .ref k2, .int c3, .ref k4, .ref k5, .ref k6, .ref k7, .ref k8, .int c9, .ref ka, .ref kb, .int cc, .int cd, .int ce, .int cf, .int cg, .int ch, .int ci, .int cj, .int ck, .ref kl, .int cm, .int cn, .ref ko])), (k0, .inl (cI, 1201, .inl c0)), (k4, .inl (cI, 6, .inl c4))] sz)) 0 0 (va_A [(k, .inr (11, [.ref k0, .ref k1, .ref k2, .int c3, .ref k4, .ref k5, .ref k6, .ref k7, .ref k8, .int c9, .ref ka, .ref kb, .int cc, .int cd, .int ce, .int cf, .int cg, .int ch, .int ci, .int cj, .int ck, .ref kl, .int cm, .int cn, .ref ko])), (k0, .inl (cI, 1201, .inl c0)), (k4, .inl (cI, 6, .inl c4))] sz) := by
  refine kMetIX (own := RX11) (by decide +kernel) rfl (Nat.le_of_ble_eq_true rfl) ?_
  intro p e s m args below meth c hx hb hT hown hname hml A Q hK hP hD hS hA hN hXS hRet ls hl
  have hl : lv_has ls 3 [(0, .ref k), (1, .int a0)] := hl
  have lo_a0 := k_lo a0
  have hi_a0 := k_hi a0
  have lo_ci := k_lo ci
  have hi_ci := k_hi ci
  have pre0 : SIX c0 (-1) := pre0
  have nb_1 : 0 ≤ (c0 0).toInt ∧ (c0 0).toInt ≤ 2000 := SB.n0 (And.left pre0)
  have nb_2 : 0 ≤ (c0 1).toInt ∧ (c0 1).toInt ≤ 60 := SB.n1 (And.left pre0)
  have nb_3 : 0 ≤ (c0 2).toInt ∧ (c0 2).toInt ≤ 4 := SB.n2 (And.left pre0)
  refine lv_iload_n hx hb dX11_days_0 rfl (lv_at hl 1 rfl) ?_
  refine lv_iconst (v := 1) hx hb dX11_days_1 (by decide +kernel) ?_
  refine lv_sipush (v := 200) hx hb dX11_days_2 (by decide +kernel) ?_
  refine kJi (wr := [(k, .inr (11, [.ref k0, .ref k1, .ref k2, .int c3, .ref k4, .ref k5, .ref k6, .ref k7, .ref k8, .int c9, .ref ka, .ref kb, .int cc, .int cd, .int ce, .int cf, .int cg, .int ch, .int ci, .int cj, .int ck, .ref kl, .int cm, .int cn, .ref ko])), (k0, .inl (cI, 1201, .inl c0)), (k4, .inl (cI, 6, .inl c4))]) (va_runS (As := [.int a0, .int 1, .int 200]) (rest := []) ⟨hx, hb, hml, hown, hT⟩ (c_X11_inG l D cI aK aV s.heap.size a0 1 200) (cwS 3 hT (gS_in mw_1238 mw_1236 mw_1237 mw_12) rfl rfl rfl (by decide +kernel) ⟨Nat.le_of_ble_eq_true rfl, Nat.le_of_ble_eq_true rfl⟩) (kStatX hK hP hD hN hXS hS hA [] rfl (by decide +kernel)) rfl rfl hl.1 rfl (lv_room (Nat.le_of_ble_eq_true rfl)) dX11_days_5 ⟨Nat.le_of_ble_eq_true rfl, Nat.le_of_ble_eq_true rfl⟩) hP hD hS hA [] [0, 1, 2] rfl rfl (by decide +kernel) (by decide +kernel) ?_
  clear hP hD hS
  intro r_4 u_6 H locs w_5 hP hD hS
  replace hP : va_P D vwCl [(k, .inr (11, [.ref k0, .ref k1, .ref k2, .int c3, .ref k4, .ref k5, .ref k6, .ref k7, .ref k8, .int c9, .ref ka, .ref kb, .int cc, .int cd, .int ce, .int cf, .int cg, .int ch, .int ci, .int cj, .int ck, .ref kl, .int cm, .int cn, .ref ko])), (k0, .inl (cI, 1201, .inl c0)), (k4, .inl (cI, 6, .inl c4))] H := hP
  replace hD : va_D A [(k, .inr (11, [.ref k0, .ref k1, .ref k2, .int c3, .ref k4, .ref k5, .ref k6, .ref k7, .ref k8, .int c9, .ref ka, .ref kb, .int cc, .int cd, .int ce, .int cf, .int cg, .int ch, .int ci, .int cj, .int ck, .ref kl, .int cm, .int cn, .ref ko])), (k0, .inl (cI, 1201, .inl c0)), (k4, .inl (cI, 6, .inl c4))] := hD
  rcases w_5 with ⟨hr_4, h_7, h_8⟩ | ⟨hr_4, h_9⟩
  · try simp only [zl_1, zl_200] at h_7
    have h_7 : 1 ≤ a0.toInt := h_7
    try simp only [zl_1, zl_200] at h_8
    have h_8 : a0.toInt ≤ 200 := h_8
    obtain rfl : r_4 = 1 := hr_4.trans (by decide +kernel)
    refine b_if_eq hx hb zl_1 (tgt := 25) dX11_days_8 (by decide +kernel) (fun c_10 => by exfalso; omega) (fun c_10 => ?_)
    refine lv_aload_n hx hb dX11_days_11 rfl (lv_at hl 0 rfl) ?_
    refine va_get (D := D) (ci := 11) (v := .ref k0) (C := RX11) (T := TX11) (N := 25) hx hb hT giX11 hown hK hP 0 rfl rfl 0 (by decide +kernel) (hT (Cond.fieldLink RX11 9 "DesertWireModel" "s" "[I") mw_1156) (fun _ h9 => h9) rfl dX11_days_12 ?_
    refine lv_iconst (v := 0) hx hb dX11_days_15 (by decide +kernel) ?_
    refine k_iald (v := (c0 0)) hx hb hK hP 1 0 rfl rfl (k_inl (by decide +kernel)) rfl dX11_days_16 ?_
    refine lv_topi (fun v_11 ev_11 => ?_)
    have lo_v_11 := k_lo v_11
    have hi_v_11 := k_hi v_11
    have tv_11 : v_11.toInt = (c0 0).toInt := by rw [ev_11]
    have b_12 : 0 ≤ v_11.toInt ∧ v_11.toInt ≤ 2000 := by first | (rw [tv_11]; exact SB.n0 (And.left pre0)) | exact SB.n0 (And.left pre0) | omega
    refine lv_iload_n hx hb dX11_days_17 rfl (lv_at hl 1 rfl) ?_
    refine lv_iadd hx hb dX11_days_18 ?_
    refine lv_topi (fun v_13 ev_13 => ?_)
    have tv_13 : v_13.toInt = v_11.toInt + a0.toInt := by rw [ev_13]; exact k_addv rfl rfl (by omega) (by omega)
    refine lv_sipush (v := 2000) hx hb dX11_days_19 (by decide +kernel) ?_
    refine b_icmp_le hx hb rfl zl_2000 (tgt := 32) dX11_days_22 (by decide +kernel) (fun c_14 => ?_) (fun c_14 => ?_)
    · refine lv_iconst (v := 0) hx hb dX11_days_32 (by decide +kernel) ?_
      refine lv_istore_n (lv' := [(2, .int 0), (0, .ref k), (1, .int a0)]) hx hb dX11_days_33 rfl hl (by decide +kernel) rfl ?_
      clear hl
      intro ls hl
      have hloop_34 : ∀ (fu_ : Nat) (l34_2 : Int32) (g34_k0 : Nat → Int32), 0 ≤ l34_2.toInt → SIX g34_k0 (-1) → (g34_k0 0).toInt = (c0 0).toInt + l34_2.toInt → l34_2.toInt ≤ a0.toInt → g34_k0 = daysF c0 l34_2.toInt.toNat → (a0.toInt - l34_2.toInt).toNat < fu_ → ∀ (ls : Array Slot) (H : Heap) (locs : List Loc), lv_has ls 3 [(2, .int l34_2), (0, .ref k), (1, .int a0)] → va_P D vwCl [(k, .inr (11, [.ref k0, .ref k1, .ref k2, .int c3, .ref k4, .ref k5, .ref k6, .ref k7, .ref k8, .int c9, .ref ka, .ref kb, .int cc, .int cd, .int ce, .int cf, .int cg, .int ch, .int ci, .int cj, .int ck, .ref kl, .int cm, .int cn, .ref ko])), (k0, .inl (cI, 1201, .inl g34_k0)), (k4, .inl (cI, 6, .inl c4))] H → va_D A [(k, .inr (11, [.ref k0, .ref k1, .ref k2, .int c3, .ref k4, .ref k5, .ref k6, .ref k7, .ref k8, .int c9, .ref ka, .ref kb, .int cc, .int cd, .int ce, .int cf, .int cg, .int ch, .int ci, .int cj, .int ck, .ref kl, .int cm, .int cn, .ref ko])), (k0, .inl (cI, 1201, .inl g34_k0)), (k4, .inl (cI, 6, .inl c4))] → va_S A s.heap H locs → W p l e ({ frames := 6, cells := 0, slots := 0, locals := 132 } : Room) s m args below meth c H locs 0 0 Q (F0 m 34 ls []) := by
        intro fu_; induction fu_ with
        | zero => intro l34_2 g34_k0 i34_0 i34_1 i34_2 i34_3 i34_4 hm; exact absurd hm (by omega)
        | succ fu_ ih34 =>
            intro l34_2 g34_k0 i34_0 i34_1 i34_2 i34_3 i34_4 hm ls H locs hl hP hD hS
            have lo_l34_2 := k_lo l34_2
            have hi_l34_2 := k_hi l34_2
            have i34_1 : SIX g34_k0 (-1) := i34_1
            have i34_4 : g34_k0 = daysF c0 l34_2.toInt.toNat := i34_4
            refine lv_iload_n hx hb dX11_days_34 rfl (lv_at hl 0 rfl) ?_
            refine lv_iload_n hx hb dX11_days_35 rfl (lv_at hl 2 rfl) ?_
            refine b_icmp_ge hx hb rfl rfl (tgt := 49) dX11_days_36 (by decide +kernel) (fun c_15 => ?_) (fun c_15 => ?_)
            · refine lv_aload_n hx hb dX11_days_49 rfl (lv_at hl 1 rfl) ?_
              refine va_get (D := D) (ci := 11) (v := .ref k0) (C := RX11) (T := TX11) (N := 25) hx hb hT giX11 hown hK hP 0 rfl rfl 0 (by decide +kernel) (hT (Cond.fieldLink RX11 9 "DesertWireModel" "s" "[I") mw_1156) (fun _ h9 => h9) rfl dX11_days_50 ?_
              refine lv_iconst (v := 0) hx hb dX11_days_53 (by decide +kernel) ?_
              refine k_iald (v := (g34_k0 0)) hx hb hK hP 1 0 rfl rfl (k_inl (by decide +kernel)) rfl dX11_days_54 ?_
              refine lv_topi (fun v_16 ev_16 => ?_)
              have lo_v_16 := k_lo v_16
              have hi_v_16 := k_hi v_16
              have tv_16 : v_16.toInt = (g34_k0 0).toInt := by rw [ev_16]
              have b_17 : 0 ≤ v_16.toInt ∧ v_16.toInt ≤ 2000 := by first | (rw [tv_16]; exact SB.n0 (And.left i34_1)) | exact SB.n0 (And.left i34_1) | omega
              exact hRet (g34_k0, c4) [0, 1, 2] ⟨i34_1, (by (try dsimp only); unfold daysR; (repeat (first | rw [if_pos (by omega)] | rw [if_neg (by omega)])); first | done | exact (by omega)), (by (try dsimp only); unfold dysS; rw [if_pos (by omega), show a0.toInt.toNat = l34_2.toInt.toNat from by omega]; exact i34_4)⟩ hP hD (by decide +kernel) rfl hS rfl dX11_days_55
            · refine lv_aload_n hx hb dX11_days_39 rfl (lv_at hl 1 rfl) ?_
              refine kJv (wr := [(k4, .inl (cI, 6, .inl c4))]) (va_runV (As := []) (rest := []) ⟨hx, hb, hml, hown, hT⟩ (c_X11_oneDayG l D cI aK aV k k0 k1 k2 k4 k5 k6 k7 k8 ka kb kl ko H.size c3 c9 cc cd ce cf cg ch ci cj ck cm cn g34_k0 i34_1 (by first | omega | decide | assumption | rfl)) (cwV 0 hT (gV_in mw_1535 mw_1532 mw_1534 mw_p5_15 mw_12) rfl rfl rfl (by decide +kernel) ⟨Nat.le_of_ble_eq_true rfl, Nat.le_of_ble_eq_true rfl⟩) (kRecvX (q0 := 0) (ci := 11) hK hP hD hN hXS hS hA rfl rfl [0, 1] rfl (by decide +kernel)) rfl rfl hl.1 rfl (lv_room (Nat.le_of_ble_eq_true rfl)) dX11_days_40 ⟨Nat.le_of_ble_eq_true rfl, Nat.le_of_ble_eq_true rfl⟩) hP hD hS hA [0, 1] [2] rfl rfl (by decide +kernel) (by decide +kernel) ?_
              clear hP hD hS
              intro sc0_20 H locs w_19 hP hD hS
              replace hP : va_P D vwCl [(k4, .inl (cI, 6, .inl c4)), (k, .inr (11, [.ref k0, .ref k1, .ref k2, .int c3, .ref k4, .ref k5, .ref k6, .ref k7, .ref k8, .int c9, .ref ka, .ref kb, .int cc, .int cd, .int ce, .int cf, .int cg, .int ch, .int ci, .int cj, .int ck, .ref kl, .int cm, .int cn, .ref ko])), (k0, .inl (cI, 1201, .inl sc0_20))] H := hP
              replace hD : va_D A [(k4, .inl (cI, 6, .inl c4)), (k, .inr (11, [.ref k0, .ref k1, .ref k2, .int c3, .ref k4, .ref k5, .ref k6, .ref k7, .ref k8, .int c9, .ref ka, .ref kb, .int cc, .int cd, .int ce, .int cf, .int cg, .int ch, .int ci, .int cj, .int ck, .ref kl, .int cm, .int cn, .ref ko])), (k0, .inl (cI, 1201, .inl sc0_20))] := hD
              obtain ⟨h_21, h_22, h_23, h_24⟩ := w_19
              have h_21 : SIX sc0_20 (-1) := h_21
              have h_22 : (sc0_20 0).toInt = (g34_k0 0).toInt + 1 := h_22
              have h_23 : (sc0_20 2).toInt = (g34_k0 2).toInt := h_23
              have h_24 : sc0_20 = dayS g34_k0 := h_24
              obtain ⟨v_25, ev_25⟩ : ∃ y : Int32, y = l34_2 + 1 := ⟨_, rfl⟩
              have tv_25 : v_25.toInt = l34_2.toInt + 1 := by rw [ev_25]; exact k_addv rfl zl_1 (by omega) (by omega)
              refine lv_iinc (v := v_25) (lv' := [(2, .int v_25), (0, .ref k), (1, .int a0)]) hx hb dX11_days_43 hl (k := 0) rfl (by rw [ev_25]; rfl) (by decide +kernel) rfl ?_
              clear hl
              intro ls hl
              refine lv_goto (tgt := 34) hx hb dX11_days_46 (by decide +kernel) ?_
              exact ih34 v_25 sc0_20 (by first | omega | decide | assumption | rfl) h_21 (by first | omega | decide | assumption | rfl) (by first | omega | decide | assumption | rfl) (by rw [h_24, i34_4]; exact daysF_s (by omega) (by omega)) (by omega) ls _ _ (lv_sub hl [0, 1, 2] rfl) (hP.sub [1, 2, 0] rfl) (hD.sub [1, 2, 0] (by decide +kernel) rfl) hS
      exact hloop_34 _ 0 c0 (by first | omega | (simp only [zl_0]; first | done | omega) | decide | assumption | rfl) pre0 (by first | omega | (simp only [zl_0]; first | done | omega) | decide | assumption | rfl) (by first | omega | (simp only [zl_0]; first | done | omega) | decide | assumption | rfl) (by rw [zl_0]; rfl) (Nat.lt_succ_self _) ls _ _ (lv_sub hl [0, 1, 2] rfl) hP hD hS
    · refine lv_aload_n hx hb dX11_days_25 rfl (lv_at hl 0 rfl) ?_
      refine lv_ldc (v := (-1000001)) hx hb hown (hT _ mw_1239) dX11_days_26 ?_
      refine kJi (wr := [(k0, .inl (cI, 1201, .inl c0))]) (va_runV (As := [.int (-1000001)]) (rest := []) ⟨hx, hb, hml, hown, hT⟩ (c_X11_findingG l D cI aK aV k k0 k1 k2 k4 k5 k6 k7 k8 ka kb kl ko H.size c3 c9 cc cd ce cf cg ch ci cj ck cm cn c4 (-1000001) (by first | omega | (simp only [zl_m1000001]; first | done | omega) | decide | assumption | rfl) (by first | omega | (simp only [zl_m1000001]; first | done | omega) | decide | assumption | rfl)) (cwV 1 hT (gV_in mw_1243 mw_1240 mw_1242 mw_p3_8 mw_12) rfl rfl rfl (by decide +kernel) ⟨Nat.le_of_ble_eq_true rfl, Nat.le_of_ble_eq_true rfl⟩) (kRecvX (q0 := 0) (ci := 11) hK hP hD hN hXS hS hA rfl rfl [0, 2] rfl (by decide +kernel)) rfl rfl hl.1 rfl (lv_room (Nat.le_of_ble_eq_true rfl)) dX11_days_28 ⟨Nat.le_of_ble_eq_true rfl, Nat.le_of_ble_eq_true rfl⟩) hP hD hS hA [0, 2] [1] rfl rfl (by decide +kernel) (by decide +kernel) ?_
      clear hP hD hS
      intro r_26 sc4_28 H locs w_27 hP hD hS
      replace hP : va_P D vwCl [(k0, .inl (cI, 1201, .inl c0)), (k, .inr (11, [.ref k0, .ref k1, .ref k2, .int c3, .ref k4, .ref k5, .ref k6, .ref k7, .ref k8, .int c9, .ref ka, .ref kb, .int cc, .int cd, .int ce, .int cf, .int cg, .int ch, .int ci, .int cj, .int ck, .ref kl, .int cm, .int cn, .ref ko])), (k4, .inl (cI, 6, .inl sc4_28))] H := hP
      replace hD : va_D A [(k0, .inl (cI, 1201, .inl c0)), (k, .inr (11, [.ref k0, .ref k1, .ref k2, .int c3, .ref k4, .ref k5, .ref k6, .ref k7, .ref k8, .int c9, .ref ka, .ref kb, .int cc, .int cd, .int ce, .int cf, .int cg, .int ch, .int ci, .int cj, .int ck, .ref kl, .int cm, .int cn, .ref ko])), (k4, .inl (cI, 6, .inl sc4_28))] := hD
      have hr_26 := w_27
      obtain rfl : r_26 = (-1000001) := hr_26.trans (by decide +kernel)
      exact hRet (c0, sc4_28) [1, 0, 2] ⟨pre0, (by (try dsimp only); rw [zl_m1000001]; unfold daysR; (repeat (first | rw [if_pos (by omega)] | rw [if_neg (by omega)])); first | done | exact (by omega)), (by (try dsimp only); unfold dysS; (repeat (first | rw [if_pos (by omega)] | rw [if_neg (by omega)])))⟩ hP hD (by decide +kernel) rfl hS rfl dX11_days_31
  · try simp only [zl_1, zl_200] at h_9
    have h_9 : a0.toInt < 1 ∨ 200 < a0.toInt := h_9
    obtain rfl : r_4 = 0 := hr_4.trans (by decide +kernel)
    refine b_if_eq hx hb zl_0 (tgt := 25) dX11_days_8 (by decide +kernel) (fun c_29 => ?_) (fun c_29 => by exfalso; omega)
    refine lv_aload_n hx hb dX11_days_25 rfl (lv_at hl 0 rfl) ?_
    refine lv_ldc (v := (-1000001)) hx hb hown (hT _ mw_1239) dX11_days_26 ?_
    refine kJi (wr := [(k0, .inl (cI, 1201, .inl c0))]) (va_runV (As := [.int (-1000001)]) (rest := []) ⟨hx, hb, hml, hown, hT⟩ (c_X11_findingG l D cI aK aV k k0 k1 k2 k4 k5 k6 k7 k8 ka kb kl ko H.size c3 c9 cc cd ce cf cg ch ci cj ck cm cn c4 (-1000001) (by first | omega | (simp only [zl_m1000001]; first | done | omega) | decide | assumption | rfl) (by first | omega | (simp only [zl_m1000001]; first | done | omega) | decide | assumption | rfl)) (cwV 1 hT (gV_in mw_1243 mw_1240 mw_1242 mw_p3_8 mw_12) rfl rfl rfl (by decide +kernel) ⟨Nat.le_of_ble_eq_true rfl, Nat.le_of_ble_eq_true rfl⟩) (kRecvX (q0 := 0) (ci := 11) hK hP hD hN hXS hS hA rfl rfl [0, 2] rfl (by decide +kernel)) rfl rfl hl.1 rfl (lv_room (Nat.le_of_ble_eq_true rfl)) dX11_days_28 ⟨Nat.le_of_ble_eq_true rfl, Nat.le_of_ble_eq_true rfl⟩) hP hD hS hA [0, 2] [1] rfl rfl (by decide +kernel) (by decide +kernel) ?_
    clear hP hD hS
    intro r_30 sc4_32 H locs w_31 hP hD hS
    replace hP : va_P D vwCl [(k0, .inl (cI, 1201, .inl c0)), (k, .inr (11, [.ref k0, .ref k1, .ref k2, .int c3, .ref k4, .ref k5, .ref k6, .ref k7, .ref k8, .int c9, .ref ka, .ref kb, .int cc, .int cd, .int ce, .int cf, .int cg, .int ch, .int ci, .int cj, .int ck, .ref kl, .int cm, .int cn, .ref ko])), (k4, .inl (cI, 6, .inl sc4_32))] H := hP
    replace hD : va_D A [(k0, .inl (cI, 1201, .inl c0)), (k, .inr (11, [.ref k0, .ref k1, .ref k2, .int c3, .ref k4, .ref k5, .ref k6, .ref k7, .ref k8, .int c9, .ref ka, .ref kb, .int cc, .int cd, .int ce, .int cf, .int cg, .int ch, .int ci, .int cj, .int ck, .ref kl, .int cm, .int cn, .ref ko])), (k4, .inl (cI, 6, .inl sc4_32))] := hD
    have hr_30 := w_31
    obtain rfl : r_30 = (-1000001) := hr_30.trans (by decide +kernel)
    exact hRet (c0, sc4_32) [1, 0, 2] ⟨pre0, (by (try dsimp only); rw [zl_m1000001]; unfold daysR; (repeat (first | rw [if_pos (by omega)] | rw [if_neg (by omega)])); first | done | exact (by omega)), (by (try dsimp only); unfold dysS; (repeat (first | rw [if_pos (by omega)] | rw [if_neg (by omega)])))⟩ hP hD (by decide +kernel) rfl hS rfl dX11_days_31
theorem bn_cX11_copy_0 : BN cX11_copy 0 0x164f1802a00403429405e1d15874581000a8d6405090747c04 := by
  unfold BN; decide +kernel
theorem dX11_copy_0 : decode cX11_copy 0 = .ok (.iconst 0, 1) := dR0 (k := 0) (i := 0) bn_cX11_copy_0 dop_3 (by decide +kernel)
theorem dX11_copy_1 : decode cX11_copy 1 = .ok (.istore_n 2, 1) := dR0 (k := 0) (i := 1) bn_cX11_copy_0 dop_61 (by decide +kernel)
theorem dX11_copy_2 : decode cX11_copy 2 = .ok (.iload_n 2, 1) := dR0 (k := 0) (i := 2) bn_cX11_copy_0 dop_28 (by decide +kernel)
theorem dX11_copy_3 : decode cX11_copy 3 = .ok (.sipush 1201, 3) := dR2s (f := Instr.sipush) (k := 0) (i := 3) bn_cX11_copy_0 dop_17 1201 1201 (by decide +kernel)
theorem dX11_copy_6 : decode cX11_copy 6 = .ok (.if_icmp .ge 15, 3) := dR2s (f := Instr.if_icmp .ge) (k := 0) (i := 6) bn_cX11_copy_0 dop_162 15 15 (by decide +kernel)
theorem dX11_copy_9 : decode cX11_copy 9 = .ok (.aload_n 1, 1) := dR0 (k := 0) (i := 9) bn_cX11_copy_0 dop_43 (by decide +kernel)
theorem dX11_copy_10 : decode cX11_copy 10 = .ok (.iload_n 2, 1) := dR0 (k := 0) (i := 10) bn_cX11_copy_0 dop_28 (by decide +kernel)
theorem dX11_copy_11 : decode cX11_copy 11 = .ok (.aload_n 0, 1) := dR0 (k := 0) (i := 11) bn_cX11_copy_0 dop_42 (by decide +kernel)
theorem dX11_copy_12 : decode cX11_copy 12 = .ok (.iload_n 2, 1) := dR0 (k := 0) (i := 12) bn_cX11_copy_0 dop_28 (by decide +kernel)
theorem dX11_copy_13 : decode cX11_copy 13 = .ok (.iaload, 1) := dR0 (k := 0) (i := 13) bn_cX11_copy_0 dop_46 (by decide +kernel)
theorem dX11_copy_14 : decode cX11_copy 14 = .ok (.iastore, 1) := dR0 (k := 0) (i := 14) bn_cX11_copy_0 dop_79 (by decide +kernel)
theorem dX11_copy_15 : decode cX11_copy 15 = .ok (.iinc 2 1, 3) := dRii (f := Instr.iinc) (k := 0) (i := 15) bn_cX11_copy_0 dop_132 2 1 1 (by decide +kernel)
theorem dX11_copy_18 : decode cX11_copy 18 = .ok (.goto (-16), 3) := dR2s (f := Instr.goto) (k := 0) (i := 18) bn_cX11_copy_0 dop_167 65520 (-16) (by decide +kernel)
theorem dX11_copy_21 : decode cX11_copy 21 = .ok (.return_, 1) := dR0 (k := 0) (i := 21) bn_cX11_copy_0 dop_177 (by decide +kernel)
set_option maxHeartbeats 4000000 in
set_option maxRecDepth 100000 in
theorem c_X11_copyG (l : Launch) (D : va_G) (cI : ClassId) (aK aV : Nat → Nat) (o y : Nat) (sz : Nat) (d : Nat → Int32) (er : Nat → Int32) : Met l yX11_copy (gW yX11_copy cX11_copy 3 none) ({ frames := 0, cells := 0, slots := 0, locals := 0 } : Room) (kPreX D cI aK aV [.ref o, .ref y] [(o, .inl (cI, 1201, .inl d)), (y, .inl (cI, 1201, .inl er))] sz) (va_Qv (fun (u : (Nat → Int32)) => u = d) (fun u t => kWd D cI (va_A [(o, .inl (cI, 1201, .inl d)), (y, .inl (cI, 1201, .inl er))] sz) [(o, .inl (cI, 1201, .inl d)), (y, .inl (cI, 1201, .inl u))] t) (va_A [(o, .inl (cI, 1201, .inl d)), (y, .inl (cI, 1201, .inl er))] sz)) 0 0 (va_A [(o, .inl (cI, 1201, .inl d)), (y, .inl (cI, 1201, .inl er))] sz) := by
  refine kMetVX (own := RX11) (by decide +kernel) rfl (Nat.le_of_ble_eq_true rfl) ?_
  intro p e s m args below meth c hx hb hT hown hname hml A Q hK hP hD hS hA hN hXS hRet ls hl
  have hl : lv_has ls 3 [(0, .ref o), (1, .ref y)] := hl
  refine lv_iconst (v := 0) hx hb dX11_copy_0 (by decide +kernel) ?_
  refine lv_istore_n (lv' := [(2, .int 0), (0, .ref o), (1, .ref y)]) hx hb dX11_copy_1 rfl hl (by decide +kernel) rfl ?_
  clear hl
  intro ls hl
  have hloop_2 : ∀ (fu_ : Nat) (l2_2 : Int32) (g2_y : Nat → Int32), 0 ≤ l2_2.toInt → l2_2.toInt ≤ 1201 → (∀ j : Nat, j < l2_2.toInt.toNat → g2_y j = d j) → (1201 - l2_2.toInt).toNat < fu_ → ∀ (ls : Array Slot) (H : Heap) (locs : List Loc), lv_has ls 3 [(2, .int l2_2), (0, .ref o), (1, .ref y)] → va_P D vwCl [(o, .inl (cI, 1201, .inl d)), (y, .inl (cI, 1201, .inl g2_y))] H → va_D A [(o, .inl (cI, 1201, .inl d)), (y, .inl (cI, 1201, .inl g2_y))] → va_S A s.heap H locs → W p l e ({ frames := 0, cells := 0, slots := 0, locals := 0 } : Room) s m args below meth c H locs 0 0 Q (F0 m 2 ls []) := by
    intro fu_; induction fu_ with
    | zero => intro l2_2 g2_y i2_0 i2_1 i2_2 hm; exact absurd hm (by omega)
    | succ fu_ ih2 =>
        intro l2_2 g2_y i2_0 i2_1 i2_2 hm ls H locs hl hP hD hS
        have lo_l2_2 := k_lo l2_2
        have hi_l2_2 := k_hi l2_2
        refine lv_iload_n hx hb dX11_copy_2 rfl (lv_at hl 0 rfl) ?_
        refine lv_sipush (v := 1201) hx hb dX11_copy_3 (by decide +kernel) ?_
        refine b_icmp_ge hx hb rfl zl_1201 (tgt := 21) dX11_copy_6 (by decide +kernel) (fun c_1 => ?_) (fun c_1 => ?_)
        · have hPv := k_conv (q := 1) (g := d) hP rfl (fun j hj => i2_2 j (by omega))
          have hDv := k_convD (q := 1) (y := .inl (cI, 1201, .inl d)) hD rfl
          have hP : va_P D vwCl [(o, .inl (cI, 1201, .inl d)), (y, .inl (cI, 1201, .inl d))] H := hPv
          have hD : va_D A [(o, .inl (cI, 1201, .inl d)), (y, .inl (cI, 1201, .inl d))] := hDv
          exact hRet d [0, 1] rfl hP hD (by decide +kernel) rfl hS dX11_copy_21
        · refine lv_aload_n hx hb dX11_copy_9 rfl (lv_at hl 2 rfl) ?_
          refine lv_iload_n hx hb dX11_copy_10 rfl (lv_at hl 0 rfl) ?_
          refine lv_aload_n hx hb dX11_copy_11 rfl (lv_at hl 1 rfl) ?_
          refine lv_iload_n hx hb dX11_copy_12 rfl (lv_at hl 0 rfl) ?_
          refine k_iald (v := (d l2_2.toNatClampNeg)) hx hb hK hP 0 0 rfl rfl (k_in (by omega) (by omega)) rfl dX11_copy_13 ?_
          refine lv_topi (fun v_2 ev_2 => ?_)
          have lo_v_2 := k_lo v_2
          have hi_v_2 := k_hi v_2
          have tv_2 : v_2.toInt = (d l2_2.toNatClampNeg).toInt := by rw [ev_2]
          refine va_iast hx hb hK hP hD hS 1 0 rfl rfl (k_in (by omega) (by omega)) dX11_copy_14 ?_
          clear hP hD hS
          intro H locs hP hD hS
          replace hP : va_P D vwCl [(o, .inl (cI, 1201, .inl d)), (y, .inl (cI, 1201, .inl (upd g2_y l2_2.toNatClampNeg v_2)))] H := hP
          replace hD : va_D A [(o, .inl (cI, 1201, .inl d)), (y, .inl (cI, 1201, .inl (upd g2_y l2_2.toNatClampNeg v_2)))] := hD
          obtain ⟨f_3, ef_3⟩ : ∃ g : Nat → Int32, g = upd g2_y l2_2.toNatClampNeg v_2 := ⟨_, rfl⟩
          rw [← ef_3] at hP hD
          obtain ⟨v_4, ev_4⟩ : ∃ y : Int32, y = l2_2 + 1 := ⟨_, rfl⟩
          have tv_4 : v_4.toInt = l2_2.toInt + 1 := by rw [ev_4]; exact k_addv rfl zl_1 (by omega) (by omega)
          refine lv_iinc (v := v_4) (lv' := [(2, .int v_4), (0, .ref o), (1, .ref y)]) hx hb dX11_copy_15 hl (k := 0) rfl (by rw [ev_4]; rfl) (by decide +kernel) rfl ?_
          clear hl
          intro ls hl
          refine lv_goto (tgt := 2) hx hb dX11_copy_18 (by decide +kernel) ?_
          exact ih2 v_4 f_3 (by first | omega | decide | assumption | rfl) (by first | omega | decide | assumption | rfl) (by rw [ef_3]; exact k_fillc i2_2 (by omega) (by omega) ev_2) (by omega) ls _ _ (lv_sub hl [0, 1, 2] rfl) (hP.sub [0, 1] rfl) (hD.sub [0, 1] (by decide +kernel) rfl) hS
  exact hloop_2 _ 0 er (by first | omega | (simp only [zl_0]; first | done | omega) | decide | assumption | rfl) (by first | omega | (simp only [zl_0]; first | done | omega) | decide | assumption | rfl) (fun j hj => by rw [zl_0] at hj; omega) (Nat.lt_succ_self _) ls _ _ (lv_sub hl [0, 1, 2] rfl) hP hD hS
theorem bn_cX11_image_0 : BN cX11_image 0 0x15a18012d45618012d8c2050c0096a5a1580804b9070056a2b050056a2b := by
  unfold BN; decide +kernel
theorem dX11_image_0 : decode cX11_image 0 = .ok (.aload_n 0, 1) := dR0 (k := 0) (i := 0) bn_cX11_image_0 dop_42 (by decide +kernel)
theorem dX11_image_1 : decode cX11_image 1 = .ok (.getfield 9, 3) := dR2 (f := Instr.getfield) (k := 0) (i := 1) bn_cX11_image_0 dop_180 9 (by decide +kernel)
theorem dX11_image_4 : decode cX11_image 4 = .ok (.aload_n 0, 1) := dR0 (k := 0) (i := 4) bn_cX11_image_0 dop_42 (by decide +kernel)
theorem dX11_image_5 : decode cX11_image 5 = .ok (.getfield 13, 3) := dR2 (f := Instr.getfield) (k := 0) (i := 5) bn_cX11_image_0 dop_180 13 (by decide +kernel)
theorem dX11_image_8 : decode cX11_image 8 = .ok (.invokestatic 257, 3) := dR2 (f := Instr.invokestatic) (k := 0) (i := 8) bn_cX11_image_0 dop_184 257 (by decide +kernel)
theorem dX11_image_11 : decode cX11_image 11 = .ok (.aload_n 0, 1) := dR0 (k := 0) (i := 11) bn_cX11_image_0 dop_42 (by decide +kernel)
theorem dX11_image_12 : decode cX11_image 12 = .ok (.dup, 1) := dR0 (k := 0) (i := 12) bn_cX11_image_0 dop_89 (by decide +kernel)
theorem dX11_image_13 : decode cX11_image 13 = .ok (.getfield 279, 3) := dR2 (f := Instr.getfield) (k := 0) (i := 13) bn_cX11_image_0 dop_180 279 (by decide +kernel)
theorem dX11_image_16 : decode cX11_image 16 = .ok (.iconst 1, 1) := dR0 (k := 0) (i := 16) bn_cX11_image_0 dop_4 (by decide +kernel)
theorem dX11_image_17 : decode cX11_image 17 = .ok (.iadd, 1) := dR0 (k := 0) (i := 17) bn_cX11_image_0 dop_96 (by decide +kernel)
theorem dX11_image_18 : decode cX11_image 18 = .ok (.putfield 279, 3) := dR2 (f := Instr.putfield) (k := 0) (i := 18) bn_cX11_image_0 dop_181 279 (by decide +kernel)
theorem dX11_image_21 : decode cX11_image 21 = .ok (.aload_n 0, 1) := dR0 (k := 0) (i := 21) bn_cX11_image_0 dop_42 (by decide +kernel)
theorem dX11_image_22 : decode cX11_image 22 = .ok (.getfield 279, 3) := dR2 (f := Instr.getfield) (k := 0) (i := 22) bn_cX11_image_0 dop_180 279 (by decide +kernel)
theorem dX11_image_25 : decode cX11_image 25 = .ok (.ireturn, 1) := dR0 (k := 0) (i := 25) bn_cX11_image_0 dop_172 (by decide +kernel)
set_option maxHeartbeats 4000000 in
set_option maxRecDepth 100000 in
theorem c_X11_imageG (l : Launch) (D : va_G) (cI : ClassId) (aK aV : Nat → Nat) (k k0 k1 k2 k4 k5 k6 k7 k8 ka kb kl ko : Nat) (sz : Nat) (c3 : Int32) (c9 : Int32) (cc : Int32) (cd : Int32) (ce : Int32) (cf : Int32) (cg : Int32) (ch : Int32) (ci : Int32) (cj : Int32) (ck : Int32) (cm : Int32) (cn : Int32) (c0 : Nat → Int32) (c1 : Nat → Int32) (pre0 : SIX c0 (-1)) : Met l yX11_image (gW yX11_image cX11_image 1 (some .int)) ({ frames := 1, cells := 0, slots := 0, locals := 22 } : Room) (kPreX D cI aK aV [.ref k] [(k, .inr (11, [.ref k0, .ref k1, .ref k2, .int c3, .ref k4, .ref k5, .ref k6, .ref k7, .ref k8, .int c9, .ref ka, .ref kb, .int cc, .int cd, .int ce, .int cf, .int cg, .int ch, .int ci, .int cj, .int ck, .ref kl, .int cm, .int cn, .ref ko])), (k0, .inl (cI, 1201, .inl c0)), (k1, .inl (cI, 1201, .inl c1))] sz) (va_Qi (fun (r : Int32) (u : Int32 × (Nat → Int32)) => SIX u.2 (-1) ∧ r = c3 + 1 ∧ u.1 = c3 + 1 ∧ u.2 = c0) (fun u t => kWd D cI (va_A [(k, .inr (11, [.ref k0, .ref k1, .ref k2, .int c3, .ref k4, .ref k5, .ref k6, .ref k7, .ref k8, .int c9, .ref ka, .ref kb, .int cc, .int cd, .int ce, .int cf, .int cg, .int ch, .int ci, .int cj, .int ck, .ref kl, .int cm, .int cn, .ref ko])), (k0, .inl (cI, 1201, .inl c0)), (k1, .inl (cI, 1201, .inl c1))] sz) [(k, .inr (11, [.ref k0, .ref k1, .ref k2, .int u.1, .ref k4, .ref k5, .ref k6, .ref k7, .ref k8, .int c9, .ref ka, .ref kb, .int cc, .int cd, .int ce, .int cf, .int cg, .int ch, .int ci, .int cj, .int ck, .ref kl, .int cm, .int cn, .ref ko])), (k0, .inl (cI, 1201, .inl c0)), (k1, .inl (cI, 1201, .inl u.2))] t) (va_A [(k, .inr (11, [.ref k0, .ref k1, .ref k2, .int c3, .ref k4, .ref k5, .ref k6, .ref k7, .ref k8, .int c9, .ref ka, .ref kb, .int cc, .int cd, .int ce, .int cf, .int cg, .int ch, .int ci, .int cj, .int ck, .ref kl, .int cm, .int cn, .ref ko])), (k0, .inl (cI, 1201, .inl c0)), (k1, .inl (cI, 1201, .inl c1))] sz)) 0 0 (va_A [(k, .inr (11, [.ref k0, .ref k1, .ref k2, .int c3, .ref k4, .ref k5, .ref k6, .ref k7, .ref k8, .int c9, .ref ka, .ref kb, .int cc, .int cd, .int ce, .int cf, .int cg, .int ch, .int ci, .int cj, .int ck, .ref kl, .int cm, .int cn, .ref ko])), (k0, .inl (cI, 1201, .inl c0)), (k1, .inl (cI, 1201, .inl c1))] sz) := by
  refine kMetIX (own := RX11) (by decide +kernel) rfl (Nat.le_of_ble_eq_true rfl) ?_
  intro p e s m args below meth c hx hb hT hown hname hml A Q hK hP hD hS hA hN hXS hRet ls hl
  have hl : lv_has ls 1 [(0, .ref k)] := hl
  have lo_c3 := k_lo c3
  have hi_c3 := k_hi c3
  have lo_ci := k_lo ci
  have hi_ci := k_hi ci
  have pre0 : SIX c0 (-1) := pre0
  have nb_1 : 0 ≤ (c0 0).toInt ∧ (c0 0).toInt ≤ 2000 := SB.n0 (And.left pre0)
  have nb_2 : 0 ≤ (c0 1).toInt ∧ (c0 1).toInt ≤ 60 := SB.n1 (And.left pre0)
  have nb_3 : 0 ≤ (c0 2).toInt ∧ (c0 2).toInt ≤ 4 := SB.n2 (And.left pre0)
  refine lv_aload_n hx hb dX11_image_0 rfl (lv_at hl 0 rfl) ?_
  refine va_get (D := D) (ci := 11) (v := .ref k0) (C := RX11) (T := TX11) (N := 25) hx hb hT giX11 hown hK hP 0 rfl rfl 0 (by decide +kernel) (hT (Cond.fieldLink RX11 9 "DesertWireModel" "s" "[I") mw_1156) (fun _ h9 => h9) rfl dX11_image_1 ?_
  refine lv_aload_n hx hb dX11_image_4 rfl (lv_at hl 0 rfl) ?_
  refine va_get (D := D) (ci := 11) (v := .ref k1) (C := RX11) (T := TX11) (N := 25) hx hb hT giX11 hown hK hP 0 rfl rfl 1 (by decide +kernel) (hT (Cond.fieldLink RX11 13 "DesertWireModel" "kept" "[I") mw_1157) (fun _ h9 => h9) rfl dX11_image_5 ?_
  refine kJv (wr := [(k, .inr (11, [.ref k0, .ref k1, .ref k2, .int c3, .ref k4, .ref k5, .ref k6, .ref k7, .ref k8, .int c9, .ref ka, .ref kb, .int cc, .int cd, .int ce, .int cf, .int cg, .int ch, .int ci, .int cj, .int ck, .ref kl, .int cm, .int cn, .ref ko]))]) (va_runS (As := [.ref k0, .ref k1]) (rest := []) ⟨hx, hb, hml, hown, hT⟩ (c_X11_copyG l D cI aK aV k0 k1 s.heap.size c0 c1) (cwS 2 hT (gS_in mw_1558 mw_1556 mw_1557 mw_12) rfl rfl rfl (by decide +kernel) ⟨Nat.le_of_ble_eq_true rfl, Nat.le_of_ble_eq_true rfl⟩) (kStatX hK hP hD hN hXS hS hA [1, 2] rfl (by decide +kernel)) rfl rfl hl.1 rfl (lv_room (Nat.le_of_ble_eq_true rfl)) dX11_image_8 ⟨Nat.le_of_ble_eq_true rfl, Nat.le_of_ble_eq_true rfl⟩) hP hD hS hA [1, 2] [0] rfl rfl (by decide +kernel) (by decide +kernel) ?_
  clear hP hD hS
  intro ser_6 H locs w_5 hP hD hS
  replace hP : va_P D vwCl [(k, .inr (11, [.ref k0, .ref k1, .ref k2, .int c3, .ref k4, .ref k5, .ref k6, .ref k7, .ref k8, .int c9, .ref ka, .ref kb, .int cc, .int cd, .int ce, .int cf, .int cg, .int ch, .int ci, .int cj, .int ck, .ref kl, .int cm, .int cn, .ref ko])), (k0, .inl (cI, 1201, .inl c0)), (k1, .inl (cI, 1201, .inl ser_6))] H := hP
  replace hD : va_D A [(k, .inr (11, [.ref k0, .ref k1, .ref k2, .int c3, .ref k4, .ref k5, .ref k6, .ref k7, .ref k8, .int c9, .ref ka, .ref kb, .int cc, .int cd, .int ce, .int cf, .int cg, .int ch, .int ci, .int cj, .int ck, .ref kl, .int cm, .int cn, .ref ko])), (k0, .inl (cI, 1201, .inl c0)), (k1, .inl (cI, 1201, .inl ser_6))] := hD
  have h_7 := w_5
  have h_7 : ser_6 = c0 := h_7
  have hS_8 : SIX ser_6 (-1) := by rw [h_7]; exact pre0
  have n_9 : (ser_6 0).toInt = (c0 0).toInt := by rw [h_7]
  have n_10 : (ser_6 1).toInt = (c0 1).toInt := by rw [h_7]
  have n_11 : (ser_6 2).toInt = (c0 2).toInt := by rw [h_7]
  refine lv_aload_n hx hb dX11_image_11 rfl (lv_at hl 0 rfl) ?_
  refine lv_dup hx hb dX11_image_12 rfl ?_
  refine va_get (D := D) (ci := 11) (v := .int c3) (C := RX11) (T := TX11) (N := 25) hx hb hT giX11 hown hK hP 0 rfl rfl 3 (by decide +kernel) (hT (Cond.fieldLink RX11 279 "DesertWireModel" "images" "I") mw_1159) (fun _ h9 => h9) rfl dX11_image_13 ?_
  refine lv_iconst (v := 1) hx hb dX11_image_16 (by decide +kernel) ?_
  refine lv_iadd hx hb dX11_image_17 ?_
  refine lv_topi (fun v_12 ev_12 => ?_)
  have lo_v_12 := k_lo v_12
  have hi_v_12 := k_hi v_12
  refine va_put (D := D) (ci := 11) (v := .int v_12) (ty := .int) (C := RX11) (T := TX11) (N := 25) hx hb hT giX11 tyX11 tyX11_ok nmX11 hown hK hP hD hS 0 rfl rfl 3 (by decide +kernel) (hT (Cond.fieldLink RX11 279 "DesertWireModel" "images" "I") mw_1159) (fun _ h9 => h9) rfl (by decide +kernel) rfl rfl (Nat.le_of_ble_eq_true rfl) dX11_image_18 ?_
  clear hP hD hS
  intro H locs hP hD hS
  replace hP : va_P D vwCl [(k, .inr (11, [.ref k0, .ref k1, .ref k2, .int v_12, .ref k4, .ref k5, .ref k6, .ref k7, .ref k8, .int c9, .ref ka, .ref kb, .int cc, .int cd, .int ce, .int cf, .int cg, .int ch, .int ci, .int cj, .int ck, .ref kl, .int cm, .int cn, .ref ko])), (k0, .inl (cI, 1201, .inl c0)), (k1, .inl (cI, 1201, .inl ser_6))] H := hP
  replace hD : va_D A [(k, .inr (11, [.ref k0, .ref k1, .ref k2, .int v_12, .ref k4, .ref k5, .ref k6, .ref k7, .ref k8, .int c9, .ref ka, .ref kb, .int cc, .int cd, .int ce, .int cf, .int cg, .int ch, .int ci, .int cj, .int ck, .ref kl, .int cm, .int cn, .ref ko])), (k0, .inl (cI, 1201, .inl c0)), (k1, .inl (cI, 1201, .inl ser_6))] := hD
  refine lv_aload_n hx hb dX11_image_21 rfl (lv_at hl 0 rfl) ?_
  refine va_get (D := D) (ci := 11) (v := .int v_12) (C := RX11) (T := TX11) (N := 25) hx hb hT giX11 hown hK hP 0 rfl rfl 3 (by decide +kernel) (hT (Cond.fieldLink RX11 279 "DesertWireModel" "images" "I") mw_1159) (fun _ h9 => h9) rfl dX11_image_22 ?_
  exact hRet (v_12, ser_6) [0, 1, 2] ⟨hS_8, ev_12, ev_12, h_7⟩ hP hD (by decide +kernel) rfl hS rfl dX11_image_25
