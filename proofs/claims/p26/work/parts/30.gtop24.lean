theorem bn_cX10_ahead_0 : BN cX10_ahead 0 0x688056e1d0f30802b50a0056a2b09805460a088755a55012dcc8015a85002b51583c02a1050443af1802a004054293c04b70a0056a2b08805461c028580a370214804b7068056a2b0a0056a2b5694c02b7028ac14014db4002b70f30802b5068056a2b0c005460a088755a5300adc0a2b050054a0b0887414014e0741c0152344101230870dc015a83402b51587402a464804241c12005381c := by
  unfold BN; decide +kernel
theorem dX10_ahead_0 : decode cX10_ahead 0 = .ok (.iload_n 1, 1) := dR0 (k := 0) (i := 0) bn_cX10_ahead_0 dop_27 (by decide +kernel)
theorem dX10_ahead_1 : decode cX10_ahead 1 = .ok (.ifCond .lt 35, 3) := dR2s (f := Instr.ifCond .lt) (k := 0) (i := 1) bn_cX10_ahead_0 dop_155 35 35 (by decide +kernel)
theorem dX10_ahead_4 : decode cX10_ahead 4 = .ok (.iload_n 1, 1) := dR0 (k := 0) (i := 4) bn_cX10_ahead_0 dop_27 (by decide +kernel)
theorem dX10_ahead_5 : decode cX10_ahead 5 = .ok (.sipush 200, 3) := dR2s (f := Instr.sipush) (k := 0) (i := 5) bn_cX10_ahead_0 dop_17 200 200 (by decide +kernel)
theorem dX10_ahead_8 : decode cX10_ahead 8 = .ok (.if_icmp .gt 28, 3) := dR2s (f := Instr.if_icmp .gt) (k := 0) (i := 8) bn_cX10_ahead_0 dop_163 28 28 (by decide +kernel)
theorem dX10_ahead_11 : decode cX10_ahead 11 = .ok (.aload_n 0, 1) := dR0 (k := 0) (i := 11) bn_cX10_ahead_0 dop_42 (by decide +kernel)
theorem dX10_ahead_12 : decode cX10_ahead 12 = .ok (.getfield 12, 3) := dR2 (f := Instr.getfield) (k := 0) (i := 12) bn_cX10_ahead_0 dop_180 12 (by decide +kernel)
theorem dX10_ahead_15 : decode cX10_ahead 15 = .ok (.getfield 109, 3) := dR2 (f := Instr.getfield) (k := 0) (i := 15) bn_cX10_ahead_0 dop_180 109 (by decide +kernel)
theorem dX10_ahead_18 : decode cX10_ahead 18 = .ok (.iload_n 1, 1) := dR0 (k := 0) (i := 18) bn_cX10_ahead_0 dop_27 (by decide +kernel)
theorem dX10_ahead_19 : decode cX10_ahead 19 = .ok (.iadd, 1) := dR0 (k := 0) (i := 19) bn_cX10_ahead_0 dop_96 (by decide +kernel)
theorem dX10_ahead_20 : decode cX10_ahead 20 = .ok (.sipush 2000, 3) := dR2s (f := Instr.sipush) (k := 0) (i := 20) bn_cX10_ahead_0 dop_17 2000 2000 (by decide +kernel)
theorem dX10_ahead_23 : decode cX10_ahead 23 = .ok (.if_icmp .gt 13, 3) := dR2s (f := Instr.if_icmp .gt) (k := 0) (i := 23) bn_cX10_ahead_0 dop_163 13 13 (by decide +kernel)
theorem dX10_ahead_26 : decode cX10_ahead 26 = .ok (.iload_n 2, 1) := dR0 (k := 0) (i := 26) bn_cX10_ahead_0 dop_28 (by decide +kernel)
theorem dX10_ahead_27 : decode cX10_ahead 27 = .ok (.ifCond .lt 9, 3) := dR2s (f := Instr.ifCond .lt) (k := 0) (i := 27) bn_cX10_ahead_0 dop_155 9 9 (by decide +kernel)
theorem dX10_ahead_30 : decode cX10_ahead 30 = .ok (.iload_n 2, 1) := dR0 (k := 0) (i := 30) bn_cX10_ahead_0 dop_28 (by decide +kernel)
theorem dX10_ahead_31 : decode cX10_ahead 31 = .ok (.bipush 10, 2) := dR1s (f := Instr.bipush) (k := 0) (i := 31) bn_cX10_ahead_0 dop_16 10 10 (by decide +kernel)
theorem dX10_ahead_33 : decode cX10_ahead 33 = .ok (.if_icmp .le 9, 3) := dR2s (f := Instr.if_icmp .le) (k := 0) (i := 33) bn_cX10_ahead_0 dop_164 9 9 (by decide +kernel)
theorem dX10_ahead_36 : decode cX10_ahead 36 = .ok (.aload_n 0, 1) := dR0 (k := 0) (i := 36) bn_cX10_ahead_0 dop_42 (by decide +kernel)
theorem dX10_ahead_37 : decode cX10_ahead 37 = .ok (.iconst 1, 1) := dR0 (k := 0) (i := 37) bn_cX10_ahead_0 dop_4 (by decide +kernel)
theorem dX10_ahead_38 : decode cX10_ahead 38 = .ok (.invokevirtual 82, 3) := dR2 (f := Instr.invokevirtual) (k := 0) (i := 38) bn_cX10_ahead_0 dop_182 82 (by decide +kernel)
theorem dX10_ahead_41 : decode cX10_ahead 41 = .ok (.ireturn, 1) := dR0 (k := 0) (i := 41) bn_cX10_ahead_0 dop_172 (by decide +kernel)
theorem dX10_ahead_42 : decode cX10_ahead 42 = .ok (.iload_n 2, 1) := dR0 (k := 0) (i := 42) bn_cX10_ahead_0 dop_28 (by decide +kernel)
theorem dX10_ahead_43 : decode cX10_ahead 43 = .ok (.bipush 9, 2) := dR1s (f := Instr.bipush) (k := 0) (i := 43) bn_cX10_ahead_0 dop_16 9 9 (by decide +kernel)
theorem dX10_ahead_45 : decode cX10_ahead 45 = .ok (.if_icmp .ge 23, 3) := dR2s (f := Instr.if_icmp .ge) (k := 0) (i := 45) bn_cX10_ahead_0 dop_162 23 23 (by decide +kernel)
theorem dX10_ahead_48 : decode cX10_ahead 48 = .ok (.aload_n 0, 1) := dR0 (k := 0) (i := 48) bn_cX10_ahead_0 dop_42 (by decide +kernel)
theorem dX10_ahead_49 : decode cX10_ahead 49 = .ok (.getfield 12, 3) := dR2 (f := Instr.getfield) (k := 0) (i := 49) bn_cX10_ahead_0 dop_180 12 (by decide +kernel)
theorem dX10_ahead_52 : decode cX10_ahead 52 = .ok (.getfield 193, 3) := dR2 (f := Instr.getfield) (k := 0) (i := 52) bn_cX10_ahead_0 dop_180 193 (by decide +kernel)
theorem dX10_ahead_55 : decode cX10_ahead 55 = .ok (.iload_n 3, 1) := dR0 (k := 0) (i := 55) bn_cX10_ahead_0 dop_29 (by decide +kernel)
theorem dX10_ahead_56 : decode cX10_ahead 56 = .ok (.invokevirtual 207, 3) := dR2 (f := Instr.invokevirtual) (k := 0) (i := 56) bn_cX10_ahead_0 dop_182 207 (by decide +kernel)
theorem dX10_ahead_59 : decode cX10_ahead 59 = .ok (.ifCond .ne 9, 3) := dR2s (f := Instr.ifCond .ne) (k := 0) (i := 59) bn_cX10_ahead_0 dop_154 9 9 (by decide +kernel)
theorem dX10_ahead_62 : decode cX10_ahead 62 = .ok (.aload_n 0, 1) := dR0 (k := 0) (i := 62) bn_cX10_ahead_0 dop_42 (by decide +kernel)
theorem dX10_ahead_63 : decode cX10_ahead 63 = .ok (.iconst 1, 1) := dR0 (k := 0) (i := 63) bn_cX10_ahead_0 dop_4 (by decide +kernel)
theorem dX10_ahead_64 : decode cX10_ahead 64 = .ok (.invokevirtual 82, 3) := dR2 (f := Instr.invokevirtual) (k := 0) (i := 64) bn_cX10_ahead_0 dop_182 82 (by decide +kernel)
theorem dX10_ahead_67 : decode cX10_ahead 67 = .ok (.ireturn, 1) := dR0 (k := 0) (i := 67) bn_cX10_ahead_0 dop_172 (by decide +kernel)
theorem dX10_ahead_68 : decode cX10_ahead 68 = .ok (.aload_n 0, 1) := dR0 (k := 0) (i := 68) bn_cX10_ahead_0 dop_42 (by decide +kernel)
theorem dX10_ahead_69 : decode cX10_ahead 69 = .ok (.getfield 19, 3) := dR2 (f := Instr.getfield) (k := 0) (i := 69) bn_cX10_ahead_0 dop_180 19 (by decide +kernel)
theorem dX10_ahead_72 : decode cX10_ahead 72 = .ok (.aload_n 0, 1) := dR0 (k := 0) (i := 72) bn_cX10_ahead_0 dop_42 (by decide +kernel)
theorem dX10_ahead_73 : decode cX10_ahead 73 = .ok (.getfield 12, 3) := dR2 (f := Instr.getfield) (k := 0) (i := 73) bn_cX10_ahead_0 dop_180 12 (by decide +kernel)
theorem dX10_ahead_76 : decode cX10_ahead 76 = .ok (.invokevirtual 337, 3) := dR2 (f := Instr.invokevirtual) (k := 0) (i := 76) bn_cX10_ahead_0 dop_182 337 (by decide +kernel)
theorem dX10_ahead_79 : decode cX10_ahead 79 = .ok (.iconst 0, 1) := dR0 (k := 0) (i := 79) bn_cX10_ahead_0 dop_3 (by decide +kernel)
theorem dX10_ahead_80 : decode cX10_ahead 80 = .ok (.istore 4, 2) := dR1 (f := Instr.istore) (k := 0) (i := 80) bn_cX10_ahead_0 dop_54 4 (by decide +kernel)
theorem dX10_ahead_82 : decode cX10_ahead 82 = .ok (.iload 4, 2) := dR1 (f := Instr.iload) (k := 0) (i := 82) bn_cX10_ahead_0 dop_21 4 (by decide +kernel)
theorem dX10_ahead_84 : decode cX10_ahead 84 = .ok (.iload_n 1, 1) := dR0 (k := 0) (i := 84) bn_cX10_ahead_0 dop_27 (by decide +kernel)
theorem dX10_ahead_85 : decode cX10_ahead 85 = .ok (.if_icmp .ge 16, 3) := dR2s (f := Instr.if_icmp .ge) (k := 0) (i := 85) bn_cX10_ahead_0 dop_162 16 16 (by decide +kernel)
theorem dX10_ahead_88 : decode cX10_ahead 88 = .ok (.aload_n 0, 1) := dR0 (k := 0) (i := 88) bn_cX10_ahead_0 dop_42 (by decide +kernel)
theorem dX10_ahead_89 : decode cX10_ahead 89 = .ok (.getfield 19, 3) := dR2 (f := Instr.getfield) (k := 0) (i := 89) bn_cX10_ahead_0 dop_180 19 (by decide +kernel)
theorem dX10_ahead_92 : decode cX10_ahead 92 = .ok (.invokevirtual 334, 3) := dR2 (f := Instr.invokevirtual) (k := 0) (i := 92) bn_cX10_ahead_0 dop_182 334 (by decide +kernel)
theorem dX10_ahead_95 : decode cX10_ahead 95 = .ok (.iinc 4 1, 3) := dRii (f := Instr.iinc) (k := 0) (i := 95) bn_cX10_ahead_0 dop_132 4 1 1 (by decide +kernel)
theorem dX10_ahead_98 : decode cX10_ahead 98 = .ok (.goto (-16), 3) := dR2s (f := Instr.goto) (k := 0) (i := 98) bn_cX10_ahead_0 dop_167 65520 (-16) (by decide +kernel)
theorem dX10_ahead_101 : decode cX10_ahead 101 = .ok (.iload_n 2, 1) := dR0 (k := 0) (i := 101) bn_cX10_ahead_0 dop_28 (by decide +kernel)
theorem dX10_ahead_102 : decode cX10_ahead 102 = .ok (.bipush 9, 2) := dR1s (f := Instr.bipush) (k := 0) (i := 102) bn_cX10_ahead_0 dop_16 9 9 (by decide +kernel)
theorem dX10_ahead_104 : decode cX10_ahead 104 = .ok (.if_icmp .ne 14, 3) := dR2s (f := Instr.if_icmp .ne) (k := 0) (i := 104) bn_cX10_ahead_0 dop_160 14 14 (by decide +kernel)
theorem dX10_ahead_107 : decode cX10_ahead 107 = .ok (.aload_n 0, 1) := dR0 (k := 0) (i := 107) bn_cX10_ahead_0 dop_42 (by decide +kernel)
theorem dX10_ahead_108 : decode cX10_ahead 108 = .ok (.getfield 19, 3) := dR2 (f := Instr.getfield) (k := 0) (i := 108) bn_cX10_ahead_0 dop_180 19 (by decide +kernel)
theorem dX10_ahead_111 : decode cX10_ahead 111 = .ok (.getfield 99, 3) := dR2 (f := Instr.getfield) (k := 0) (i := 111) bn_cX10_ahead_0 dop_180 99 (by decide +kernel)
theorem dX10_ahead_114 : decode cX10_ahead 114 = .ok (.invokevirtual 340, 3) := dR2 (f := Instr.invokevirtual) (k := 0) (i := 114) bn_cX10_ahead_0 dop_182 340 (by decide +kernel)
theorem dX10_ahead_117 : decode cX10_ahead 117 = .ok (.ireturn, 1) := dR0 (k := 0) (i := 117) bn_cX10_ahead_0 dop_172 (by decide +kernel)
theorem dX10_ahead_118 : decode cX10_ahead 118 = .ok (.iload_n 2, 1) := dR0 (k := 0) (i := 118) bn_cX10_ahead_0 dop_28 (by decide +kernel)
theorem dX10_ahead_119 : decode cX10_ahead 119 = .ok (.bipush 9, 2) := dR1s (f := Instr.bipush) (k := 0) (i := 119) bn_cX10_ahead_0 dop_16 9 9 (by decide +kernel)
theorem dX10_ahead_121 : decode cX10_ahead 121 = .ok (.if_icmp .ge 18, 3) := dR2s (f := Instr.if_icmp .ge) (k := 0) (i := 121) bn_cX10_ahead_0 dop_162 18 18 (by decide +kernel)
theorem dX10_ahead_124 : decode cX10_ahead 124 = .ok (.aload_n 0, 1) := dR0 (k := 0) (i := 124) bn_cX10_ahead_0 dop_42 (by decide +kernel)
theorem dX10_ahead_125 : decode cX10_ahead 125 = .ok (.getfield 19, 3) := dR2 (f := Instr.getfield) (k := 0) (i := 125) bn_cX10_ahead_0 dop_180 19 (by decide +kernel)
theorem bn_cX10_ahead_128 : BN cX10_ahead 128 0x15a58012d4c8015a85002b51583802a8688056e1d0f30802b5 := by
  unfold BN; decide +kernel
theorem dX10_ahead_128 : decode cX10_ahead 128 = .ok (.getfield 193, 3) := dR2 (f := Instr.getfield) (k := 128) (i := 0) bn_cX10_ahead_128 dop_180 193 (by decide +kernel)
theorem dX10_ahead_131 : decode cX10_ahead 131 = .ok (.iload_n 3, 1) := dR0 (k := 128) (i := 3) bn_cX10_ahead_128 dop_29 (by decide +kernel)
theorem dX10_ahead_132 : decode cX10_ahead 132 = .ok (.iload_n 2, 1) := dR0 (k := 128) (i := 4) bn_cX10_ahead_128 dop_28 (by decide +kernel)
theorem dX10_ahead_133 : decode cX10_ahead 133 = .ok (.invokevirtual 208, 3) := dR2 (f := Instr.invokevirtual) (k := 128) (i := 5) bn_cX10_ahead_128 dop_182 208 (by decide +kernel)
theorem dX10_ahead_136 : decode cX10_ahead 136 = .ok (.goto 13, 3) := dR2s (f := Instr.goto) (k := 128) (i := 8) bn_cX10_ahead_128 dop_167 13 13 (by decide +kernel)
theorem dX10_ahead_139 : decode cX10_ahead 139 = .ok (.aload_n 0, 1) := dR0 (k := 128) (i := 11) bn_cX10_ahead_128 dop_42 (by decide +kernel)
theorem dX10_ahead_140 : decode cX10_ahead 140 = .ok (.getfield 19, 3) := dR2 (f := Instr.getfield) (k := 128) (i := 12) bn_cX10_ahead_128 dop_180 19 (by decide +kernel)
theorem dX10_ahead_143 : decode cX10_ahead 143 = .ok (.getfield 99, 3) := dR2 (f := Instr.getfield) (k := 128) (i := 15) bn_cX10_ahead_128 dop_180 99 (by decide +kernel)
theorem dX10_ahead_146 : decode cX10_ahead 146 = .ok (.getfield 343, 3) := dR2 (f := Instr.getfield) (k := 128) (i := 18) bn_cX10_ahead_128 dop_180 343 (by decide +kernel)
theorem dX10_ahead_149 : decode cX10_ahead 149 = .ok (.ireturn, 1) := dR0 (k := 128) (i := 21) bn_cX10_ahead_128 dop_172 (by decide +kernel)

theorem bn_cX10_joined_0 : BN cX10_joined 0 0x15a5300adc0c2b6fc01500202a149e025b85002b515ab40a1603805345b012dc3a1c320056a1400ad4562300a903c050b0146e6e00ad41a015a8ac7efd00ae5a208091859201091b802b5068056a2b290096e0d00ad4561400ad456ad298056e051582802a50e87012014d16802b90e840029a2d005721c := by
  unfold BN; decide +kernel
theorem dX10_joined_0 : decode cX10_joined 0 = .ok (.iload_n 1, 1) := dR0 (k := 0) (i := 0) bn_cX10_joined_0 dop_27 (by decide +kernel)
theorem dX10_joined_1 : decode cX10_joined 1 = .ok (.invokestatic 89, 3) := dR2 (f := Instr.invokestatic) (k := 0) (i := 1) bn_cX10_joined_0 dop_184 89 (by decide +kernel)
theorem dX10_joined_4 : decode cX10_joined 4 = .ok (.ifCond .eq 15, 3) := dR2s (f := Instr.ifCond .eq) (k := 0) (i := 4) bn_cX10_joined_0 dop_153 15 15 (by decide +kernel)
theorem dX10_joined_7 : decode cX10_joined 7 = .ok (.iload_n 2, 1) := dR0 (k := 0) (i := 7) bn_cX10_joined_0 dop_28 (by decide +kernel)
theorem dX10_joined_8 : decode cX10_joined 8 = .ok (.invokestatic 89, 3) := dR2 (f := Instr.invokestatic) (k := 0) (i := 8) bn_cX10_joined_0 dop_184 89 (by decide +kernel)
theorem dX10_joined_11 : decode cX10_joined 11 = .ok (.ifCond .eq 8, 3) := dR2s (f := Instr.ifCond .eq) (k := 0) (i := 11) bn_cX10_joined_0 dop_153 8 8 (by decide +kernel)
theorem dX10_joined_14 : decode cX10_joined 14 = .ok (.iload_n 1, 1) := dR0 (k := 0) (i := 14) bn_cX10_joined_0 dop_27 (by decide +kernel)
theorem dX10_joined_15 : decode cX10_joined 15 = .ok (.iload_n 2, 1) := dR0 (k := 0) (i := 15) bn_cX10_joined_0 dop_28 (by decide +kernel)
theorem dX10_joined_16 : decode cX10_joined 16 = .ok (.if_icmp .le 9, 3) := dR2s (f := Instr.if_icmp .le) (k := 0) (i := 16) bn_cX10_joined_0 dop_164 9 9 (by decide +kernel)
theorem dX10_joined_19 : decode cX10_joined 19 = .ok (.aload_n 0, 1) := dR0 (k := 0) (i := 19) bn_cX10_joined_0 dop_42 (by decide +kernel)
theorem dX10_joined_20 : decode cX10_joined 20 = .ok (.iconst 1, 1) := dR0 (k := 0) (i := 20) bn_cX10_joined_0 dop_4 (by decide +kernel)
theorem dX10_joined_21 : decode cX10_joined 21 = .ok (.invokevirtual 82, 3) := dR2 (f := Instr.invokevirtual) (k := 0) (i := 21) bn_cX10_joined_0 dop_182 82 (by decide +kernel)
theorem dX10_joined_24 : decode cX10_joined 24 = .ok (.ireturn, 1) := dR0 (k := 0) (i := 24) bn_cX10_joined_0 dop_172 (by decide +kernel)
theorem dX10_joined_25 : decode cX10_joined 25 = .ok (.aload_n 0, 1) := dR0 (k := 0) (i := 25) bn_cX10_joined_0 dop_42 (by decide +kernel)
theorem dX10_joined_26 : decode cX10_joined 26 = .ok (.getfield 19, 3) := dR2 (f := Instr.getfield) (k := 0) (i := 26) bn_cX10_joined_0 dop_180 19 (by decide +kernel)
theorem dX10_joined_29 : decode cX10_joined 29 = .ok (.aload_n 0, 1) := dR0 (k := 0) (i := 29) bn_cX10_joined_0 dop_42 (by decide +kernel)
theorem dX10_joined_30 : decode cX10_joined 30 = .ok (.getfield 12, 3) := dR2 (f := Instr.getfield) (k := 0) (i := 30) bn_cX10_joined_0 dop_180 12 (by decide +kernel)
theorem dX10_joined_33 : decode cX10_joined 33 = .ok (.invokevirtual 337, 3) := dR2 (f := Instr.invokevirtual) (k := 0) (i := 33) bn_cX10_joined_0 dop_182 337 (by decide +kernel)
theorem dX10_joined_36 : decode cX10_joined 36 = .ok (.aload_n 0, 1) := dR0 (k := 0) (i := 36) bn_cX10_joined_0 dop_42 (by decide +kernel)
theorem dX10_joined_37 : decode cX10_joined 37 = .ok (.getfield 12, 3) := dR2 (f := Instr.getfield) (k := 0) (i := 37) bn_cX10_joined_0 dop_180 12 (by decide +kernel)
theorem dX10_joined_40 : decode cX10_joined 40 = .ok (.getfield 109, 3) := dR2 (f := Instr.getfield) (k := 0) (i := 40) bn_cX10_joined_0 dop_180 109 (by decide +kernel)
theorem dX10_joined_43 : decode cX10_joined 43 = .ok (.sipush 200, 3) := dR2s (f := Instr.sipush) (k := 0) (i := 43) bn_cX10_joined_0 dop_17 200 200 (by decide +kernel)
theorem dX10_joined_46 : decode cX10_joined 46 = .ok (.iadd, 1) := dR0 (k := 0) (i := 46) bn_cX10_joined_0 dop_96 (by decide +kernel)
theorem dX10_joined_47 : decode cX10_joined 47 = .ok (.sipush 2000, 3) := dR2s (f := Instr.sipush) (k := 0) (i := 47) bn_cX10_joined_0 dop_17 2000 2000 (by decide +kernel)
theorem dX10_joined_50 : decode cX10_joined 50 = .ok (.invokestatic 252, 3) := dR2 (f := Instr.invokestatic) (k := 0) (i := 50) bn_cX10_joined_0 dop_184 252 (by decide +kernel)
theorem dX10_joined_53 : decode cX10_joined 53 = .ok (.istore_n 3, 1) := dR0 (k := 0) (i := 53) bn_cX10_joined_0 dop_62 (by decide +kernel)
theorem dX10_joined_54 : decode cX10_joined 54 = .ok (.aload_n 0, 1) := dR0 (k := 0) (i := 54) bn_cX10_joined_0 dop_42 (by decide +kernel)
theorem dX10_joined_55 : decode cX10_joined 55 = .ok (.getfield 12, 3) := dR2 (f := Instr.getfield) (k := 0) (i := 55) bn_cX10_joined_0 dop_180 12 (by decide +kernel)
theorem dX10_joined_58 : decode cX10_joined 58 = .ok (.getfield 109, 3) := dR2 (f := Instr.getfield) (k := 0) (i := 58) bn_cX10_joined_0 dop_180 109 (by decide +kernel)
theorem dX10_joined_61 : decode cX10_joined 61 = .ok (.istore 4, 2) := dR1 (f := Instr.istore) (k := 0) (i := 61) bn_cX10_joined_0 dop_54 4 (by decide +kernel)
theorem dX10_joined_63 : decode cX10_joined 63 = .ok (.iload 4, 2) := dR1 (f := Instr.iload) (k := 0) (i := 63) bn_cX10_joined_0 dop_21 4 (by decide +kernel)
theorem dX10_joined_65 : decode cX10_joined 65 = .ok (.iload_n 3, 1) := dR0 (k := 0) (i := 65) bn_cX10_joined_0 dop_29 (by decide +kernel)
theorem dX10_joined_66 : decode cX10_joined 66 = .ok (.if_icmp .gt 34, 3) := dR2s (f := Instr.if_icmp .gt) (k := 0) (i := 66) bn_cX10_joined_0 dop_163 34 34 (by decide +kernel)
theorem dX10_joined_69 : decode cX10_joined 69 = .ok (.aload_n 0, 1) := dR0 (k := 0) (i := 69) bn_cX10_joined_0 dop_42 (by decide +kernel)
theorem dX10_joined_70 : decode cX10_joined 70 = .ok (.getfield 19, 3) := dR2 (f := Instr.getfield) (k := 0) (i := 70) bn_cX10_joined_0 dop_180 19 (by decide +kernel)
theorem dX10_joined_73 : decode cX10_joined 73 = .ok (.getfield 99, 3) := dR2 (f := Instr.getfield) (k := 0) (i := 73) bn_cX10_joined_0 dop_180 99 (by decide +kernel)
theorem dX10_joined_76 : decode cX10_joined 76 = .ok (.iload_n 1, 1) := dR0 (k := 0) (i := 76) bn_cX10_joined_0 dop_27 (by decide +kernel)
theorem dX10_joined_77 : decode cX10_joined 77 = .ok (.iload_n 2, 1) := dR0 (k := 0) (i := 77) bn_cX10_joined_0 dop_28 (by decide +kernel)
theorem dX10_joined_78 : decode cX10_joined 78 = .ok (.invokevirtual 346, 3) := dR2 (f := Instr.invokevirtual) (k := 0) (i := 78) bn_cX10_joined_0 dop_182 346 (by decide +kernel)
theorem dX10_joined_81 : decode cX10_joined 81 = .ok (.ifCond .eq 6, 3) := dR2s (f := Instr.ifCond .eq) (k := 0) (i := 81) bn_cX10_joined_0 dop_153 6 6 (by decide +kernel)
theorem dX10_joined_84 : decode cX10_joined 84 = .ok (.iload 4, 2) := dR1 (f := Instr.iload) (k := 0) (i := 84) bn_cX10_joined_0 dop_21 4 (by decide +kernel)
theorem dX10_joined_86 : decode cX10_joined 86 = .ok (.ireturn, 1) := dR0 (k := 0) (i := 86) bn_cX10_joined_0 dop_172 (by decide +kernel)
theorem dX10_joined_87 : decode cX10_joined 87 = .ok (.aload_n 0, 1) := dR0 (k := 0) (i := 87) bn_cX10_joined_0 dop_42 (by decide +kernel)
theorem dX10_joined_88 : decode cX10_joined 88 = .ok (.getfield 19, 3) := dR2 (f := Instr.getfield) (k := 0) (i := 88) bn_cX10_joined_0 dop_180 19 (by decide +kernel)
theorem dX10_joined_91 : decode cX10_joined 91 = .ok (.invokevirtual 334, 3) := dR2 (f := Instr.invokevirtual) (k := 0) (i := 91) bn_cX10_joined_0 dop_182 334 (by decide +kernel)
theorem dX10_joined_94 : decode cX10_joined 94 = .ok (.iinc 4 1, 3) := dRii (f := Instr.iinc) (k := 0) (i := 94) bn_cX10_joined_0 dop_132 4 1 1 (by decide +kernel)
theorem dX10_joined_97 : decode cX10_joined 97 = .ok (.goto (-34), 3) := dR2s (f := Instr.goto) (k := 0) (i := 97) bn_cX10_joined_0 dop_167 65502 (-34) (by decide +kernel)
theorem dX10_joined_100 : decode cX10_joined 100 = .ok (.aload_n 0, 1) := dR0 (k := 0) (i := 100) bn_cX10_joined_0 dop_42 (by decide +kernel)
theorem dX10_joined_101 : decode cX10_joined 101 = .ok (.iconst 2, 1) := dR0 (k := 0) (i := 101) bn_cX10_joined_0 dop_5 (by decide +kernel)
theorem dX10_joined_102 : decode cX10_joined 102 = .ok (.invokevirtual 82, 3) := dR2 (f := Instr.invokevirtual) (k := 0) (i := 102) bn_cX10_joined_0 dop_182 82 (by decide +kernel)
theorem dX10_joined_105 : decode cX10_joined 105 = .ok (.ireturn, 1) := dR0 (k := 0) (i := 105) bn_cX10_joined_0 dop_172 (by decide +kernel)

theorem bn_cX10_count_0 : BN cX10_count 0 0x56c0002b50d0056a2b569b802b5068056a2b56a2c04b50d0056a2b56a2004b7610056a0d00ad456ad438096ac200ad41a015a8ad5a84012dcc8015a83402b515ab4b0025a99002b5068056a2b5c80402015700402015180402014c00402014800402014400402014000402013c00402013800402013280402012d004020127804020122004020106804020100804020162004020100805561c := by
  unfold BN; decide +kernel
theorem dX10_count_0 : decode cX10_count 0 = .ok (.iload_n 1, 1) := dR0 (k := 0) (i := 0) bn_cX10_count_0 dop_27 (by decide +kernel)
theorem dX10_count_1 : decode cX10_count 1 = .ok (.tableswitch 195 0 12 #[67, 78, 89, 100, 111, 119, 127, 135, 143, 151, 162, 173, 184], 67) := by decide +kernel
theorem dX10_count_68 : decode cX10_count 68 = .ok (.aload_n 0, 1) := dR0 (k := 0) (i := 68) bn_cX10_count_0 dop_42 (by decide +kernel)
theorem dX10_count_69 : decode cX10_count 69 = .ok (.getfield 12, 3) := dR2 (f := Instr.getfield) (k := 0) (i := 69) bn_cX10_count_0 dop_180 12 (by decide +kernel)
theorem dX10_count_72 : decode cX10_count 72 = .ok (.getfield 99, 3) := dR2 (f := Instr.getfield) (k := 0) (i := 72) bn_cX10_count_0 dop_180 99 (by decide +kernel)
theorem dX10_count_75 : decode cX10_count 75 = .ok (.getfield 343, 3) := dR2 (f := Instr.getfield) (k := 0) (i := 75) bn_cX10_count_0 dop_180 343 (by decide +kernel)
theorem dX10_count_78 : decode cX10_count 78 = .ok (.ireturn, 1) := dR0 (k := 0) (i := 78) bn_cX10_count_0 dop_172 (by decide +kernel)
theorem dX10_count_79 : decode cX10_count 79 = .ok (.aload_n 0, 1) := dR0 (k := 0) (i := 79) bn_cX10_count_0 dop_42 (by decide +kernel)
theorem dX10_count_80 : decode cX10_count 80 = .ok (.getfield 12, 3) := dR2 (f := Instr.getfield) (k := 0) (i := 80) bn_cX10_count_0 dop_180 12 (by decide +kernel)
theorem dX10_count_83 : decode cX10_count 83 = .ok (.getfield 99, 3) := dR2 (f := Instr.getfield) (k := 0) (i := 83) bn_cX10_count_0 dop_180 99 (by decide +kernel)
theorem dX10_count_86 : decode cX10_count 86 = .ok (.invokevirtual 387, 3) := dR2 (f := Instr.invokevirtual) (k := 0) (i := 86) bn_cX10_count_0 dop_182 387 (by decide +kernel)
theorem dX10_count_89 : decode cX10_count 89 = .ok (.ireturn, 1) := dR0 (k := 0) (i := 89) bn_cX10_count_0 dop_172 (by decide +kernel)
theorem dX10_count_90 : decode cX10_count 90 = .ok (.aload_n 0, 1) := dR0 (k := 0) (i := 90) bn_cX10_count_0 dop_42 (by decide +kernel)
theorem dX10_count_91 : decode cX10_count 91 = .ok (.getfield 12, 3) := dR2 (f := Instr.getfield) (k := 0) (i := 91) bn_cX10_count_0 dop_180 12 (by decide +kernel)
theorem dX10_count_94 : decode cX10_count 94 = .ok (.getfield 193, 3) := dR2 (f := Instr.getfield) (k := 0) (i := 94) bn_cX10_count_0 dop_180 193 (by decide +kernel)
theorem dX10_count_97 : decode cX10_count 97 = .ok (.getfield 390, 3) := dR2 (f := Instr.getfield) (k := 0) (i := 97) bn_cX10_count_0 dop_180 390 (by decide +kernel)
theorem dX10_count_100 : decode cX10_count 100 = .ok (.ireturn, 1) := dR0 (k := 0) (i := 100) bn_cX10_count_0 dop_172 (by decide +kernel)
theorem dX10_count_101 : decode cX10_count 101 = .ok (.aload_n 0, 1) := dR0 (k := 0) (i := 101) bn_cX10_count_0 dop_42 (by decide +kernel)
theorem dX10_count_102 : decode cX10_count 102 = .ok (.getfield 12, 3) := dR2 (f := Instr.getfield) (k := 0) (i := 102) bn_cX10_count_0 dop_180 12 (by decide +kernel)
theorem dX10_count_105 : decode cX10_count 105 = .ok (.getfield 193, 3) := dR2 (f := Instr.getfield) (k := 0) (i := 105) bn_cX10_count_0 dop_180 193 (by decide +kernel)
theorem dX10_count_108 : decode cX10_count 108 = .ok (.invokevirtual 391, 3) := dR2 (f := Instr.invokevirtual) (k := 0) (i := 108) bn_cX10_count_0 dop_182 391 (by decide +kernel)
theorem dX10_count_111 : decode cX10_count 111 = .ok (.ireturn, 1) := dR0 (k := 0) (i := 111) bn_cX10_count_0 dop_172 (by decide +kernel)
theorem dX10_count_112 : decode cX10_count 112 = .ok (.aload_n 0, 1) := dR0 (k := 0) (i := 112) bn_cX10_count_0 dop_42 (by decide +kernel)
theorem dX10_count_113 : decode cX10_count 113 = .ok (.getfield 25, 3) := dR2 (f := Instr.getfield) (k := 0) (i := 113) bn_cX10_count_0 dop_180 25 (by decide +kernel)
theorem dX10_count_116 : decode cX10_count 116 = .ok (.getfield 394, 3) := dR2 (f := Instr.getfield) (k := 0) (i := 116) bn_cX10_count_0 dop_180 394 (by decide +kernel)
theorem dX10_count_119 : decode cX10_count 119 = .ok (.ireturn, 1) := dR0 (k := 0) (i := 119) bn_cX10_count_0 dop_172 (by decide +kernel)
theorem dX10_count_120 : decode cX10_count 120 = .ok (.aload_n 0, 1) := dR0 (k := 0) (i := 120) bn_cX10_count_0 dop_42 (by decide +kernel)
theorem dX10_count_121 : decode cX10_count 121 = .ok (.getfield 12, 3) := dR2 (f := Instr.getfield) (k := 0) (i := 121) bn_cX10_count_0 dop_180 12 (by decide +kernel)
theorem dX10_count_124 : decode cX10_count 124 = .ok (.getfield 109, 3) := dR2 (f := Instr.getfield) (k := 0) (i := 124) bn_cX10_count_0 dop_180 109 (by decide +kernel)
theorem dX10_count_127 : decode cX10_count 127 = .ok (.ireturn, 1) := dR0 (k := 0) (i := 127) bn_cX10_count_0 dop_172 (by decide +kernel)
theorem bn_cX10_count_128 : BN cX10_count 128 0x15a5300adc0a2b56a4804b7320056a0d00ad456ad478096ec200ad41a015a8ad5a8c012dcc8015a83402b515ab4aa025b99002b5068056a2b569f804b5068056a2b5698804b5200056a2b56c0002b50d0056a2b := by
  unfold BN; decide +kernel
theorem dX10_count_128 : decode cX10_count 128 = .ok (.aload_n 0, 1) := dR0 (k := 128) (i := 0) bn_cX10_count_128 dop_42 (by decide +kernel)
theorem dX10_count_129 : decode cX10_count 129 = .ok (.getfield 25, 3) := dR2 (f := Instr.getfield) (k := 128) (i := 1) bn_cX10_count_128 dop_180 25 (by decide +kernel)
theorem dX10_count_132 : decode cX10_count 132 = .ok (.getfield 255, 3) := dR2 (f := Instr.getfield) (k := 128) (i := 4) bn_cX10_count_128 dop_180 255 (by decide +kernel)
theorem dX10_count_135 : decode cX10_count 135 = .ok (.ireturn, 1) := dR0 (k := 128) (i := 7) bn_cX10_count_128 dop_172 (by decide +kernel)
theorem dX10_count_136 : decode cX10_count 136 = .ok (.aload_n 0, 1) := dR0 (k := 128) (i := 8) bn_cX10_count_128 dop_42 (by decide +kernel)
theorem dX10_count_137 : decode cX10_count 137 = .ok (.getfield 63, 3) := dR2 (f := Instr.getfield) (k := 128) (i := 9) bn_cX10_count_128 dop_180 63 (by decide +kernel)
theorem dX10_count_140 : decode cX10_count 140 = .ok (.getfield 353, 3) := dR2 (f := Instr.getfield) (k := 128) (i := 12) bn_cX10_count_128 dop_180 353 (by decide +kernel)
theorem dX10_count_143 : decode cX10_count 143 = .ok (.ireturn, 1) := dR0 (k := 128) (i := 15) bn_cX10_count_128 dop_172 (by decide +kernel)
theorem dX10_count_144 : decode cX10_count 144 = .ok (.aload_n 0, 1) := dR0 (k := 128) (i := 16) bn_cX10_count_128 dop_42 (by decide +kernel)
theorem dX10_count_145 : decode cX10_count 145 = .ok (.getfield 12, 3) := dR2 (f := Instr.getfield) (k := 128) (i := 17) bn_cX10_count_128 dop_180 12 (by decide +kernel)
theorem dX10_count_148 : decode cX10_count 148 = .ok (.getfield 381, 3) := dR2 (f := Instr.getfield) (k := 128) (i := 20) bn_cX10_count_128 dop_180 381 (by decide +kernel)
theorem dX10_count_151 : decode cX10_count 151 = .ok (.ireturn, 1) := dR0 (k := 128) (i := 23) bn_cX10_count_128 dop_172 (by decide +kernel)
theorem dX10_count_152 : decode cX10_count 152 = .ok (.aload_n 0, 1) := dR0 (k := 128) (i := 24) bn_cX10_count_128 dop_42 (by decide +kernel)
theorem dX10_count_153 : decode cX10_count 153 = .ok (.getfield 12, 3) := dR2 (f := Instr.getfield) (k := 128) (i := 25) bn_cX10_count_128 dop_180 12 (by decide +kernel)
theorem dX10_count_156 : decode cX10_count 156 = .ok (.getfield 99, 3) := dR2 (f := Instr.getfield) (k := 128) (i := 28) bn_cX10_count_128 dop_180 99 (by decide +kernel)
theorem dX10_count_159 : decode cX10_count 159 = .ok (.invokevirtual 340, 3) := dR2 (f := Instr.invokevirtual) (k := 128) (i := 31) bn_cX10_count_128 dop_182 340 (by decide +kernel)
theorem dX10_count_162 : decode cX10_count 162 = .ok (.ireturn, 1) := dR0 (k := 128) (i := 34) bn_cX10_count_128 dop_172 (by decide +kernel)
theorem dX10_count_163 : decode cX10_count 163 = .ok (.aload_n 0, 1) := dR0 (k := 128) (i := 35) bn_cX10_count_128 dop_42 (by decide +kernel)
theorem dX10_count_164 : decode cX10_count 164 = .ok (.getfield 12, 3) := dR2 (f := Instr.getfield) (k := 128) (i := 36) bn_cX10_count_128 dop_180 12 (by decide +kernel)
theorem dX10_count_167 : decode cX10_count 167 = .ok (.getfield 99, 3) := dR2 (f := Instr.getfield) (k := 128) (i := 39) bn_cX10_count_128 dop_180 99 (by decide +kernel)
theorem dX10_count_170 : decode cX10_count 170 = .ok (.invokevirtual 395, 3) := dR2 (f := Instr.invokevirtual) (k := 128) (i := 42) bn_cX10_count_128 dop_182 395 (by decide +kernel)
theorem dX10_count_173 : decode cX10_count 173 = .ok (.ireturn, 1) := dR0 (k := 128) (i := 45) bn_cX10_count_128 dop_172 (by decide +kernel)
theorem dX10_count_174 : decode cX10_count 174 = .ok (.aload_n 0, 1) := dR0 (k := 128) (i := 46) bn_cX10_count_128 dop_42 (by decide +kernel)
theorem dX10_count_175 : decode cX10_count 175 = .ok (.getfield 12, 3) := dR2 (f := Instr.getfield) (k := 128) (i := 47) bn_cX10_count_128 dop_180 12 (by decide +kernel)
theorem dX10_count_178 : decode cX10_count 178 = .ok (.getfield 193, 3) := dR2 (f := Instr.getfield) (k := 128) (i := 50) bn_cX10_count_128 dop_180 193 (by decide +kernel)
theorem dX10_count_181 : decode cX10_count 181 = .ok (.invokevirtual 398, 3) := dR2 (f := Instr.invokevirtual) (k := 128) (i := 53) bn_cX10_count_128 dop_182 398 (by decide +kernel)
theorem dX10_count_184 : decode cX10_count 184 = .ok (.ireturn, 1) := dR0 (k := 128) (i := 56) bn_cX10_count_128 dop_172 (by decide +kernel)
theorem dX10_count_185 : decode cX10_count 185 = .ok (.aload_n 0, 1) := dR0 (k := 128) (i := 57) bn_cX10_count_128 dop_42 (by decide +kernel)
theorem dX10_count_186 : decode cX10_count 186 = .ok (.getfield 12, 3) := dR2 (f := Instr.getfield) (k := 128) (i := 58) bn_cX10_count_128 dop_180 12 (by decide +kernel)
theorem dX10_count_189 : decode cX10_count 189 = .ok (.getfield 99, 3) := dR2 (f := Instr.getfield) (k := 128) (i := 61) bn_cX10_count_128 dop_180 99 (by decide +kernel)
theorem dX10_count_192 : decode cX10_count 192 = .ok (.invokevirtual 401, 3) := dR2 (f := Instr.invokevirtual) (k := 128) (i := 64) bn_cX10_count_128 dop_182 401 (by decide +kernel)
theorem dX10_count_195 : decode cX10_count 195 = .ok (.ireturn, 1) := dR0 (k := 128) (i := 67) bn_cX10_count_128 dop_172 (by decide +kernel)
theorem dX10_count_196 : decode cX10_count 196 = .ok (.aload_n 0, 1) := dR0 (k := 128) (i := 68) bn_cX10_count_128 dop_42 (by decide +kernel)
theorem dX10_count_197 : decode cX10_count 197 = .ok (.iconst 1, 1) := dR0 (k := 128) (i := 69) bn_cX10_count_128 dop_4 (by decide +kernel)
theorem dX10_count_198 : decode cX10_count 198 = .ok (.invokevirtual 82, 3) := dR2 (f := Instr.invokevirtual) (k := 128) (i := 70) bn_cX10_count_128 dop_182 82 (by decide +kernel)
theorem dX10_count_201 : decode cX10_count 201 = .ok (.ireturn, 1) := dR0 (k := 128) (i := 73) bn_cX10_count_128 dop_172 (by decide +kernel)
set_option maxHeartbeats 4000000 in
set_option maxRecDepth 100000 in
theorem c_X10_countG (l : Launch) (D : va_G) (cI : ClassId) (aK aV : Nat → Nat) (k k0 k1 k2 k3 k4 k5 k6 k7 k8 k9 ka kb k00 k01 k02 k03 k04 k05 k30 k31 k32 k33 k34 k90 k040 k041 k042 k043 k044 k045 k046 k047 k048 k050 : Nat) (sz : Nat) (cc : Int32) (c06 : Int32) (c07 : Int32) (c08 : Int32) (c35 : Int32) (c36 : Int32) (c91 : Int32) (c92 : Int32) (c93 : Int32) (c94 : Int32) (cb : Nat → Int32) (c049 : Int32) (c051 : Int32) (c040 : Nat → Int32) (c044 : Nat → Int32) (c045 : Nat → Int32) (c046 : Nat → Int32) (c050 : Nat → Int32) (a0 : Int32) : Met l yX10_count (gW yX10_count cX10_count 2 (some .int)) ({ frames := 4, cells := 0, slots := 0, locals := 86 } : Room) (kPreX D cI aK aV [.ref k, .int a0] [(k, .inr (10, [.ref k0, .ref k1, .ref k2, .ref k3, .ref k4, .ref k5, .ref k6, .ref k7, .ref k8, .ref k9, .ref ka, .ref kb, .int cc])), (k0, .inr (9, [.ref k00, .ref k01, .ref k02, .ref k03, .ref k04, .ref k05, .int c06, .int c07, .int c08])), (k3, .inr (4, [.ref k30, .ref k31, .ref k32, .ref k33, .ref k34, .int c35, .int c36])), (k9, .inr (7, [.ref k90, .int c91, .int c92, .int c93, .int c94])), (kb, .inl (cI, 6, .inl cb)), (k04, .inr (8, [.ref k040, .ref k041, .ref k042, .ref k043, .ref k044, .ref k045, .ref k046, .ref k047, .ref k048, .int c049])), (k05, .inr (3, [.ref k050, .int c051])), (k040, .inl (cI, 60, .inl c040)), (k044, .inl (cI, 60, .inl c044)), (k045, .inl (cI, 60, .inl c045)), (k046, .inl (cI, 40, .inl c046)), (k050, .inl (cI, 36, .inl c050))] sz) (va_Qi (fun (r : Int32) (u : (Nat → Int32)) => True) (fun u t => kWd D cI (va_A [(k, .inr (10, [.ref k0, .ref k1, .ref k2, .ref k3, .ref k4, .ref k5, .ref k6, .ref k7, .ref k8, .ref k9, .ref ka, .ref kb, .int cc])), (k0, .inr (9, [.ref k00, .ref k01, .ref k02, .ref k03, .ref k04, .ref k05, .int c06, .int c07, .int c08])), (k3, .inr (4, [.ref k30, .ref k31, .ref k32, .ref k33, .ref k34, .int c35, .int c36])), (k9, .inr (7, [.ref k90, .int c91, .int c92, .int c93, .int c94])), (kb, .inl (cI, 6, .inl cb)), (k04, .inr (8, [.ref k040, .ref k041, .ref k042, .ref k043, .ref k044, .ref k045, .ref k046, .ref k047, .ref k048, .int c049])), (k05, .inr (3, [.ref k050, .int c051])), (k040, .inl (cI, 60, .inl c040)), (k044, .inl (cI, 60, .inl c044)), (k045, .inl (cI, 60, .inl c045)), (k046, .inl (cI, 40, .inl c046)), (k050, .inl (cI, 36, .inl c050))] sz) [(k, .inr (10, [.ref k0, .ref k1, .ref k2, .ref k3, .ref k4, .ref k5, .ref k6, .ref k7, .ref k8, .ref k9, .ref ka, .ref kb, .int cc])), (k0, .inr (9, [.ref k00, .ref k01, .ref k02, .ref k03, .ref k04, .ref k05, .int c06, .int c07, .int c08])), (k3, .inr (4, [.ref k30, .ref k31, .ref k32, .ref k33, .ref k34, .int c35, .int c36])), (k9, .inr (7, [.ref k90, .int c91, .int c92, .int c93, .int c94])), (kb, .inl (cI, 6, .inl u)), (k04, .inr (8, [.ref k040, .ref k041, .ref k042, .ref k043, .ref k044, .ref k045, .ref k046, .ref k047, .ref k048, .int c049])), (k05, .inr (3, [.ref k050, .int c051])), (k040, .inl (cI, 60, .inl c040)), (k044, .inl (cI, 60, .inl c044)), (k045, .inl (cI, 60, .inl c045)), (k046, .inl (cI, 40, .inl c046)), (k050, .inl (cI, 36, .inl c050))] t) (va_A [(k, .inr (10, [.ref k0, .ref k1, .ref k2, .ref k3, .ref k4, .ref k5, .ref k6, .ref k7, .ref k8, .ref k9, .ref ka, .ref kb, .int cc])), (k0, .inr (9, [.ref k00, .ref k01, .ref k02, .ref k03, .ref k04, .ref k05, .int c06, .int c07, .int c08])), (k3, .inr (4, [.ref k30, .ref k31, .ref k32, .ref k33, .ref k34, .int c35, .int c36])), (k9, .inr (7, [.ref k90, .int c91, .int c92, .int c93, .int c94])), (kb, .inl (cI, 6, .inl cb)), (k04, .inr (8, [.ref k040, .ref k041, .ref k042, .ref k043, .ref k044, .ref k045, .ref k046, .ref k047, .ref k048, .int c049])), (k05, .inr (3, [.ref k050, .int c051])), (k040, .inl (cI, 60, .inl c040)), (k044, .inl (cI, 60, .inl c044)), (k045, .inl (cI, 60, .inl c045)), (k046, .inl (cI, 40, .inl c046)), (k050, .inl (cI, 36, .inl c050))] sz)) 0 0 (va_A [(k, .inr (10, [.ref k0, .ref k1, .ref k2, .ref k3, .ref k4, .ref k5, .ref k6, .ref k7, .ref k8, .ref k9, .ref ka, .ref kb, .int cc])), (k0, .inr (9, [.ref k00, .ref k01, .ref k02, .ref k03, .ref k04, .ref k05, .int c06, .int c07, .int c08])), (k3, .inr (4, [.ref k30, .ref k31, .ref k32, .ref k33, .ref k34, .int c35, .int c36])), (k9, .inr (7, [.ref k90, .int c91, .int c92, .int c93, .int c94])), (kb, .inl (cI, 6, .inl cb)), (k04, .inr (8, [.ref k040, .ref k041, .ref k042, .ref k043, .ref k044, .ref k045, .ref k046, .ref k047, .ref k048, .int c049])), (k05, .inr (3, [.ref k050, .int c051])), (k040, .inl (cI, 60, .inl c040)), (k044, .inl (cI, 60, .inl c044)), (k045, .inl (cI, 60, .inl c045)), (k046, .inl (cI, 40, .inl c046)), (k050, .inl (cI, 36, .inl c050))] sz) := by
  refine kMetIX (own := RX10) (by decide +kernel) rfl (Nat.le_of_ble_eq_true rfl) ?_
  intro p e s m args below meth c hx hb hT hown hname hml A Q hK hP hD hS hA hN hXS hRet ls hl
  have hl : lv_has ls 2 [(0, .ref k), (1, .int a0)] := hl
  have lo_a0 := k_lo a0
  have hi_a0 := k_hi a0
  have lo_c06 := k_lo c06
  have hi_c06 := k_hi c06
  have lo_c08 := k_lo c08
  have hi_c08 := k_hi c08
  have lo_c35 := k_lo c35
  have hi_c35 := k_hi c35
  have lo_c36 := k_lo c36
  have hi_c36 := k_hi c36
  have lo_c91 := k_lo c91
  have hi_c91 := k_hi c91
  have lo_c049 := k_lo c049
  have hi_c049 := k_hi c049
  have lo_c051 := k_lo c051
  have hi_c051 := k_hi c051
  refine lv_iload_n hx hb dX10_count_0 rfl (lv_at hl 1 rfl) ?_
  by_cases c_1 : a0.toInt = 0
  · refine lv_tableIn (off := 67) (tgt := 68) hx hb dX10_count_1 (by omega) (by omega) (by rw [c_1]; decide) (by decide +kernel) ?_
    refine lv_aload_n hx hb dX10_count_68 rfl (lv_at hl 0 rfl) ?_
    refine va_get (D := D) (ci := 10) (v := .ref k0) (C := RX10) (T := TX10) (N := 13) hx hb hT giX10 hown hK hP 0 rfl rfl 0 (by decide +kernel) (hT (Cond.fieldLink RX10 12 "DesertWire" "now" "LDesertWire$World;") mw_291) (fun _ h9 => h9) rfl dX10_count_69 ?_
    refine va_get (D := D) (ci := 9) (v := .ref k04) (C := RX9) (T := TX9) (N := 9) hx hb hT giX9 hown hK hP 1 rfl rfl 4 (by decide +kernel) (hT (Cond.fieldLink RX10 99 "DesertWire$World" "works" "LDesertWire$Works;") mw_99) (fun _ h9 => h9) rfl dX10_count_72 ?_
    refine va_get (D := D) (ci := 8) (v := .int c049) (C := RX8) (T := TX8) (N := 10) hx hb hT giX8 hown hK hP 5 rfl rfl 9 (by decide +kernel) (hT (Cond.fieldLink RX10 343 "DesertWire$Works" "number" "I") mw_51) (fun _ h9 => h9) rfl dX10_count_75 ?_
    exact hRet cb [0, 1, 2, 3, 4, 5, 6, 7, 8, 9, 10, 11] trivial hP hD (by decide +kernel) rfl hS rfl dX10_count_78
  by_cases c_2 : a0.toInt = 1
  · refine lv_tableIn (off := 78) (tgt := 79) hx hb dX10_count_1 (by omega) (by omega) (by rw [c_2]; decide) (by decide +kernel) ?_
    refine lv_aload_n hx hb dX10_count_79 rfl (lv_at hl 0 rfl) ?_
    refine va_get (D := D) (ci := 10) (v := .ref k0) (C := RX10) (T := TX10) (N := 13) hx hb hT giX10 hown hK hP 0 rfl rfl 0 (by decide +kernel) (hT (Cond.fieldLink RX10 12 "DesertWire" "now" "LDesertWire$World;") mw_291) (fun _ h9 => h9) rfl dX10_count_80 ?_
    refine va_get (D := D) (ci := 9) (v := .ref k04) (C := RX9) (T := TX9) (N := 9) hx hb hT giX9 hown hK hP 1 rfl rfl 4 (by decide +kernel) (hT (Cond.fieldLink RX10 99 "DesertWire$World" "works" "LDesertWire$Works;") mw_99) (fun _ h9 => h9) rfl dX10_count_83 ?_
    refine kJi (wr := [(k, .inr (10, [.ref k0, .ref k1, .ref k2, .ref k3, .ref k4, .ref k5, .ref k6, .ref k7, .ref k8, .ref k9, .ref ka, .ref kb, .int cc])), (k0, .inr (9, [.ref k00, .ref k01, .ref k02, .ref k03, .ref k04, .ref k05, .int c06, .int c07, .int c08])), (k3, .inr (4, [.ref k30, .ref k31, .ref k32, .ref k33, .ref k34, .int c35, .int c36])), (k9, .inr (7, [.ref k90, .int c91, .int c92, .int c93, .int c94])), (kb, .inl (cI, 6, .inl cb)), (k05, .inr (3, [.ref k050, .int c051])), (k040, .inl (cI, 60, .inl c040)), (k044, .inl (cI, 60, .inl c044)), (k046, .inl (cI, 40, .inl c046)), (k050, .inl (cI, 36, .inl c050))]) (va_runV (As := []) (rest := []) ⟨hx, hb, hml, hown, hT⟩ (c_X8_fallenG l D cI aK aV k04 k040 k041 k042 k043 k044 k045 k046 k047 k048 s.heap.size c049 c045) (cwV 0 hT (gV_in mw_1128 mw_1125 mw_1126 mw_1127 mw_3) rfl rfl rfl (by decide +kernel) ⟨Nat.le_of_ble_eq_true rfl, Nat.le_of_ble_eq_true rfl⟩) (kRecvX (q0 := 5) (ci := 8) hK hP hD hN hXS hS hA rfl rfl [5, 9] rfl (by decide +kernel)) rfl rfl hl.1 rfl (lv_room (Nat.le_of_ble_eq_true rfl)) dX10_count_86 ⟨Nat.le_of_ble_eq_true rfl, Nat.le_of_ble_eq_true rfl⟩) hP hD hS hA [5, 9] [0, 1, 2, 3, 4, 6, 7, 8, 10, 11] rfl rfl (by decide +kernel) (by decide +kernel) ?_
    clear hP hD hS
    intro r_3 u_5 H locs w_4 hP hD hS
    replace hP : va_P D vwCl [(k, .inr (10, [.ref k0, .ref k1, .ref k2, .ref k3, .ref k4, .ref k5, .ref k6, .ref k7, .ref k8, .ref k9, .ref ka, .ref kb, .int cc])), (k0, .inr (9, [.ref k00, .ref k01, .ref k02, .ref k03, .ref k04, .ref k05, .int c06, .int c07, .int c08])), (k3, .inr (4, [.ref k30, .ref k31, .ref k32, .ref k33, .ref k34, .int c35, .int c36])), (k9, .inr (7, [.ref k90, .int c91, .int c92, .int c93, .int c94])), (kb, .inl (cI, 6, .inl cb)), (k05, .inr (3, [.ref k050, .int c051])), (k040, .inl (cI, 60, .inl c040)), (k044, .inl (cI, 60, .inl c044)), (k046, .inl (cI, 40, .inl c046)), (k050, .inl (cI, 36, .inl c050)), (k04, .inr (8, [.ref k040, .ref k041, .ref k042, .ref k043, .ref k044, .ref k045, .ref k046, .ref k047, .ref k048, .int c049])), (k045, .inl (cI, 60, .inl c045))] H := hP
    replace hD : va_D A [(k, .inr (10, [.ref k0, .ref k1, .ref k2, .ref k3, .ref k4, .ref k5, .ref k6, .ref k7, .ref k8, .ref k9, .ref ka, .ref kb, .int cc])), (k0, .inr (9, [.ref k00, .ref k01, .ref k02, .ref k03, .ref k04, .ref k05, .int c06, .int c07, .int c08])), (k3, .inr (4, [.ref k30, .ref k31, .ref k32, .ref k33, .ref k34, .int c35, .int c36])), (k9, .inr (7, [.ref k90, .int c91, .int c92, .int c93, .int c94])), (kb, .inl (cI, 6, .inl cb)), (k05, .inr (3, [.ref k050, .int c051])), (k040, .inl (cI, 60, .inl c040)), (k044, .inl (cI, 60, .inl c044)), (k046, .inl (cI, 40, .inl c046)), (k050, .inl (cI, 36, .inl c050)), (k04, .inr (8, [.ref k040, .ref k041, .ref k042, .ref k043, .ref k044, .ref k045, .ref k046, .ref k047, .ref k048, .int c049])), (k045, .inl (cI, 60, .inl c045))] := hD
    have lo_r_3 := k_lo r_3
    have hi_r_3 := k_hi r_3
    exact hRet cb [0, 1, 2, 3, 4, 10, 5, 6, 7, 11, 8, 9] trivial hP hD (by decide +kernel) rfl hS rfl dX10_count_89
  by_cases c_6 : a0.toInt = 2
  · refine lv_tableIn (off := 89) (tgt := 90) hx hb dX10_count_1 (by omega) (by omega) (by rw [c_6]; decide) (by decide +kernel) ?_
    refine lv_aload_n hx hb dX10_count_90 rfl (lv_at hl 0 rfl) ?_
    refine va_get (D := D) (ci := 10) (v := .ref k0) (C := RX10) (T := TX10) (N := 13) hx hb hT giX10 hown hK hP 0 rfl rfl 0 (by decide +kernel) (hT (Cond.fieldLink RX10 12 "DesertWire" "now" "LDesertWire$World;") mw_291) (fun _ h9 => h9) rfl dX10_count_91 ?_
    refine va_get (D := D) (ci := 9) (v := .ref k05) (C := RX9) (T := TX9) (N := 9) hx hb hT giX9 hown hK hP 1 rfl rfl 5 (by decide +kernel) (hT (Cond.fieldLink RX10 193 "DesertWire$World" "parties" "LDesertWire$Parties;") mw_102) (fun _ h9 => h9) rfl dX10_count_94 ?_
    refine va_get (D := D) (ci := 3) (v := .int c051) (C := RX3) (T := TX3) (N := 2) hx hb hT giX3 hown hK hP 6 rfl rfl 1 (by decide +kernel) (hT (Cond.fieldLink RX10 390 "DesertWire$Parties" "number" "I") mw_83) (fun _ h9 => h9) rfl dX10_count_97 ?_
    exact hRet cb [0, 1, 2, 3, 4, 5, 6, 7, 8, 9, 10, 11] trivial hP hD (by decide +kernel) rfl hS rfl dX10_count_100
  by_cases c_7 : a0.toInt = 3
  · refine lv_tableIn (off := 100) (tgt := 101) hx hb dX10_count_1 (by omega) (by omega) (by rw [c_7]; decide) (by decide +kernel) ?_
    refine lv_aload_n hx hb dX10_count_101 rfl (lv_at hl 0 rfl) ?_
    refine va_get (D := D) (ci := 10) (v := .ref k0) (C := RX10) (T := TX10) (N := 13) hx hb hT giX10 hown hK hP 0 rfl rfl 0 (by decide +kernel) (hT (Cond.fieldLink RX10 12 "DesertWire" "now" "LDesertWire$World;") mw_291) (fun _ h9 => h9) rfl dX10_count_102 ?_
    refine va_get (D := D) (ci := 9) (v := .ref k05) (C := RX9) (T := TX9) (N := 9) hx hb hT giX9 hown hK hP 1 rfl rfl 5 (by decide +kernel) (hT (Cond.fieldLink RX10 193 "DesertWire$World" "parties" "LDesertWire$Parties;") mw_102) (fun _ h9 => h9) rfl dX10_count_105 ?_
    refine kJi (wr := [(k, .inr (10, [.ref k0, .ref k1, .ref k2, .ref k3, .ref k4, .ref k5, .ref k6, .ref k7, .ref k8, .ref k9, .ref ka, .ref kb, .int cc])), (k0, .inr (9, [.ref k00, .ref k01, .ref k02, .ref k03, .ref k04, .ref k05, .int c06, .int c07, .int c08])), (k3, .inr (4, [.ref k30, .ref k31, .ref k32, .ref k33, .ref k34, .int c35, .int c36])), (k9, .inr (7, [.ref k90, .int c91, .int c92, .int c93, .int c94])), (kb, .inl (cI, 6, .inl cb)), (k04, .inr (8, [.ref k040, .ref k041, .ref k042, .ref k043, .ref k044, .ref k045, .ref k046, .ref k047, .ref k048, .int c049])), (k040, .inl (cI, 60, .inl c040)), (k044, .inl (cI, 60, .inl c044)), (k045, .inl (cI, 60, .inl c045)), (k046, .inl (cI, 40, .inl c046))]) (va_runV (As := []) (rest := []) ⟨hx, hb, hml, hown, hT⟩ (c_X3_lostG l D cI aK aV k05 k050 s.heap.size c051 c050) (cwV 0 hT (gV_in mw_1132 mw_1129 mw_1130 mw_1131 mw_4) rfl rfl rfl (by decide +kernel) ⟨Nat.le_of_ble_eq_true rfl, Nat.le_of_ble_eq_true rfl⟩) (kRecvX (q0 := 6) (ci := 3) hK hP hD hN hXS hS hA rfl rfl [6, 11] rfl (by decide +kernel)) rfl rfl hl.1 rfl (lv_room (Nat.le_of_ble_eq_true rfl)) dX10_count_108 ⟨Nat.le_of_ble_eq_true rfl, Nat.le_of_ble_eq_true rfl⟩) hP hD hS hA [6, 11] [0, 1, 2, 3, 4, 5, 7, 8, 9, 10] rfl rfl (by decide +kernel) (by decide +kernel) ?_
    clear hP hD hS
    intro r_8 u_10 H locs w_9 hP hD hS
    replace hP : va_P D vwCl [(k, .inr (10, [.ref k0, .ref k1, .ref k2, .ref k3, .ref k4, .ref k5, .ref k6, .ref k7, .ref k8, .ref k9, .ref ka, .ref kb, .int cc])), (k0, .inr (9, [.ref k00, .ref k01, .ref k02, .ref k03, .ref k04, .ref k05, .int c06, .int c07, .int c08])), (k3, .inr (4, [.ref k30, .ref k31, .ref k32, .ref k33, .ref k34, .int c35, .int c36])), (k9, .inr (7, [.ref k90, .int c91, .int c92, .int c93, .int c94])), (kb, .inl (cI, 6, .inl cb)), (k04, .inr (8, [.ref k040, .ref k041, .ref k042, .ref k043, .ref k044, .ref k045, .ref k046, .ref k047, .ref k048, .int c049])), (k040, .inl (cI, 60, .inl c040)), (k044, .inl (cI, 60, .inl c044)), (k045, .inl (cI, 60, .inl c045)), (k046, .inl (cI, 40, .inl c046)), (k05, .inr (3, [.ref k050, .int c051])), (k050, .inl (cI, 36, .inl c050))] H := hP
    replace hD : va_D A [(k, .inr (10, [.ref k0, .ref k1, .ref k2, .ref k3, .ref k4, .ref k5, .ref k6, .ref k7, .ref k8, .ref k9, .ref ka, .ref kb, .int cc])), (k0, .inr (9, [.ref k00, .ref k01, .ref k02, .ref k03, .ref k04, .ref k05, .int c06, .int c07, .int c08])), (k3, .inr (4, [.ref k30, .ref k31, .ref k32, .ref k33, .ref k34, .int c35, .int c36])), (k9, .inr (7, [.ref k90, .int c91, .int c92, .int c93, .int c94])), (kb, .inl (cI, 6, .inl cb)), (k04, .inr (8, [.ref k040, .ref k041, .ref k042, .ref k043, .ref k044, .ref k045, .ref k046, .ref k047, .ref k048, .int c049])), (k040, .inl (cI, 60, .inl c040)), (k044, .inl (cI, 60, .inl c044)), (k045, .inl (cI, 60, .inl c045)), (k046, .inl (cI, 40, .inl c046)), (k05, .inr (3, [.ref k050, .int c051])), (k050, .inl (cI, 36, .inl c050))] := hD
    have lo_r_8 := k_lo r_8
    have hi_r_8 := k_hi r_8
    exact hRet cb [0, 1, 2, 3, 4, 5, 10, 6, 7, 8, 9, 11] trivial hP hD (by decide +kernel) rfl hS rfl dX10_count_111
  by_cases c_11 : a0.toInt = 4
  · refine lv_tableIn (off := 111) (tgt := 112) hx hb dX10_count_1 (by omega) (by omega) (by rw [c_11]; decide) (by decide +kernel) ?_
    refine lv_aload_n hx hb dX10_count_112 rfl (lv_at hl 0 rfl) ?_
    refine va_get (D := D) (ci := 10) (v := .ref k3) (C := RX10) (T := TX10) (N := 13) hx hb hT giX10 hown hK hP 0 rfl rfl 3 (by decide +kernel) (hT (Cond.fieldLink RX10 25 "DesertWire" "rates" "LDesertWire$Rates;") mw_294) (fun _ h9 => h9) rfl dX10_count_113 ?_
    refine va_get (D := D) (ci := 4) (v := .int c36) (C := RX4) (T := TX4) (N := 7) hx hb hT giX4 hown hK hP 2 rfl rfl 6 (by decide +kernel) (hT (Cond.fieldLink RX10 394 "DesertWire$Rates" "number" "I") mw_146) (fun _ h9 => h9) rfl dX10_count_116 ?_
    exact hRet cb [0, 1, 2, 3, 4, 5, 6, 7, 8, 9, 10, 11] trivial hP hD (by decide +kernel) rfl hS rfl dX10_count_119
  by_cases c_12 : a0.toInt = 5
  · refine lv_tableIn (off := 119) (tgt := 120) hx hb dX10_count_1 (by omega) (by omega) (by rw [c_12]; decide) (by decide +kernel) ?_
    refine lv_aload_n hx hb dX10_count_120 rfl (lv_at hl 0 rfl) ?_
    refine va_get (D := D) (ci := 10) (v := .ref k0) (C := RX10) (T := TX10) (N := 13) hx hb hT giX10 hown hK hP 0 rfl rfl 0 (by decide +kernel) (hT (Cond.fieldLink RX10 12 "DesertWire" "now" "LDesertWire$World;") mw_291) (fun _ h9 => h9) rfl dX10_count_121 ?_
    refine va_get (D := D) (ci := 9) (v := .int c08) (C := RX9) (T := TX9) (N := 9) hx hb hT giX9 hown hK hP 1 rfl rfl 8 (by decide +kernel) (hT (Cond.fieldLink RX10 109 "DesertWire$World" "day" "I") mw_110) (fun _ h9 => h9) rfl dX10_count_124 ?_
    exact hRet cb [0, 1, 2, 3, 4, 5, 6, 7, 8, 9, 10, 11] trivial hP hD (by decide +kernel) rfl hS rfl dX10_count_127
  by_cases c_13 : a0.toInt = 6
  · refine lv_tableIn (off := 127) (tgt := 128) hx hb dX10_count_1 (by omega) (by omega) (by rw [c_13]; decide) (by decide +kernel) ?_
    refine lv_aload_n hx hb dX10_count_128 rfl (lv_at hl 0 rfl) ?_
    refine va_get (D := D) (ci := 10) (v := .ref k3) (C := RX10) (T := TX10) (N := 13) hx hb hT giX10 hown hK hP 0 rfl rfl 3 (by decide +kernel) (hT (Cond.fieldLink RX10 25 "DesertWire" "rates" "LDesertWire$Rates;") mw_294) (fun _ h9 => h9) rfl dX10_count_129 ?_
    refine va_get (D := D) (ci := 4) (v := .int c35) (C := RX4) (T := TX4) (N := 7) hx hb hT giX4 hown hK hP 2 rfl rfl 5 (by decide +kernel) (hT (Cond.fieldLink RX10 255 "DesertWire$Rates" "taped" "I") mw_144) (fun _ h9 => h9) rfl dX10_count_132 ?_
    exact hRet cb [0, 1, 2, 3, 4, 5, 6, 7, 8, 9, 10, 11] trivial hP hD (by decide +kernel) rfl hS rfl dX10_count_135
  by_cases c_14 : a0.toInt = 7
  · refine lv_tableIn (off := 135) (tgt := 136) hx hb dX10_count_1 (by omega) (by omega) (by rw [c_14]; decide) (by decide +kernel) ?_
    refine lv_aload_n hx hb dX10_count_136 rfl (lv_at hl 0 rfl) ?_
    refine va_get (D := D) (ci := 10) (v := .ref k9) (C := RX10) (T := TX10) (N := 13) hx hb hT giX10 hown hK hP 0 rfl rfl 9 (by decide +kernel) (hT (Cond.fieldLink RX10 63 "DesertWire" "voices" "LDesertWire$Voices;") mw_300) (fun _ h9 => h9) rfl dX10_count_137 ?_
    refine va_get (D := D) (ci := 7) (v := .int c91) (C := RX7) (T := TX7) (N := 5) hx hb hT giX7 hown hK hP 3 rfl rfl 1 (by decide +kernel) (hT (Cond.fieldLink RX10 353 "DesertWire$Voices" "begun" "I") mw_260) (fun _ h9 => h9) rfl dX10_count_140 ?_
    exact hRet cb [0, 1, 2, 3, 4, 5, 6, 7, 8, 9, 10, 11] trivial hP hD (by decide +kernel) rfl hS rfl dX10_count_143
  by_cases c_15 : a0.toInt = 8
  · refine lv_tableIn (off := 143) (tgt := 144) hx hb dX10_count_1 (by omega) (by omega) (by rw [c_15]; decide) (by decide +kernel) ?_
    refine lv_aload_n hx hb dX10_count_144 rfl (lv_at hl 0 rfl) ?_
    refine va_get (D := D) (ci := 10) (v := .ref k0) (C := RX10) (T := TX10) (N := 13) hx hb hT giX10 hown hK hP 0 rfl rfl 0 (by decide +kernel) (hT (Cond.fieldLink RX10 12 "DesertWire" "now" "LDesertWire$World;") mw_291) (fun _ h9 => h9) rfl dX10_count_145 ?_
    refine va_get (D := D) (ci := 9) (v := .int c06) (C := RX9) (T := TX9) (N := 9) hx hb hT giX9 hown hK hP 1 rfl rfl 6 (by decide +kernel) (hT (Cond.fieldLink RX10 381 "DesertWire$World" "waiting" "I") mw_104) (fun _ h9 => h9) rfl dX10_count_148 ?_
    exact hRet cb [0, 1, 2, 3, 4, 5, 6, 7, 8, 9, 10, 11] trivial hP hD (by decide +kernel) rfl hS rfl dX10_count_151
  by_cases c_16 : a0.toInt = 9
  · refine lv_tableIn (off := 151) (tgt := 152) hx hb dX10_count_1 (by omega) (by omega) (by rw [c_16]; decide) (by decide +kernel) ?_
    refine lv_aload_n hx hb dX10_count_152 rfl (lv_at hl 0 rfl) ?_
    refine va_get (D := D) (ci := 10) (v := .ref k0) (C := RX10) (T := TX10) (N := 13) hx hb hT giX10 hown hK hP 0 rfl rfl 0 (by decide +kernel) (hT (Cond.fieldLink RX10 12 "DesertWire" "now" "LDesertWire$World;") mw_291) (fun _ h9 => h9) rfl dX10_count_153 ?_
    refine va_get (D := D) (ci := 9) (v := .ref k04) (C := RX9) (T := TX9) (N := 9) hx hb hT giX9 hown hK hP 1 rfl rfl 4 (by decide +kernel) (hT (Cond.fieldLink RX10 99 "DesertWire$World" "works" "LDesertWire$Works;") mw_99) (fun _ h9 => h9) rfl dX10_count_156 ?_
    refine kJi (wr := [(k, .inr (10, [.ref k0, .ref k1, .ref k2, .ref k3, .ref k4, .ref k5, .ref k6, .ref k7, .ref k8, .ref k9, .ref ka, .ref kb, .int cc])), (k0, .inr (9, [.ref k00, .ref k01, .ref k02, .ref k03, .ref k04, .ref k05, .int c06, .int c07, .int c08])), (k3, .inr (4, [.ref k30, .ref k31, .ref k32, .ref k33, .ref k34, .int c35, .int c36])), (k9, .inr (7, [.ref k90, .int c91, .int c92, .int c93, .int c94])), (kb, .inl (cI, 6, .inl cb)), (k05, .inr (3, [.ref k050, .int c051])), (k040, .inl (cI, 60, .inl c040)), (k044, .inl (cI, 60, .inl c044)), (k045, .inl (cI, 60, .inl c045)), (k050, .inl (cI, 36, .inl c050))]) (va_runV (As := []) (rest := []) ⟨hx, hb, hml, hown, hT⟩ (c_X8_wiredMilesG l D cI aK aV k04 k040 k041 k042 k043 k044 k045 k046 k047 k048 s.heap.size c049 c046) (cwV 0 hT (gV_in mw_1029 mw_1026 mw_1027 mw_1028 mw_3) rfl rfl rfl (by decide +kernel) ⟨Nat.le_of_ble_eq_true rfl, Nat.le_of_ble_eq_true rfl⟩) (kRecvX (q0 := 5) (ci := 8) hK hP hD hN hXS hS hA rfl rfl [5, 10] rfl (by decide +kernel)) rfl rfl hl.1 rfl (lv_room (Nat.le_of_ble_eq_true rfl)) dX10_count_159 ⟨Nat.le_of_ble_eq_true rfl, Nat.le_of_ble_eq_true rfl⟩) hP hD hS hA [5, 10] [0, 1, 2, 3, 4, 6, 7, 8, 9, 11] rfl rfl (by decide +kernel) (by decide +kernel) ?_
    clear hP hD hS
    intro r_17 u_19 H locs w_18 hP hD hS
    replace hP : va_P D vwCl [(k, .inr (10, [.ref k0, .ref k1, .ref k2, .ref k3, .ref k4, .ref k5, .ref k6, .ref k7, .ref k8, .ref k9, .ref ka, .ref kb, .int cc])), (k0, .inr (9, [.ref k00, .ref k01, .ref k02, .ref k03, .ref k04, .ref k05, .int c06, .int c07, .int c08])), (k3, .inr (4, [.ref k30, .ref k31, .ref k32, .ref k33, .ref k34, .int c35, .int c36])), (k9, .inr (7, [.ref k90, .int c91, .int c92, .int c93, .int c94])), (kb, .inl (cI, 6, .inl cb)), (k05, .inr (3, [.ref k050, .int c051])), (k040, .inl (cI, 60, .inl c040)), (k044, .inl (cI, 60, .inl c044)), (k045, .inl (cI, 60, .inl c045)), (k050, .inl (cI, 36, .inl c050)), (k04, .inr (8, [.ref k040, .ref k041, .ref k042, .ref k043, .ref k044, .ref k045, .ref k046, .ref k047, .ref k048, .int c049])), (k046, .inl (cI, 40, .inl c046))] H := hP
    replace hD : va_D A [(k, .inr (10, [.ref k0, .ref k1, .ref k2, .ref k3, .ref k4, .ref k5, .ref k6, .ref k7, .ref k8, .ref k9, .ref ka, .ref kb, .int cc])), (k0, .inr (9, [.ref k00, .ref k01, .ref k02, .ref k03, .ref k04, .ref k05, .int c06, .int c07, .int c08])), (k3, .inr (4, [.ref k30, .ref k31, .ref k32, .ref k33, .ref k34, .int c35, .int c36])), (k9, .inr (7, [.ref k90, .int c91, .int c92, .int c93, .int c94])), (kb, .inl (cI, 6, .inl cb)), (k05, .inr (3, [.ref k050, .int c051])), (k040, .inl (cI, 60, .inl c040)), (k044, .inl (cI, 60, .inl c044)), (k045, .inl (cI, 60, .inl c045)), (k050, .inl (cI, 36, .inl c050)), (k04, .inr (8, [.ref k040, .ref k041, .ref k042, .ref k043, .ref k044, .ref k045, .ref k046, .ref k047, .ref k048, .int c049])), (k046, .inl (cI, 40, .inl c046))] := hD
    have lo_r_17 := k_lo r_17
    have hi_r_17 := k_hi r_17
    exact hRet cb [0, 1, 2, 3, 4, 10, 5, 6, 7, 8, 11, 9] trivial hP hD (by decide +kernel) rfl hS rfl dX10_count_162
  by_cases c_20 : a0.toInt = 10
  · refine lv_tableIn (off := 162) (tgt := 163) hx hb dX10_count_1 (by omega) (by omega) (by rw [c_20]; decide) (by decide +kernel) ?_
    refine lv_aload_n hx hb dX10_count_163 rfl (lv_at hl 0 rfl) ?_
    refine va_get (D := D) (ci := 10) (v := .ref k0) (C := RX10) (T := TX10) (N := 13) hx hb hT giX10 hown hK hP 0 rfl rfl 0 (by decide +kernel) (hT (Cond.fieldLink RX10 12 "DesertWire" "now" "LDesertWire$World;") mw_291) (fun _ h9 => h9) rfl dX10_count_164 ?_
    refine va_get (D := D) (ci := 9) (v := .ref k04) (C := RX9) (T := TX9) (N := 9) hx hb hT giX9 hown hK hP 1 rfl rfl 4 (by decide +kernel) (hT (Cond.fieldLink RX10 99 "DesertWire$World" "works" "LDesertWire$Works;") mw_99) (fun _ h9 => h9) rfl dX10_count_167 ?_
    refine kJi (wr := [(k, .inr (10, [.ref k0, .ref k1, .ref k2, .ref k3, .ref k4, .ref k5, .ref k6, .ref k7, .ref k8, .ref k9, .ref ka, .ref kb, .int cc])), (k0, .inr (9, [.ref k00, .ref k01, .ref k02, .ref k03, .ref k04, .ref k05, .int c06, .int c07, .int c08])), (k3, .inr (4, [.ref k30, .ref k31, .ref k32, .ref k33, .ref k34, .int c35, .int c36])), (k9, .inr (7, [.ref k90, .int c91, .int c92, .int c93, .int c94])), (kb, .inl (cI, 6, .inl cb)), (k05, .inr (3, [.ref k050, .int c051])), (k044, .inl (cI, 60, .inl c044)), (k046, .inl (cI, 40, .inl c046)), (k050, .inl (cI, 36, .inl c050))]) (va_runV (As := []) (rest := []) ⟨hx, hb, hml, hown, hT⟩ (c_X8_stationsG l D cI aK aV k04 k040 k041 k042 k043 k044 k045 k046 k047 k048 s.heap.size c049 c040 c045) (cwV 0 hT (gV_in mw_1137 mw_1134 mw_1135 mw_1136 mw_3) rfl rfl rfl (by decide +kernel) ⟨Nat.le_of_ble_eq_true rfl, Nat.le_of_ble_eq_true rfl⟩) (kRecvX (q0 := 5) (ci := 8) hK hP hD hN hXS hS hA rfl rfl [5, 7, 9] rfl (by decide +kernel)) rfl rfl hl.1 rfl (lv_room (Nat.le_of_ble_eq_true rfl)) dX10_count_170 ⟨Nat.le_of_ble_eq_true rfl, Nat.le_of_ble_eq_true rfl⟩) hP hD hS hA [5, 7, 9] [0, 1, 2, 3, 4, 6, 8, 10, 11] rfl rfl (by decide +kernel) (by decide +kernel) ?_
    clear hP hD hS
    intro r_21 u_23 H locs w_22 hP hD hS
    replace hP : va_P D vwCl [(k, .inr (10, [.ref k0, .ref k1, .ref k2, .ref k3, .ref k4, .ref k5, .ref k6, .ref k7, .ref k8, .ref k9, .ref ka, .ref kb, .int cc])), (k0, .inr (9, [.ref k00, .ref k01, .ref k02, .ref k03, .ref k04, .ref k05, .int c06, .int c07, .int c08])), (k3, .inr (4, [.ref k30, .ref k31, .ref k32, .ref k33, .ref k34, .int c35, .int c36])), (k9, .inr (7, [.ref k90, .int c91, .int c92, .int c93, .int c94])), (kb, .inl (cI, 6, .inl cb)), (k05, .inr (3, [.ref k050, .int c051])), (k044, .inl (cI, 60, .inl c044)), (k046, .inl (cI, 40, .inl c046)), (k050, .inl (cI, 36, .inl c050)), (k04, .inr (8, [.ref k040, .ref k041, .ref k042, .ref k043, .ref k044, .ref k045, .ref k046, .ref k047, .ref k048, .int c049])), (k040, .inl (cI, 60, .inl c040)), (k045, .inl (cI, 60, .inl c045))] H := hP
    replace hD : va_D A [(k, .inr (10, [.ref k0, .ref k1, .ref k2, .ref k3, .ref k4, .ref k5, .ref k6, .ref k7, .ref k8, .ref k9, .ref ka, .ref kb, .int cc])), (k0, .inr (9, [.ref k00, .ref k01, .ref k02, .ref k03, .ref k04, .ref k05, .int c06, .int c07, .int c08])), (k3, .inr (4, [.ref k30, .ref k31, .ref k32, .ref k33, .ref k34, .int c35, .int c36])), (k9, .inr (7, [.ref k90, .int c91, .int c92, .int c93, .int c94])), (kb, .inl (cI, 6, .inl cb)), (k05, .inr (3, [.ref k050, .int c051])), (k044, .inl (cI, 60, .inl c044)), (k046, .inl (cI, 40, .inl c046)), (k050, .inl (cI, 36, .inl c050)), (k04, .inr (8, [.ref k040, .ref k041, .ref k042, .ref k043, .ref k044, .ref k045, .ref k046, .ref k047, .ref k048, .int c049])), (k040, .inl (cI, 60, .inl c040)), (k045, .inl (cI, 60, .inl c045))] := hD
    have lo_r_21 := k_lo r_21
    have hi_r_21 := k_hi r_21
    exact hRet cb [0, 1, 2, 3, 4, 9, 5, 10, 6, 11, 7, 8] trivial hP hD (by decide +kernel) rfl hS rfl dX10_count_173
  by_cases c_24 : a0.toInt = 11
  · refine lv_tableIn (off := 173) (tgt := 174) hx hb dX10_count_1 (by omega) (by omega) (by rw [c_24]; decide) (by decide +kernel) ?_
    refine lv_aload_n hx hb dX10_count_174 rfl (lv_at hl 0 rfl) ?_
    refine va_get (D := D) (ci := 10) (v := .ref k0) (C := RX10) (T := TX10) (N := 13) hx hb hT giX10 hown hK hP 0 rfl rfl 0 (by decide +kernel) (hT (Cond.fieldLink RX10 12 "DesertWire" "now" "LDesertWire$World;") mw_291) (fun _ h9 => h9) rfl dX10_count_175 ?_
    refine va_get (D := D) (ci := 9) (v := .ref k05) (C := RX9) (T := TX9) (N := 9) hx hb hT giX9 hown hK hP 1 rfl rfl 5 (by decide +kernel) (hT (Cond.fieldLink RX10 193 "DesertWire$World" "parties" "LDesertWire$Parties;") mw_102) (fun _ h9 => h9) rfl dX10_count_178 ?_
    refine kJi (wr := [(k, .inr (10, [.ref k0, .ref k1, .ref k2, .ref k3, .ref k4, .ref k5, .ref k6, .ref k7, .ref k8, .ref k9, .ref ka, .ref kb, .int cc])), (k0, .inr (9, [.ref k00, .ref k01, .ref k02, .ref k03, .ref k04, .ref k05, .int c06, .int c07, .int c08])), (k3, .inr (4, [.ref k30, .ref k31, .ref k32, .ref k33, .ref k34, .int c35, .int c36])), (k9, .inr (7, [.ref k90, .int c91, .int c92, .int c93, .int c94])), (kb, .inl (cI, 6, .inl cb)), (k04, .inr (8, [.ref k040, .ref k041, .ref k042, .ref k043, .ref k044, .ref k045, .ref k046, .ref k047, .ref k048, .int c049])), (k040, .inl (cI, 60, .inl c040)), (k044, .inl (cI, 60, .inl c044)), (k045, .inl (cI, 60, .inl c045)), (k046, .inl (cI, 40, .inl c046))]) (va_runV (As := []) (rest := []) ⟨hx, hb, hml, hown, hT⟩ (c_X3_allMenG l D cI aK aV k05 k050 s.heap.size c051 c050) (cwV 0 hT (gV_in mw_1141 mw_1138 mw_1139 mw_1140 mw_4) rfl rfl rfl (by decide +kernel) ⟨Nat.le_of_ble_eq_true rfl, Nat.le_of_ble_eq_true rfl⟩) (kRecvX (q0 := 6) (ci := 3) hK hP hD hN hXS hS hA rfl rfl [6, 11] rfl (by decide +kernel)) rfl rfl hl.1 rfl (lv_room (Nat.le_of_ble_eq_true rfl)) dX10_count_181 ⟨Nat.le_of_ble_eq_true rfl, Nat.le_of_ble_eq_true rfl⟩) hP hD hS hA [6, 11] [0, 1, 2, 3, 4, 5, 7, 8, 9, 10] rfl rfl (by decide +kernel) (by decide +kernel) ?_
    clear hP hD hS
    intro r_25 u_27 H locs w_26 hP hD hS
    replace hP : va_P D vwCl [(k, .inr (10, [.ref k0, .ref k1, .ref k2, .ref k3, .ref k4, .ref k5, .ref k6, .ref k7, .ref k8, .ref k9, .ref ka, .ref kb, .int cc])), (k0, .inr (9, [.ref k00, .ref k01, .ref k02, .ref k03, .ref k04, .ref k05, .int c06, .int c07, .int c08])), (k3, .inr (4, [.ref k30, .ref k31, .ref k32, .ref k33, .ref k34, .int c35, .int c36])), (k9, .inr (7, [.ref k90, .int c91, .int c92, .int c93, .int c94])), (kb, .inl (cI, 6, .inl cb)), (k04, .inr (8, [.ref k040, .ref k041, .ref k042, .ref k043, .ref k044, .ref k045, .ref k046, .ref k047, .ref k048, .int c049])), (k040, .inl (cI, 60, .inl c040)), (k044, .inl (cI, 60, .inl c044)), (k045, .inl (cI, 60, .inl c045)), (k046, .inl (cI, 40, .inl c046)), (k05, .inr (3, [.ref k050, .int c051])), (k050, .inl (cI, 36, .inl c050))] H := hP
    replace hD : va_D A [(k, .inr (10, [.ref k0, .ref k1, .ref k2, .ref k3, .ref k4, .ref k5, .ref k6, .ref k7, .ref k8, .ref k9, .ref ka, .ref kb, .int cc])), (k0, .inr (9, [.ref k00, .ref k01, .ref k02, .ref k03, .ref k04, .ref k05, .int c06, .int c07, .int c08])), (k3, .inr (4, [.ref k30, .ref k31, .ref k32, .ref k33, .ref k34, .int c35, .int c36])), (k9, .inr (7, [.ref k90, .int c91, .int c92, .int c93, .int c94])), (kb, .inl (cI, 6, .inl cb)), (k04, .inr (8, [.ref k040, .ref k041, .ref k042, .ref k043, .ref k044, .ref k045, .ref k046, .ref k047, .ref k048, .int c049])), (k040, .inl (cI, 60, .inl c040)), (k044, .inl (cI, 60, .inl c044)), (k045, .inl (cI, 60, .inl c045)), (k046, .inl (cI, 40, .inl c046)), (k05, .inr (3, [.ref k050, .int c051])), (k050, .inl (cI, 36, .inl c050))] := hD
    have lo_r_25 := k_lo r_25
    have hi_r_25 := k_hi r_25
    exact hRet cb [0, 1, 2, 3, 4, 5, 10, 6, 7, 8, 9, 11] trivial hP hD (by decide +kernel) rfl hS rfl dX10_count_184
  by_cases c_28 : a0.toInt = 12
  · refine lv_tableIn (off := 184) (tgt := 185) hx hb dX10_count_1 (by omega) (by omega) (by rw [c_28]; decide) (by decide +kernel) ?_
    refine lv_aload_n hx hb dX10_count_185 rfl (lv_at hl 0 rfl) ?_
    refine va_get (D := D) (ci := 10) (v := .ref k0) (C := RX10) (T := TX10) (N := 13) hx hb hT giX10 hown hK hP 0 rfl rfl 0 (by decide +kernel) (hT (Cond.fieldLink RX10 12 "DesertWire" "now" "LDesertWire$World;") mw_291) (fun _ h9 => h9) rfl dX10_count_186 ?_
    refine va_get (D := D) (ci := 9) (v := .ref k04) (C := RX9) (T := TX9) (N := 9) hx hb hT giX9 hown hK hP 1 rfl rfl 4 (by decide +kernel) (hT (Cond.fieldLink RX10 99 "DesertWire$World" "works" "LDesertWire$Works;") mw_99) (fun _ h9 => h9) rfl dX10_count_189 ?_
    refine kJi (wr := [(k, .inr (10, [.ref k0, .ref k1, .ref k2, .ref k3, .ref k4, .ref k5, .ref k6, .ref k7, .ref k8, .ref k9, .ref ka, .ref kb, .int cc])), (k0, .inr (9, [.ref k00, .ref k01, .ref k02, .ref k03, .ref k04, .ref k05, .int c06, .int c07, .int c08])), (k3, .inr (4, [.ref k30, .ref k31, .ref k32, .ref k33, .ref k34, .int c35, .int c36])), (k9, .inr (7, [.ref k90, .int c91, .int c92, .int c93, .int c94])), (kb, .inl (cI, 6, .inl cb)), (k05, .inr (3, [.ref k050, .int c051])), (k046, .inl (cI, 40, .inl c046)), (k050, .inl (cI, 36, .inl c050))]) (va_runV (As := []) (rest := []) ⟨hx, hb, hml, hown, hT⟩ (c_X8_storedFoodG l D cI aK aV k04 k040 k041 k042 k043 k044 k045 k046 k047 k048 s.heap.size c049 c040 c044 c045) (cwV 0 hT (gV_in mw_1145 mw_1142 mw_1143 mw_1144 mw_3) rfl rfl rfl (by decide +kernel) ⟨Nat.le_of_ble_eq_true rfl, Nat.le_of_ble_eq_true rfl⟩) (kRecvX (q0 := 5) (ci := 8) hK hP hD hN hXS hS hA rfl rfl [5, 7, 8, 9] rfl (by decide +kernel)) rfl rfl hl.1 rfl (lv_room (Nat.le_of_ble_eq_true rfl)) dX10_count_192 ⟨Nat.le_of_ble_eq_true rfl, Nat.le_of_ble_eq_true rfl⟩) hP hD hS hA [5, 7, 8, 9] [0, 1, 2, 3, 4, 6, 10, 11] rfl rfl (by decide +kernel) (by decide +kernel) ?_
    clear hP hD hS
    intro r_29 u_31 H locs w_30 hP hD hS
    replace hP : va_P D vwCl [(k, .inr (10, [.ref k0, .ref k1, .ref k2, .ref k3, .ref k4, .ref k5, .ref k6, .ref k7, .ref k8, .ref k9, .ref ka, .ref kb, .int cc])), (k0, .inr (9, [.ref k00, .ref k01, .ref k02, .ref k03, .ref k04, .ref k05, .int c06, .int c07, .int c08])), (k3, .inr (4, [.ref k30, .ref k31, .ref k32, .ref k33, .ref k34, .int c35, .int c36])), (k9, .inr (7, [.ref k90, .int c91, .int c92, .int c93, .int c94])), (kb, .inl (cI, 6, .inl cb)), (k05, .inr (3, [.ref k050, .int c051])), (k046, .inl (cI, 40, .inl c046)), (k050, .inl (cI, 36, .inl c050)), (k04, .inr (8, [.ref k040, .ref k041, .ref k042, .ref k043, .ref k044, .ref k045, .ref k046, .ref k047, .ref k048, .int c049])), (k040, .inl (cI, 60, .inl c040)), (k044, .inl (cI, 60, .inl c044)), (k045, .inl (cI, 60, .inl c045))] H := hP
    replace hD : va_D A [(k, .inr (10, [.ref k0, .ref k1, .ref k2, .ref k3, .ref k4, .ref k5, .ref k6, .ref k7, .ref k8, .ref k9, .ref ka, .ref kb, .int cc])), (k0, .inr (9, [.ref k00, .ref k01, .ref k02, .ref k03, .ref k04, .ref k05, .int c06, .int c07, .int c08])), (k3, .inr (4, [.ref k30, .ref k31, .ref k32, .ref k33, .ref k34, .int c35, .int c36])), (k9, .inr (7, [.ref k90, .int c91, .int c92, .int c93, .int c94])), (kb, .inl (cI, 6, .inl cb)), (k05, .inr (3, [.ref k050, .int c051])), (k046, .inl (cI, 40, .inl c046)), (k050, .inl (cI, 36, .inl c050)), (k04, .inr (8, [.ref k040, .ref k041, .ref k042, .ref k043, .ref k044, .ref k045, .ref k046, .ref k047, .ref k048, .int c049])), (k040, .inl (cI, 60, .inl c040)), (k044, .inl (cI, 60, .inl c044)), (k045, .inl (cI, 60, .inl c045))] := hD
    have lo_r_29 := k_lo r_29
    have hi_r_29 := k_hi r_29
    exact hRet cb [0, 1, 2, 3, 4, 8, 5, 9, 10, 11, 6, 7] trivial hP hD (by decide +kernel) rfl hS rfl dX10_count_195
  refine lv_tableOut (tgt := 196) hx hb dX10_count_1 (by omega) (by decide +kernel) ?_
  refine lv_aload_n hx hb dX10_count_196 rfl (lv_at hl 0 rfl) ?_
  refine lv_iconst (v := 1) hx hb dX10_count_197 (by decide +kernel) ?_
  refine kJi (wr := [(k0, .inr (9, [.ref k00, .ref k01, .ref k02, .ref k03, .ref k04, .ref k05, .int c06, .int c07, .int c08])), (k3, .inr (4, [.ref k30, .ref k31, .ref k32, .ref k33, .ref k34, .int c35, .int c36])), (k9, .inr (7, [.ref k90, .int c91, .int c92, .int c93, .int c94])), (k04, .inr (8, [.ref k040, .ref k041, .ref k042, .ref k043, .ref k044, .ref k045, .ref k046, .ref k047, .ref k048, .int c049])), (k05, .inr (3, [.ref k050, .int c051])), (k040, .inl (cI, 60, .inl c040)), (k044, .inl (cI, 60, .inl c044)), (k045, .inl (cI, 60, .inl c045)), (k046, .inl (cI, 40, .inl c046)), (k050, .inl (cI, 36, .inl c050))]) (va_runV (As := [.int 1]) (rest := []) ⟨hx, hb, hml, hown, hT⟩ (c_X10_findingG l D cI aK aV k k0 k1 k2 k3 k4 k5 k6 k7 k8 k9 ka kb s.heap.size cc cb 1) (cwV 1 hT (gV_in mw_338 mw_335 mw_337 mw_p1_0 mw_1) rfl rfl rfl (by decide +kernel) ⟨Nat.le_of_ble_eq_true rfl, Nat.le_of_ble_eq_true rfl⟩) (kRecvX (q0 := 0) (ci := 10) hK hP hD hN hXS hS hA rfl rfl [0, 4] rfl (by decide +kernel)) rfl rfl hl.1 rfl (lv_room (Nat.le_of_ble_eq_true rfl)) dX10_count_198 ⟨Nat.le_of_ble_eq_true rfl, Nat.le_of_ble_eq_true rfl⟩) hP hD hS hA [0, 4] [1, 2, 3, 5, 6, 7, 8, 9, 10, 11] rfl rfl (by decide +kernel) (by decide +kernel) ?_
  clear hP hD hS
  intro r_32 scb_34 H locs w_33 hP hD hS
  replace hP : va_P D vwCl [(k0, .inr (9, [.ref k00, .ref k01, .ref k02, .ref k03, .ref k04, .ref k05, .int c06, .int c07, .int c08])), (k3, .inr (4, [.ref k30, .ref k31, .ref k32, .ref k33, .ref k34, .int c35, .int c36])), (k9, .inr (7, [.ref k90, .int c91, .int c92, .int c93, .int c94])), (k04, .inr (8, [.ref k040, .ref k041, .ref k042, .ref k043, .ref k044, .ref k045, .ref k046, .ref k047, .ref k048, .int c049])), (k05, .inr (3, [.ref k050, .int c051])), (k040, .inl (cI, 60, .inl c040)), (k044, .inl (cI, 60, .inl c044)), (k045, .inl (cI, 60, .inl c045)), (k046, .inl (cI, 40, .inl c046)), (k050, .inl (cI, 36, .inl c050)), (k, .inr (10, [.ref k0, .ref k1, .ref k2, .ref k3, .ref k4, .ref k5, .ref k6, .ref k7, .ref k8, .ref k9, .ref ka, .ref kb, .int cc])), (kb, .inl (cI, 6, .inl scb_34))] H := hP
  replace hD : va_D A [(k0, .inr (9, [.ref k00, .ref k01, .ref k02, .ref k03, .ref k04, .ref k05, .int c06, .int c07, .int c08])), (k3, .inr (4, [.ref k30, .ref k31, .ref k32, .ref k33, .ref k34, .int c35, .int c36])), (k9, .inr (7, [.ref k90, .int c91, .int c92, .int c93, .int c94])), (k04, .inr (8, [.ref k040, .ref k041, .ref k042, .ref k043, .ref k044, .ref k045, .ref k046, .ref k047, .ref k048, .int c049])), (k05, .inr (3, [.ref k050, .int c051])), (k040, .inl (cI, 60, .inl c040)), (k044, .inl (cI, 60, .inl c044)), (k045, .inl (cI, 60, .inl c045)), (k046, .inl (cI, 40, .inl c046)), (k050, .inl (cI, 36, .inl c050)), (k, .inr (10, [.ref k0, .ref k1, .ref k2, .ref k3, .ref k4, .ref k5, .ref k6, .ref k7, .ref k8, .ref k9, .ref ka, .ref kb, .int cc])), (kb, .inl (cI, 6, .inl scb_34))] := hD
  have hr_32 := w_33
  obtain rfl : r_32 = (-1000001) := hr_32.trans (by decide +kernel)
  exact hRet scb_34 [10, 0, 1, 2, 11, 3, 4, 5, 6, 7, 8, 9] trivial hP hD (by decide +kernel) rfl hS rfl dX10_count_201
theorem bn_cX10_found_0 : BN cX10_found 0 0x2b45e1c258056a2b5694c02b7028ac140152824380900a880a1c := by
  unfold BN; decide +kernel
theorem dX10_found_0 : decode cX10_found 0 = .ok (.iload_n 1, 1) := dR0 (k := 0) (i := 0) bn_cX10_found_0 dop_27 (by decide +kernel)
theorem dX10_found_1 : decode cX10_found 1 = .ok (.iconst 1, 1) := dR0 (k := 0) (i := 1) bn_cX10_found_0 dop_4 (by decide +kernel)
theorem dX10_found_2 : decode cX10_found 2 = .ok (.if_icmp .lt 8, 3) := dR2s (f := Instr.if_icmp .lt) (k := 0) (i := 2) bn_cX10_found_0 dop_161 8 8 (by decide +kernel)
theorem dX10_found_5 : decode cX10_found 5 = .ok (.iload_n 1, 1) := dR0 (k := 0) (i := 5) bn_cX10_found_0 dop_27 (by decide +kernel)
theorem dX10_found_6 : decode cX10_found 6 = .ok (.iconst 5, 1) := dR0 (k := 0) (i := 6) bn_cX10_found_0 dop_8 (by decide +kernel)
theorem dX10_found_7 : decode cX10_found 7 = .ok (.if_icmp .le 9, 3) := dR2s (f := Instr.if_icmp .le) (k := 0) (i := 7) bn_cX10_found_0 dop_164 9 9 (by decide +kernel)
theorem dX10_found_10 : decode cX10_found 10 = .ok (.aload_n 0, 1) := dR0 (k := 0) (i := 10) bn_cX10_found_0 dop_42 (by decide +kernel)
theorem dX10_found_11 : decode cX10_found 11 = .ok (.iconst 1, 1) := dR0 (k := 0) (i := 11) bn_cX10_found_0 dop_4 (by decide +kernel)
theorem dX10_found_12 : decode cX10_found 12 = .ok (.invokevirtual 82, 3) := dR2 (f := Instr.invokevirtual) (k := 0) (i := 12) bn_cX10_found_0 dop_182 82 (by decide +kernel)
theorem dX10_found_15 : decode cX10_found 15 = .ok (.ireturn, 1) := dR0 (k := 0) (i := 15) bn_cX10_found_0 dop_172 (by decide +kernel)
theorem dX10_found_16 : decode cX10_found 16 = .ok (.aload_n 0, 1) := dR0 (k := 0) (i := 16) bn_cX10_found_0 dop_42 (by decide +kernel)
theorem dX10_found_17 : decode cX10_found 17 = .ok (.getfield 74, 3) := dR2 (f := Instr.getfield) (k := 0) (i := 17) bn_cX10_found_0 dop_180 74 (by decide +kernel)
theorem dX10_found_20 : decode cX10_found 20 = .ok (.iload_n 1, 1) := dR0 (k := 0) (i := 20) bn_cX10_found_0 dop_27 (by decide +kernel)
theorem dX10_found_21 : decode cX10_found 21 = .ok (.iaload, 1) := dR0 (k := 0) (i := 21) bn_cX10_found_0 dop_46 (by decide +kernel)
theorem dX10_found_22 : decode cX10_found 22 = .ok (.ireturn, 1) := dR0 (k := 0) (i := 22) bn_cX10_found_0 dop_172 (by decide +kernel)
set_option maxHeartbeats 4000000 in
set_option maxRecDepth 100000 in
theorem c_X10_foundG (l : Launch) (D : va_G) (cI : ClassId) (aK aV : Nat → Nat) (k k0 k1 k2 k3 k4 k5 k6 k7 k8 k9 ka kb : Nat) (sz : Nat) (cc : Int32) (cb : Nat → Int32) (a0 : Int32) : Met l yX10_found (gW yX10_found cX10_found 2 (some .int)) ({ frames := 1, cells := 0, slots := 0, locals := 21 } : Room) (kPreX D cI aK aV [.ref k, .int a0] [(k, .inr (10, [.ref k0, .ref k1, .ref k2, .ref k3, .ref k4, .ref k5, .ref k6, .ref k7, .ref k8, .ref k9, .ref ka, .ref kb, .int cc])), (kb, .inl (cI, 6, .inl cb))] sz) (va_Qi (fun (r : Int32) (u : (Nat → Int32)) => True) (fun u t => kWd D cI (va_A [(k, .inr (10, [.ref k0, .ref k1, .ref k2, .ref k3, .ref k4, .ref k5, .ref k6, .ref k7, .ref k8, .ref k9, .ref ka, .ref kb, .int cc])), (kb, .inl (cI, 6, .inl cb))] sz) [(k, .inr (10, [.ref k0, .ref k1, .ref k2, .ref k3, .ref k4, .ref k5, .ref k6, .ref k7, .ref k8, .ref k9, .ref ka, .ref kb, .int cc])), (kb, .inl (cI, 6, .inl u))] t) (va_A [(k, .inr (10, [.ref k0, .ref k1, .ref k2, .ref k3, .ref k4, .ref k5, .ref k6, .ref k7, .ref k8, .ref k9, .ref ka, .ref kb, .int cc])), (kb, .inl (cI, 6, .inl cb))] sz)) 0 0 (va_A [(k, .inr (10, [.ref k0, .ref k1, .ref k2, .ref k3, .ref k4, .ref k5, .ref k6, .ref k7, .ref k8, .ref k9, .ref ka, .ref kb, .int cc])), (kb, .inl (cI, 6, .inl cb))] sz) := by
  refine kMetIX (own := RX10) (by decide +kernel) rfl (Nat.le_of_ble_eq_true rfl) ?_
  intro p e s m args below meth c hx hb hT hown hname hml A Q hK hP hD hS hA hN hXS hRet ls hl
  have hl : lv_has ls 2 [(0, .ref k), (1, .int a0)] := hl
  have lo_a0 := k_lo a0
  have hi_a0 := k_hi a0
  refine lv_iload_n hx hb dX10_found_0 rfl (lv_at hl 1 rfl) ?_
  refine lv_iconst (v := 1) hx hb dX10_found_1 (by decide +kernel) ?_
  refine b_icmp_lt hx hb rfl zl_1 (tgt := 10) dX10_found_2 (by decide +kernel) (fun c_1 => ?_) (fun c_1 => ?_)
  · refine lv_aload_n hx hb dX10_found_10 rfl (lv_at hl 0 rfl) ?_
    refine lv_iconst (v := 1) hx hb dX10_found_11 (by decide +kernel) ?_
    refine kJi (wr := []) (va_runV (As := [.int 1]) (rest := []) ⟨hx, hb, hml, hown, hT⟩ (c_X10_findingG l D cI aK aV k k0 k1 k2 k3 k4 k5 k6 k7 k8 k9 ka kb s.heap.size cc cb 1) (cwV 1 hT (gV_in mw_338 mw_335 mw_337 mw_p1_0 mw_1) rfl rfl rfl (by decide +kernel) ⟨Nat.le_of_ble_eq_true rfl, Nat.le_of_ble_eq_true rfl⟩) (kRecvX (q0 := 0) (ci := 10) hK hP hD hN hXS hS hA rfl rfl [0, 1] rfl (by decide +kernel)) rfl rfl hl.1 rfl (lv_room (Nat.le_of_ble_eq_true rfl)) dX10_found_12 ⟨Nat.le_of_ble_eq_true rfl, Nat.le_of_ble_eq_true rfl⟩) hP hD hS hA [0, 1] [] rfl rfl (by decide +kernel) (by decide +kernel) ?_
    clear hP hD hS
    intro r_2 scb_4 H locs w_3 hP hD hS
    replace hP : va_P D vwCl [(k, .inr (10, [.ref k0, .ref k1, .ref k2, .ref k3, .ref k4, .ref k5, .ref k6, .ref k7, .ref k8, .ref k9, .ref ka, .ref kb, .int cc])), (kb, .inl (cI, 6, .inl scb_4))] H := hP
    replace hD : va_D A [(k, .inr (10, [.ref k0, .ref k1, .ref k2, .ref k3, .ref k4, .ref k5, .ref k6, .ref k7, .ref k8, .ref k9, .ref ka, .ref kb, .int cc])), (kb, .inl (cI, 6, .inl scb_4))] := hD
    have hr_2 := w_3
    obtain rfl : r_2 = (-1000001) := hr_2.trans (by decide +kernel)
    exact hRet scb_4 [0, 1] trivial hP hD (by decide +kernel) rfl hS rfl dX10_found_15
  · refine lv_iload_n hx hb dX10_found_5 rfl (lv_at hl 1 rfl) ?_
    refine lv_iconst (v := 5) hx hb dX10_found_6 (by decide +kernel) ?_
    refine b_icmp_le hx hb rfl zl_5 (tgt := 16) dX10_found_7 (by decide +kernel) (fun c_5 => ?_) (fun c_5 => ?_)
    · refine lv_aload_n hx hb dX10_found_16 rfl (lv_at hl 0 rfl) ?_
      refine va_get (D := D) (ci := 10) (v := .ref kb) (C := RX10) (T := TX10) (N := 13) hx hb hT giX10 hown hK hP 0 rfl rfl 11 (by decide +kernel) (hT (Cond.fieldLink RX10 74 "DesertWire" "findings" "[I") mw_302) (fun _ h9 => h9) rfl dX10_found_17 ?_
      refine lv_iload_n hx hb dX10_found_20 rfl (lv_at hl 1 rfl) ?_
      refine k_iald (v := (cb a0.toNatClampNeg)) hx hb hK hP 1 0 rfl rfl (k_in (by omega) (by omega)) rfl dX10_found_21 ?_
      refine lv_topi (fun v_6 ev_6 => ?_)
      have lo_v_6 := k_lo v_6
      have hi_v_6 := k_hi v_6
      have tv_6 : v_6.toInt = (cb a0.toNatClampNeg).toInt := by rw [ev_6]
      exact hRet cb [0, 1] trivial hP hD (by decide +kernel) rfl hS rfl dX10_found_22
    · refine lv_aload_n hx hb dX10_found_10 rfl (lv_at hl 0 rfl) ?_
      refine lv_iconst (v := 1) hx hb dX10_found_11 (by decide +kernel) ?_
      refine kJi (wr := []) (va_runV (As := [.int 1]) (rest := []) ⟨hx, hb, hml, hown, hT⟩ (c_X10_findingG l D cI aK aV k k0 k1 k2 k3 k4 k5 k6 k7 k8 k9 ka kb s.heap.size cc cb 1) (cwV 1 hT (gV_in mw_338 mw_335 mw_337 mw_p1_0 mw_1) rfl rfl rfl (by decide +kernel) ⟨Nat.le_of_ble_eq_true rfl, Nat.le_of_ble_eq_true rfl⟩) (kRecvX (q0 := 0) (ci := 10) hK hP hD hN hXS hS hA rfl rfl [0, 1] rfl (by decide +kernel)) rfl rfl hl.1 rfl (lv_room (Nat.le_of_ble_eq_true rfl)) dX10_found_12 ⟨Nat.le_of_ble_eq_true rfl, Nat.le_of_ble_eq_true rfl⟩) hP hD hS hA [0, 1] [] rfl rfl (by decide +kernel) (by decide +kernel) ?_
      clear hP hD hS
      intro r_7 scb_9 H locs w_8 hP hD hS
      replace hP : va_P D vwCl [(k, .inr (10, [.ref k0, .ref k1, .ref k2, .ref k3, .ref k4, .ref k5, .ref k6, .ref k7, .ref k8, .ref k9, .ref ka, .ref kb, .int cc])), (kb, .inl (cI, 6, .inl scb_9))] H := hP
      replace hD : va_D A [(k, .inr (10, [.ref k0, .ref k1, .ref k2, .ref k3, .ref k4, .ref k5, .ref k6, .ref k7, .ref k8, .ref k9, .ref ka, .ref kb, .int cc])), (kb, .inl (cI, 6, .inl scb_9))] := hD
      have hr_7 := w_8
      obtain rfl : r_7 = (-1000001) := hr_7.trans (by decide +kernel)
      exact hRet scb_9 [0, 1] trivial hP hD (by decide +kernel) rfl hS rfl dX10_found_15
theorem bn_cX10_days_0 : BN cX10_days 0 0xad370056a0d00ad456f2802a004034293c04b7068056a2b08805461c0e8f808ad298056e051582802a56882024610e1b802b5068056a2b0980548c900848381a00a880a1c := by
  unfold BN; decide +kernel
theorem dX10_days_0 : decode cX10_days 0 = .ok (.iload_n 1, 1) := dR0 (k := 0) (i := 0) bn_cX10_days_0 dop_27 (by decide +kernel)
theorem dX10_days_1 : decode cX10_days 1 = .ok (.iconst 1, 1) := dR0 (k := 0) (i := 1) bn_cX10_days_0 dop_4 (by decide +kernel)
theorem dX10_days_2 : decode cX10_days 2 = .ok (.if_icmp .lt 25, 3) := dR2s (f := Instr.if_icmp .lt) (k := 0) (i := 2) bn_cX10_days_0 dop_161 25 25 (by decide +kernel)
theorem dX10_days_5 : decode cX10_days 5 = .ok (.iload_n 1, 1) := dR0 (k := 0) (i := 5) bn_cX10_days_0 dop_27 (by decide +kernel)
theorem dX10_days_6 : decode cX10_days 6 = .ok (.sipush 200, 3) := dR2s (f := Instr.sipush) (k := 0) (i := 6) bn_cX10_days_0 dop_17 200 200 (by decide +kernel)
theorem dX10_days_9 : decode cX10_days 9 = .ok (.if_icmp .gt 18, 3) := dR2s (f := Instr.if_icmp .gt) (k := 0) (i := 9) bn_cX10_days_0 dop_163 18 18 (by decide +kernel)
theorem dX10_days_12 : decode cX10_days 12 = .ok (.aload_n 0, 1) := dR0 (k := 0) (i := 12) bn_cX10_days_0 dop_42 (by decide +kernel)
theorem dX10_days_13 : decode cX10_days 13 = .ok (.getfield 12, 3) := dR2 (f := Instr.getfield) (k := 0) (i := 13) bn_cX10_days_0 dop_180 12 (by decide +kernel)
theorem dX10_days_16 : decode cX10_days 16 = .ok (.getfield 109, 3) := dR2 (f := Instr.getfield) (k := 0) (i := 16) bn_cX10_days_0 dop_180 109 (by decide +kernel)
theorem dX10_days_19 : decode cX10_days 19 = .ok (.iload_n 1, 1) := dR0 (k := 0) (i := 19) bn_cX10_days_0 dop_27 (by decide +kernel)
theorem dX10_days_20 : decode cX10_days 20 = .ok (.iadd, 1) := dR0 (k := 0) (i := 20) bn_cX10_days_0 dop_96 (by decide +kernel)
theorem dX10_days_21 : decode cX10_days 21 = .ok (.sipush 2000, 3) := dR2s (f := Instr.sipush) (k := 0) (i := 21) bn_cX10_days_0 dop_17 2000 2000 (by decide +kernel)
theorem dX10_days_24 : decode cX10_days 24 = .ok (.if_icmp .le 9, 3) := dR2s (f := Instr.if_icmp .le) (k := 0) (i := 24) bn_cX10_days_0 dop_164 9 9 (by decide +kernel)
theorem dX10_days_27 : decode cX10_days 27 = .ok (.aload_n 0, 1) := dR0 (k := 0) (i := 27) bn_cX10_days_0 dop_42 (by decide +kernel)
theorem dX10_days_28 : decode cX10_days 28 = .ok (.iconst 1, 1) := dR0 (k := 0) (i := 28) bn_cX10_days_0 dop_4 (by decide +kernel)
theorem dX10_days_29 : decode cX10_days 29 = .ok (.invokevirtual 82, 3) := dR2 (f := Instr.invokevirtual) (k := 0) (i := 29) bn_cX10_days_0 dop_182 82 (by decide +kernel)
theorem dX10_days_32 : decode cX10_days 32 = .ok (.ireturn, 1) := dR0 (k := 0) (i := 32) bn_cX10_days_0 dop_172 (by decide +kernel)
theorem dX10_days_33 : decode cX10_days 33 = .ok (.iconst 0, 1) := dR0 (k := 0) (i := 33) bn_cX10_days_0 dop_3 (by decide +kernel)
theorem dX10_days_34 : decode cX10_days 34 = .ok (.istore_n 2, 1) := dR0 (k := 0) (i := 34) bn_cX10_days_0 dop_61 (by decide +kernel)
theorem dX10_days_35 : decode cX10_days 35 = .ok (.iload_n 2, 1) := dR0 (k := 0) (i := 35) bn_cX10_days_0 dop_28 (by decide +kernel)
theorem dX10_days_36 : decode cX10_days 36 = .ok (.iload_n 1, 1) := dR0 (k := 0) (i := 36) bn_cX10_days_0 dop_27 (by decide +kernel)
theorem dX10_days_37 : decode cX10_days 37 = .ok (.if_icmp .ge 16, 3) := dR2s (f := Instr.if_icmp .ge) (k := 0) (i := 37) bn_cX10_days_0 dop_162 16 16 (by decide +kernel)
theorem dX10_days_40 : decode cX10_days 40 = .ok (.aload_n 0, 1) := dR0 (k := 0) (i := 40) bn_cX10_days_0 dop_42 (by decide +kernel)
theorem dX10_days_41 : decode cX10_days 41 = .ok (.getfield 12, 3) := dR2 (f := Instr.getfield) (k := 0) (i := 41) bn_cX10_days_0 dop_180 12 (by decide +kernel)
theorem dX10_days_44 : decode cX10_days 44 = .ok (.invokevirtual 334, 3) := dR2 (f := Instr.invokevirtual) (k := 0) (i := 44) bn_cX10_days_0 dop_182 334 (by decide +kernel)
theorem dX10_days_47 : decode cX10_days 47 = .ok (.iinc 2 1, 3) := dRii (f := Instr.iinc) (k := 0) (i := 47) bn_cX10_days_0 dop_132 2 1 1 (by decide +kernel)
theorem dX10_days_50 : decode cX10_days 50 = .ok (.goto (-15), 3) := dR2s (f := Instr.goto) (k := 0) (i := 50) bn_cX10_days_0 dop_167 65521 (-15) (by decide +kernel)
theorem dX10_days_53 : decode cX10_days 53 = .ok (.aload_n 0, 1) := dR0 (k := 0) (i := 53) bn_cX10_days_0 dop_42 (by decide +kernel)
theorem dX10_days_54 : decode cX10_days 54 = .ok (.getfield 12, 3) := dR2 (f := Instr.getfield) (k := 0) (i := 54) bn_cX10_days_0 dop_180 12 (by decide +kernel)
theorem dX10_days_57 : decode cX10_days 57 = .ok (.getfield 109, 3) := dR2 (f := Instr.getfield) (k := 0) (i := 57) bn_cX10_days_0 dop_180 109 (by decide +kernel)
theorem dX10_days_60 : decode cX10_days 60 = .ok (.ireturn, 1) := dR0 (k := 0) (i := 60) bn_cX10_days_0 dop_172 (by decide +kernel)

theorem bn_cX10_image_0 : BN cX10_image 0 0xad278056a2b278056c610293c02b52d0acf6025b86802b51587802b51594804b7068056a2b088056a2b := by
  unfold BN; decide +kernel
theorem dX10_image_0 : decode cX10_image 0 = .ok (.aload_n 0, 1) := dR0 (k := 0) (i := 0) bn_cX10_image_0 dop_42 (by decide +kernel)
theorem dX10_image_1 : decode cX10_image 1 = .ok (.getfield 16, 3) := dR2 (f := Instr.getfield) (k := 0) (i := 1) bn_cX10_image_0 dop_180 16 (by decide +kernel)
theorem dX10_image_4 : decode cX10_image 4 = .ok (.aload_n 0, 1) := dR0 (k := 0) (i := 4) bn_cX10_image_0 dop_42 (by decide +kernel)
theorem dX10_image_5 : decode cX10_image 5 = .ok (.getfield 12, 3) := dR2 (f := Instr.getfield) (k := 0) (i := 5) bn_cX10_image_0 dop_180 12 (by decide +kernel)
theorem dX10_image_8 : decode cX10_image 8 = .ok (.invokevirtual 337, 3) := dR2 (f := Instr.invokevirtual) (k := 0) (i := 8) bn_cX10_image_0 dop_182 337 (by decide +kernel)
theorem dX10_image_11 : decode cX10_image 11 = .ok (.aload_n 0, 1) := dR0 (k := 0) (i := 11) bn_cX10_image_0 dop_42 (by decide +kernel)
theorem dX10_image_12 : decode cX10_image 12 = .ok (.getfield 29, 3) := dR2 (f := Instr.getfield) (k := 0) (i := 12) bn_cX10_image_0 dop_180 29 (by decide +kernel)
theorem dX10_image_15 : decode cX10_image 15 = .ok (.aload_n 0, 1) := dR0 (k := 0) (i := 15) bn_cX10_image_0 dop_42 (by decide +kernel)
theorem dX10_image_16 : decode cX10_image 16 = .ok (.getfield 25, 3) := dR2 (f := Instr.getfield) (k := 0) (i := 16) bn_cX10_image_0 dop_180 25 (by decide +kernel)
theorem dX10_image_19 : decode cX10_image 19 = .ok (.invokevirtual 378, 3) := dR2 (f := Instr.invokevirtual) (k := 0) (i := 19) bn_cX10_image_0 dop_182 378 (by decide +kernel)
theorem dX10_image_22 : decode cX10_image 22 = .ok (.aload_n 0, 1) := dR0 (k := 0) (i := 22) bn_cX10_image_0 dop_42 (by decide +kernel)
theorem dX10_image_23 : decode cX10_image 23 = .ok (.dup, 1) := dR0 (k := 0) (i := 23) bn_cX10_image_0 dop_89 (by decide +kernel)
theorem dX10_image_24 : decode cX10_image 24 = .ok (.getfield 78, 3) := dR2 (f := Instr.getfield) (k := 0) (i := 24) bn_cX10_image_0 dop_180 78 (by decide +kernel)
theorem dX10_image_27 : decode cX10_image 27 = .ok (.iconst 1, 1) := dR0 (k := 0) (i := 27) bn_cX10_image_0 dop_4 (by decide +kernel)
theorem dX10_image_28 : decode cX10_image 28 = .ok (.iadd, 1) := dR0 (k := 0) (i := 28) bn_cX10_image_0 dop_96 (by decide +kernel)
theorem dX10_image_29 : decode cX10_image 29 = .ok (.putfield 78, 3) := dR2 (f := Instr.putfield) (k := 0) (i := 29) bn_cX10_image_0 dop_181 78 (by decide +kernel)
theorem dX10_image_32 : decode cX10_image 32 = .ok (.aload_n 0, 1) := dR0 (k := 0) (i := 32) bn_cX10_image_0 dop_42 (by decide +kernel)
theorem dX10_image_33 : decode cX10_image 33 = .ok (.getfield 78, 3) := dR2 (f := Instr.getfield) (k := 0) (i := 33) bn_cX10_image_0 dop_180 78 (by decide +kernel)
theorem dX10_image_36 : decode cX10_image 36 = .ok (.ireturn, 1) := dR0 (k := 0) (i := 36) bn_cX10_image_0 dop_172 (by decide +kernel)

theorem bn_cX10_restore_0 : BN cX10_restore 0 0x2b4dc015a83402b5159ec04b70f0056a2b0d0056a2b290096e1100ad4560d00ad456ad298056e0615828029b278056a2b := by
  unfold BN; decide +kernel
theorem dX10_restore_0 : decode cX10_restore 0 = .ok (.aload_n 0, 1) := dR0 (k := 0) (i := 0) bn_cX10_restore_0 dop_42 (by decide +kernel)
theorem dX10_restore_1 : decode cX10_restore 1 = .ok (.getfield 78, 3) := dR2 (f := Instr.getfield) (k := 0) (i := 1) bn_cX10_restore_0 dop_180 78 (by decide +kernel)
theorem dX10_restore_4 : decode cX10_restore 4 = .ok (.ifCond .ne 9, 3) := dR2s (f := Instr.ifCond .ne) (k := 0) (i := 4) bn_cX10_restore_0 dop_154 9 9 (by decide +kernel)
theorem dX10_restore_7 : decode cX10_restore 7 = .ok (.aload_n 0, 1) := dR0 (k := 0) (i := 7) bn_cX10_restore_0 dop_42 (by decide +kernel)
theorem dX10_restore_8 : decode cX10_restore 8 = .ok (.iconst 2, 1) := dR0 (k := 0) (i := 8) bn_cX10_restore_0 dop_5 (by decide +kernel)
theorem dX10_restore_9 : decode cX10_restore 9 = .ok (.invokevirtual 82, 3) := dR2 (f := Instr.invokevirtual) (k := 0) (i := 9) bn_cX10_restore_0 dop_182 82 (by decide +kernel)
theorem dX10_restore_12 : decode cX10_restore 12 = .ok (.ireturn, 1) := dR0 (k := 0) (i := 12) bn_cX10_restore_0 dop_172 (by decide +kernel)
theorem dX10_restore_13 : decode cX10_restore 13 = .ok (.aload_n 0, 1) := dR0 (k := 0) (i := 13) bn_cX10_restore_0 dop_42 (by decide +kernel)
theorem dX10_restore_14 : decode cX10_restore 14 = .ok (.getfield 12, 3) := dR2 (f := Instr.getfield) (k := 0) (i := 14) bn_cX10_restore_0 dop_180 12 (by decide +kernel)
theorem dX10_restore_17 : decode cX10_restore 17 = .ok (.aload_n 0, 1) := dR0 (k := 0) (i := 17) bn_cX10_restore_0 dop_42 (by decide +kernel)
theorem dX10_restore_18 : decode cX10_restore 18 = .ok (.getfield 16, 3) := dR2 (f := Instr.getfield) (k := 0) (i := 18) bn_cX10_restore_0 dop_180 16 (by decide +kernel)
theorem dX10_restore_21 : decode cX10_restore 21 = .ok (.invokevirtual 337, 3) := dR2 (f := Instr.invokevirtual) (k := 0) (i := 21) bn_cX10_restore_0 dop_182 337 (by decide +kernel)
theorem dX10_restore_24 : decode cX10_restore 24 = .ok (.aload_n 0, 1) := dR0 (k := 0) (i := 24) bn_cX10_restore_0 dop_42 (by decide +kernel)
theorem dX10_restore_25 : decode cX10_restore 25 = .ok (.getfield 25, 3) := dR2 (f := Instr.getfield) (k := 0) (i := 25) bn_cX10_restore_0 dop_180 25 (by decide +kernel)
theorem dX10_restore_28 : decode cX10_restore 28 = .ok (.aload_n 0, 1) := dR0 (k := 0) (i := 28) bn_cX10_restore_0 dop_42 (by decide +kernel)
theorem dX10_restore_29 : decode cX10_restore 29 = .ok (.getfield 29, 3) := dR2 (f := Instr.getfield) (k := 0) (i := 29) bn_cX10_restore_0 dop_180 29 (by decide +kernel)
theorem dX10_restore_32 : decode cX10_restore 32 = .ok (.invokevirtual 378, 3) := dR2 (f := Instr.invokevirtual) (k := 0) (i := 32) bn_cX10_restore_0 dop_182 378 (by decide +kernel)
theorem dX10_restore_35 : decode cX10_restore 35 = .ok (.aload_n 0, 1) := dR0 (k := 0) (i := 35) bn_cX10_restore_0 dop_42 (by decide +kernel)
theorem dX10_restore_36 : decode cX10_restore 36 = .ok (.getfield 12, 3) := dR2 (f := Instr.getfield) (k := 0) (i := 36) bn_cX10_restore_0 dop_180 12 (by decide +kernel)
theorem dX10_restore_39 : decode cX10_restore 39 = .ok (.getfield 109, 3) := dR2 (f := Instr.getfield) (k := 0) (i := 39) bn_cX10_restore_0 dop_180 109 (by decide +kernel)
theorem dX10_restore_42 : decode cX10_restore 42 = .ok (.ireturn, 1) := dR0 (k := 0) (i := 42) bn_cX10_restore_0 dop_172 (by decide +kernel)

theorem bn_cX10_tell_0 : BN cX10_tell 0 0xad3f0096a0d00ad4567e012d8c2053f0096a5a068056a2b28070fc025a83402b515a0404b5068056a2b5694c02b7040ac140151054227e012d41a015a8ac20014e1f804b5068056a2b := by
  unfold BN; decide +kernel
theorem dX10_tell_0 : decode cX10_tell 0 = .ok (.aload_n 0, 1) := dR0 (k := 0) (i := 0) bn_cX10_tell_0 dop_42 (by decide +kernel)
theorem dX10_tell_1 : decode cX10_tell 1 = .ok (.getfield 12, 3) := dR2 (f := Instr.getfield) (k := 0) (i := 1) bn_cX10_tell_0 dop_180 12 (by decide +kernel)
theorem dX10_tell_4 : decode cX10_tell 4 = .ok (.getfield 381, 3) := dR2 (f := Instr.getfield) (k := 0) (i := 4) bn_cX10_tell_0 dop_180 381 (by decide +kernel)
theorem dX10_tell_7 : decode cX10_tell 7 = .ok (.ifCond .lt 15, 3) := dR2s (f := Instr.ifCond .lt) (k := 0) (i := 7) bn_cX10_tell_0 dop_155 15 15 (by decide +kernel)
theorem dX10_tell_10 : decode cX10_tell 10 = .ok (.aload_n 0, 1) := dR0 (k := 0) (i := 10) bn_cX10_tell_0 dop_42 (by decide +kernel)
theorem dX10_tell_11 : decode cX10_tell 11 = .ok (.getfield 12, 3) := dR2 (f := Instr.getfield) (k := 0) (i := 11) bn_cX10_tell_0 dop_180 12 (by decide +kernel)
theorem dX10_tell_14 : decode cX10_tell 14 = .ok (.getfield 381, 3) := dR2 (f := Instr.getfield) (k := 0) (i := 14) bn_cX10_tell_0 dop_180 381 (by decide +kernel)
theorem dX10_tell_17 : decode cX10_tell 17 = .ok (.bipush 20, 2) := dR1s (f := Instr.bipush) (k := 0) (i := 17) bn_cX10_tell_0 dop_16 20 20 (by decide +kernel)
theorem dX10_tell_19 : decode cX10_tell 19 = .ok (.if_icmp .lt 9, 3) := dR2s (f := Instr.if_icmp .lt) (k := 0) (i := 19) bn_cX10_tell_0 dop_161 9 9 (by decide +kernel)
theorem dX10_tell_22 : decode cX10_tell 22 = .ok (.aload_n 0, 1) := dR0 (k := 0) (i := 22) bn_cX10_tell_0 dop_42 (by decide +kernel)
theorem dX10_tell_23 : decode cX10_tell 23 = .ok (.iconst 4, 1) := dR0 (k := 0) (i := 23) bn_cX10_tell_0 dop_7 (by decide +kernel)
theorem dX10_tell_24 : decode cX10_tell 24 = .ok (.invokevirtual 82, 3) := dR2 (f := Instr.invokevirtual) (k := 0) (i := 24) bn_cX10_tell_0 dop_182 82 (by decide +kernel)
theorem dX10_tell_27 : decode cX10_tell 27 = .ok (.ireturn, 1) := dR0 (k := 0) (i := 27) bn_cX10_tell_0 dop_172 (by decide +kernel)
theorem dX10_tell_28 : decode cX10_tell 28 = .ok (.aload_n 0, 1) := dR0 (k := 0) (i := 28) bn_cX10_tell_0 dop_42 (by decide +kernel)
theorem dX10_tell_29 : decode cX10_tell 29 = .ok (.getfield 12, 3) := dR2 (f := Instr.getfield) (k := 0) (i := 29) bn_cX10_tell_0 dop_180 12 (by decide +kernel)
theorem dX10_tell_32 : decode cX10_tell 32 = .ok (.getfield 384, 3) := dR2 (f := Instr.getfield) (k := 0) (i := 32) bn_cX10_tell_0 dop_180 384 (by decide +kernel)
theorem dX10_tell_35 : decode cX10_tell 35 = .ok (.aload_n 0, 1) := dR0 (k := 0) (i := 35) bn_cX10_tell_0 dop_42 (by decide +kernel)
theorem dX10_tell_36 : decode cX10_tell 36 = .ok (.getfield 12, 3) := dR2 (f := Instr.getfield) (k := 0) (i := 36) bn_cX10_tell_0 dop_180 12 (by decide +kernel)
theorem dX10_tell_39 : decode cX10_tell 39 = .ok (.getfield 381, 3) := dR2 (f := Instr.getfield) (k := 0) (i := 39) bn_cX10_tell_0 dop_180 381 (by decide +kernel)
theorem dX10_tell_42 : decode cX10_tell 42 = .ok (.iload_n 1, 1) := dR0 (k := 0) (i := 42) bn_cX10_tell_0 dop_27 (by decide +kernel)
theorem dX10_tell_43 : decode cX10_tell 43 = .ok (.iastore, 1) := dR0 (k := 0) (i := 43) bn_cX10_tell_0 dop_79 (by decide +kernel)
theorem dX10_tell_44 : decode cX10_tell 44 = .ok (.aload_n 0, 1) := dR0 (k := 0) (i := 44) bn_cX10_tell_0 dop_42 (by decide +kernel)
theorem dX10_tell_45 : decode cX10_tell 45 = .ok (.getfield 12, 3) := dR2 (f := Instr.getfield) (k := 0) (i := 45) bn_cX10_tell_0 dop_180 12 (by decide +kernel)
theorem dX10_tell_48 : decode cX10_tell 48 = .ok (.dup, 1) := dR0 (k := 0) (i := 48) bn_cX10_tell_0 dop_89 (by decide +kernel)
theorem dX10_tell_49 : decode cX10_tell 49 = .ok (.getfield 381, 3) := dR2 (f := Instr.getfield) (k := 0) (i := 49) bn_cX10_tell_0 dop_180 381 (by decide +kernel)
theorem dX10_tell_52 : decode cX10_tell 52 = .ok (.iconst 1, 1) := dR0 (k := 0) (i := 52) bn_cX10_tell_0 dop_4 (by decide +kernel)
theorem dX10_tell_53 : decode cX10_tell 53 = .ok (.iadd, 1) := dR0 (k := 0) (i := 53) bn_cX10_tell_0 dop_96 (by decide +kernel)
theorem dX10_tell_54 : decode cX10_tell 54 = .ok (.putfield 381, 3) := dR2 (f := Instr.putfield) (k := 0) (i := 54) bn_cX10_tell_0 dop_181 381 (by decide +kernel)
theorem dX10_tell_57 : decode cX10_tell 57 = .ok (.aload_n 0, 1) := dR0 (k := 0) (i := 57) bn_cX10_tell_0 dop_42 (by decide +kernel)
theorem dX10_tell_58 : decode cX10_tell 58 = .ok (.getfield 12, 3) := dR2 (f := Instr.getfield) (k := 0) (i := 58) bn_cX10_tell_0 dop_180 12 (by decide +kernel)
theorem dX10_tell_61 : decode cX10_tell 61 = .ok (.getfield 381, 3) := dR2 (f := Instr.getfield) (k := 0) (i := 61) bn_cX10_tell_0 dop_180 381 (by decide +kernel)
theorem dX10_tell_64 : decode cX10_tell 64 = .ok (.ireturn, 1) := dR0 (k := 0) (i := 64) bn_cX10_tell_0 dop_172 (by decide +kernel)

