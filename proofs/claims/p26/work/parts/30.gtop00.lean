theorem bn_cX10_rain_0 : BN cX10_rain 0 0x56878a01d0e15c02b5068056a2b1f8bc385700ad41a015a8ad5a5300adc0a2b050054a0a0887414014e0741c0151834221c0a005381c := by
  unfold BN; decide +kernel
theorem dX10_rain_0 : decode cX10_rain 0 = .ok (.iload_n 1, 1) := dR0 (k := 0) (i := 0) bn_cX10_rain_0 dop_27 (by decide +kernel)
theorem dX10_rain_1 : decode cX10_rain 1 = .ok (.ifCond .lt 19, 3) := dR2s (f := Instr.ifCond .lt) (k := 0) (i := 1) bn_cX10_rain_0 dop_155 19 19 (by decide +kernel)
theorem dX10_rain_4 : decode cX10_rain 4 = .ok (.iload_n 1, 1) := dR0 (k := 0) (i := 4) bn_cX10_rain_0 dop_27 (by decide +kernel)
theorem dX10_rain_5 : decode cX10_rain 5 = .ok (.bipush 12, 2) := dR1s (f := Instr.bipush) (k := 0) (i := 5) bn_cX10_rain_0 dop_16 12 12 (by decide +kernel)
theorem dX10_rain_7 : decode cX10_rain 7 = .ok (.if_icmp .ge 13, 3) := dR2s (f := Instr.if_icmp .ge) (k := 0) (i := 7) bn_cX10_rain_0 dop_162 13 13 (by decide +kernel)
theorem dX10_rain_10 : decode cX10_rain 10 = .ok (.iload_n 2, 1) := dR0 (k := 0) (i := 10) bn_cX10_rain_0 dop_28 (by decide +kernel)
theorem dX10_rain_11 : decode cX10_rain 11 = .ok (.ifCond .lt 9, 3) := dR2s (f := Instr.ifCond .lt) (k := 0) (i := 11) bn_cX10_rain_0 dop_155 9 9 (by decide +kernel)
theorem dX10_rain_14 : decode cX10_rain 14 = .ok (.iload_n 2, 1) := dR0 (k := 0) (i := 14) bn_cX10_rain_0 dop_28 (by decide +kernel)
theorem dX10_rain_15 : decode cX10_rain 15 = .ok (.bipush 9, 2) := dR1s (f := Instr.bipush) (k := 0) (i := 15) bn_cX10_rain_0 dop_16 9 9 (by decide +kernel)
theorem dX10_rain_17 : decode cX10_rain 17 = .ok (.if_icmp .le 9, 3) := dR2s (f := Instr.if_icmp .le) (k := 0) (i := 17) bn_cX10_rain_0 dop_164 9 9 (by decide +kernel)
theorem dX10_rain_20 : decode cX10_rain 20 = .ok (.aload_n 0, 1) := dR0 (k := 0) (i := 20) bn_cX10_rain_0 dop_42 (by decide +kernel)
theorem dX10_rain_21 : decode cX10_rain 21 = .ok (.iconst 1, 1) := dR0 (k := 0) (i := 21) bn_cX10_rain_0 dop_4 (by decide +kernel)
theorem dX10_rain_22 : decode cX10_rain 22 = .ok (.invokevirtual 82, 3) := dR2 (f := Instr.invokevirtual) (k := 0) (i := 22) bn_cX10_rain_0 dop_182 82 (by decide +kernel)
theorem dX10_rain_25 : decode cX10_rain 25 = .ok (.ireturn, 1) := dR0 (k := 0) (i := 25) bn_cX10_rain_0 dop_172 (by decide +kernel)
theorem dX10_rain_26 : decode cX10_rain 26 = .ok (.aload_n 0, 1) := dR0 (k := 0) (i := 26) bn_cX10_rain_0 dop_42 (by decide +kernel)
theorem dX10_rain_27 : decode cX10_rain 27 = .ok (.getfield 12, 3) := dR2 (f := Instr.getfield) (k := 0) (i := 27) bn_cX10_rain_0 dop_180 12 (by decide +kernel)
theorem dX10_rain_30 : decode cX10_rain 30 = .ok (.getfield 86, 3) := dR2 (f := Instr.getfield) (k := 0) (i := 30) bn_cX10_rain_0 dop_180 86 (by decide +kernel)
theorem dX10_rain_33 : decode cX10_rain 33 = .ok (.iload_n 1, 1) := dR0 (k := 0) (i := 33) bn_cX10_rain_0 dop_27 (by decide +kernel)
theorem dX10_rain_34 : decode cX10_rain 34 = .ok (.iaload, 1) := dR0 (k := 0) (i := 34) bn_cX10_rain_0 dop_46 (by decide +kernel)
theorem dX10_rain_35 : decode cX10_rain 35 = .ok (.istore_n 3, 1) := dR0 (k := 0) (i := 35) bn_cX10_rain_0 dop_62 (by decide +kernel)
theorem dX10_rain_36 : decode cX10_rain 36 = .ok (.aload_n 0, 1) := dR0 (k := 0) (i := 36) bn_cX10_rain_0 dop_42 (by decide +kernel)
theorem dX10_rain_37 : decode cX10_rain 37 = .ok (.getfield 12, 3) := dR2 (f := Instr.getfield) (k := 0) (i := 37) bn_cX10_rain_0 dop_180 12 (by decide +kernel)
theorem dX10_rain_40 : decode cX10_rain 40 = .ok (.getfield 86, 3) := dR2 (f := Instr.getfield) (k := 0) (i := 40) bn_cX10_rain_0 dop_180 86 (by decide +kernel)
theorem dX10_rain_43 : decode cX10_rain 43 = .ok (.iload_n 1, 1) := dR0 (k := 0) (i := 43) bn_cX10_rain_0 dop_27 (by decide +kernel)
theorem dX10_rain_44 : decode cX10_rain 44 = .ok (.iload_n 2, 1) := dR0 (k := 0) (i := 44) bn_cX10_rain_0 dop_28 (by decide +kernel)
theorem dX10_rain_45 : decode cX10_rain 45 = .ok (.iastore, 1) := dR0 (k := 0) (i := 45) bn_cX10_rain_0 dop_79 (by decide +kernel)
theorem dX10_rain_46 : decode cX10_rain 46 = .ok (.iload_n 3, 1) := dR0 (k := 0) (i := 46) bn_cX10_rain_0 dop_29 (by decide +kernel)
theorem dX10_rain_47 : decode cX10_rain 47 = .ok (.ireturn, 1) := dR0 (k := 0) (i := 47) bn_cX10_rain_0 dop_172 (by decide +kernel)

theorem bn_cX10_land_0 : BN cX10_land 0 0x2b40a1628078386100ad41a015a8aca01d0e17802b5068056a2b028dcc22f0e18402b5068056a2b348bc385e00ad41a015a8acca115694c02b7028ac140152990221e05005381e0700548060e84c029c0e85c029a2d005721c := by
  unfold BN; decide +kernel
theorem dX10_land_0 : decode cX10_land 0 = .ok (.iload_n 1, 1) := dR0 (k := 0) (i := 0) bn_cX10_land_0 dop_27 (by decide +kernel)
theorem dX10_land_1 : decode cX10_land 1 = .ok (.invokestatic 89, 3) := dR2 (f := Instr.invokestatic) (k := 0) (i := 1) bn_cX10_land_0 dop_184 89 (by decide +kernel)
theorem dX10_land_4 : decode cX10_land 4 = .ok (.ifCond .eq 22, 3) := dR2s (f := Instr.ifCond .eq) (k := 0) (i := 4) bn_cX10_land_0 dop_153 22 22 (by decide +kernel)
theorem dX10_land_7 : decode cX10_land 7 = .ok (.iload_n 2, 1) := dR0 (k := 0) (i := 7) bn_cX10_land_0 dop_28 (by decide +kernel)
theorem dX10_land_8 : decode cX10_land 8 = .ok (.ifCond .lt 18, 3) := dR2s (f := Instr.ifCond .lt) (k := 0) (i := 8) bn_cX10_land_0 dop_155 18 18 (by decide +kernel)
theorem dX10_land_11 : decode cX10_land 11 = .ok (.iload_n 2, 1) := dR0 (k := 0) (i := 11) bn_cX10_land_0 dop_28 (by decide +kernel)
theorem dX10_land_12 : decode cX10_land 12 = .ok (.iconst 2, 1) := dR0 (k := 0) (i := 12) bn_cX10_land_0 dop_5 (by decide +kernel)
theorem dX10_land_13 : decode cX10_land 13 = .ok (.if_icmp .gt 13, 3) := dR2s (f := Instr.if_icmp .gt) (k := 0) (i := 13) bn_cX10_land_0 dop_163 13 13 (by decide +kernel)
theorem dX10_land_16 : decode cX10_land 16 = .ok (.iload_n 3, 1) := dR0 (k := 0) (i := 16) bn_cX10_land_0 dop_29 (by decide +kernel)
theorem dX10_land_17 : decode cX10_land 17 = .ok (.ifCond .lt 9, 3) := dR2s (f := Instr.ifCond .lt) (k := 0) (i := 17) bn_cX10_land_0 dop_155 9 9 (by decide +kernel)
theorem dX10_land_20 : decode cX10_land 20 = .ok (.iload_n 3, 1) := dR0 (k := 0) (i := 20) bn_cX10_land_0 dop_29 (by decide +kernel)
theorem dX10_land_21 : decode cX10_land 21 = .ok (.bipush 99, 2) := dR1s (f := Instr.bipush) (k := 0) (i := 21) bn_cX10_land_0 dop_16 99 99 (by decide +kernel)
theorem dX10_land_23 : decode cX10_land 23 = .ok (.if_icmp .le 9, 3) := dR2s (f := Instr.if_icmp .le) (k := 0) (i := 23) bn_cX10_land_0 dop_164 9 9 (by decide +kernel)
theorem dX10_land_26 : decode cX10_land 26 = .ok (.aload_n 0, 1) := dR0 (k := 0) (i := 26) bn_cX10_land_0 dop_42 (by decide +kernel)
theorem dX10_land_27 : decode cX10_land 27 = .ok (.iconst 1, 1) := dR0 (k := 0) (i := 27) bn_cX10_land_0 dop_4 (by decide +kernel)
theorem dX10_land_28 : decode cX10_land 28 = .ok (.invokevirtual 82, 3) := dR2 (f := Instr.invokevirtual) (k := 0) (i := 28) bn_cX10_land_0 dop_182 82 (by decide +kernel)
theorem dX10_land_31 : decode cX10_land 31 = .ok (.ireturn, 1) := dR0 (k := 0) (i := 31) bn_cX10_land_0 dop_172 (by decide +kernel)
theorem dX10_land_32 : decode cX10_land 32 = .ok (.bipush 100, 2) := dR1s (f := Instr.bipush) (k := 0) (i := 32) bn_cX10_land_0 dop_16 100 100 (by decide +kernel)
theorem dX10_land_34 : decode cX10_land 34 = .ok (.aload_n 0, 1) := dR0 (k := 0) (i := 34) bn_cX10_land_0 dop_42 (by decide +kernel)
theorem dX10_land_35 : decode cX10_land 35 = .ok (.getfield 12, 3) := dR2 (f := Instr.getfield) (k := 0) (i := 35) bn_cX10_land_0 dop_180 12 (by decide +kernel)
theorem dX10_land_38 : decode cX10_land 38 = .ok (.getfield 93, 3) := dR2 (f := Instr.getfield) (k := 0) (i := 38) bn_cX10_land_0 dop_180 93 (by decide +kernel)
theorem dX10_land_41 : decode cX10_land 41 = .ok (.iload_n 1, 1) := dR0 (k := 0) (i := 41) bn_cX10_land_0 dop_27 (by decide +kernel)
theorem dX10_land_42 : decode cX10_land 42 = .ok (.iaload, 1) := dR0 (k := 0) (i := 42) bn_cX10_land_0 dop_46 (by decide +kernel)
theorem dX10_land_43 : decode cX10_land 43 = .ok (.imul, 1) := dR0 (k := 0) (i := 43) bn_cX10_land_0 dop_104 (by decide +kernel)
theorem dX10_land_44 : decode cX10_land 44 = .ok (.aload_n 0, 1) := dR0 (k := 0) (i := 44) bn_cX10_land_0 dop_42 (by decide +kernel)
theorem dX10_land_45 : decode cX10_land 45 = .ok (.getfield 12, 3) := dR2 (f := Instr.getfield) (k := 0) (i := 45) bn_cX10_land_0 dop_180 12 (by decide +kernel)
theorem dX10_land_48 : decode cX10_land 48 = .ok (.getfield 96, 3) := dR2 (f := Instr.getfield) (k := 0) (i := 48) bn_cX10_land_0 dop_180 96 (by decide +kernel)
theorem dX10_land_51 : decode cX10_land 51 = .ok (.iload_n 1, 1) := dR0 (k := 0) (i := 51) bn_cX10_land_0 dop_27 (by decide +kernel)
theorem dX10_land_52 : decode cX10_land 52 = .ok (.iaload, 1) := dR0 (k := 0) (i := 52) bn_cX10_land_0 dop_46 (by decide +kernel)
theorem dX10_land_53 : decode cX10_land 53 = .ok (.iadd, 1) := dR0 (k := 0) (i := 53) bn_cX10_land_0 dop_96 (by decide +kernel)
theorem dX10_land_54 : decode cX10_land 54 = .ok (.istore 4, 2) := dR1 (f := Instr.istore) (k := 0) (i := 54) bn_cX10_land_0 dop_54 4 (by decide +kernel)
theorem dX10_land_56 : decode cX10_land 56 = .ok (.aload_n 0, 1) := dR0 (k := 0) (i := 56) bn_cX10_land_0 dop_42 (by decide +kernel)
theorem dX10_land_57 : decode cX10_land 57 = .ok (.getfield 12, 3) := dR2 (f := Instr.getfield) (k := 0) (i := 57) bn_cX10_land_0 dop_180 12 (by decide +kernel)
theorem dX10_land_60 : decode cX10_land 60 = .ok (.getfield 93, 3) := dR2 (f := Instr.getfield) (k := 0) (i := 60) bn_cX10_land_0 dop_180 93 (by decide +kernel)
theorem dX10_land_63 : decode cX10_land 63 = .ok (.iload_n 1, 1) := dR0 (k := 0) (i := 63) bn_cX10_land_0 dop_27 (by decide +kernel)
theorem dX10_land_64 : decode cX10_land 64 = .ok (.iload_n 2, 1) := dR0 (k := 0) (i := 64) bn_cX10_land_0 dop_28 (by decide +kernel)
theorem dX10_land_65 : decode cX10_land 65 = .ok (.iastore, 1) := dR0 (k := 0) (i := 65) bn_cX10_land_0 dop_79 (by decide +kernel)
theorem dX10_land_66 : decode cX10_land 66 = .ok (.aload_n 0, 1) := dR0 (k := 0) (i := 66) bn_cX10_land_0 dop_42 (by decide +kernel)
theorem dX10_land_67 : decode cX10_land 67 = .ok (.getfield 12, 3) := dR2 (f := Instr.getfield) (k := 0) (i := 67) bn_cX10_land_0 dop_180 12 (by decide +kernel)
theorem dX10_land_70 : decode cX10_land 70 = .ok (.getfield 96, 3) := dR2 (f := Instr.getfield) (k := 0) (i := 70) bn_cX10_land_0 dop_180 96 (by decide +kernel)
theorem dX10_land_73 : decode cX10_land 73 = .ok (.iload_n 1, 1) := dR0 (k := 0) (i := 73) bn_cX10_land_0 dop_27 (by decide +kernel)
theorem dX10_land_74 : decode cX10_land 74 = .ok (.iload_n 3, 1) := dR0 (k := 0) (i := 74) bn_cX10_land_0 dop_29 (by decide +kernel)
theorem dX10_land_75 : decode cX10_land 75 = .ok (.iastore, 1) := dR0 (k := 0) (i := 75) bn_cX10_land_0 dop_79 (by decide +kernel)
theorem dX10_land_76 : decode cX10_land 76 = .ok (.iload 4, 2) := dR1 (f := Instr.iload) (k := 0) (i := 76) bn_cX10_land_0 dop_21 4 (by decide +kernel)
theorem dX10_land_78 : decode cX10_land 78 = .ok (.ireturn, 1) := dR0 (k := 0) (i := 78) bn_cX10_land_0 dop_172 (by decide +kernel)

theorem bn_cX10_work_0 : BN cX10_work 0 0x15a7100adcdc015a83402b5158783a1c320056a0d00ad456ad298056e0815828029b340056e6400ad41a015a8ad5a5300adc0a2b050054a33088781401510143c0f00a68b4015c8742c015181c221c0e005381c := by
  unfold BN; decide +kernel
theorem dX10_work_0 : decode cX10_work 0 = .ok (.iload_n 1, 1) := dR0 (k := 0) (i := 0) bn_cX10_work_0 dop_27 (by decide +kernel)
theorem dX10_work_1 : decode cX10_work 1 = .ok (.ifCond .lt 27, 3) := dR2s (f := Instr.ifCond .lt) (k := 0) (i := 1) bn_cX10_work_0 dop_155 27 27 (by decide +kernel)
theorem dX10_work_4 : decode cX10_work 4 = .ok (.iload_n 1, 1) := dR0 (k := 0) (i := 4) bn_cX10_work_0 dop_27 (by decide +kernel)
theorem dX10_work_5 : decode cX10_work 5 = .ok (.bipush 6, 2) := dR1s (f := Instr.bipush) (k := 0) (i := 5) bn_cX10_work_0 dop_16 6 6 (by decide +kernel)
theorem dX10_work_7 : decode cX10_work 7 = .ok (.if_icmp .ge 21, 3) := dR2s (f := Instr.if_icmp .ge) (k := 0) (i := 7) bn_cX10_work_0 dop_162 21 21 (by decide +kernel)
theorem dX10_work_10 : decode cX10_work 10 = .ok (.iload_n 2, 1) := dR0 (k := 0) (i := 10) bn_cX10_work_0 dop_28 (by decide +kernel)
theorem dX10_work_11 : decode cX10_work 11 = .ok (.invokestatic 89, 3) := dR2 (f := Instr.invokestatic) (k := 0) (i := 11) bn_cX10_work_0 dop_184 89 (by decide +kernel)
theorem dX10_work_14 : decode cX10_work 14 = .ok (.ifCond .eq 14, 3) := dR2s (f := Instr.ifCond .eq) (k := 0) (i := 14) bn_cX10_work_0 dop_153 14 14 (by decide +kernel)
theorem dX10_work_17 : decode cX10_work 17 = .ok (.iload_n 3, 1) := dR0 (k := 0) (i := 17) bn_cX10_work_0 dop_29 (by decide +kernel)
theorem dX10_work_18 : decode cX10_work 18 = .ok (.iconst 1, 1) := dR0 (k := 0) (i := 18) bn_cX10_work_0 dop_4 (by decide +kernel)
theorem dX10_work_19 : decode cX10_work 19 = .ok (.if_icmp .lt 9, 3) := dR2s (f := Instr.if_icmp .lt) (k := 0) (i := 19) bn_cX10_work_0 dop_161 9 9 (by decide +kernel)
theorem dX10_work_22 : decode cX10_work 22 = .ok (.iload_n 3, 1) := dR0 (k := 0) (i := 22) bn_cX10_work_0 dop_29 (by decide +kernel)
theorem dX10_work_23 : decode cX10_work 23 = .ok (.bipush 50, 2) := dR1s (f := Instr.bipush) (k := 0) (i := 23) bn_cX10_work_0 dop_16 50 50 (by decide +kernel)
theorem dX10_work_25 : decode cX10_work 25 = .ok (.if_icmp .le 9, 3) := dR2s (f := Instr.if_icmp .le) (k := 0) (i := 25) bn_cX10_work_0 dop_164 9 9 (by decide +kernel)
theorem dX10_work_28 : decode cX10_work 28 = .ok (.aload_n 0, 1) := dR0 (k := 0) (i := 28) bn_cX10_work_0 dop_42 (by decide +kernel)
theorem dX10_work_29 : decode cX10_work 29 = .ok (.iconst 1, 1) := dR0 (k := 0) (i := 29) bn_cX10_work_0 dop_4 (by decide +kernel)
theorem dX10_work_30 : decode cX10_work 30 = .ok (.invokevirtual 82, 3) := dR2 (f := Instr.invokevirtual) (k := 0) (i := 30) bn_cX10_work_0 dop_182 82 (by decide +kernel)
theorem dX10_work_33 : decode cX10_work 33 = .ok (.ireturn, 1) := dR0 (k := 0) (i := 33) bn_cX10_work_0 dop_172 (by decide +kernel)
theorem dX10_work_34 : decode cX10_work 34 = .ok (.aload_n 0, 1) := dR0 (k := 0) (i := 34) bn_cX10_work_0 dop_42 (by decide +kernel)
theorem dX10_work_35 : decode cX10_work 35 = .ok (.getfield 12, 3) := dR2 (f := Instr.getfield) (k := 0) (i := 35) bn_cX10_work_0 dop_180 12 (by decide +kernel)
theorem dX10_work_38 : decode cX10_work 38 = .ok (.getfield 99, 3) := dR2 (f := Instr.getfield) (k := 0) (i := 38) bn_cX10_work_0 dop_180 99 (by decide +kernel)
theorem dX10_work_41 : decode cX10_work 41 = .ok (.invokevirtual 103, 3) := dR2 (f := Instr.invokevirtual) (k := 0) (i := 41) bn_cX10_work_0 dop_182 103 (by decide +kernel)
theorem dX10_work_44 : decode cX10_work 44 = .ok (.ifCond .ne 9, 3) := dR2s (f := Instr.ifCond .ne) (k := 0) (i := 44) bn_cX10_work_0 dop_154 9 9 (by decide +kernel)
theorem dX10_work_47 : decode cX10_work 47 = .ok (.aload_n 0, 1) := dR0 (k := 0) (i := 47) bn_cX10_work_0 dop_42 (by decide +kernel)
theorem dX10_work_48 : decode cX10_work 48 = .ok (.iconst 4, 1) := dR0 (k := 0) (i := 48) bn_cX10_work_0 dop_7 (by decide +kernel)
theorem dX10_work_49 : decode cX10_work 49 = .ok (.invokevirtual 82, 3) := dR2 (f := Instr.invokevirtual) (k := 0) (i := 49) bn_cX10_work_0 dop_182 82 (by decide +kernel)
theorem dX10_work_52 : decode cX10_work 52 = .ok (.ireturn, 1) := dR0 (k := 0) (i := 52) bn_cX10_work_0 dop_172 (by decide +kernel)
theorem dX10_work_53 : decode cX10_work 53 = .ok (.aload_n 0, 1) := dR0 (k := 0) (i := 53) bn_cX10_work_0 dop_42 (by decide +kernel)
theorem dX10_work_54 : decode cX10_work 54 = .ok (.getfield 12, 3) := dR2 (f := Instr.getfield) (k := 0) (i := 54) bn_cX10_work_0 dop_180 12 (by decide +kernel)
theorem dX10_work_57 : decode cX10_work 57 = .ok (.getfield 99, 3) := dR2 (f := Instr.getfield) (k := 0) (i := 57) bn_cX10_work_0 dop_180 99 (by decide +kernel)
theorem dX10_work_60 : decode cX10_work 60 = .ok (.iload_n 1, 1) := dR0 (k := 0) (i := 60) bn_cX10_work_0 dop_27 (by decide +kernel)
theorem dX10_work_61 : decode cX10_work 61 = .ok (.iload_n 2, 1) := dR0 (k := 0) (i := 61) bn_cX10_work_0 dop_28 (by decide +kernel)
theorem dX10_work_62 : decode cX10_work 62 = .ok (.iload_n 3, 1) := dR0 (k := 0) (i := 62) bn_cX10_work_0 dop_29 (by decide +kernel)
theorem dX10_work_63 : decode cX10_work 63 = .ok (.aload_n 0, 1) := dR0 (k := 0) (i := 63) bn_cX10_work_0 dop_42 (by decide +kernel)
theorem dX10_work_64 : decode cX10_work 64 = .ok (.getfield 12, 3) := dR2 (f := Instr.getfield) (k := 0) (i := 64) bn_cX10_work_0 dop_180 12 (by decide +kernel)
theorem dX10_work_67 : decode cX10_work 67 = .ok (.getfield 109, 3) := dR2 (f := Instr.getfield) (k := 0) (i := 67) bn_cX10_work_0 dop_180 109 (by decide +kernel)
theorem dX10_work_70 : decode cX10_work 70 = .ok (.invokevirtual 112, 3) := dR2 (f := Instr.invokevirtual) (k := 0) (i := 70) bn_cX10_work_0 dop_182 112 (by decide +kernel)
theorem dX10_work_73 : decode cX10_work 73 = .ok (.ireturn, 1) := dR0 (k := 0) (i := 73) bn_cX10_work_0 dop_172 (by decide +kernel)

theorem bn_cX10_as_0 : BN cX10_as 0 0x15a7f00adc386400ad41a015a8ad5a5300adc122b05005367b00ae43a7800adc386400ad41a015a8ad5a5300adc0a2b0500544070887414014e0741c014d1d402b70e19002b5068056a2b := by
  unfold BN; decide +kernel
theorem dX10_as_0 : decode cX10_as 0 = .ok (.aload_n 0, 1) := dR0 (k := 0) (i := 0) bn_cX10_as_0 dop_42 (by decide +kernel)
theorem dX10_as_1 : decode cX10_as 1 = .ok (.getfield 12, 3) := dR2 (f := Instr.getfield) (k := 0) (i := 1) bn_cX10_as_0 dop_180 12 (by decide +kernel)
theorem dX10_as_4 : decode cX10_as 4 = .ok (.getfield 99, 3) := dR2 (f := Instr.getfield) (k := 0) (i := 4) bn_cX10_as_0 dop_180 99 (by decide +kernel)
theorem dX10_as_7 : decode cX10_as 7 = .ok (.iload_n 1, 1) := dR0 (k := 0) (i := 7) bn_cX10_as_0 dop_27 (by decide +kernel)
theorem dX10_as_8 : decode cX10_as 8 = .ok (.invokevirtual 116, 3) := dR2 (f := Instr.invokevirtual) (k := 0) (i := 8) bn_cX10_as_0 dop_182 116 (by decide +kernel)
theorem dX10_as_11 : decode cX10_as 11 = .ok (.ifCond .eq 13, 3) := dR2s (f := Instr.ifCond .eq) (k := 0) (i := 11) bn_cX10_as_0 dop_153 13 13 (by decide +kernel)
theorem dX10_as_14 : decode cX10_as 14 = .ok (.iload_n 2, 1) := dR0 (k := 0) (i := 14) bn_cX10_as_0 dop_28 (by decide +kernel)
theorem dX10_as_15 : decode cX10_as 15 = .ok (.ifCond .lt 9, 3) := dR2s (f := Instr.ifCond .lt) (k := 0) (i := 15) bn_cX10_as_0 dop_155 9 9 (by decide +kernel)
theorem dX10_as_18 : decode cX10_as 18 = .ok (.iload_n 2, 1) := dR0 (k := 0) (i := 18) bn_cX10_as_0 dop_28 (by decide +kernel)
theorem dX10_as_19 : decode cX10_as 19 = .ok (.bipush 6, 2) := dR1s (f := Instr.bipush) (k := 0) (i := 19) bn_cX10_as_0 dop_16 6 6 (by decide +kernel)
theorem dX10_as_21 : decode cX10_as 21 = .ok (.if_icmp .lt 9, 3) := dR2s (f := Instr.if_icmp .lt) (k := 0) (i := 21) bn_cX10_as_0 dop_161 9 9 (by decide +kernel)
theorem dX10_as_24 : decode cX10_as 24 = .ok (.aload_n 0, 1) := dR0 (k := 0) (i := 24) bn_cX10_as_0 dop_42 (by decide +kernel)
theorem dX10_as_25 : decode cX10_as 25 = .ok (.iconst 1, 1) := dR0 (k := 0) (i := 25) bn_cX10_as_0 dop_4 (by decide +kernel)
theorem dX10_as_26 : decode cX10_as 26 = .ok (.invokevirtual 82, 3) := dR2 (f := Instr.invokevirtual) (k := 0) (i := 26) bn_cX10_as_0 dop_182 82 (by decide +kernel)
theorem dX10_as_29 : decode cX10_as 29 = .ok (.ireturn, 1) := dR0 (k := 0) (i := 29) bn_cX10_as_0 dop_172 (by decide +kernel)
theorem dX10_as_30 : decode cX10_as 30 = .ok (.aload_n 0, 1) := dR0 (k := 0) (i := 30) bn_cX10_as_0 dop_42 (by decide +kernel)
theorem dX10_as_31 : decode cX10_as 31 = .ok (.getfield 12, 3) := dR2 (f := Instr.getfield) (k := 0) (i := 31) bn_cX10_as_0 dop_180 12 (by decide +kernel)
theorem dX10_as_34 : decode cX10_as 34 = .ok (.getfield 99, 3) := dR2 (f := Instr.getfield) (k := 0) (i := 34) bn_cX10_as_0 dop_180 99 (by decide +kernel)
theorem dX10_as_37 : decode cX10_as 37 = .ok (.iload_n 1, 1) := dR0 (k := 0) (i := 37) bn_cX10_as_0 dop_27 (by decide +kernel)
theorem dX10_as_38 : decode cX10_as 38 = .ok (.invokevirtual 119, 3) := dR2 (f := Instr.invokevirtual) (k := 0) (i := 38) bn_cX10_as_0 dop_182 119 (by decide +kernel)
theorem dX10_as_41 : decode cX10_as 41 = .ok (.iload_n 2, 1) := dR0 (k := 0) (i := 41) bn_cX10_as_0 dop_28 (by decide +kernel)
theorem dX10_as_42 : decode cX10_as 42 = .ok (.invokestatic 122, 3) := dR2 (f := Instr.invokestatic) (k := 0) (i := 42) bn_cX10_as_0 dop_184 122 (by decide +kernel)
theorem dX10_as_45 : decode cX10_as 45 = .ok (.ifCond .ne 9, 3) := dR2s (f := Instr.ifCond .ne) (k := 0) (i := 45) bn_cX10_as_0 dop_154 9 9 (by decide +kernel)
theorem dX10_as_48 : decode cX10_as 48 = .ok (.aload_n 0, 1) := dR0 (k := 0) (i := 48) bn_cX10_as_0 dop_42 (by decide +kernel)
theorem dX10_as_49 : decode cX10_as 49 = .ok (.iconst 5, 1) := dR0 (k := 0) (i := 49) bn_cX10_as_0 dop_8 (by decide +kernel)
theorem dX10_as_50 : decode cX10_as 50 = .ok (.invokevirtual 82, 3) := dR2 (f := Instr.invokevirtual) (k := 0) (i := 50) bn_cX10_as_0 dop_182 82 (by decide +kernel)
theorem dX10_as_53 : decode cX10_as 53 = .ok (.ireturn, 1) := dR0 (k := 0) (i := 53) bn_cX10_as_0 dop_172 (by decide +kernel)
theorem dX10_as_54 : decode cX10_as 54 = .ok (.aload_n 0, 1) := dR0 (k := 0) (i := 54) bn_cX10_as_0 dop_42 (by decide +kernel)
theorem dX10_as_55 : decode cX10_as 55 = .ok (.getfield 12, 3) := dR2 (f := Instr.getfield) (k := 0) (i := 55) bn_cX10_as_0 dop_180 12 (by decide +kernel)
theorem dX10_as_58 : decode cX10_as 58 = .ok (.getfield 99, 3) := dR2 (f := Instr.getfield) (k := 0) (i := 58) bn_cX10_as_0 dop_180 99 (by decide +kernel)
theorem dX10_as_61 : decode cX10_as 61 = .ok (.iload_n 1, 1) := dR0 (k := 0) (i := 61) bn_cX10_as_0 dop_27 (by decide +kernel)
theorem dX10_as_62 : decode cX10_as 62 = .ok (.invokevirtual 126, 3) := dR2 (f := Instr.invokevirtual) (k := 0) (i := 62) bn_cX10_as_0 dop_182 126 (by decide +kernel)
theorem dX10_as_65 : decode cX10_as 65 = .ok (.ireturn, 1) := dR0 (k := 0) (i := 65) bn_cX10_as_0 dop_172 (by decide +kernel)

theorem bn_cX10_fell_0 : BN cX10_fell 0 0xad02a5002b70e19002b5068056a2b5694c02b7038ac14014d22002b70e19002b5068056a2b5694c02b7028ac14014d9d402b70e19002b5068056a2b := by
  unfold BN; decide +kernel
theorem dX10_fell_0 : decode cX10_fell 0 = .ok (.aload_n 0, 1) := dR0 (k := 0) (i := 0) bn_cX10_fell_0 dop_42 (by decide +kernel)
theorem dX10_fell_1 : decode cX10_fell 1 = .ok (.getfield 12, 3) := dR2 (f := Instr.getfield) (k := 0) (i := 1) bn_cX10_fell_0 dop_180 12 (by decide +kernel)
theorem dX10_fell_4 : decode cX10_fell 4 = .ok (.getfield 99, 3) := dR2 (f := Instr.getfield) (k := 0) (i := 4) bn_cX10_fell_0 dop_180 99 (by decide +kernel)
theorem dX10_fell_7 : decode cX10_fell 7 = .ok (.iload_n 1, 1) := dR0 (k := 0) (i := 7) bn_cX10_fell_0 dop_27 (by decide +kernel)
theorem dX10_fell_8 : decode cX10_fell 8 = .ok (.invokevirtual 116, 3) := dR2 (f := Instr.invokevirtual) (k := 0) (i := 8) bn_cX10_fell_0 dop_182 116 (by decide +kernel)
theorem dX10_fell_11 : decode cX10_fell 11 = .ok (.ifCond .ne 9, 3) := dR2s (f := Instr.ifCond .ne) (k := 0) (i := 11) bn_cX10_fell_0 dop_154 9 9 (by decide +kernel)
theorem dX10_fell_14 : decode cX10_fell 14 = .ok (.aload_n 0, 1) := dR0 (k := 0) (i := 14) bn_cX10_fell_0 dop_42 (by decide +kernel)
theorem dX10_fell_15 : decode cX10_fell 15 = .ok (.iconst 1, 1) := dR0 (k := 0) (i := 15) bn_cX10_fell_0 dop_4 (by decide +kernel)
theorem dX10_fell_16 : decode cX10_fell 16 = .ok (.invokevirtual 82, 3) := dR2 (f := Instr.invokevirtual) (k := 0) (i := 16) bn_cX10_fell_0 dop_182 82 (by decide +kernel)
theorem dX10_fell_19 : decode cX10_fell 19 = .ok (.ireturn, 1) := dR0 (k := 0) (i := 19) bn_cX10_fell_0 dop_172 (by decide +kernel)
theorem dX10_fell_20 : decode cX10_fell 20 = .ok (.aload_n 0, 1) := dR0 (k := 0) (i := 20) bn_cX10_fell_0 dop_42 (by decide +kernel)
theorem dX10_fell_21 : decode cX10_fell 21 = .ok (.getfield 12, 3) := dR2 (f := Instr.getfield) (k := 0) (i := 21) bn_cX10_fell_0 dop_180 12 (by decide +kernel)
theorem dX10_fell_24 : decode cX10_fell 24 = .ok (.getfield 99, 3) := dR2 (f := Instr.getfield) (k := 0) (i := 24) bn_cX10_fell_0 dop_180 99 (by decide +kernel)
theorem dX10_fell_27 : decode cX10_fell 27 = .ok (.iload_n 1, 1) := dR0 (k := 0) (i := 27) bn_cX10_fell_0 dop_27 (by decide +kernel)
theorem dX10_fell_28 : decode cX10_fell 28 = .ok (.invokevirtual 135, 3) := dR2 (f := Instr.invokevirtual) (k := 0) (i := 28) bn_cX10_fell_0 dop_182 135 (by decide +kernel)
theorem dX10_fell_31 : decode cX10_fell 31 = .ok (.ifCond .eq 9, 3) := dR2s (f := Instr.ifCond .eq) (k := 0) (i := 31) bn_cX10_fell_0 dop_153 9 9 (by decide +kernel)
theorem dX10_fell_34 : decode cX10_fell 34 = .ok (.aload_n 0, 1) := dR0 (k := 0) (i := 34) bn_cX10_fell_0 dop_42 (by decide +kernel)
theorem dX10_fell_35 : decode cX10_fell 35 = .ok (.iconst 3, 1) := dR0 (k := 0) (i := 35) bn_cX10_fell_0 dop_6 (by decide +kernel)
theorem dX10_fell_36 : decode cX10_fell 36 = .ok (.invokevirtual 82, 3) := dR2 (f := Instr.invokevirtual) (k := 0) (i := 36) bn_cX10_fell_0 dop_182 82 (by decide +kernel)
theorem dX10_fell_39 : decode cX10_fell 39 = .ok (.ireturn, 1) := dR0 (k := 0) (i := 39) bn_cX10_fell_0 dop_172 (by decide +kernel)
theorem dX10_fell_40 : decode cX10_fell 40 = .ok (.aload_n 0, 1) := dR0 (k := 0) (i := 40) bn_cX10_fell_0 dop_42 (by decide +kernel)
theorem dX10_fell_41 : decode cX10_fell 41 = .ok (.getfield 12, 3) := dR2 (f := Instr.getfield) (k := 0) (i := 41) bn_cX10_fell_0 dop_180 12 (by decide +kernel)
theorem dX10_fell_44 : decode cX10_fell 44 = .ok (.getfield 99, 3) := dR2 (f := Instr.getfield) (k := 0) (i := 44) bn_cX10_fell_0 dop_180 99 (by decide +kernel)
theorem dX10_fell_47 : decode cX10_fell 47 = .ok (.iload_n 1, 1) := dR0 (k := 0) (i := 47) bn_cX10_fell_0 dop_27 (by decide +kernel)
theorem dX10_fell_48 : decode cX10_fell 48 = .ok (.invokevirtual 147, 3) := dR2 (f := Instr.invokevirtual) (k := 0) (i := 48) bn_cX10_fell_0 dop_182 147 (by decide +kernel)
theorem dX10_fell_51 : decode cX10_fell 51 = .ok (.iconst 1, 1) := dR0 (k := 0) (i := 51) bn_cX10_fell_0 dop_4 (by decide +kernel)
theorem dX10_fell_52 : decode cX10_fell 52 = .ok (.ireturn, 1) := dR0 (k := 0) (i := 52) bn_cX10_fell_0 dop_172 (by decide +kernel)

theorem bn_cX10_lay_0 : BN cX10_lay 0 0x15a1e4c0056e1e0e19002b5068056a2b5694c02b7040ac14015284050120f0fcc21d470056e1c320056a0d00ad456ad298056e0715828029a440056e1c320056a0d00ad456ad298056e091582802a0049e002b70e19002b5068056a2b5694c02b7028ac14015284050120e82c02a20287420014d1d402b70e19002b5068056a2b := by
  unfold BN; decide +kernel
theorem dX10_lay_0 : decode cX10_lay 0 = .ok (.aload_n 0, 1) := dR0 (k := 0) (i := 0) bn_cX10_lay_0 dop_42 (by decide +kernel)
theorem dX10_lay_1 : decode cX10_lay 1 = .ok (.getfield 12, 3) := dR2 (f := Instr.getfield) (k := 0) (i := 1) bn_cX10_lay_0 dop_180 12 (by decide +kernel)
theorem dX10_lay_4 : decode cX10_lay 4 = .ok (.getfield 99, 3) := dR2 (f := Instr.getfield) (k := 0) (i := 4) bn_cX10_lay_0 dop_180 99 (by decide +kernel)
theorem dX10_lay_7 : decode cX10_lay 7 = .ok (.iload_n 1, 1) := dR0 (k := 0) (i := 7) bn_cX10_lay_0 dop_27 (by decide +kernel)
theorem dX10_lay_8 : decode cX10_lay 8 = .ok (.invokevirtual 116, 3) := dR2 (f := Instr.invokevirtual) (k := 0) (i := 8) bn_cX10_lay_0 dop_182 116 (by decide +kernel)
theorem dX10_lay_11 : decode cX10_lay 11 = .ok (.ifCond .eq 15, 3) := dR2s (f := Instr.ifCond .eq) (k := 0) (i := 11) bn_cX10_lay_0 dop_153 15 15 (by decide +kernel)
theorem dX10_lay_14 : decode cX10_lay 14 = .ok (.iload_n 2, 1) := dR0 (k := 0) (i := 14) bn_cX10_lay_0 dop_28 (by decide +kernel)
theorem dX10_lay_15 : decode cX10_lay 15 = .ok (.iconst 1, 1) := dR0 (k := 0) (i := 15) bn_cX10_lay_0 dop_4 (by decide +kernel)
theorem dX10_lay_16 : decode cX10_lay 16 = .ok (.if_icmp .lt 10, 3) := dR2s (f := Instr.if_icmp .lt) (k := 0) (i := 16) bn_cX10_lay_0 dop_161 10 10 (by decide +kernel)
theorem dX10_lay_19 : decode cX10_lay 19 = .ok (.iload_n 2, 1) := dR0 (k := 0) (i := 19) bn_cX10_lay_0 dop_28 (by decide +kernel)
theorem dX10_lay_20 : decode cX10_lay 20 = .ok (.sipush 9999, 3) := dR2s (f := Instr.sipush) (k := 0) (i := 20) bn_cX10_lay_0 dop_17 9999 9999 (by decide +kernel)
theorem dX10_lay_23 : decode cX10_lay 23 = .ok (.if_icmp .le 9, 3) := dR2s (f := Instr.if_icmp .le) (k := 0) (i := 23) bn_cX10_lay_0 dop_164 9 9 (by decide +kernel)
theorem dX10_lay_26 : decode cX10_lay 26 = .ok (.aload_n 0, 1) := dR0 (k := 0) (i := 26) bn_cX10_lay_0 dop_42 (by decide +kernel)
theorem dX10_lay_27 : decode cX10_lay 27 = .ok (.iconst 1, 1) := dR0 (k := 0) (i := 27) bn_cX10_lay_0 dop_4 (by decide +kernel)
theorem dX10_lay_28 : decode cX10_lay 28 = .ok (.invokevirtual 82, 3) := dR2 (f := Instr.invokevirtual) (k := 0) (i := 28) bn_cX10_lay_0 dop_182 82 (by decide +kernel)
theorem dX10_lay_31 : decode cX10_lay 31 = .ok (.ireturn, 1) := dR0 (k := 0) (i := 31) bn_cX10_lay_0 dop_172 (by decide +kernel)
theorem dX10_lay_32 : decode cX10_lay 32 = .ok (.aload_n 0, 1) := dR0 (k := 0) (i := 32) bn_cX10_lay_0 dop_42 (by decide +kernel)
theorem dX10_lay_33 : decode cX10_lay 33 = .ok (.getfield 12, 3) := dR2 (f := Instr.getfield) (k := 0) (i := 33) bn_cX10_lay_0 dop_180 12 (by decide +kernel)
theorem dX10_lay_36 : decode cX10_lay 36 = .ok (.getfield 99, 3) := dR2 (f := Instr.getfield) (k := 0) (i := 36) bn_cX10_lay_0 dop_180 99 (by decide +kernel)
theorem dX10_lay_39 : decode cX10_lay 39 = .ok (.iload_n 1, 1) := dR0 (k := 0) (i := 39) bn_cX10_lay_0 dop_27 (by decide +kernel)
theorem dX10_lay_40 : decode cX10_lay 40 = .ok (.invokevirtual 119, 3) := dR2 (f := Instr.invokevirtual) (k := 0) (i := 40) bn_cX10_lay_0 dop_182 119 (by decide +kernel)
theorem dX10_lay_43 : decode cX10_lay 43 = .ok (.iconst 5, 1) := dR0 (k := 0) (i := 43) bn_cX10_lay_0 dop_8 (by decide +kernel)
theorem dX10_lay_44 : decode cX10_lay 44 = .ok (.if_icmp .eq 9, 3) := dR2s (f := Instr.if_icmp .eq) (k := 0) (i := 44) bn_cX10_lay_0 dop_159 9 9 (by decide +kernel)
theorem dX10_lay_47 : decode cX10_lay 47 = .ok (.aload_n 0, 1) := dR0 (k := 0) (i := 47) bn_cX10_lay_0 dop_42 (by decide +kernel)
theorem dX10_lay_48 : decode cX10_lay 48 = .ok (.iconst 5, 1) := dR0 (k := 0) (i := 48) bn_cX10_lay_0 dop_8 (by decide +kernel)
theorem dX10_lay_49 : decode cX10_lay 49 = .ok (.invokevirtual 82, 3) := dR2 (f := Instr.invokevirtual) (k := 0) (i := 49) bn_cX10_lay_0 dop_182 82 (by decide +kernel)
theorem dX10_lay_52 : decode cX10_lay 52 = .ok (.ireturn, 1) := dR0 (k := 0) (i := 52) bn_cX10_lay_0 dop_172 (by decide +kernel)
theorem dX10_lay_53 : decode cX10_lay 53 = .ok (.aload_n 0, 1) := dR0 (k := 0) (i := 53) bn_cX10_lay_0 dop_42 (by decide +kernel)
theorem dX10_lay_54 : decode cX10_lay 54 = .ok (.getfield 12, 3) := dR2 (f := Instr.getfield) (k := 0) (i := 54) bn_cX10_lay_0 dop_180 12 (by decide +kernel)
theorem dX10_lay_57 : decode cX10_lay 57 = .ok (.getfield 99, 3) := dR2 (f := Instr.getfield) (k := 0) (i := 57) bn_cX10_lay_0 dop_180 99 (by decide +kernel)
theorem dX10_lay_60 : decode cX10_lay 60 = .ok (.iload_n 1, 1) := dR0 (k := 0) (i := 60) bn_cX10_lay_0 dop_27 (by decide +kernel)
theorem dX10_lay_61 : decode cX10_lay 61 = .ok (.invokevirtual 135, 3) := dR2 (f := Instr.invokevirtual) (k := 0) (i := 61) bn_cX10_lay_0 dop_182 135 (by decide +kernel)
theorem dX10_lay_64 : decode cX10_lay 64 = .ok (.ifCond .eq 9, 3) := dR2s (f := Instr.ifCond .eq) (k := 0) (i := 64) bn_cX10_lay_0 dop_153 9 9 (by decide +kernel)
theorem dX10_lay_67 : decode cX10_lay 67 = .ok (.aload_n 0, 1) := dR0 (k := 0) (i := 67) bn_cX10_lay_0 dop_42 (by decide +kernel)
theorem dX10_lay_68 : decode cX10_lay 68 = .ok (.iconst 3, 1) := dR0 (k := 0) (i := 68) bn_cX10_lay_0 dop_6 (by decide +kernel)
theorem dX10_lay_69 : decode cX10_lay 69 = .ok (.invokevirtual 82, 3) := dR2 (f := Instr.invokevirtual) (k := 0) (i := 69) bn_cX10_lay_0 dop_182 82 (by decide +kernel)
theorem dX10_lay_72 : decode cX10_lay 72 = .ok (.ireturn, 1) := dR0 (k := 0) (i := 72) bn_cX10_lay_0 dop_172 (by decide +kernel)
theorem dX10_lay_73 : decode cX10_lay 73 = .ok (.aload_n 0, 1) := dR0 (k := 0) (i := 73) bn_cX10_lay_0 dop_42 (by decide +kernel)
theorem dX10_lay_74 : decode cX10_lay 74 = .ok (.getfield 12, 3) := dR2 (f := Instr.getfield) (k := 0) (i := 74) bn_cX10_lay_0 dop_180 12 (by decide +kernel)
theorem dX10_lay_77 : decode cX10_lay 77 = .ok (.getfield 99, 3) := dR2 (f := Instr.getfield) (k := 0) (i := 77) bn_cX10_lay_0 dop_180 99 (by decide +kernel)
theorem dX10_lay_80 : decode cX10_lay 80 = .ok (.iload_n 1, 1) := dR0 (k := 0) (i := 80) bn_cX10_lay_0 dop_27 (by decide +kernel)
theorem dX10_lay_81 : decode cX10_lay 81 = .ok (.invokevirtual 141, 3) := dR2 (f := Instr.invokevirtual) (k := 0) (i := 81) bn_cX10_lay_0 dop_182 141 (by decide +kernel)
theorem dX10_lay_84 : decode cX10_lay 84 = .ok (.iload_n 2, 1) := dR0 (k := 0) (i := 84) bn_cX10_lay_0 dop_28 (by decide +kernel)
theorem dX10_lay_85 : decode cX10_lay 85 = .ok (.iadd, 1) := dR0 (k := 0) (i := 85) bn_cX10_lay_0 dop_96 (by decide +kernel)
theorem dX10_lay_86 : decode cX10_lay 86 = .ok (.istore_n 3, 1) := dR0 (k := 0) (i := 86) bn_cX10_lay_0 dop_62 (by decide +kernel)
theorem dX10_lay_87 : decode cX10_lay 87 = .ok (.iload_n 3, 1) := dR0 (k := 0) (i := 87) bn_cX10_lay_0 dop_29 (by decide +kernel)
theorem dX10_lay_88 : decode cX10_lay 88 = .ok (.sipush 9999, 3) := dR2s (f := Instr.sipush) (k := 0) (i := 88) bn_cX10_lay_0 dop_17 9999 9999 (by decide +kernel)
theorem dX10_lay_91 : decode cX10_lay 91 = .ok (.if_icmp .le 9, 3) := dR2s (f := Instr.if_icmp .le) (k := 0) (i := 91) bn_cX10_lay_0 dop_164 9 9 (by decide +kernel)
theorem dX10_lay_94 : decode cX10_lay 94 = .ok (.aload_n 0, 1) := dR0 (k := 0) (i := 94) bn_cX10_lay_0 dop_42 (by decide +kernel)
theorem dX10_lay_95 : decode cX10_lay 95 = .ok (.iconst 4, 1) := dR0 (k := 0) (i := 95) bn_cX10_lay_0 dop_7 (by decide +kernel)
theorem dX10_lay_96 : decode cX10_lay 96 = .ok (.invokevirtual 82, 3) := dR2 (f := Instr.invokevirtual) (k := 0) (i := 96) bn_cX10_lay_0 dop_182 82 (by decide +kernel)
theorem dX10_lay_99 : decode cX10_lay 99 = .ok (.ireturn, 1) := dR0 (k := 0) (i := 99) bn_cX10_lay_0 dop_172 (by decide +kernel)
theorem dX10_lay_100 : decode cX10_lay 100 = .ok (.aload_n 0, 1) := dR0 (k := 0) (i := 100) bn_cX10_lay_0 dop_42 (by decide +kernel)
theorem dX10_lay_101 : decode cX10_lay 101 = .ok (.getfield 12, 3) := dR2 (f := Instr.getfield) (k := 0) (i := 101) bn_cX10_lay_0 dop_180 12 (by decide +kernel)
theorem dX10_lay_104 : decode cX10_lay 104 = .ok (.getfield 99, 3) := dR2 (f := Instr.getfield) (k := 0) (i := 104) bn_cX10_lay_0 dop_180 99 (by decide +kernel)
theorem dX10_lay_107 : decode cX10_lay 107 = .ok (.iload_n 1, 1) := dR0 (k := 0) (i := 107) bn_cX10_lay_0 dop_27 (by decide +kernel)
theorem dX10_lay_108 : decode cX10_lay 108 = .ok (.iload_n 3, 1) := dR0 (k := 0) (i := 108) bn_cX10_lay_0 dop_29 (by decide +kernel)
theorem dX10_lay_109 : decode cX10_lay 109 = .ok (.invokevirtual 151, 3) := dR2 (f := Instr.invokevirtual) (k := 0) (i := 109) bn_cX10_lay_0 dop_182 151 (by decide +kernel)
theorem dX10_lay_112 : decode cX10_lay 112 = .ok (.iload_n 3, 1) := dR0 (k := 0) (i := 112) bn_cX10_lay_0 dop_29 (by decide +kernel)
theorem dX10_lay_113 : decode cX10_lay 113 = .ok (.ireturn, 1) := dR0 (k := 0) (i := 113) bn_cX10_lay_0 dop_172 (by decide +kernel)

theorem bn_cX10_mileIs_0 : BN cX10_mileIs 0 0x15a5300adc0a2b56aac02b70e19002b5068056a2b56aa002b70e03402b515ab54a015b8701a015a8ad5a040280550050400534a200adc386400ad41a015a8ad5a9f00adc380d00ad456ad4e0056e1c068056a2b2f80402012b00402012680402011c804020118004020113804020103004020100804020135804020100aac3aad298056e0515828029b2d005721c := by
  unfold BN; decide +kernel
theorem dX10_mileIs_0 : decode cX10_mileIs 0 = .ok (.iload_n 1, 1) := dR0 (k := 0) (i := 0) bn_cX10_mileIs_0 dop_27 (by decide +kernel)
theorem dX10_mileIs_1 : decode cX10_mileIs 1 = .ok (.invokestatic 89, 3) := dR2 (f := Instr.invokestatic) (k := 0) (i := 1) bn_cX10_mileIs_0 dop_184 89 (by decide +kernel)
theorem dX10_mileIs_4 : decode cX10_mileIs 4 = .ok (.ifCond .ne 9, 3) := dR2s (f := Instr.ifCond .ne) (k := 0) (i := 4) bn_cX10_mileIs_0 dop_154 9 9 (by decide +kernel)
theorem dX10_mileIs_7 : decode cX10_mileIs 7 = .ok (.aload_n 0, 1) := dR0 (k := 0) (i := 7) bn_cX10_mileIs_0 dop_42 (by decide +kernel)
theorem dX10_mileIs_8 : decode cX10_mileIs 8 = .ok (.iconst 1, 1) := dR0 (k := 0) (i := 8) bn_cX10_mileIs_0 dop_4 (by decide +kernel)
theorem dX10_mileIs_9 : decode cX10_mileIs 9 = .ok (.invokevirtual 82, 3) := dR2 (f := Instr.invokevirtual) (k := 0) (i := 9) bn_cX10_mileIs_0 dop_182 82 (by decide +kernel)
theorem dX10_mileIs_12 : decode cX10_mileIs 12 = .ok (.ireturn, 1) := dR0 (k := 0) (i := 12) bn_cX10_mileIs_0 dop_172 (by decide +kernel)
theorem dX10_mileIs_13 : decode cX10_mileIs 13 = .ok (.iload_n 2, 1) := dR0 (k := 0) (i := 13) bn_cX10_mileIs_0 dop_28 (by decide +kernel)
theorem dX10_mileIs_14 : decode cX10_mileIs 14 = .ok (.tableswitch 106 0 5 #[38, 47, 56, 76, 85, 94], 38) := by decide +kernel
theorem dX10_mileIs_52 : decode cX10_mileIs 52 = .ok (.aload_n 0, 1) := dR0 (k := 0) (i := 52) bn_cX10_mileIs_0 dop_42 (by decide +kernel)
theorem dX10_mileIs_53 : decode cX10_mileIs 53 = .ok (.getfield 12, 3) := dR2 (f := Instr.getfield) (k := 0) (i := 53) bn_cX10_mileIs_0 dop_180 12 (by decide +kernel)
theorem dX10_mileIs_56 : decode cX10_mileIs 56 = .ok (.iload_n 1, 1) := dR0 (k := 0) (i := 56) bn_cX10_mileIs_0 dop_27 (by decide +kernel)
theorem dX10_mileIs_57 : decode cX10_mileIs 57 = .ok (.invokevirtual 155, 3) := dR2 (f := Instr.invokevirtual) (k := 0) (i := 57) bn_cX10_mileIs_0 dop_182 155 (by decide +kernel)
theorem dX10_mileIs_60 : decode cX10_mileIs 60 = .ok (.ireturn, 1) := dR0 (k := 0) (i := 60) bn_cX10_mileIs_0 dop_172 (by decide +kernel)
theorem dX10_mileIs_61 : decode cX10_mileIs 61 = .ok (.aload_n 0, 1) := dR0 (k := 0) (i := 61) bn_cX10_mileIs_0 dop_42 (by decide +kernel)
theorem dX10_mileIs_62 : decode cX10_mileIs 62 = .ok (.getfield 12, 3) := dR2 (f := Instr.getfield) (k := 0) (i := 62) bn_cX10_mileIs_0 dop_180 12 (by decide +kernel)
theorem dX10_mileIs_65 : decode cX10_mileIs 65 = .ok (.iload_n 1, 1) := dR0 (k := 0) (i := 65) bn_cX10_mileIs_0 dop_27 (by decide +kernel)
theorem dX10_mileIs_66 : decode cX10_mileIs 66 = .ok (.invokevirtual 158, 3) := dR2 (f := Instr.invokevirtual) (k := 0) (i := 66) bn_cX10_mileIs_0 dop_182 158 (by decide +kernel)
theorem dX10_mileIs_69 : decode cX10_mileIs 69 = .ok (.ireturn, 1) := dR0 (k := 0) (i := 69) bn_cX10_mileIs_0 dop_172 (by decide +kernel)
theorem dX10_mileIs_70 : decode cX10_mileIs 70 = .ok (.aload_n 0, 1) := dR0 (k := 0) (i := 70) bn_cX10_mileIs_0 dop_42 (by decide +kernel)
theorem dX10_mileIs_71 : decode cX10_mileIs 71 = .ok (.getfield 12, 3) := dR2 (f := Instr.getfield) (k := 0) (i := 71) bn_cX10_mileIs_0 dop_180 12 (by decide +kernel)
theorem dX10_mileIs_74 : decode cX10_mileIs 74 = .ok (.getfield 99, 3) := dR2 (f := Instr.getfield) (k := 0) (i := 74) bn_cX10_mileIs_0 dop_180 99 (by decide +kernel)
theorem dX10_mileIs_77 : decode cX10_mileIs 77 = .ok (.iload_n 1, 1) := dR0 (k := 0) (i := 77) bn_cX10_mileIs_0 dop_27 (by decide +kernel)
theorem dX10_mileIs_78 : decode cX10_mileIs 78 = .ok (.invokevirtual 161, 3) := dR2 (f := Instr.invokevirtual) (k := 0) (i := 78) bn_cX10_mileIs_0 dop_182 161 (by decide +kernel)
theorem dX10_mileIs_81 : decode cX10_mileIs 81 = .ok (.ifCond .eq 7, 3) := dR2s (f := Instr.ifCond .eq) (k := 0) (i := 81) bn_cX10_mileIs_0 dop_153 7 7 (by decide +kernel)
theorem dX10_mileIs_84 : decode cX10_mileIs 84 = .ok (.iconst 1, 1) := dR0 (k := 0) (i := 84) bn_cX10_mileIs_0 dop_4 (by decide +kernel)
theorem dX10_mileIs_85 : decode cX10_mileIs 85 = .ok (.goto 4, 3) := dR2s (f := Instr.goto) (k := 0) (i := 85) bn_cX10_mileIs_0 dop_167 4 4 (by decide +kernel)
theorem dX10_mileIs_88 : decode cX10_mileIs 88 = .ok (.iconst 0, 1) := dR0 (k := 0) (i := 88) bn_cX10_mileIs_0 dop_3 (by decide +kernel)
theorem dX10_mileIs_89 : decode cX10_mileIs 89 = .ok (.ireturn, 1) := dR0 (k := 0) (i := 89) bn_cX10_mileIs_0 dop_172 (by decide +kernel)
theorem dX10_mileIs_90 : decode cX10_mileIs 90 = .ok (.aload_n 0, 1) := dR0 (k := 0) (i := 90) bn_cX10_mileIs_0 dop_42 (by decide +kernel)
theorem dX10_mileIs_91 : decode cX10_mileIs 91 = .ok (.getfield 12, 3) := dR2 (f := Instr.getfield) (k := 0) (i := 91) bn_cX10_mileIs_0 dop_180 12 (by decide +kernel)
theorem dX10_mileIs_94 : decode cX10_mileIs 94 = .ok (.iload_n 1, 1) := dR0 (k := 0) (i := 94) bn_cX10_mileIs_0 dop_27 (by decide +kernel)
theorem dX10_mileIs_95 : decode cX10_mileIs 95 = .ok (.invokevirtual 164, 3) := dR2 (f := Instr.invokevirtual) (k := 0) (i := 95) bn_cX10_mileIs_0 dop_182 164 (by decide +kernel)
theorem dX10_mileIs_98 : decode cX10_mileIs 98 = .ok (.ireturn, 1) := dR0 (k := 0) (i := 98) bn_cX10_mileIs_0 dop_172 (by decide +kernel)
theorem dX10_mileIs_99 : decode cX10_mileIs 99 = .ok (.aload_n 0, 1) := dR0 (k := 0) (i := 99) bn_cX10_mileIs_0 dop_42 (by decide +kernel)
theorem dX10_mileIs_100 : decode cX10_mileIs 100 = .ok (.getfield 12, 3) := dR2 (f := Instr.getfield) (k := 0) (i := 100) bn_cX10_mileIs_0 dop_180 12 (by decide +kernel)
theorem dX10_mileIs_103 : decode cX10_mileIs 103 = .ok (.iload_n 1, 1) := dR0 (k := 0) (i := 103) bn_cX10_mileIs_0 dop_27 (by decide +kernel)
theorem dX10_mileIs_104 : decode cX10_mileIs 104 = .ok (.invokevirtual 167, 3) := dR2 (f := Instr.invokevirtual) (k := 0) (i := 104) bn_cX10_mileIs_0 dop_182 167 (by decide +kernel)
theorem dX10_mileIs_107 : decode cX10_mileIs 107 = .ok (.ireturn, 1) := dR0 (k := 0) (i := 107) bn_cX10_mileIs_0 dop_172 (by decide +kernel)
theorem dX10_mileIs_108 : decode cX10_mileIs 108 = .ok (.aload_n 0, 1) := dR0 (k := 0) (i := 108) bn_cX10_mileIs_0 dop_42 (by decide +kernel)
theorem dX10_mileIs_109 : decode cX10_mileIs 109 = .ok (.getfield 12, 3) := dR2 (f := Instr.getfield) (k := 0) (i := 109) bn_cX10_mileIs_0 dop_180 12 (by decide +kernel)
theorem dX10_mileIs_112 : decode cX10_mileIs 112 = .ok (.getfield 99, 3) := dR2 (f := Instr.getfield) (k := 0) (i := 112) bn_cX10_mileIs_0 dop_180 99 (by decide +kernel)
theorem dX10_mileIs_115 : decode cX10_mileIs 115 = .ok (.iload_n 1, 1) := dR0 (k := 0) (i := 115) bn_cX10_mileIs_0 dop_27 (by decide +kernel)
theorem dX10_mileIs_116 : decode cX10_mileIs 116 = .ok (.invokevirtual 170, 3) := dR2 (f := Instr.invokevirtual) (k := 0) (i := 116) bn_cX10_mileIs_0 dop_182 170 (by decide +kernel)
theorem dX10_mileIs_119 : decode cX10_mileIs 119 = .ok (.ireturn, 1) := dR0 (k := 0) (i := 119) bn_cX10_mileIs_0 dop_172 (by decide +kernel)
theorem dX10_mileIs_120 : decode cX10_mileIs 120 = .ok (.aload_n 0, 1) := dR0 (k := 0) (i := 120) bn_cX10_mileIs_0 dop_42 (by decide +kernel)
theorem dX10_mileIs_121 : decode cX10_mileIs 121 = .ok (.iconst 1, 1) := dR0 (k := 0) (i := 121) bn_cX10_mileIs_0 dop_4 (by decide +kernel)
theorem dX10_mileIs_122 : decode cX10_mileIs 122 = .ok (.invokevirtual 82, 3) := dR2 (f := Instr.invokevirtual) (k := 0) (i := 122) bn_cX10_mileIs_0 dop_182 82 (by decide +kernel)
theorem dX10_mileIs_125 : decode cX10_mileIs 125 = .ok (.ireturn, 1) := dR0 (k := 0) (i := 125) bn_cX10_mileIs_0 dop_172 (by decide +kernel)

theorem bn_cX10_tellSoils_0 : BN cX10_tellSoils 0 0xad0f31a00a8010150a0202214a0060b1840a160e97802b5068056a2b0a80538060b0186ebf00adc0a160e11c02b5158b002a314844c2050b0746a0151ad002b70e11c02b5158142c051b8107e04 := by
  unfold BN; decide +kernel
theorem dX10_tellSoils_0 : decode cX10_tellSoils 0 = .ok (.iconst 0, 1) := dR0 (k := 0) (i := 0) bn_cX10_tellSoils_0 dop_3 (by decide +kernel)
theorem dX10_tellSoils_1 : decode cX10_tellSoils 1 = .ok (.istore_n 3, 1) := dR0 (k := 0) (i := 1) bn_cX10_tellSoils_0 dop_62 (by decide +kernel)
theorem dX10_tellSoils_2 : decode cX10_tellSoils 2 = .ok (.iconst 0, 1) := dR0 (k := 0) (i := 2) bn_cX10_tellSoils_0 dop_3 (by decide +kernel)
theorem dX10_tellSoils_3 : decode cX10_tellSoils 3 = .ok (.istore 4, 2) := dR1 (f := Instr.istore) (k := 0) (i := 3) bn_cX10_tellSoils_0 dop_54 4 (by decide +kernel)
theorem dX10_tellSoils_5 : decode cX10_tellSoils 5 = .ok (.iload 4, 2) := dR1 (f := Instr.iload) (k := 0) (i := 5) bn_cX10_tellSoils_0 dop_21 4 (by decide +kernel)
theorem dX10_tellSoils_7 : decode cX10_tellSoils 7 = .ok (.aload_n 0, 1) := dR0 (k := 0) (i := 7) bn_cX10_tellSoils_0 dop_42 (by decide +kernel)
theorem dX10_tellSoils_8 : decode cX10_tellSoils 8 = .ok (.getfield 70, 3) := dR2 (f := Instr.getfield) (k := 0) (i := 8) bn_cX10_tellSoils_0 dop_180 70 (by decide +kernel)
theorem dX10_tellSoils_11 : decode cX10_tellSoils 11 = .ok (.iload_n 1, 1) := dR0 (k := 0) (i := 11) bn_cX10_tellSoils_0 dop_27 (by decide +kernel)
theorem dX10_tellSoils_12 : decode cX10_tellSoils 12 = .ok (.invokevirtual 179, 3) := dR2 (f := Instr.invokevirtual) (k := 0) (i := 12) bn_cX10_tellSoils_0 dop_182 179 (by decide +kernel)
theorem dX10_tellSoils_15 : decode cX10_tellSoils 15 = .ok (.if_icmp .ge 52, 3) := dR2s (f := Instr.if_icmp .ge) (k := 0) (i := 15) bn_cX10_tellSoils_0 dop_162 52 52 (by decide +kernel)
theorem dX10_tellSoils_18 : decode cX10_tellSoils 18 = .ok (.iload_n 2, 1) := dR0 (k := 0) (i := 18) bn_cX10_tellSoils_0 dop_28 (by decide +kernel)
theorem dX10_tellSoils_19 : decode cX10_tellSoils 19 = .ok (.iload 4, 2) := dR1 (f := Instr.iload) (k := 0) (i := 19) bn_cX10_tellSoils_0 dop_21 4 (by decide +kernel)
theorem dX10_tellSoils_21 : decode cX10_tellSoils 21 = .ok (.iadd, 1) := dR0 (k := 0) (i := 21) bn_cX10_tellSoils_0 dop_96 (by decide +kernel)
theorem dX10_tellSoils_22 : decode cX10_tellSoils 22 = .ok (.bipush 40, 2) := dR1s (f := Instr.bipush) (k := 0) (i := 22) bn_cX10_tellSoils_0 dop_16 40 40 (by decide +kernel)
theorem dX10_tellSoils_24 : decode cX10_tellSoils 24 = .ok (.if_icmp .ge 43, 3) := dR2s (f := Instr.if_icmp .ge) (k := 0) (i := 24) bn_cX10_tellSoils_0 dop_162 43 43 (by decide +kernel)
theorem dX10_tellSoils_27 : decode cX10_tellSoils 27 = .ok (.aload_n 0, 1) := dR0 (k := 0) (i := 27) bn_cX10_tellSoils_0 dop_42 (by decide +kernel)
theorem dX10_tellSoils_28 : decode cX10_tellSoils 28 = .ok (.getfield 70, 3) := dR2 (f := Instr.getfield) (k := 0) (i := 28) bn_cX10_tellSoils_0 dop_180 70 (by decide +kernel)
theorem dX10_tellSoils_31 : decode cX10_tellSoils 31 = .ok (.iload_n 1, 1) := dR0 (k := 0) (i := 31) bn_cX10_tellSoils_0 dop_27 (by decide +kernel)
theorem dX10_tellSoils_32 : decode cX10_tellSoils 32 = .ok (.iload 4, 2) := dR1 (f := Instr.iload) (k := 0) (i := 32) bn_cX10_tellSoils_0 dop_21 4 (by decide +kernel)
theorem dX10_tellSoils_34 : decode cX10_tellSoils 34 = .ok (.invokevirtual 190, 3) := dR2 (f := Instr.invokevirtual) (k := 0) (i := 34) bn_cX10_tellSoils_0 dop_182 190 (by decide +kernel)
theorem dX10_tellSoils_37 : decode cX10_tellSoils 37 = .ok (.istore 5, 2) := dR1 (f := Instr.istore) (k := 0) (i := 37) bn_cX10_tellSoils_0 dop_54 5 (by decide +kernel)
theorem dX10_tellSoils_39 : decode cX10_tellSoils 39 = .ok (.iload 5, 2) := dR1 (f := Instr.iload) (k := 0) (i := 39) bn_cX10_tellSoils_0 dop_21 5 (by decide +kernel)
theorem dX10_tellSoils_41 : decode cX10_tellSoils 41 = .ok (.ifCond .lt 20, 3) := dR2s (f := Instr.ifCond .lt) (k := 0) (i := 41) bn_cX10_tellSoils_0 dop_155 20 20 (by decide +kernel)
theorem dX10_tellSoils_44 : decode cX10_tellSoils 44 = .ok (.aload_n 0, 1) := dR0 (k := 0) (i := 44) bn_cX10_tellSoils_0 dop_42 (by decide +kernel)
theorem dX10_tellSoils_45 : decode cX10_tellSoils 45 = .ok (.getfield 12, 3) := dR2 (f := Instr.getfield) (k := 0) (i := 45) bn_cX10_tellSoils_0 dop_180 12 (by decide +kernel)
theorem dX10_tellSoils_48 : decode cX10_tellSoils 48 = .ok (.getfield 93, 3) := dR2 (f := Instr.getfield) (k := 0) (i := 48) bn_cX10_tellSoils_0 dop_180 93 (by decide +kernel)
theorem dX10_tellSoils_51 : decode cX10_tellSoils 51 = .ok (.iload_n 2, 1) := dR0 (k := 0) (i := 51) bn_cX10_tellSoils_0 dop_28 (by decide +kernel)
theorem dX10_tellSoils_52 : decode cX10_tellSoils 52 = .ok (.iload 4, 2) := dR1 (f := Instr.iload) (k := 0) (i := 52) bn_cX10_tellSoils_0 dop_21 4 (by decide +kernel)
theorem dX10_tellSoils_54 : decode cX10_tellSoils 54 = .ok (.iadd, 1) := dR0 (k := 0) (i := 54) bn_cX10_tellSoils_0 dop_96 (by decide +kernel)
theorem dX10_tellSoils_55 : decode cX10_tellSoils 55 = .ok (.iload 5, 2) := dR1 (f := Instr.iload) (k := 0) (i := 55) bn_cX10_tellSoils_0 dop_21 5 (by decide +kernel)
theorem dX10_tellSoils_57 : decode cX10_tellSoils 57 = .ok (.iastore, 1) := dR0 (k := 0) (i := 57) bn_cX10_tellSoils_0 dop_79 (by decide +kernel)
theorem dX10_tellSoils_58 : decode cX10_tellSoils 58 = .ok (.iinc 3 1, 3) := dRii (f := Instr.iinc) (k := 0) (i := 58) bn_cX10_tellSoils_0 dop_132 3 1 1 (by decide +kernel)
theorem dX10_tellSoils_61 : decode cX10_tellSoils 61 = .ok (.iinc 4 1, 3) := dRii (f := Instr.iinc) (k := 0) (i := 61) bn_cX10_tellSoils_0 dop_132 4 1 1 (by decide +kernel)
theorem dX10_tellSoils_64 : decode cX10_tellSoils 64 = .ok (.goto (-59), 3) := dR2s (f := Instr.goto) (k := 0) (i := 64) bn_cX10_tellSoils_0 dop_167 65477 (-59) (by decide +kernel)
theorem dX10_tellSoils_67 : decode cX10_tellSoils 67 = .ok (.iload_n 3, 1) := dR0 (k := 0) (i := 67) bn_cX10_tellSoils_0 dop_29 (by decide +kernel)
theorem dX10_tellSoils_68 : decode cX10_tellSoils 68 = .ok (.ireturn, 1) := dR0 (k := 0) (i := 68) bn_cX10_tellSoils_0 dop_172 (by decide +kernel)
set_option maxHeartbeats 4000000 in
set_option maxRecDepth 100000 in
theorem c_X10_tellSoilsG (l : Launch) (D : va_G) (cI : ClassId) (aK aV : Nat → Nat) (k k0 k1 k2 k3 k4 k5 k6 k7 k8 k9 ka kb k00 k01 k02 k03 k04 k05 ka0 ka1 ka2 : Nat) (sz : Nat) (cc : Int32) (c06 : Int32) (c07 : Int32) (c08 : Int32) (c01 : Nat → Int32) (ca1 : Nat → Int32) (ca2 : Nat → Int32) (a0 : Int32) (a1 : Int32) (pre0 : ∀ k : Nat, k < 4 → 0 ≤ (ca1 k).toInt ∧ (ca1 k).toInt ≤ 36) (pre1 : 0 ≤ a0.toInt) (pre2 : a0.toInt ≤ 3) (pre3 : 0 ≤ a1.toInt) (pre4 : a1.toInt ≤ 39) (pre5 : a1.toInt + (ca1 a0.toNatClampNeg).toInt ≤ 40) : Met l yX10_tellSoils (gW yX10_tellSoils cX10_tellSoils 6 (some .int)) ({ frames := 4, cells := 0, slots := 0, locals := 85 } : Room) (kPreX D cI aK aV [.ref k, .int a0, .int a1] [(k, .inr (10, [.ref k0, .ref k1, .ref k2, .ref k3, .ref k4, .ref k5, .ref k6, .ref k7, .ref k8, .ref k9, .ref ka, .ref kb, .int cc])), (k0, .inr (9, [.ref k00, .ref k01, .ref k02, .ref k03, .ref k04, .ref k05, .int c06, .int c07, .int c08])), (ka, .inr (6, [.ref ka0, .ref ka1, .ref ka2])), (k01, .inl (cI, 40, .inl c01)), (ka1, .inl (cI, 4, .inl ca1)), (ka2, .inl (cI, 144, .inl ca2))] sz) (va_Qi (fun (r : Int32) (u : (Nat → Int32)) => r = cntB (shv ca2 a0) (ca1 a0.toNatClampNeg).toInt.toNat ∧ u = soW c01 (0 + a1.toInt.toNat) (shv ca2 a0) (ca1 a0.toNatClampNeg).toInt.toNat) (fun u t => kWd D cI (va_A [(k, .inr (10, [.ref k0, .ref k1, .ref k2, .ref k3, .ref k4, .ref k5, .ref k6, .ref k7, .ref k8, .ref k9, .ref ka, .ref kb, .int cc])), (k0, .inr (9, [.ref k00, .ref k01, .ref k02, .ref k03, .ref k04, .ref k05, .int c06, .int c07, .int c08])), (ka, .inr (6, [.ref ka0, .ref ka1, .ref ka2])), (k01, .inl (cI, 40, .inl c01)), (ka1, .inl (cI, 4, .inl ca1)), (ka2, .inl (cI, 144, .inl ca2))] sz) [(k, .inr (10, [.ref k0, .ref k1, .ref k2, .ref k3, .ref k4, .ref k5, .ref k6, .ref k7, .ref k8, .ref k9, .ref ka, .ref kb, .int cc])), (k0, .inr (9, [.ref k00, .ref k01, .ref k02, .ref k03, .ref k04, .ref k05, .int c06, .int c07, .int c08])), (ka, .inr (6, [.ref ka0, .ref ka1, .ref ka2])), (k01, .inl (cI, 40, .inl u)), (ka1, .inl (cI, 4, .inl ca1)), (ka2, .inl (cI, 144, .inl ca2))] t) (va_A [(k, .inr (10, [.ref k0, .ref k1, .ref k2, .ref k3, .ref k4, .ref k5, .ref k6, .ref k7, .ref k8, .ref k9, .ref ka, .ref kb, .int cc])), (k0, .inr (9, [.ref k00, .ref k01, .ref k02, .ref k03, .ref k04, .ref k05, .int c06, .int c07, .int c08])), (ka, .inr (6, [.ref ka0, .ref ka1, .ref ka2])), (k01, .inl (cI, 40, .inl c01)), (ka1, .inl (cI, 4, .inl ca1)), (ka2, .inl (cI, 144, .inl ca2))] sz)) 0 0 (va_A [(k, .inr (10, [.ref k0, .ref k1, .ref k2, .ref k3, .ref k4, .ref k5, .ref k6, .ref k7, .ref k8, .ref k9, .ref ka, .ref kb, .int cc])), (k0, .inr (9, [.ref k00, .ref k01, .ref k02, .ref k03, .ref k04, .ref k05, .int c06, .int c07, .int c08])), (ka, .inr (6, [.ref ka0, .ref ka1, .ref ka2])), (k01, .inl (cI, 40, .inl c01)), (ka1, .inl (cI, 4, .inl ca1)), (ka2, .inl (cI, 144, .inl ca2))] sz) := by
  refine kMetIX (own := RX10) (by decide +kernel) rfl (Nat.le_of_ble_eq_true rfl) ?_
  intro p e s m args below meth c hx hb hT hown hname hml A Q hK hP hD hS hA hN hXS hRet ls hl
  have hl : lv_has ls 6 [(0, .ref k), (1, .int a0), (2, .int a1)] := hl
  have lo_a0 := k_lo a0
  have hi_a0 := k_hi a0
  have lo_a1 := k_lo a1
  have hi_a1 := k_hi a1
  have hln := pre0 a0.toNatClampNeg (by rw [k_clamp]; omega)
  refine lv_iconst (v := 0) hx hb dX10_tellSoils_0 (by decide +kernel) ?_
  refine lv_istore_n (lv' := [(3, .int 0), (0, .ref k), (1, .int a0), (2, .int a1)]) hx hb dX10_tellSoils_1 rfl hl (by decide +kernel) rfl ?_
  clear hl
  intro ls hl
  refine lv_iconst (v := 0) hx hb dX10_tellSoils_2 (by decide +kernel) ?_
  refine lv_istore (lv' := [(4, .int 0), (3, .int 0), (0, .ref k), (1, .int a0), (2, .int a1)]) hx hb dX10_tellSoils_3 hl (by decide +kernel) rfl ?_
  clear hl
  intro ls hl
  have hloop_5 : ∀ (fu_ : Nat) (l5_3 : Int32) (l5_4 : Int32) (g5_k01 : Nat → Int32), 0 ≤ l5_4.toInt → l5_4.toInt ≤ (ca1 a0.toNatClampNeg).toInt → g5_k01 = soW c01 (0 + a1.toInt.toNat) (shv ca2 a0) l5_4.toInt.toNat → l5_3 = cntB (shv ca2 a0) l5_4.toInt.toNat → (36 - l5_4.toInt).toNat < fu_ → ∀ (ls : Array Slot) (H : Heap) (locs : List Loc), lv_has ls 6 [(4, .int l5_4), (3, .int l5_3), (0, .ref k), (1, .int a0), (2, .int a1)] → va_P D vwCl [(k, .inr (10, [.ref k0, .ref k1, .ref k2, .ref k3, .ref k4, .ref k5, .ref k6, .ref k7, .ref k8, .ref k9, .ref ka, .ref kb, .int cc])), (k0, .inr (9, [.ref k00, .ref k01, .ref k02, .ref k03, .ref k04, .ref k05, .int c06, .int c07, .int c08])), (ka, .inr (6, [.ref ka0, .ref ka1, .ref ka2])), (k01, .inl (cI, 40, .inl g5_k01)), (ka1, .inl (cI, 4, .inl ca1)), (ka2, .inl (cI, 144, .inl ca2))] H → va_D A [(k, .inr (10, [.ref k0, .ref k1, .ref k2, .ref k3, .ref k4, .ref k5, .ref k6, .ref k7, .ref k8, .ref k9, .ref ka, .ref kb, .int cc])), (k0, .inr (9, [.ref k00, .ref k01, .ref k02, .ref k03, .ref k04, .ref k05, .int c06, .int c07, .int c08])), (ka, .inr (6, [.ref ka0, .ref ka1, .ref ka2])), (k01, .inl (cI, 40, .inl g5_k01)), (ka1, .inl (cI, 4, .inl ca1)), (ka2, .inl (cI, 144, .inl ca2))] → va_S A s.heap H locs → W p l e ({ frames := 4, cells := 0, slots := 0, locals := 85 } : Room) s m args below meth c H locs 0 0 Q (F0 m 5 ls []) := by
    intro fu_; induction fu_ with
    | zero => intro l5_3 l5_4 g5_k01 i5_0 i5_1 i5_2 i5_3 hm; exact absurd hm (by omega)
    | succ fu_ ih5 =>
        intro l5_3 l5_4 g5_k01 i5_0 i5_1 i5_2 i5_3 hm ls H locs hl hP hD hS
        have lo_l5_3 := k_lo l5_3
        have hi_l5_3 := k_hi l5_3
        have lo_l5_4 := k_lo l5_4
        have hi_l5_4 := k_hi l5_4
        have i5_2 : g5_k01 = soW c01 (0 + a1.toInt.toNat) (shv ca2 a0) l5_4.toInt.toNat := i5_2
        have i5_3 : l5_3 = cntB (shv ca2 a0) l5_4.toInt.toNat := i5_3
        refine lv_iload hx hb dX10_tellSoils_5 (lv_at hl 0 rfl) ?_
        refine lv_aload_n hx hb dX10_tellSoils_7 rfl (lv_at hl 2 rfl) ?_
        refine va_get (D := D) (ci := 10) (v := .ref ka) (C := RX10) (T := TX10) (N := 13) hx hb hT giX10 hown hK hP 0 rfl rfl 10 (by decide +kernel) (hT (Cond.fieldLink RX10 70 "DesertWire" "sheets" "LDesertWire$Sheets;") mw_301) (fun _ h9 => h9) rfl dX10_tellSoils_8 ?_
        refine lv_iload_n hx hb dX10_tellSoils_11 rfl (lv_at hl 3 rfl) ?_
        refine kJi (wr := [(k, .inr (10, [.ref k0, .ref k1, .ref k2, .ref k3, .ref k4, .ref k5, .ref k6, .ref k7, .ref k8, .ref k9, .ref ka, .ref kb, .int cc])), (k0, .inr (9, [.ref k00, .ref k01, .ref k02, .ref k03, .ref k04, .ref k05, .int c06, .int c07, .int c08])), (k01, .inl (cI, 40, .inl g5_k01)), (ka2, .inl (cI, 144, .inl ca2))]) (va_runV (As := [.int a0]) (rest := [.int l5_4]) ⟨hx, hb, hml, hown, hT⟩ (c_X6_lengthOfG l D cI aK aV ka ka0 ka1 ka2 H.size ca1 a0 (by first | omega | decide | assumption | rfl)) (cwV 1 hT (gV_in mw_675 mw_672 mw_673 mw_674 mw_11) rfl rfl rfl (by decide +kernel) ⟨Nat.le_of_ble_eq_true rfl, Nat.le_of_ble_eq_true rfl⟩) (kRecvX (q0 := 2) (ci := 6) hK hP hD hN hXS hS hA rfl rfl [2, 4] rfl (by decide +kernel)) rfl rfl hl.1 rfl (lv_room (Nat.le_of_ble_eq_true rfl)) dX10_tellSoils_12 ⟨Nat.le_of_ble_eq_true rfl, Nat.le_of_ble_eq_true rfl⟩) hP hD hS hA [2, 4] [0, 1, 3, 5] rfl rfl (by decide +kernel) (by decide +kernel) ?_
        clear hP hD hS
        intro r_1 u_3 H locs w_2 hP hD hS
        replace hP : va_P D vwCl [(k, .inr (10, [.ref k0, .ref k1, .ref k2, .ref k3, .ref k4, .ref k5, .ref k6, .ref k7, .ref k8, .ref k9, .ref ka, .ref kb, .int cc])), (k0, .inr (9, [.ref k00, .ref k01, .ref k02, .ref k03, .ref k04, .ref k05, .int c06, .int c07, .int c08])), (k01, .inl (cI, 40, .inl g5_k01)), (ka2, .inl (cI, 144, .inl ca2)), (ka, .inr (6, [.ref ka0, .ref ka1, .ref ka2])), (ka1, .inl (cI, 4, .inl ca1))] H := hP
        replace hD : va_D A [(k, .inr (10, [.ref k0, .ref k1, .ref k2, .ref k3, .ref k4, .ref k5, .ref k6, .ref k7, .ref k8, .ref k9, .ref ka, .ref kb, .int cc])), (k0, .inr (9, [.ref k00, .ref k01, .ref k02, .ref k03, .ref k04, .ref k05, .int c06, .int c07, .int c08])), (k01, .inl (cI, 40, .inl g5_k01)), (ka2, .inl (cI, 144, .inl ca2)), (ka, .inr (6, [.ref ka0, .ref ka1, .ref ka2])), (ka1, .inl (cI, 4, .inl ca1))] := hD
        rcases w_2 with ⟨h_4, h_5, h_6, h_7, h_8⟩ | ⟨hr_1, h_9⟩
        · have h_4 : 0 ≤ a0.toInt := h_4
          have h_5 : a0.toInt ≤ 3 := h_5
          have h_6 : 0 ≤ r_1.toInt := h_6
          have h_7 : r_1.toInt ≤ 36 := h_7
          have h_8 : r_1.toInt = (ca1 a0.toNatClampNeg).toInt := h_8
          have lo_r_1 := k_lo r_1
          have hi_r_1 := k_hi r_1
          refine b_icmp_ge hx hb rfl rfl (tgt := 67) dX10_tellSoils_15 (by decide +kernel) (fun c_10 => ?_) (fun c_10 => ?_)
          · refine lv_iload_n hx hb dX10_tellSoils_67 rfl (lv_at hl 1 rfl) ?_
            exact hRet g5_k01 [0, 1, 4, 2, 5, 3] ⟨(by rw [show (ca1 a0.toNatClampNeg).toInt.toNat = l5_4.toInt.toNat from by omega]; exact i5_3), (by rw [show (ca1 a0.toNatClampNeg).toInt.toNat = l5_4.toInt.toNat from by omega]; exact i5_2)⟩ hP hD (by decide +kernel) rfl hS rfl dX10_tellSoils_68
          · refine lv_iload_n hx hb dX10_tellSoils_18 rfl (lv_at hl 4 rfl) ?_
            refine lv_iload hx hb dX10_tellSoils_19 (lv_at hl 0 rfl) ?_
            refine lv_iadd hx hb dX10_tellSoils_21 ?_
            refine lv_topi (fun v_11 ev_11 => ?_)
            have tv_11 : v_11.toInt = a1.toInt + l5_4.toInt := by rw [ev_11]; exact k_addv rfl rfl (by omega) (by omega)
            refine lv_bipush (v := 40) hx hb dX10_tellSoils_22 (by decide +kernel) ?_
            refine b_icmp_ge hx hb rfl zl_40 (tgt := 67) dX10_tellSoils_24 (by decide +kernel) (fun c_12 => by exfalso; omega) (fun c_12 => ?_)
            refine lv_aload_n hx hb dX10_tellSoils_27 rfl (lv_at hl 2 rfl) ?_
            refine va_get (D := D) (ci := 10) (v := .ref ka) (C := RX10) (T := TX10) (N := 13) hx hb hT giX10 hown hK hP 0 rfl rfl 10 (by decide +kernel) (hT (Cond.fieldLink RX10 70 "DesertWire" "sheets" "LDesertWire$Sheets;") mw_301) (fun _ h9 => h9) rfl dX10_tellSoils_28 ?_
            refine lv_iload_n hx hb dX10_tellSoils_31 rfl (lv_at hl 3 rfl) ?_
            refine lv_iload hx hb dX10_tellSoils_32 (lv_at hl 0 rfl) ?_
            refine kJi (wr := [(k, .inr (10, [.ref k0, .ref k1, .ref k2, .ref k3, .ref k4, .ref k5, .ref k6, .ref k7, .ref k8, .ref k9, .ref ka, .ref kb, .int cc])), (k0, .inr (9, [.ref k00, .ref k01, .ref k02, .ref k03, .ref k04, .ref k05, .int c06, .int c07, .int c08])), (k01, .inl (cI, 40, .inl g5_k01))]) (va_runV (As := [.int a0, .int l5_4]) (rest := []) ⟨hx, hb, hml, hown, hT⟩ (c_X6_numberAtG l D cI aK aV ka ka0 ka1 ka2 H.size ca1 ca2 a0 l5_4 (by first | omega | decide | assumption | rfl)) (cwV 2 hT (gV_in mw_684 mw_696 mw_682 mw_683 mw_11) rfl rfl rfl (by decide +kernel) ⟨Nat.le_of_ble_eq_true rfl, Nat.le_of_ble_eq_true rfl⟩) (kRecvX (q0 := 4) (ci := 6) hK hP hD hN hXS hS hA rfl rfl [4, 5, 3] rfl (by decide +kernel)) rfl rfl hl.1 rfl (lv_room (Nat.le_of_ble_eq_true rfl)) dX10_tellSoils_34 ⟨Nat.le_of_ble_eq_true rfl, Nat.le_of_ble_eq_true rfl⟩) hP hD hS hA [4, 5, 3] [0, 1, 2] rfl rfl (by decide +kernel) (by decide +kernel) ?_
            clear hP hD hS
            intro r_13 u_15 H locs w_14 hP hD hS
            replace hP : va_P D vwCl [(k, .inr (10, [.ref k0, .ref k1, .ref k2, .ref k3, .ref k4, .ref k5, .ref k6, .ref k7, .ref k8, .ref k9, .ref ka, .ref kb, .int cc])), (k0, .inr (9, [.ref k00, .ref k01, .ref k02, .ref k03, .ref k04, .ref k05, .int c06, .int c07, .int c08])), (k01, .inl (cI, 40, .inl g5_k01)), (ka, .inr (6, [.ref ka0, .ref ka1, .ref ka2])), (ka1, .inl (cI, 4, .inl ca1)), (ka2, .inl (cI, 144, .inl ca2))] H := hP
            replace hD : va_D A [(k, .inr (10, [.ref k0, .ref k1, .ref k2, .ref k3, .ref k4, .ref k5, .ref k6, .ref k7, .ref k8, .ref k9, .ref ka, .ref kb, .int cc])), (k0, .inr (9, [.ref k00, .ref k01, .ref k02, .ref k03, .ref k04, .ref k05, .int c06, .int c07, .int c08])), (k01, .inl (cI, 40, .inl g5_k01)), (ka, .inr (6, [.ref ka0, .ref ka1, .ref ka2])), (ka1, .inl (cI, 4, .inl ca1)), (ka2, .inl (cI, 144, .inl ca2))] := hD
            have h_16 := w_14
            have h_16 : r_13 = kNum ca1 ca2 a0 l5_4 := h_16
            have lo_r_13 := k_lo r_13
            have hi_r_13 := k_hi r_13
            refine lv_istore (lv' := [(5, .int r_13), (4, .int l5_4), (3, .int l5_3), (0, .ref k), (1, .int a0), (2, .int a1)]) hx hb dX10_tellSoils_37 hl (by decide +kernel) rfl ?_
            clear hl
            intro ls hl
            refine lv_iload hx hb dX10_tellSoils_39 (lv_at hl 0 rfl) ?_
            refine b_if_lt hx hb rfl (tgt := 61) dX10_tellSoils_41 (by decide +kernel) (fun c_17 => ?_) (fun c_17 => ?_)
            · obtain ⟨v_18, ev_18⟩ : ∃ y : Int32, y = l5_4 + 1 := ⟨_, rfl⟩
              have tv_18 : v_18.toInt = l5_4.toInt + 1 := by rw [ev_18]; exact k_addv rfl zl_1 (by omega) (by omega)
              refine lv_iinc (v := v_18) (lv' := [(4, .int v_18), (5, .int r_13), (3, .int l5_3), (0, .ref k), (1, .int a0), (2, .int a1)]) hx hb dX10_tellSoils_61 hl (k := 1) rfl (by rw [ev_18]; rfl) (by decide +kernel) rfl ?_
              clear hl
              intro ls hl
              refine lv_goto (tgt := 5) hx hb dX10_tellSoils_64 (by decide +kernel) ?_
              exact ih5 l5_3 v_18 g5_k01 (by first | omega | decide | assumption | rfl) (by first | omega | decide | assumption | rfl) (so_no i5_2 i5_3 (by omega) (by omega) (h_16.trans (kNum_shv (by omega) (by omega) (by omega) (by omega) (by omega))) (by omega)).1 (so_no i5_2 i5_3 (by omega) (by omega) (h_16.trans (kNum_shv (by omega) (by omega) (by omega) (by omega) (by omega))) (by omega)).2 (by omega) ls _ _ (lv_sub hl [0, 2, 3, 4, 5] rfl) (hP.sub [0, 1, 3, 2, 4, 5] rfl) (hD.sub [0, 1, 3, 2, 4, 5] (by decide +kernel) rfl) hS
            · refine lv_aload_n hx hb dX10_tellSoils_44 rfl (lv_at hl 3 rfl) ?_
              refine va_get (D := D) (ci := 10) (v := .ref k0) (C := RX10) (T := TX10) (N := 13) hx hb hT giX10 hown hK hP 0 rfl rfl 0 (by decide +kernel) (hT (Cond.fieldLink RX10 12 "DesertWire" "now" "LDesertWire$World;") mw_291) (fun _ h9 => h9) rfl dX10_tellSoils_45 ?_
              refine va_get (D := D) (ci := 9) (v := .ref k01) (C := RX9) (T := TX9) (N := 9) hx hb hT giX9 hown hK hP 1 rfl rfl 1 (by decide +kernel) (hT (Cond.fieldLink RX10 93 "DesertWire$World" "soils" "[I") mw_92) (fun _ h9 => h9) rfl dX10_tellSoils_48 ?_
              refine lv_iload_n hx hb dX10_tellSoils_51 rfl (lv_at hl 5 rfl) ?_
              refine lv_iload hx hb dX10_tellSoils_52 (lv_at hl 1 rfl) ?_
              refine lv_iadd hx hb dX10_tellSoils_54 ?_
              refine lv_topi (fun v_19 ev_19 => ?_)
              have tv_19 : v_19.toInt = a1.toInt + l5_4.toInt := by rw [ev_19]; exact k_addv rfl rfl (by omega) (by omega)
              refine lv_iload hx hb dX10_tellSoils_55 (lv_at hl 0 rfl) ?_
              refine va_iast hx hb hK hP hD hS 2 0 rfl rfl (k_in (by omega) (by omega)) dX10_tellSoils_57 ?_
              clear hP hD hS
              intro H locs hP hD hS
              replace hP : va_P D vwCl [(k, .inr (10, [.ref k0, .ref k1, .ref k2, .ref k3, .ref k4, .ref k5, .ref k6, .ref k7, .ref k8, .ref k9, .ref ka, .ref kb, .int cc])), (k0, .inr (9, [.ref k00, .ref k01, .ref k02, .ref k03, .ref k04, .ref k05, .int c06, .int c07, .int c08])), (k01, .inl (cI, 40, .inl (upd g5_k01 v_19.toNatClampNeg r_13))), (ka, .inr (6, [.ref ka0, .ref ka1, .ref ka2])), (ka1, .inl (cI, 4, .inl ca1)), (ka2, .inl (cI, 144, .inl ca2))] H := hP
              replace hD : va_D A [(k, .inr (10, [.ref k0, .ref k1, .ref k2, .ref k3, .ref k4, .ref k5, .ref k6, .ref k7, .ref k8, .ref k9, .ref ka, .ref kb, .int cc])), (k0, .inr (9, [.ref k00, .ref k01, .ref k02, .ref k03, .ref k04, .ref k05, .int c06, .int c07, .int c08])), (k01, .inl (cI, 40, .inl (upd g5_k01 v_19.toNatClampNeg r_13))), (ka, .inr (6, [.ref ka0, .ref ka1, .ref ka2])), (ka1, .inl (cI, 4, .inl ca1)), (ka2, .inl (cI, 144, .inl ca2))] := hD
              obtain ⟨f_20, ef_20⟩ : ∃ g : Nat → Int32, g = upd g5_k01 v_19.toNatClampNeg r_13 := ⟨_, rfl⟩
              rw [← ef_20] at hP hD
              obtain ⟨v_21, ev_21⟩ : ∃ y : Int32, y = l5_3 + 1 := ⟨_, rfl⟩
              have lo_v_21 := k_lo v_21
              have hi_v_21 := k_hi v_21
              refine lv_iinc (v := v_21) (lv' := [(3, .int v_21), (5, .int r_13), (4, .int l5_4), (0, .ref k), (1, .int a0), (2, .int a1)]) hx hb dX10_tellSoils_58 hl (k := 2) rfl (by rw [ev_21]; rfl) (by decide +kernel) rfl ?_
              clear hl
              intro ls hl
              obtain ⟨v_22, ev_22⟩ : ∃ y : Int32, y = l5_4 + 1 := ⟨_, rfl⟩
              have tv_22 : v_22.toInt = l5_4.toInt + 1 := by rw [ev_22]; exact k_addv rfl zl_1 (by omega) (by omega)
              refine lv_iinc (v := v_22) (lv' := [(4, .int v_22), (3, .int v_21), (5, .int r_13), (0, .ref k), (1, .int a0), (2, .int a1)]) hx hb dX10_tellSoils_61 hl (k := 2) rfl (by rw [ev_22]; rfl) (by decide +kernel) rfl ?_
              clear hl
              intro ls hl
              refine lv_goto (tgt := 5) hx hb dX10_tellSoils_64 (by decide +kernel) ?_
              exact ih5 v_21 v_22 f_20 (by first | omega | decide | assumption | rfl) (by first | omega | decide | assumption | rfl) (so_yes i5_2 i5_3 (by omega) (by omega) (h_16.trans (kNum_shv (by omega) (by omega) (by omega) (by omega) (by omega))) (by omega) (up_in ef_20 (by omega)) ev_21).1 (so_yes i5_2 i5_3 (by omega) (by omega) (h_16.trans (kNum_shv (by omega) (by omega) (by omega) (by omega) (by omega))) (by omega) (up_in ef_20 (by omega)) ev_21).2 (by omega) ls _ _ (lv_sub hl [0, 1, 3, 4, 5] rfl) (hP.sub [0, 1, 3, 2, 4, 5] rfl) (hD.sub [0, 1, 3, 2, 4, 5] (by decide +kernel) rfl) hS
        · exfalso; omega
  exact hloop_5 _ 0 0 c01 (by first | omega | (simp only [zl_0]; first | done | omega) | decide | assumption | rfl) (by first | omega | (simp only [zl_0]; first | done | omega) | decide | assumption | rfl) (by rw [zl_0]; rfl) (by rw [zl_0]; rfl) (Nat.lt_succ_self _) ls _ _ (lv_sub hl [0, 1, 2, 3, 4] rfl) hP hD hS
