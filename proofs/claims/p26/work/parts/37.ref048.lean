theorem bn_cX11_effort_0 : BN cX11_effort 0 0xad309a43a0b08854220b00aa052110480542050f05402a80584412014d8787e2f308702811050056a2b := by
  unfold BN; decide +kernel
theorem dX11_effort_0 : decode cX11_effort 0 = .ok (.aload_n 0, 1) := dR0 (k := 0) (i := 0) bn_cX11_effort_0 dop_42 (by decide +kernel)
theorem dX11_effort_1 : decode cX11_effort 1 = .ok (.getfield 9, 3) := dR2 (f := Instr.getfield) (k := 0) (i := 1) bn_cX11_effort_0 dop_180 9 (by decide +kernel)
theorem dX11_effort_4 : decode cX11_effort 4 = .ok (.bipush 19, 2) := dR1s (f := Instr.bipush) (k := 0) (i := 4) bn_cX11_effort_0 dop_16 19 19 (by decide +kernel)
theorem dX11_effort_6 : decode cX11_effort 6 = .ok (.iload_n 1, 1) := dR0 (k := 0) (i := 6) bn_cX11_effort_0 dop_27 (by decide +kernel)
theorem dX11_effort_7 : decode cX11_effort 7 = .ok (.iadd, 1) := dR0 (k := 0) (i := 7) bn_cX11_effort_0 dop_96 (by decide +kernel)
theorem dX11_effort_8 : decode cX11_effort 8 = .ok (.iaload, 1) := dR0 (k := 0) (i := 8) bn_cX11_effort_0 dop_46 (by decide +kernel)
theorem dX11_effort_9 : decode cX11_effort 9 = .ok (.istore_n 3, 1) := dR0 (k := 0) (i := 9) bn_cX11_effort_0 dop_62 (by decide +kernel)
theorem dX11_effort_10 : decode cX11_effort 10 = .ok (.iload_n 3, 1) := dR0 (k := 0) (i := 10) bn_cX11_effort_0 dop_29 (by decide +kernel)
theorem dX11_effort_11 : decode cX11_effort 11 = .ok (.ifCond .ne 8, 3) := dR2s (f := Instr.ifCond .ne) (k := 0) (i := 11) bn_cX11_effort_0 dop_154 8 8 (by decide +kernel)
theorem dX11_effort_14 : decode cX11_effort 14 = .ok (.bipush 10, 2) := dR1s (f := Instr.bipush) (k := 0) (i := 14) bn_cX11_effort_0 dop_16 10 10 (by decide +kernel)
theorem dX11_effort_16 : decode cX11_effort 16 = .ok (.goto 20, 3) := dR2s (f := Instr.goto) (k := 0) (i := 16) bn_cX11_effort_0 dop_167 20 20 (by decide +kernel)
theorem dX11_effort_19 : decode cX11_effort 19 = .ok (.iload_n 3, 1) := dR0 (k := 0) (i := 19) bn_cX11_effort_0 dop_29 (by decide +kernel)
theorem dX11_effort_20 : decode cX11_effort 20 = .ok (.iconst 1, 1) := dR0 (k := 0) (i := 20) bn_cX11_effort_0 dop_4 (by decide +kernel)
theorem dX11_effort_21 : decode cX11_effort 21 = .ok (.if_icmp .ne 8, 3) := dR2s (f := Instr.if_icmp .ne) (k := 0) (i := 21) bn_cX11_effort_0 dop_160 8 8 (by decide +kernel)
theorem dX11_effort_24 : decode cX11_effort 24 = .ok (.bipush 40, 2) := dR1s (f := Instr.bipush) (k := 0) (i := 24) bn_cX11_effort_0 dop_16 40 40 (by decide +kernel)
theorem dX11_effort_26 : decode cX11_effort 26 = .ok (.goto 10, 3) := dR2s (f := Instr.goto) (k := 0) (i := 26) bn_cX11_effort_0 dop_167 10 10 (by decide +kernel)
theorem dX11_effort_29 : decode cX11_effort 29 = .ok (.bipush 20, 2) := dR1s (f := Instr.bipush) (k := 0) (i := 29) bn_cX11_effort_0 dop_16 20 20 (by decide +kernel)
theorem dX11_effort_31 : decode cX11_effort 31 = .ok (.bipush 10, 2) := dR1s (f := Instr.bipush) (k := 0) (i := 31) bn_cX11_effort_0 dop_16 10 10 (by decide +kernel)
theorem dX11_effort_33 : decode cX11_effort 33 = .ok (.iload_n 2, 1) := dR0 (k := 0) (i := 33) bn_cX11_effort_0 dop_28 (by decide +kernel)
theorem dX11_effort_34 : decode cX11_effort 34 = .ok (.imul, 1) := dR0 (k := 0) (i := 34) bn_cX11_effort_0 dop_104 (by decide +kernel)
theorem dX11_effort_35 : decode cX11_effort 35 = .ok (.iadd, 1) := dR0 (k := 0) (i := 35) bn_cX11_effort_0 dop_96 (by decide +kernel)
theorem dX11_effort_36 : decode cX11_effort 36 = .ok (.ireturn, 1) := dR0 (k := 0) (i := 36) bn_cX11_effort_0 dop_172 (by decide +kernel)
set_option maxHeartbeats 4000000 in
set_option maxRecDepth 100000 in
theorem c_X11_effortG (l : Launch) (D : va_G) (cI : ClassId) (aK aV : Nat → Nat) (k k0 k1 k2 k4 k5 k6 k7 k8 ka kb kl ko : Nat) (sz : Nat) (c3 : Int32) (c9 : Int32) (cc : Int32) (cd : Int32) (ce : Int32) (cf : Int32) (cg : Int32) (ch : Int32) (ci : Int32) (cj : Int32) (ck : Int32) (cm : Int32) (cn : Int32) (c0 : Nat → Int32) (a0 : Int32) (a1 : Int32) (pre0 : SB c0) (pre1 : 0 ≤ a0.toInt) (pre2 : a0.toInt ≤ 39) : Met l yX11_effort (gW yX11_effort cX11_effort 4 (some .int)) ({ frames := 0, cells := 0, slots := 0, locals := 0 } : Room) (kPreX D cI aK aV [.ref k, .int a0, .int a1] [(k, .inr (11, [.ref k0, .ref k1, .ref k2, .int c3, .ref k4, .ref k5, .ref k6, .ref k7, .ref k8, .int c9, .ref ka, .ref kb, .int cc, .int cd, .int ce, .int cf, .int cg, .int ch, .int ci, .int cj, .int ck, .ref kl, .int cm, .int cn, .ref ko])), (k0, .inl (cI, 1201, .inl c0))] sz) (va_Qi (fun (r : Int32) (u : Unit) => r = efN c0 a0.toInt a1) (fun u t => kWd D cI (va_A [(k, .inr (11, [.ref k0, .ref k1, .ref k2, .int c3, .ref k4, .ref k5, .ref k6, .ref k7, .ref k8, .int c9, .ref ka, .ref kb, .int cc, .int cd, .int ce, .int cf, .int cg, .int ch, .int ci, .int cj, .int ck, .ref kl, .int cm, .int cn, .ref ko])), (k0, .inl (cI, 1201, .inl c0))] sz) [(k, .inr (11, [.ref k0, .ref k1, .ref k2, .int c3, .ref k4, .ref k5, .ref k6, .ref k7, .ref k8, .int c9, .ref ka, .ref kb, .int cc, .int cd, .int ce, .int cf, .int cg, .int ch, .int ci, .int cj, .int ck, .ref kl, .int cm, .int cn, .ref ko])), (k0, .inl (cI, 1201, .inl c0))] t) (va_A [(k, .inr (11, [.ref k0, .ref k1, .ref k2, .int c3, .ref k4, .ref k5, .ref k6, .ref k7, .ref k8, .int c9, .ref ka, .ref kb, .int cc, .int cd, .int ce, .int cf, .int cg, .int ch, .int ci, .int cj, .int ck, .ref kl, .int cm, .int cn, .ref ko])), (k0, .inl (cI, 1201, .inl c0))] sz)) 0 0 (va_A [(k, .inr (11, [.ref k0, .ref k1, .ref k2, .int c3, .ref k4, .ref k5, .ref k6, .ref k7, .ref k8, .int c9, .ref ka, .ref kb, .int cc, .int cd, .int ce, .int cf, .int cg, .int ch, .int ci, .int cj, .int ck, .ref kl, .int cm, .int cn, .ref ko])), (k0, .inl (cI, 1201, .inl c0))] sz) := by
  refine kMetIX (own := RX11) (by decide +kernel) rfl (Nat.le_of_ble_eq_true rfl) ?_
  intro p e s m args below meth c hx hb hT hown hname hml A Q hK hP hD hS hA hN hXS hRet ls hl
  have hl : lv_has ls 4 [(0, .ref k), (1, .int a0), (2, .int a1)] := hl
  have lo_a0 := k_lo a0
  have hi_a0 := k_hi a0
  have lo_a1 := k_lo a1
  have hi_a1 := k_hi a1
  have lo_ci := k_lo ci
  have hi_ci := k_hi ci
  have pre0 : SB c0 := pre0
  have nb_1 : 0 ≤ (c0 0).toInt ∧ (c0 0).toInt ≤ 2000 := SB.n0 pre0
  have nb_2 : 0 ≤ (c0 1).toInt ∧ (c0 1).toInt ≤ 60 := SB.n1 pre0
  have nb_3 : 0 ≤ (c0 2).toInt ∧ (c0 2).toInt ≤ 4 := SB.n2 pre0
  refine lv_aload_n hx hb dX11_effort_0 rfl (lv_at hl 0 rfl) ?_
  refine va_get (D := D) (ci := 11) (v := .ref k0) (C := RX11) (T := TX11) (N := 25) hx hb hT giX11 hown hK hP 0 rfl rfl 0 (by decide +kernel) (hT (Cond.fieldLink RX11 9 "DesertWireModel" "s" "[I") mw_1156) (fun _ h9 => h9) rfl dX11_effort_1 ?_
  refine lv_bipush (v := 19) hx hb dX11_effort_4 (by decide +kernel) ?_
  refine lv_iload_n hx hb dX11_effort_6 rfl (lv_at hl 1 rfl) ?_
  refine lv_iadd hx hb dX11_effort_7 ?_
  refine lv_topi (fun v_4 ev_4 => ?_)
  have tv_4 : v_4.toInt = 19 + a0.toInt := by rw [ev_4]; exact k_addv zl_19 rfl (by omega) (by omega)
  refine k_iald (v := (c0 v_4.toNatClampNeg)) hx hb hK hP 1 0 rfl rfl (k_in (by omega) (by omega)) rfl dX11_effort_8 ?_
  refine lv_topi (fun v_5 ev_5 => ?_)
  have lo_v_5 := k_lo v_5
  have hi_v_5 := k_hi v_5
  have tv_5 : v_5.toInt = (c0 v_4.toNatClampNeg).toInt := by rw [ev_5]
  refine lv_istore_n (lv' := [(3, .int v_5), (0, .ref k), (1, .int a0), (2, .int a1)]) hx hb dX11_effort_9 rfl hl (by decide +kernel) rfl ?_
  clear hl
  intro ls hl
  refine lv_iload_n hx hb dX11_effort_10 rfl (lv_at hl 0 rfl) ?_
  refine b_if_ne hx hb rfl (tgt := 19) dX11_effort_11 (by decide +kernel) (fun c_6 => ?_) (fun c_6 => ?_)
  · refine lv_iload_n hx hb dX11_effort_19 rfl (lv_at hl 0 rfl) ?_
    refine lv_iconst (v := 1) hx hb dX11_effort_20 (by decide +kernel) ?_
    refine b_icmp_ne hx hb rfl zl_1 (tgt := 29) dX11_effort_21 (by decide +kernel) (fun c_7 => ?_) (fun c_7 => ?_)
    · refine lv_bipush (v := 20) hx hb dX11_effort_29 (by decide +kernel) ?_
      refine lv_bipush (v := 10) hx hb dX11_effort_31 (by decide +kernel) ?_
      refine lv_iload_n hx hb dX11_effort_33 rfl (lv_at hl 3 rfl) ?_
      refine lv_imul hx hb dX11_effort_34 ?_
      refine lv_topi (fun v_8 ev_8 => ?_)
      have lo_v_8 := k_lo v_8
      have hi_v_8 := k_hi v_8
      refine lv_iadd hx hb dX11_effort_35 ?_
      refine lv_topi (fun v_9 ev_9 => ?_)
      have lo_v_9 := k_lo v_9
      have hi_v_9 := k_hi v_9
      exact hRet () [0, 1] (by unfold efN; rw [show c0 (19 + a0.toInt.toNat) = v_5 from (rd_in ev_5 (by omega)).symm]; (repeat (first | rw [if_pos (by omega)] | rw [if_neg (by omega)])); first | done | exact (by rw [ev_9, ev_8])) hP hD (by decide +kernel) rfl hS rfl dX11_effort_36
    · refine lv_bipush (v := 40) hx hb dX11_effort_24 (by decide +kernel) ?_
      refine lv_goto (tgt := 36) hx hb dX11_effort_26 (by decide +kernel) ?_
      exact hRet () [0, 1] (by unfold efN; rw [show c0 (19 + a0.toInt.toNat) = v_5 from (rd_in ev_5 (by omega)).symm]; (repeat (first | rw [if_pos (by omega)] | rw [if_neg (by omega)]))) hP hD (by decide +kernel) rfl hS rfl dX11_effort_36
  · refine lv_bipush (v := 10) hx hb dX11_effort_14 (by decide +kernel) ?_
    refine lv_goto (tgt := 36) hx hb dX11_effort_16 (by decide +kernel) ?_
    exact hRet () [0, 1] (by unfold efN; rw [show c0 (19 + a0.toInt.toNat) = v_5 from (rd_in ev_5 (by omega)).symm]; (repeat (first | rw [if_pos (by omega)] | rw [if_neg (by omega)]))) hP hD (by decide +kernel) rfl hS rfl dX11_effort_36
theorem bn_cX11_wellsIn_0 : BN cX11_wellsIn 0 0x5687595005400808851f184080500aa070015b8183c2b0680542081c0056e040f0ac2e014d8e002b704078562000a84383800adc0a1e158746801518bc0a0a00ad4561e1f8107c04 := by
  unfold BN; decide +kernel
theorem dX11_wellsIn_0 : decode cX11_wellsIn 0 = .ok (.iconst 0, 1) := dR0 (k := 0) (i := 0) bn_cX11_wellsIn_0 dop_3 (by decide +kernel)
theorem dX11_wellsIn_1 : decode cX11_wellsIn 1 = .ok (.istore_n 2, 1) := dR0 (k := 0) (i := 1) bn_cX11_wellsIn_0 dop_61 (by decide +kernel)
theorem dX11_wellsIn_2 : decode cX11_wellsIn 2 = .ok (.iconst 0, 1) := dR0 (k := 0) (i := 2) bn_cX11_wellsIn_0 dop_3 (by decide +kernel)
theorem dX11_wellsIn_3 : decode cX11_wellsIn 3 = .ok (.istore_n 3, 1) := dR0 (k := 0) (i := 3) bn_cX11_wellsIn_0 dop_62 (by decide +kernel)
theorem dX11_wellsIn_4 : decode cX11_wellsIn 4 = .ok (.iload_n 3, 1) := dR0 (k := 0) (i := 4) bn_cX11_wellsIn_0 dop_29 (by decide +kernel)
theorem dX11_wellsIn_5 : decode cX11_wellsIn 5 = .ok (.aload_n 0, 1) := dR0 (k := 0) (i := 5) bn_cX11_wellsIn_0 dop_42 (by decide +kernel)
theorem dX11_wellsIn_6 : decode cX11_wellsIn 6 = .ok (.getfield 9, 3) := dR2 (f := Instr.getfield) (k := 0) (i := 6) bn_cX11_wellsIn_0 dop_180 9 (by decide +kernel)
theorem dX11_wellsIn_9 : decode cX11_wellsIn 9 = .ok (.iconst 1, 1) := dR0 (k := 0) (i := 9) bn_cX11_wellsIn_0 dop_4 (by decide +kernel)
theorem dX11_wellsIn_10 : decode cX11_wellsIn 10 = .ok (.iaload, 1) := dR0 (k := 0) (i := 10) bn_cX11_wellsIn_0 dop_46 (by decide +kernel)
theorem dX11_wellsIn_11 : decode cX11_wellsIn 11 = .ok (.if_icmp .ge 51, 3) := dR2s (f := Instr.if_icmp .ge) (k := 0) (i := 11) bn_cX11_wellsIn_0 dop_162 51 51 (by decide +kernel)
theorem dX11_wellsIn_14 : decode cX11_wellsIn 14 = .ok (.iload_n 2, 1) := dR0 (k := 0) (i := 14) bn_cX11_wellsIn_0 dop_28 (by decide +kernel)
theorem dX11_wellsIn_15 : decode cX11_wellsIn 15 = .ok (.aload_n 0, 1) := dR0 (k := 0) (i := 15) bn_cX11_wellsIn_0 dop_42 (by decide +kernel)
theorem dX11_wellsIn_16 : decode cX11_wellsIn 16 = .ok (.iload_n 3, 1) := dR0 (k := 0) (i := 16) bn_cX11_wellsIn_0 dop_29 (by decide +kernel)
theorem dX11_wellsIn_17 : decode cX11_wellsIn 17 = .ok (.iconst 1, 1) := dR0 (k := 0) (i := 17) bn_cX11_wellsIn_0 dop_4 (by decide +kernel)
theorem dX11_wellsIn_18 : decode cX11_wellsIn 18 = .ok (.invokevirtual 55, 3) := dR2 (f := Instr.invokevirtual) (k := 0) (i := 18) bn_cX11_wellsIn_0 dop_182 55 (by decide +kernel)
theorem dX11_wellsIn_21 : decode cX11_wellsIn 21 = .ok (.iload_n 1, 1) := dR0 (k := 0) (i := 21) bn_cX11_wellsIn_0 dop_27 (by decide +kernel)
theorem dX11_wellsIn_22 : decode cX11_wellsIn 22 = .ok (.if_icmp .ne 31, 3) := dR2s (f := Instr.if_icmp .ne) (k := 0) (i := 22) bn_cX11_wellsIn_0 dop_160 31 31 (by decide +kernel)
theorem dX11_wellsIn_25 : decode cX11_wellsIn 25 = .ok (.aload_n 0, 1) := dR0 (k := 0) (i := 25) bn_cX11_wellsIn_0 dop_42 (by decide +kernel)
theorem dX11_wellsIn_26 : decode cX11_wellsIn 26 = .ok (.iload_n 3, 1) := dR0 (k := 0) (i := 26) bn_cX11_wellsIn_0 dop_29 (by decide +kernel)
theorem dX11_wellsIn_27 : decode cX11_wellsIn 27 = .ok (.iconst 4, 1) := dR0 (k := 0) (i := 27) bn_cX11_wellsIn_0 dop_7 (by decide +kernel)
theorem dX11_wellsIn_28 : decode cX11_wellsIn 28 = .ok (.invokevirtual 55, 3) := dR2 (f := Instr.invokevirtual) (k := 0) (i := 28) bn_cX11_wellsIn_0 dop_182 55 (by decide +kernel)
theorem dX11_wellsIn_31 : decode cX11_wellsIn 31 = .ok (.ifCond .ne 22, 3) := dR2s (f := Instr.ifCond .ne) (k := 0) (i := 31) bn_cX11_wellsIn_0 dop_154 22 22 (by decide +kernel)
theorem dX11_wellsIn_34 : decode cX11_wellsIn 34 = .ok (.aload_n 0, 1) := dR0 (k := 0) (i := 34) bn_cX11_wellsIn_0 dop_42 (by decide +kernel)
theorem dX11_wellsIn_35 : decode cX11_wellsIn 35 = .ok (.iload_n 3, 1) := dR0 (k := 0) (i := 35) bn_cX11_wellsIn_0 dop_29 (by decide +kernel)
theorem dX11_wellsIn_36 : decode cX11_wellsIn 36 = .ok (.iconst 0, 1) := dR0 (k := 0) (i := 36) bn_cX11_wellsIn_0 dop_3 (by decide +kernel)
theorem dX11_wellsIn_37 : decode cX11_wellsIn 37 = .ok (.invokevirtual 55, 3) := dR2 (f := Instr.invokevirtual) (k := 0) (i := 37) bn_cX11_wellsIn_0 dop_182 55 (by decide +kernel)
theorem dX11_wellsIn_40 : decode cX11_wellsIn 40 = .ok (.iconst 4, 1) := dR0 (k := 0) (i := 40) bn_cX11_wellsIn_0 dop_7 (by decide +kernel)
theorem dX11_wellsIn_41 : decode cX11_wellsIn 41 = .ok (.if_icmp .ne 12, 3) := dR2s (f := Instr.if_icmp .ne) (k := 0) (i := 41) bn_cX11_wellsIn_0 dop_160 12 12 (by decide +kernel)
theorem dX11_wellsIn_44 : decode cX11_wellsIn 44 = .ok (.aload_n 0, 1) := dR0 (k := 0) (i := 44) bn_cX11_wellsIn_0 dop_42 (by decide +kernel)
theorem dX11_wellsIn_45 : decode cX11_wellsIn 45 = .ok (.iload_n 3, 1) := dR0 (k := 0) (i := 45) bn_cX11_wellsIn_0 dop_29 (by decide +kernel)
theorem dX11_wellsIn_46 : decode cX11_wellsIn 46 = .ok (.iconst 2, 1) := dR0 (k := 0) (i := 46) bn_cX11_wellsIn_0 dop_5 (by decide +kernel)
theorem dX11_wellsIn_47 : decode cX11_wellsIn 47 = .ok (.invokevirtual 55, 3) := dR2 (f := Instr.invokevirtual) (k := 0) (i := 47) bn_cX11_wellsIn_0 dop_182 55 (by decide +kernel)
theorem dX11_wellsIn_50 : decode cX11_wellsIn 50 = .ok (.goto 4, 3) := dR2s (f := Instr.goto) (k := 0) (i := 50) bn_cX11_wellsIn_0 dop_167 4 4 (by decide +kernel)
theorem dX11_wellsIn_53 : decode cX11_wellsIn 53 = .ok (.iconst 0, 1) := dR0 (k := 0) (i := 53) bn_cX11_wellsIn_0 dop_3 (by decide +kernel)
theorem dX11_wellsIn_54 : decode cX11_wellsIn 54 = .ok (.iadd, 1) := dR0 (k := 0) (i := 54) bn_cX11_wellsIn_0 dop_96 (by decide +kernel)
theorem dX11_wellsIn_55 : decode cX11_wellsIn 55 = .ok (.istore_n 2, 1) := dR0 (k := 0) (i := 55) bn_cX11_wellsIn_0 dop_61 (by decide +kernel)
theorem dX11_wellsIn_56 : decode cX11_wellsIn 56 = .ok (.iinc 3 1, 3) := dRii (f := Instr.iinc) (k := 0) (i := 56) bn_cX11_wellsIn_0 dop_132 3 1 1 (by decide +kernel)
theorem dX11_wellsIn_59 : decode cX11_wellsIn 59 = .ok (.goto (-55), 3) := dR2s (f := Instr.goto) (k := 0) (i := 59) bn_cX11_wellsIn_0 dop_167 65481 (-55) (by decide +kernel)
theorem dX11_wellsIn_62 : decode cX11_wellsIn 62 = .ok (.iload_n 2, 1) := dR0 (k := 0) (i := 62) bn_cX11_wellsIn_0 dop_28 (by decide +kernel)
theorem dX11_wellsIn_63 : decode cX11_wellsIn 63 = .ok (.ireturn, 1) := dR0 (k := 0) (i := 63) bn_cX11_wellsIn_0 dop_172 (by decide +kernel)
set_option maxHeartbeats 4000000 in
set_option maxRecDepth 100000 in
theorem c_X11_wellsInG (l : Launch) (D : va_G) (cI : ClassId) (aK aV : Nat → Nat) (k k0 k1 k2 k4 k5 k6 k7 k8 ka kb kl ko : Nat) (sz : Nat) (c3 : Int32) (c9 : Int32) (cc : Int32) (cd : Int32) (ce : Int32) (cf : Int32) (cg : Int32) (ch : Int32) (ci : Int32) (cj : Int32) (ck : Int32) (cm : Int32) (cn : Int32) (c0 : Nat → Int32) (a0 : Int32) (pre0 : SB c0) : Met l yX11_wellsIn (gW yX11_wellsIn cX11_wellsIn 4 (some .int)) ({ frames := 1, cells := 0, slots := 0, locals := 22 } : Room) (kPreX D cI aK aV [.ref k, .int a0] [(k, .inr (11, [.ref k0, .ref k1, .ref k2, .int c3, .ref k4, .ref k5, .ref k6, .ref k7, .ref k8, .int c9, .ref ka, .ref kb, .int cc, .int cd, .int ce, .int cf, .int cg, .int ch, .int ci, .int cj, .int ck, .ref kl, .int cm, .int cn, .ref ko])), (k0, .inl (cI, 1201, .inl c0))] sz) (va_Qi (fun (r : Int32) (u : Unit) => r = wlF c0 a0.toInt) (fun u t => kWd D cI (va_A [(k, .inr (11, [.ref k0, .ref k1, .ref k2, .int c3, .ref k4, .ref k5, .ref k6, .ref k7, .ref k8, .int c9, .ref ka, .ref kb, .int cc, .int cd, .int ce, .int cf, .int cg, .int ch, .int ci, .int cj, .int ck, .ref kl, .int cm, .int cn, .ref ko])), (k0, .inl (cI, 1201, .inl c0))] sz) [(k, .inr (11, [.ref k0, .ref k1, .ref k2, .int c3, .ref k4, .ref k5, .ref k6, .ref k7, .ref k8, .int c9, .ref ka, .ref kb, .int cc, .int cd, .int ce, .int cf, .int cg, .int ch, .int ci, .int cj, .int ck, .ref kl, .int cm, .int cn, .ref ko])), (k0, .inl (cI, 1201, .inl c0))] t) (va_A [(k, .inr (11, [.ref k0, .ref k1, .ref k2, .int c3, .ref k4, .ref k5, .ref k6, .ref k7, .ref k8, .int c9, .ref ka, .ref kb, .int cc, .int cd, .int ce, .int cf, .int cg, .int ch, .int ci, .int cj, .int ck, .ref kl, .int cm, .int cn, .ref ko])), (k0, .inl (cI, 1201, .inl c0))] sz)) 0 0 (va_A [(k, .inr (11, [.ref k0, .ref k1, .ref k2, .int c3, .ref k4, .ref k5, .ref k6, .ref k7, .ref k8, .int c9, .ref ka, .ref kb, .int cc, .int cd, .int ce, .int cf, .int cg, .int ch, .int ci, .int cj, .int ck, .ref kl, .int cm, .int cn, .ref ko])), (k0, .inl (cI, 1201, .inl c0))] sz) := by
  refine kMetIX (own := RX11) (by decide +kernel) rfl (Nat.le_of_ble_eq_true rfl) ?_
  intro p e s m args below meth c hx hb hT hown hname hml A Q hK hP hD hS hA hN hXS hRet ls hl
  have hl : lv_has ls 4 [(0, .ref k), (1, .int a0)] := hl
  have lo_a0 := k_lo a0
  have hi_a0 := k_hi a0
  have lo_ci := k_lo ci
  have hi_ci := k_hi ci
  have pre0 : SB c0 := pre0
  have nb_1 : 0 ≤ (c0 0).toInt ∧ (c0 0).toInt ≤ 2000 := SB.n0 pre0
  have nb_2 : 0 ≤ (c0 1).toInt ∧ (c0 1).toInt ≤ 60 := SB.n1 pre0
  have nb_3 : 0 ≤ (c0 2).toInt ∧ (c0 2).toInt ≤ 4 := SB.n2 pre0
  refine lv_iconst (v := 0) hx hb dX11_wellsIn_0 (by decide +kernel) ?_
  refine lv_istore_n (lv' := [(2, .int 0), (0, .ref k), (1, .int a0)]) hx hb dX11_wellsIn_1 rfl hl (by decide +kernel) rfl ?_
  clear hl
  intro ls hl
  refine lv_iconst (v := 0) hx hb dX11_wellsIn_2 (by decide +kernel) ?_
  refine lv_istore_n (lv' := [(3, .int 0), (2, .int 0), (0, .ref k), (1, .int a0)]) hx hb dX11_wellsIn_3 rfl hl (by decide +kernel) rfl ?_
  clear hl
  intro ls hl
  have hloop_4 : ∀ (fu_ : Nat) (l4_2 : Int32) (l4_3 : Int32), 0 ≤ l4_3.toInt → l4_3.toInt ≤ (c0 1).toInt → l4_2 = sumN (tL c0 a0.toInt) l4_3.toInt.toNat → ((c0 1).toInt - l4_3.toInt).toNat < fu_ → ∀ (ls : Array Slot) (H : Heap) (locs : List Loc), lv_has ls 4 [(3, .int l4_3), (2, .int l4_2), (0, .ref k), (1, .int a0)] → va_P D vwCl [(k, .inr (11, [.ref k0, .ref k1, .ref k2, .int c3, .ref k4, .ref k5, .ref k6, .ref k7, .ref k8, .int c9, .ref ka, .ref kb, .int cc, .int cd, .int ce, .int cf, .int cg, .int ch, .int ci, .int cj, .int ck, .ref kl, .int cm, .int cn, .ref ko])), (k0, .inl (cI, 1201, .inl c0))] H → va_D A [(k, .inr (11, [.ref k0, .ref k1, .ref k2, .int c3, .ref k4, .ref k5, .ref k6, .ref k7, .ref k8, .int c9, .ref ka, .ref kb, .int cc, .int cd, .int ce, .int cf, .int cg, .int ch, .int ci, .int cj, .int ck, .ref kl, .int cm, .int cn, .ref ko])), (k0, .inl (cI, 1201, .inl c0))] → va_S A s.heap H locs → W p l e ({ frames := 1, cells := 0, slots := 0, locals := 22 } : Room) s m args below meth c H locs 0 0 Q (F0 m 4 ls []) := by
    intro fu_; induction fu_ with
    | zero => intro l4_2 l4_3 i4_0 i4_1 i4_2 hm; exact absurd hm (by omega)
    | succ fu_ ih4 =>
        intro l4_2 l4_3 i4_0 i4_1 i4_2 hm ls H locs hl hP hD hS
        have lo_l4_2 := k_lo l4_2
        have hi_l4_2 := k_hi l4_2
        have lo_l4_3 := k_lo l4_3
        have hi_l4_3 := k_hi l4_3
        have i4_2 : l4_2 = sumN (tL c0 a0.toInt) l4_3.toInt.toNat := i4_2
        refine lv_iload_n hx hb dX11_wellsIn_4 rfl (lv_at hl 0 rfl) ?_
        refine lv_aload_n hx hb dX11_wellsIn_5 rfl (lv_at hl 2 rfl) ?_
        refine va_get (D := D) (ci := 11) (v := .ref k0) (C := RX11) (T := TX11) (N := 25) hx hb hT giX11 hown hK hP 0 rfl rfl 0 (by decide +kernel) (hT (Cond.fieldLink RX11 9 "DesertWireModel" "s" "[I") mw_1156) (fun _ h9 => h9) rfl dX11_wellsIn_6 ?_
        refine lv_iconst (v := 1) hx hb dX11_wellsIn_9 (by decide +kernel) ?_
        refine k_iald (v := (c0 1)) hx hb hK hP 1 0 rfl rfl (k_inl (by decide +kernel)) rfl dX11_wellsIn_10 ?_
        refine lv_topi (fun v_4 ev_4 => ?_)
        have lo_v_4 := k_lo v_4
        have hi_v_4 := k_hi v_4
        have tv_4 : v_4.toInt = (c0 1).toInt := by rw [ev_4]
        have b_5 : 0 ≤ v_4.toInt ∧ v_4.toInt ≤ 60 := by first | (rw [tv_4]; exact SB.n1 pre0) | exact SB.n1 pre0 | omega
        refine b_icmp_ge hx hb rfl rfl (tgt := 62) dX11_wellsIn_11 (by decide +kernel) (fun c_6 => ?_) (fun c_6 => ?_)
        · refine lv_iload_n hx hb dX11_wellsIn_62 rfl (lv_at hl 1 rfl) ?_
          exact hRet () [0, 1] (by unfold wlF; rw [i4_2, show l4_3.toInt.toNat = (c0 1).toInt.toNat from by omega]) hP hD (by decide +kernel) rfl hS rfl dX11_wellsIn_63
        · refine lv_iload_n hx hb dX11_wellsIn_14 rfl (lv_at hl 1 rfl) ?_
          refine lv_aload_n hx hb dX11_wellsIn_15 rfl (lv_at hl 2 rfl) ?_
          refine lv_iload_n hx hb dX11_wellsIn_16 rfl (lv_at hl 0 rfl) ?_
          refine lv_iconst (v := 1) hx hb dX11_wellsIn_17 (by decide +kernel) ?_
          refine kJi (wr := []) (va_runV (As := [.int l4_3, .int 1]) (rest := [.int l4_2]) ⟨hx, hb, hml, hown, hT⟩ (c_X11_workG1 l D cI aK aV k k0 k1 k2 k4 k5 k6 k7 k8 ka kb kl ko H.size c3 c9 cc cd ce cf cg ch ci cj ck cm cn c0 l4_3 1 (by first | omega | (simp only [zl_1]; first | done | omega) | decide | assumption | rfl) (by first | omega | (simp only [zl_1]; first | done | omega) | decide | assumption | rfl) (by first | omega | (simp only [zl_1]; first | done | omega) | decide | assumption | rfl)) (cwV 2 hT (gV_in mw_1276 mw_1273 mw_1275 mw_p3_12 mw_12) rfl rfl rfl (by decide +kernel) ⟨Nat.le_of_ble_eq_true rfl, Nat.le_of_ble_eq_true rfl⟩) (kRecvX (q0 := 0) (ci := 11) hK hP hD hN hXS hS hA rfl rfl [0, 1] rfl (by decide +kernel)) rfl rfl hl.1 rfl (lv_room (Nat.le_of_ble_eq_true rfl)) dX11_wellsIn_18 ⟨Nat.le_of_ble_eq_true rfl, Nat.le_of_ble_eq_true rfl⟩) hP hD hS hA [0, 1] [] rfl rfl (by decide +kernel) (by decide +kernel) ?_
          clear hP hD hS
          intro r_7 u_9 H locs w_8 hP hD hS
          replace hP : va_P D vwCl [(k, .inr (11, [.ref k0, .ref k1, .ref k2, .int c3, .ref k4, .ref k5, .ref k6, .ref k7, .ref k8, .int c9, .ref ka, .ref kb, .int cc, .int cd, .int ce, .int cf, .int cg, .int ch, .int ci, .int cj, .int ck, .ref kl, .int cm, .int cn, .ref ko])), (k0, .inl (cI, 1201, .inl c0))] H := hP
          replace hD : va_D A [(k, .inr (11, [.ref k0, .ref k1, .ref k2, .int c3, .ref k4, .ref k5, .ref k6, .ref k7, .ref k8, .int c9, .ref ka, .ref kb, .int cc, .int cd, .int ce, .int cf, .int cg, .int ch, .int ci, .int cj, .int ck, .ref kl, .int cm, .int cn, .ref ko])), (k0, .inl (cI, 1201, .inl c0))] := hD
          have h_10 := w_8
          have h_10 : r_7 = wW c0 l4_3 1 := h_10
          have t_11 : r_7.toInt = (wW c0 l4_3 1).toInt := by rw [h_10]
          have b_12 : 0 ≤ r_7.toInt ∧ r_7.toInt ≤ 39 := by rw [h_10]; exact SB.w1 pre0 (by omega) (by omega)
          have lo_r_7 := k_lo r_7
          have hi_r_7 := k_hi r_7
          refine lv_iload_n hx hb dX11_wellsIn_21 rfl (lv_at hl 3 rfl) ?_
          refine b_icmp_ne hx hb rfl rfl (tgt := 53) dX11_wellsIn_22 (by decide +kernel) (fun c_13 => ?_) (fun c_13 => ?_)
          · refine lv_iconst (v := 0) hx hb dX11_wellsIn_53 (by decide +kernel) ?_
            refine lv_iadd hx hb dX11_wellsIn_54 ?_
            refine lv_topi (fun v_14 ev_14 => ?_)
            have tv_14 : v_14.toInt = l4_2.toInt + 0 := by rw [ev_14]; exact k_addv rfl zl_0 (by omega) (by omega)
            refine lv_istore_n (lv' := [(2, .int v_14), (3, .int l4_3), (0, .ref k), (1, .int a0)]) hx hb dX11_wellsIn_55 rfl hl (by decide +kernel) rfl ?_
            clear hl
            intro ls hl
            obtain ⟨v_15, ev_15⟩ : ∃ y : Int32, y = l4_3 + 1 := ⟨_, rfl⟩
            have tv_15 : v_15.toInt = l4_3.toInt + 1 := by rw [ev_15]; exact k_addv rfl zl_1 (by omega) (by omega)
            refine lv_iinc (v := v_15) (lv' := [(3, .int v_15), (2, .int v_14), (0, .ref k), (1, .int a0)]) hx hb dX11_wellsIn_56 hl (k := 1) rfl (by rw [ev_15]; rfl) (by decide +kernel) rfl ?_
            clear hl
            intro ls hl
            refine lv_goto (tgt := 4) hx hb dX11_wellsIn_59 (by decide +kernel) ?_
            exact ih4 v_14 v_15 (by first | omega | decide | assumption | rfl) (by first | omega | decide | assumption | rfl) (wl_s i4_2 (by omega) (by omega) (Or.inr ⟨Or.inl (by rw [← h_10]; omega), rfl⟩) ev_14) (by omega) ls _ _ (lv_sub hl [0, 1, 2, 3] rfl) (hP.sub [0, 1] rfl) (hD.sub [0, 1] (by decide +kernel) rfl) hS
          · refine lv_aload_n hx hb dX11_wellsIn_25 rfl (lv_at hl 2 rfl) ?_
            refine lv_iload_n hx hb dX11_wellsIn_26 rfl (lv_at hl 0 rfl) ?_
            refine lv_iconst (v := 4) hx hb dX11_wellsIn_27 (by decide +kernel) ?_
            refine kJi (wr := []) (va_runV (As := [.int l4_3, .int 4]) (rest := [.int l4_2]) ⟨hx, hb, hml, hown, hT⟩ (c_X11_workG4 l D cI aK aV k k0 k1 k2 k4 k5 k6 k7 k8 ka kb kl ko H.size c3 c9 cc cd ce cf cg ch ci cj ck cm cn c0 l4_3 4 (by first | omega | (simp only [zl_4]; first | done | omega) | decide | assumption | rfl) (by first | omega | (simp only [zl_4]; first | done | omega) | decide | assumption | rfl) (by first | omega | (simp only [zl_4]; first | done | omega) | decide | assumption | rfl)) (cwV 2 hT (gV_in mw_1276 mw_1273 mw_1275 mw_p3_12 mw_12) rfl rfl rfl (by decide +kernel) ⟨Nat.le_of_ble_eq_true rfl, Nat.le_of_ble_eq_true rfl⟩) (kRecvX (q0 := 0) (ci := 11) hK hP hD hN hXS hS hA rfl rfl [0, 1] rfl (by decide +kernel)) rfl rfl hl.1 rfl (lv_room (Nat.le_of_ble_eq_true rfl)) dX11_wellsIn_28 ⟨Nat.le_of_ble_eq_true rfl, Nat.le_of_ble_eq_true rfl⟩) hP hD hS hA [0, 1] [] rfl rfl (by decide +kernel) (by decide +kernel) ?_
            clear hP hD hS
            intro r_16 u_18 H locs w_17 hP hD hS
            replace hP : va_P D vwCl [(k, .inr (11, [.ref k0, .ref k1, .ref k2, .int c3, .ref k4, .ref k5, .ref k6, .ref k7, .ref k8, .int c9, .ref ka, .ref kb, .int cc, .int cd, .int ce, .int cf, .int cg, .int ch, .int ci, .int cj, .int ck, .ref kl, .int cm, .int cn, .ref ko])), (k0, .inl (cI, 1201, .inl c0))] H := hP
            replace hD : va_D A [(k, .inr (11, [.ref k0, .ref k1, .ref k2, .int c3, .ref k4, .ref k5, .ref k6, .ref k7, .ref k8, .int c9, .ref ka, .ref kb, .int cc, .int cd, .int ce, .int cf, .int cg, .int ch, .int ci, .int cj, .int ck, .ref kl, .int cm, .int cn, .ref ko])), (k0, .inl (cI, 1201, .inl c0))] := hD
            have h_19 := w_17
            have h_19 : r_16 = wW c0 l4_3 4 := h_19
            have t_20 : r_16.toInt = (wW c0 l4_3 4).toInt := by rw [h_19]
            have b_21 : 0 ≤ r_16.toInt ∧ r_16.toInt ≤ 1 := by rw [h_19]; exact SB.w4 pre0 (by omega) (by omega)
            have lo_r_16 := k_lo r_16
            have hi_r_16 := k_hi r_16
            refine b_if_ne hx hb rfl (tgt := 53) dX11_wellsIn_31 (by decide +kernel) (fun c_22 => ?_) (fun c_22 => ?_)
            · refine lv_iconst (v := 0) hx hb dX11_wellsIn_53 (by decide +kernel) ?_
              refine lv_iadd hx hb dX11_wellsIn_54 ?_
              refine lv_topi (fun v_23 ev_23 => ?_)
              have tv_23 : v_23.toInt = l4_2.toInt + 0 := by rw [ev_23]; exact k_addv rfl zl_0 (by omega) (by omega)
              refine lv_istore_n (lv' := [(2, .int v_23), (3, .int l4_3), (0, .ref k), (1, .int a0)]) hx hb dX11_wellsIn_55 rfl hl (by decide +kernel) rfl ?_
              clear hl
              intro ls hl
              obtain ⟨v_24, ev_24⟩ : ∃ y : Int32, y = l4_3 + 1 := ⟨_, rfl⟩
              have tv_24 : v_24.toInt = l4_3.toInt + 1 := by rw [ev_24]; exact k_addv rfl zl_1 (by omega) (by omega)
              refine lv_iinc (v := v_24) (lv' := [(3, .int v_24), (2, .int v_23), (0, .ref k), (1, .int a0)]) hx hb dX11_wellsIn_56 hl (k := 1) rfl (by rw [ev_24]; rfl) (by decide +kernel) rfl ?_
              clear hl
              intro ls hl
              refine lv_goto (tgt := 4) hx hb dX11_wellsIn_59 (by decide +kernel) ?_
              exact ih4 v_23 v_24 (by first | omega | decide | assumption | rfl) (by first | omega | decide | assumption | rfl) (wl_s i4_2 (by omega) (by omega) (Or.inr ⟨Or.inr (Or.inl (by rw [← h_19]; omega)), rfl⟩) ev_23) (by omega) ls _ _ (lv_sub hl [0, 1, 2, 3] rfl) (hP.sub [0, 1] rfl) (hD.sub [0, 1] (by decide +kernel) rfl) hS
            · refine lv_aload_n hx hb dX11_wellsIn_34 rfl (lv_at hl 2 rfl) ?_
              refine lv_iload_n hx hb dX11_wellsIn_35 rfl (lv_at hl 0 rfl) ?_
              refine lv_iconst (v := 0) hx hb dX11_wellsIn_36 (by decide +kernel) ?_
              refine kJi (wr := []) (va_runV (As := [.int l4_3, .int 0]) (rest := [.int l4_2]) ⟨hx, hb, hml, hown, hT⟩ (c_X11_workG0 l D cI aK aV k k0 k1 k2 k4 k5 k6 k7 k8 ka kb kl ko H.size c3 c9 cc cd ce cf cg ch ci cj ck cm cn c0 l4_3 0 (by first | omega | (simp only [zl_0]; first | done | omega) | decide | assumption | rfl) (by first | omega | (simp only [zl_0]; first | done | omega) | decide | assumption | rfl) (by first | omega | (simp only [zl_0]; first | done | omega) | decide | assumption | rfl)) (cwV 2 hT (gV_in mw_1276 mw_1273 mw_1275 mw_p3_12 mw_12) rfl rfl rfl (by decide +kernel) ⟨Nat.le_of_ble_eq_true rfl, Nat.le_of_ble_eq_true rfl⟩) (kRecvX (q0 := 0) (ci := 11) hK hP hD hN hXS hS hA rfl rfl [0, 1] rfl (by decide +kernel)) rfl rfl hl.1 rfl (lv_room (Nat.le_of_ble_eq_true rfl)) dX11_wellsIn_37 ⟨Nat.le_of_ble_eq_true rfl, Nat.le_of_ble_eq_true rfl⟩) hP hD hS hA [0, 1] [] rfl rfl (by decide +kernel) (by decide +kernel) ?_
              clear hP hD hS
              intro r_25 u_27 H locs w_26 hP hD hS
              replace hP : va_P D vwCl [(k, .inr (11, [.ref k0, .ref k1, .ref k2, .int c3, .ref k4, .ref k5, .ref k6, .ref k7, .ref k8, .int c9, .ref ka, .ref kb, .int cc, .int cd, .int ce, .int cf, .int cg, .int ch, .int ci, .int cj, .int ck, .ref kl, .int cm, .int cn, .ref ko])), (k0, .inl (cI, 1201, .inl c0))] H := hP
              replace hD : va_D A [(k, .inr (11, [.ref k0, .ref k1, .ref k2, .int c3, .ref k4, .ref k5, .ref k6, .ref k7, .ref k8, .int c9, .ref ka, .ref kb, .int cc, .int cd, .int ce, .int cf, .int cg, .int ch, .int ci, .int cj, .int ck, .ref kl, .int cm, .int cn, .ref ko])), (k0, .inl (cI, 1201, .inl c0))] := hD
              have h_28 := w_26
              have h_28 : r_25 = wW c0 l4_3 0 := h_28
              have t_29 : r_25.toInt = (wW c0 l4_3 0).toInt := by rw [h_28]
              have b_30 : 0 ≤ r_25.toInt ∧ r_25.toInt ≤ 5 := by rw [h_28]; exact SB.w0 pre0 (by omega) (by omega)
              have lo_r_25 := k_lo r_25
              have hi_r_25 := k_hi r_25
              refine lv_iconst (v := 4) hx hb dX11_wellsIn_40 (by decide +kernel) ?_
              refine b_icmp_ne hx hb rfl zl_4 (tgt := 53) dX11_wellsIn_41 (by decide +kernel) (fun c_31 => ?_) (fun c_31 => ?_)
              · refine lv_iconst (v := 0) hx hb dX11_wellsIn_53 (by decide +kernel) ?_
                refine lv_iadd hx hb dX11_wellsIn_54 ?_
                refine lv_topi (fun v_32 ev_32 => ?_)
                have tv_32 : v_32.toInt = l4_2.toInt + 0 := by rw [ev_32]; exact k_addv rfl zl_0 (by omega) (by omega)
                refine lv_istore_n (lv' := [(2, .int v_32), (3, .int l4_3), (0, .ref k), (1, .int a0)]) hx hb dX11_wellsIn_55 rfl hl (by decide +kernel) rfl ?_
                clear hl
                intro ls hl
                obtain ⟨v_33, ev_33⟩ : ∃ y : Int32, y = l4_3 + 1 := ⟨_, rfl⟩
                have tv_33 : v_33.toInt = l4_3.toInt + 1 := by rw [ev_33]; exact k_addv rfl zl_1 (by omega) (by omega)
                refine lv_iinc (v := v_33) (lv' := [(3, .int v_33), (2, .int v_32), (0, .ref k), (1, .int a0)]) hx hb dX11_wellsIn_56 hl (k := 1) rfl (by rw [ev_33]; rfl) (by decide +kernel) rfl ?_
                clear hl
                intro ls hl
                refine lv_goto (tgt := 4) hx hb dX11_wellsIn_59 (by decide +kernel) ?_
                exact ih4 v_32 v_33 (by first | omega | decide | assumption | rfl) (by first | omega | decide | assumption | rfl) (wl_s i4_2 (by omega) (by omega) (Or.inr ⟨Or.inr (Or.inr (by rw [← h_28]; omega)), rfl⟩) ev_32) (by omega) ls _ _ (lv_sub hl [0, 1, 2, 3] rfl) (hP.sub [0, 1] rfl) (hD.sub [0, 1] (by decide +kernel) rfl) hS
              · refine lv_aload_n hx hb dX11_wellsIn_44 rfl (lv_at hl 2 rfl) ?_
                refine lv_iload_n hx hb dX11_wellsIn_45 rfl (lv_at hl 0 rfl) ?_
                refine lv_iconst (v := 2) hx hb dX11_wellsIn_46 (by decide +kernel) ?_
                refine kJi (wr := []) (va_runV (As := [.int l4_3, .int 2]) (rest := [.int l4_2]) ⟨hx, hb, hml, hown, hT⟩ (c_X11_workG2 l D cI aK aV k k0 k1 k2 k4 k5 k6 k7 k8 ka kb kl ko H.size c3 c9 cc cd ce cf cg ch ci cj ck cm cn c0 l4_3 2 (by first | omega | (simp only [zl_2]; first | done | omega) | decide | assumption | rfl) (by first | omega | (simp only [zl_2]; first | done | omega) | decide | assumption | rfl) (by first | omega | (simp only [zl_2]; first | done | omega) | decide | assumption | rfl)) (cwV 2 hT (gV_in mw_1276 mw_1273 mw_1275 mw_p3_12 mw_12) rfl rfl rfl (by decide +kernel) ⟨Nat.le_of_ble_eq_true rfl, Nat.le_of_ble_eq_true rfl⟩) (kRecvX (q0 := 0) (ci := 11) hK hP hD hN hXS hS hA rfl rfl [0, 1] rfl (by decide +kernel)) rfl rfl hl.1 rfl (lv_room (Nat.le_of_ble_eq_true rfl)) dX11_wellsIn_47 ⟨Nat.le_of_ble_eq_true rfl, Nat.le_of_ble_eq_true rfl⟩) hP hD hS hA [0, 1] [] rfl rfl (by decide +kernel) (by decide +kernel) ?_
                clear hP hD hS
                intro r_34 u_36 H locs w_35 hP hD hS
                replace hP : va_P D vwCl [(k, .inr (11, [.ref k0, .ref k1, .ref k2, .int c3, .ref k4, .ref k5, .ref k6, .ref k7, .ref k8, .int c9, .ref ka, .ref kb, .int cc, .int cd, .int ce, .int cf, .int cg, .int ch, .int ci, .int cj, .int ck, .ref kl, .int cm, .int cn, .ref ko])), (k0, .inl (cI, 1201, .inl c0))] H := hP
                replace hD : va_D A [(k, .inr (11, [.ref k0, .ref k1, .ref k2, .int c3, .ref k4, .ref k5, .ref k6, .ref k7, .ref k8, .int c9, .ref ka, .ref kb, .int cc, .int cd, .int ce, .int cf, .int cg, .int ch, .int ci, .int cj, .int ck, .ref kl, .int cm, .int cn, .ref ko])), (k0, .inl (cI, 1201, .inl c0))] := hD
                have h_37 := w_35
                have h_37 : r_34 = wW c0 l4_3 2 := h_37
                have t_38 : r_34.toInt = (wW c0 l4_3 2).toInt := by rw [h_37]
                have lo_r_34 := k_lo r_34
                have hi_r_34 := k_hi r_34
                refine lv_goto (tgt := 54) hx hb dX11_wellsIn_50 (by decide +kernel) ?_
                refine lv_iadd hx hb dX11_wellsIn_54 ?_
                refine lv_topi (fun v_39 ev_39 => ?_)
                have lo_v_39 := k_lo v_39
                have hi_v_39 := k_hi v_39
                refine lv_istore_n (lv' := [(2, .int v_39), (3, .int l4_3), (0, .ref k), (1, .int a0)]) hx hb dX11_wellsIn_55 rfl hl (by decide +kernel) rfl ?_
                clear hl
                intro ls hl
                obtain ⟨v_40, ev_40⟩ : ∃ y : Int32, y = l4_3 + 1 := ⟨_, rfl⟩
                have tv_40 : v_40.toInt = l4_3.toInt + 1 := by rw [ev_40]; exact k_addv rfl zl_1 (by omega) (by omega)
                refine lv_iinc (v := v_40) (lv' := [(3, .int v_40), (2, .int v_39), (0, .ref k), (1, .int a0)]) hx hb dX11_wellsIn_56 hl (k := 1) rfl (by rw [ev_40]; rfl) (by decide +kernel) rfl ?_
                clear hl
                intro ls hl
                refine lv_goto (tgt := 4) hx hb dX11_wellsIn_59 (by decide +kernel) ?_
                exact ih4 v_39 v_40 (by first | omega | decide | assumption | rfl) (by first | omega | decide | assumption | rfl) (wl_s i4_2 (by omega) (by omega) (Or.inl ⟨by rw [← h_10]; omega, by rw [← h_19]; omega, by rw [← h_28]; omega, h_37⟩) ev_39) (by omega) ls _ _ (lv_sub hl [0, 1, 2, 3] rfl) (hP.sub [0, 1] rfl) (hD.sub [0, 1] (by decide +kernel) rfl) hS
  exact hloop_4 _ 0 0 (by first | omega | (simp only [zl_0]; first | done | omega) | decide | assumption | rfl) (by first | omega | (simp only [zl_0]; first | done | omega) | decide | assumption | rfl) (by rw [zl_0]; rfl) (Nat.lt_succ_self _) ls _ _ (lv_sub hl [0, 1, 2, 3] rfl) hP hD hS
theorem bn_cX11_eatenOn_0 : BN cX11_eatenOn 0 0x2b4c2051781014015a8ac1801540741001528bc080a00ad4561d1f184f21103005503d08824029b1798470015b814382b0a04414015a8ac70015b81c382b5680c0c014d15402b703070560d00a68aa015b814382b := by
  unfold BN; decide +kernel
theorem dX11_eatenOn_0 : decode cX11_eatenOn 0 = .ok (.aload_n 0, 1) := dR0 (k := 0) (i := 0) bn_cX11_eatenOn_0 dop_42 (by decide +kernel)
theorem dX11_eatenOn_1 : decode cX11_eatenOn 1 = .ok (.iload_n 1, 1) := dR0 (k := 0) (i := 1) bn_cX11_eatenOn_0 dop_27 (by decide +kernel)
theorem dX11_eatenOn_2 : decode cX11_eatenOn 2 = .ok (.iconst 1, 1) := dR0 (k := 0) (i := 2) bn_cX11_eatenOn_0 dop_4 (by decide +kernel)
theorem dX11_eatenOn_3 : decode cX11_eatenOn 3 = .ok (.invokevirtual 84, 3) := dR2 (f := Instr.invokevirtual) (k := 0) (i := 3) bn_cX11_eatenOn_0 dop_182 84 (by decide +kernel)
theorem dX11_eatenOn_6 : decode cX11_eatenOn 6 = .ok (.ifCond .eq 12, 3) := dR2s (f := Instr.ifCond .eq) (k := 0) (i := 6) bn_cX11_eatenOn_0 dop_153 12 12 (by decide +kernel)
theorem dX11_eatenOn_9 : decode cX11_eatenOn 9 = .ok (.aload_n 0, 1) := dR0 (k := 0) (i := 9) bn_cX11_eatenOn_0 dop_42 (by decide +kernel)
theorem dX11_eatenOn_10 : decode cX11_eatenOn 10 = .ok (.iload_n 1, 1) := dR0 (k := 0) (i := 10) bn_cX11_eatenOn_0 dop_27 (by decide +kernel)
theorem dX11_eatenOn_11 : decode cX11_eatenOn 11 = .ok (.iconst 2, 1) := dR0 (k := 0) (i := 11) bn_cX11_eatenOn_0 dop_5 (by decide +kernel)
theorem dX11_eatenOn_12 : decode cX11_eatenOn 12 = .ok (.invokevirtual 84, 3) := dR2 (f := Instr.invokevirtual) (k := 0) (i := 12) bn_cX11_eatenOn_0 dop_182 84 (by decide +kernel)
theorem dX11_eatenOn_15 : decode cX11_eatenOn 15 = .ok (.ifCond .eq 5, 3) := dR2s (f := Instr.ifCond .eq) (k := 0) (i := 15) bn_cX11_eatenOn_0 dop_153 5 5 (by decide +kernel)
theorem dX11_eatenOn_18 : decode cX11_eatenOn 18 = .ok (.iconst (-1), 1) := dR0 (k := 0) (i := 18) bn_cX11_eatenOn_0 dop_2 (by decide +kernel)
theorem dX11_eatenOn_19 : decode cX11_eatenOn 19 = .ok (.ireturn, 1) := dR0 (k := 0) (i := 19) bn_cX11_eatenOn_0 dop_172 (by decide +kernel)
theorem dX11_eatenOn_20 : decode cX11_eatenOn 20 = .ok (.aload_n 0, 1) := dR0 (k := 0) (i := 20) bn_cX11_eatenOn_0 dop_42 (by decide +kernel)
theorem dX11_eatenOn_21 : decode cX11_eatenOn 21 = .ok (.iload_n 1, 1) := dR0 (k := 0) (i := 21) bn_cX11_eatenOn_0 dop_27 (by decide +kernel)
theorem dX11_eatenOn_22 : decode cX11_eatenOn 22 = .ok (.iconst 3, 1) := dR0 (k := 0) (i := 22) bn_cX11_eatenOn_0 dop_6 (by decide +kernel)
theorem dX11_eatenOn_23 : decode cX11_eatenOn 23 = .ok (.invokevirtual 55, 3) := dR2 (f := Instr.invokevirtual) (k := 0) (i := 23) bn_cX11_eatenOn_0 dop_182 55 (by decide +kernel)
theorem dX11_eatenOn_26 : decode cX11_eatenOn 26 = .ok (.aload_n 0, 1) := dR0 (k := 0) (i := 26) bn_cX11_eatenOn_0 dop_42 (by decide +kernel)
theorem dX11_eatenOn_27 : decode cX11_eatenOn 27 = .ok (.getfield 9, 3) := dR2 (f := Instr.getfield) (k := 0) (i := 27) bn_cX11_eatenOn_0 dop_180 9 (by decide +kernel)
theorem dX11_eatenOn_30 : decode cX11_eatenOn 30 = .ok (.bipush 19, 2) := dR1s (f := Instr.bipush) (k := 0) (i := 30) bn_cX11_eatenOn_0 dop_16 19 19 (by decide +kernel)
theorem dX11_eatenOn_32 : decode cX11_eatenOn 32 = .ok (.aload_n 0, 1) := dR0 (k := 0) (i := 32) bn_cX11_eatenOn_0 dop_42 (by decide +kernel)
theorem dX11_eatenOn_33 : decode cX11_eatenOn 33 = .ok (.iload_n 1, 1) := dR0 (k := 0) (i := 33) bn_cX11_eatenOn_0 dop_27 (by decide +kernel)
theorem dX11_eatenOn_34 : decode cX11_eatenOn 34 = .ok (.iconst 1, 1) := dR0 (k := 0) (i := 34) bn_cX11_eatenOn_0 dop_4 (by decide +kernel)
theorem dX11_eatenOn_35 : decode cX11_eatenOn 35 = .ok (.invokevirtual 55, 3) := dR2 (f := Instr.invokevirtual) (k := 0) (i := 35) bn_cX11_eatenOn_0 dop_182 55 (by decide +kernel)
theorem dX11_eatenOn_38 : decode cX11_eatenOn 38 = .ok (.iadd, 1) := dR0 (k := 0) (i := 38) bn_cX11_eatenOn_0 dop_96 (by decide +kernel)
theorem dX11_eatenOn_39 : decode cX11_eatenOn 39 = .ok (.iaload, 1) := dR0 (k := 0) (i := 39) bn_cX11_eatenOn_0 dop_46 (by decide +kernel)
theorem dX11_eatenOn_40 : decode cX11_eatenOn 40 = .ok (.ifCond .ne 8, 3) := dR2s (f := Instr.ifCond .ne) (k := 0) (i := 40) bn_cX11_eatenOn_0 dop_154 8 8 (by decide +kernel)
theorem dX11_eatenOn_43 : decode cX11_eatenOn 43 = .ok (.bipush 60, 2) := dR1s (f := Instr.bipush) (k := 0) (i := 43) bn_cX11_eatenOn_0 dop_16 60 60 (by decide +kernel)
theorem dX11_eatenOn_45 : decode cX11_eatenOn 45 = .ok (.goto 5, 3) := dR2s (f := Instr.goto) (k := 0) (i := 45) bn_cX11_eatenOn_0 dop_167 5 5 (by decide +kernel)
theorem dX11_eatenOn_48 : decode cX11_eatenOn 48 = .ok (.bipush 120, 2) := dR1s (f := Instr.bipush) (k := 0) (i := 48) bn_cX11_eatenOn_0 dop_16 120 120 (by decide +kernel)
theorem dX11_eatenOn_50 : decode cX11_eatenOn 50 = .ok (.iadd, 1) := dR0 (k := 0) (i := 50) bn_cX11_eatenOn_0 dop_96 (by decide +kernel)
theorem dX11_eatenOn_51 : decode cX11_eatenOn 51 = .ok (.istore_n 2, 1) := dR0 (k := 0) (i := 51) bn_cX11_eatenOn_0 dop_61 (by decide +kernel)
theorem dX11_eatenOn_52 : decode cX11_eatenOn 52 = .ok (.iload_n 2, 1) := dR0 (k := 0) (i := 52) bn_cX11_eatenOn_0 dop_28 (by decide +kernel)
theorem dX11_eatenOn_53 : decode cX11_eatenOn 53 = .ok (.aload_n 0, 1) := dR0 (k := 0) (i := 53) bn_cX11_eatenOn_0 dop_42 (by decide +kernel)
theorem dX11_eatenOn_54 : decode cX11_eatenOn 54 = .ok (.getfield 9, 3) := dR2 (f := Instr.getfield) (k := 0) (i := 54) bn_cX11_eatenOn_0 dop_180 9 (by decide +kernel)
theorem dX11_eatenOn_57 : decode cX11_eatenOn 57 = .ok (.iconst 0, 1) := dR0 (k := 0) (i := 57) bn_cX11_eatenOn_0 dop_3 (by decide +kernel)
theorem dX11_eatenOn_58 : decode cX11_eatenOn 58 = .ok (.iaload, 1) := dR0 (k := 0) (i := 58) bn_cX11_eatenOn_0 dop_46 (by decide +kernel)
theorem dX11_eatenOn_59 : decode cX11_eatenOn 59 = .ok (.if_icmp .le 7, 3) := dR2s (f := Instr.if_icmp .le) (k := 0) (i := 59) bn_cX11_eatenOn_0 dop_164 7 7 (by decide +kernel)
theorem dX11_eatenOn_62 : decode cX11_eatenOn 62 = .ok (.iload_n 2, 1) := dR0 (k := 0) (i := 62) bn_cX11_eatenOn_0 dop_28 (by decide +kernel)
theorem dX11_eatenOn_63 : decode cX11_eatenOn 63 = .ok (.goto 11, 3) := dR2s (f := Instr.goto) (k := 0) (i := 63) bn_cX11_eatenOn_0 dop_167 11 11 (by decide +kernel)
theorem dX11_eatenOn_66 : decode cX11_eatenOn 66 = .ok (.aload_n 0, 1) := dR0 (k := 0) (i := 66) bn_cX11_eatenOn_0 dop_42 (by decide +kernel)
theorem dX11_eatenOn_67 : decode cX11_eatenOn 67 = .ok (.getfield 9, 3) := dR2 (f := Instr.getfield) (k := 0) (i := 67) bn_cX11_eatenOn_0 dop_180 9 (by decide +kernel)
theorem dX11_eatenOn_70 : decode cX11_eatenOn 70 = .ok (.iconst 0, 1) := dR0 (k := 0) (i := 70) bn_cX11_eatenOn_0 dop_3 (by decide +kernel)
theorem dX11_eatenOn_71 : decode cX11_eatenOn 71 = .ok (.iaload, 1) := dR0 (k := 0) (i := 71) bn_cX11_eatenOn_0 dop_46 (by decide +kernel)
theorem dX11_eatenOn_72 : decode cX11_eatenOn 72 = .ok (.iconst 1, 1) := dR0 (k := 0) (i := 72) bn_cX11_eatenOn_0 dop_4 (by decide +kernel)
theorem dX11_eatenOn_73 : decode cX11_eatenOn 73 = .ok (.iadd, 1) := dR0 (k := 0) (i := 73) bn_cX11_eatenOn_0 dop_96 (by decide +kernel)
theorem dX11_eatenOn_74 : decode cX11_eatenOn 74 = .ok (.ireturn, 1) := dR0 (k := 0) (i := 74) bn_cX11_eatenOn_0 dop_172 (by decide +kernel)
set_option maxHeartbeats 4000000 in
set_option maxRecDepth 100000 in
theorem c_X11_eatenOnG (l : Launch) (D : va_G) (cI : ClassId) (aK aV : Nat → Nat) (k k0 k1 k2 k4 k5 k6 k7 k8 ka kb kl ko : Nat) (sz : Nat) (c3 : Int32) (c9 : Int32) (cc : Int32) (cd : Int32) (ce : Int32) (cf : Int32) (cg : Int32) (ch : Int32) (ci : Int32) (cj : Int32) (ck : Int32) (cm : Int32) (cn : Int32) (c0 : Nat → Int32) (a0 : Int32) (pre0 : SB c0) (pre1 : 0 ≤ a0.toInt) (pre2 : a0.toInt ≤ 59) : Met l yX11_eatenOn (gW yX11_eatenOn cX11_eatenOn 3 (some .int)) ({ frames := 3, cells := 0, slots := 0, locals := 64 } : Room) (kPreX D cI aK aV [.ref k, .int a0] [(k, .inr (11, [.ref k0, .ref k1, .ref k2, .int c3, .ref k4, .ref k5, .ref k6, .ref k7, .ref k8, .int c9, .ref ka, .ref kb, .int cc, .int cd, .int ce, .int cf, .int cg, .int ch, .int ci, .int cj, .int ck, .ref kl, .int cm, .int cn, .ref ko])), (k0, .inl (cI, 1201, .inl c0))] sz) (va_Qi (fun (r : Int32) (u : Unit) => r = eoN c0 a0.toInt.toNat) (fun u t => kWd D cI (va_A [(k, .inr (11, [.ref k0, .ref k1, .ref k2, .int c3, .ref k4, .ref k5, .ref k6, .ref k7, .ref k8, .int c9, .ref ka, .ref kb, .int cc, .int cd, .int ce, .int cf, .int cg, .int ch, .int ci, .int cj, .int ck, .ref kl, .int cm, .int cn, .ref ko])), (k0, .inl (cI, 1201, .inl c0))] sz) [(k, .inr (11, [.ref k0, .ref k1, .ref k2, .int c3, .ref k4, .ref k5, .ref k6, .ref k7, .ref k8, .int c9, .ref ka, .ref kb, .int cc, .int cd, .int ce, .int cf, .int cg, .int ch, .int ci, .int cj, .int ck, .ref kl, .int cm, .int cn, .ref ko])), (k0, .inl (cI, 1201, .inl c0))] t) (va_A [(k, .inr (11, [.ref k0, .ref k1, .ref k2, .int c3, .ref k4, .ref k5, .ref k6, .ref k7, .ref k8, .int c9, .ref ka, .ref kb, .int cc, .int cd, .int ce, .int cf, .int cg, .int ch, .int ci, .int cj, .int ck, .ref kl, .int cm, .int cn, .ref ko])), (k0, .inl (cI, 1201, .inl c0))] sz)) 0 0 (va_A [(k, .inr (11, [.ref k0, .ref k1, .ref k2, .int c3, .ref k4, .ref k5, .ref k6, .ref k7, .ref k8, .int c9, .ref ka, .ref kb, .int cc, .int cd, .int ce, .int cf, .int cg, .int ch, .int ci, .int cj, .int ck, .ref kl, .int cm, .int cn, .ref ko])), (k0, .inl (cI, 1201, .inl c0))] sz) := by
  refine kMetIX (own := RX11) (by decide +kernel) rfl (Nat.le_of_ble_eq_true rfl) ?_
  intro p e s m args below meth c hx hb hT hown hname hml A Q hK hP hD hS hA hN hXS hRet ls hl
  have hl : lv_has ls 3 [(0, .ref k), (1, .int a0)] := hl
  have lo_a0 := k_lo a0
  have hi_a0 := k_hi a0
  have lo_ci := k_lo ci
  have hi_ci := k_hi ci
  have pre0 : SB c0 := pre0
  have nb_1 : 0 ≤ (c0 0).toInt ∧ (c0 0).toInt ≤ 2000 := SB.n0 pre0
  have nb_2 : 0 ≤ (c0 1).toInt ∧ (c0 1).toInt ≤ 60 := SB.n1 pre0
  have nb_3 : 0 ≤ (c0 2).toInt ∧ (c0 2).toInt ≤ 4 := SB.n2 pre0
  refine lv_aload_n hx hb dX11_eatenOn_0 rfl (lv_at hl 0 rfl) ?_
  refine lv_iload_n hx hb dX11_eatenOn_1 rfl (lv_at hl 1 rfl) ?_
  refine lv_iconst (v := 1) hx hb dX11_eatenOn_2 (by decide +kernel) ?_
  refine kJi (wr := []) (va_runV (As := [.int a0, .int 1]) (rest := []) ⟨hx, hb, hml, hown, hT⟩ (c_X11_standsG l D cI aK aV k k0 k1 k2 k4 k5 k6 k7 k8 ka kb kl ko s.heap.size c3 c9 cc cd ce cf cg ch ci cj ck cm cn c0 a0 1 (by first | omega | (simp only [zl_1]; first | done | omega) | decide | assumption | rfl) (by first | omega | (simp only [zl_1]; first | done | omega) | decide | assumption | rfl) pre0) (cwV 2 hT (gV_in mw_1295 mw_1292 mw_1294 mw_p3_14 mw_12) rfl rfl rfl (by decide +kernel) ⟨Nat.le_of_ble_eq_true rfl, Nat.le_of_ble_eq_true rfl⟩) (kRecvX (q0 := 0) (ci := 11) hK hP hD hN hXS hS hA rfl rfl [0, 1] rfl (by decide +kernel)) rfl rfl hl.1 rfl (lv_room (Nat.le_of_ble_eq_true rfl)) dX11_eatenOn_3 ⟨Nat.le_of_ble_eq_true rfl, Nat.le_of_ble_eq_true rfl⟩) hP hD hS hA [0, 1] [] rfl rfl (by decide +kernel) (by decide +kernel) ?_
  clear hP hD hS
  intro r_4 u_6 H locs w_5 hP hD hS
  replace hP : va_P D vwCl [(k, .inr (11, [.ref k0, .ref k1, .ref k2, .int c3, .ref k4, .ref k5, .ref k6, .ref k7, .ref k8, .int c9, .ref ka, .ref kb, .int cc, .int cd, .int ce, .int cf, .int cg, .int ch, .int ci, .int cj, .int ck, .ref kl, .int cm, .int cn, .ref ko])), (k0, .inl (cI, 1201, .inl c0))] H := hP
  replace hD : va_D A [(k, .inr (11, [.ref k0, .ref k1, .ref k2, .int c3, .ref k4, .ref k5, .ref k6, .ref k7, .ref k8, .int c9, .ref ka, .ref kb, .int cc, .int cd, .int ce, .int cf, .int cg, .int ch, .int ci, .int cj, .int ck, .ref kl, .int cm, .int cn, .ref ko])), (k0, .inl (cI, 1201, .inl c0))] := hD
  rcases w_5 with ⟨hr_4, h_7⟩ | ⟨hr_4, h_8⟩
  · try simp only [zl_1] at h_7
    have h_7 : stF c0 a0 1 = 1 := h_7
    obtain rfl : r_4 = 1 := hr_4.trans (by decide +kernel)
    refine b_if_eq hx hb zl_1 (tgt := 18) dX11_eatenOn_6 (by decide +kernel) (fun c_9 => by exfalso; omega) (fun c_9 => ?_)
    refine lv_aload_n hx hb dX11_eatenOn_9 rfl (lv_at hl 0 rfl) ?_
    refine lv_iload_n hx hb dX11_eatenOn_10 rfl (lv_at hl 1 rfl) ?_
    refine lv_iconst (v := 2) hx hb dX11_eatenOn_11 (by decide +kernel) ?_
    refine kJi (wr := []) (va_runV (As := [.int a0, .int 2]) (rest := []) ⟨hx, hb, hml, hown, hT⟩ (c_X11_standsG l D cI aK aV k k0 k1 k2 k4 k5 k6 k7 k8 ka kb kl ko H.size c3 c9 cc cd ce cf cg ch ci cj ck cm cn c0 a0 2 (by first | omega | (simp only [zl_2]; first | done | omega) | decide | assumption | rfl) (by first | omega | (simp only [zl_2]; first | done | omega) | decide | assumption | rfl) pre0) (cwV 2 hT (gV_in mw_1295 mw_1292 mw_1294 mw_p3_14 mw_12) rfl rfl rfl (by decide +kernel) ⟨Nat.le_of_ble_eq_true rfl, Nat.le_of_ble_eq_true rfl⟩) (kRecvX (q0 := 0) (ci := 11) hK hP hD hN hXS hS hA rfl rfl [0, 1] rfl (by decide +kernel)) rfl rfl hl.1 rfl (lv_room (Nat.le_of_ble_eq_true rfl)) dX11_eatenOn_12 ⟨Nat.le_of_ble_eq_true rfl, Nat.le_of_ble_eq_true rfl⟩) hP hD hS hA [0, 1] [] rfl rfl (by decide +kernel) (by decide +kernel) ?_
    clear hP hD hS
    intro r_10 u_12 H locs w_11 hP hD hS
    replace hP : va_P D vwCl [(k, .inr (11, [.ref k0, .ref k1, .ref k2, .int c3, .ref k4, .ref k5, .ref k6, .ref k7, .ref k8, .int c9, .ref ka, .ref kb, .int cc, .int cd, .int ce, .int cf, .int cg, .int ch, .int ci, .int cj, .int ck, .ref kl, .int cm, .int cn, .ref ko])), (k0, .inl (cI, 1201, .inl c0))] H := hP
    replace hD : va_D A [(k, .inr (11, [.ref k0, .ref k1, .ref k2, .int c3, .ref k4, .ref k5, .ref k6, .ref k7, .ref k8, .int c9, .ref ka, .ref kb, .int cc, .int cd, .int ce, .int cf, .int cg, .int ch, .int ci, .int cj, .int ck, .ref kl, .int cm, .int cn, .ref ko])), (k0, .inl (cI, 1201, .inl c0))] := hD
    rcases w_11 with ⟨hr_10, h_13⟩ | ⟨hr_10, h_14⟩
    · try simp only [zl_2] at h_13
      have h_13 : stF c0 a0 2 = 1 := h_13
      obtain rfl : r_10 = 1 := hr_10.trans (by decide +kernel)
      refine b_if_eq hx hb zl_1 (tgt := 20) dX11_eatenOn_15 (by decide +kernel) (fun c_15 => by exfalso; omega) (fun c_15 => ?_)
      refine lv_iconst (v := (-1)) hx hb dX11_eatenOn_18 (by decide +kernel) ?_
      exact hRet () [0, 1] (ref_eo0 (Or.inr h_13)) hP hD (by decide +kernel) rfl hS rfl dX11_eatenOn_19
    · try simp only [zl_2] at h_14
      have h_14 : stF c0 a0 2 = 0 := h_14
      obtain rfl : r_10 = 0 := hr_10.trans (by decide +kernel)
      refine b_if_eq hx hb zl_0 (tgt := 20) dX11_eatenOn_15 (by decide +kernel) (fun c_16 => ?_) (fun c_16 => by exfalso; omega)
      refine lv_aload_n hx hb dX11_eatenOn_20 rfl (lv_at hl 0 rfl) ?_
      refine lv_iload_n hx hb dX11_eatenOn_21 rfl (lv_at hl 1 rfl) ?_
      refine lv_iconst (v := 3) hx hb dX11_eatenOn_22 (by decide +kernel) ?_
      refine kJi (wr := []) (va_runV (As := [.int a0, .int 3]) (rest := []) ⟨hx, hb, hml, hown, hT⟩ (c_X11_workG3 l D cI aK aV k k0 k1 k2 k4 k5 k6 k7 k8 ka kb kl ko H.size c3 c9 cc cd ce cf cg ch ci cj ck cm cn c0 a0 3 (by first | omega | (simp only [zl_3]; first | done | omega) | decide | assumption | rfl) (by first | omega | (simp only [zl_3]; first | done | omega) | decide | assumption | rfl) (by first | omega | (simp only [zl_3]; first | done | omega) | decide | assumption | rfl)) (cwV 2 hT (gV_in mw_1276 mw_1273 mw_1275 mw_p3_12 mw_12) rfl rfl rfl (by decide +kernel) ⟨Nat.le_of_ble_eq_true rfl, Nat.le_of_ble_eq_true rfl⟩) (kRecvX (q0 := 0) (ci := 11) hK hP hD hN hXS hS hA rfl rfl [0, 1] rfl (by decide +kernel)) rfl rfl hl.1 rfl (lv_room (Nat.le_of_ble_eq_true rfl)) dX11_eatenOn_23 ⟨Nat.le_of_ble_eq_true rfl, Nat.le_of_ble_eq_true rfl⟩) hP hD hS hA [0, 1] [] rfl rfl (by decide +kernel) (by decide +kernel) ?_
      clear hP hD hS
      intro r_17 u_19 H locs w_18 hP hD hS
      replace hP : va_P D vwCl [(k, .inr (11, [.ref k0, .ref k1, .ref k2, .int c3, .ref k4, .ref k5, .ref k6, .ref k7, .ref k8, .int c9, .ref ka, .ref kb, .int cc, .int cd, .int ce, .int cf, .int cg, .int ch, .int ci, .int cj, .int ck, .ref kl, .int cm, .int cn, .ref ko])), (k0, .inl (cI, 1201, .inl c0))] H := hP
      replace hD : va_D A [(k, .inr (11, [.ref k0, .ref k1, .ref k2, .int c3, .ref k4, .ref k5, .ref k6, .ref k7, .ref k8, .int c9, .ref ka, .ref kb, .int cc, .int cd, .int ce, .int cf, .int cg, .int ch, .int ci, .int cj, .int ck, .ref kl, .int cm, .int cn, .ref ko])), (k0, .inl (cI, 1201, .inl c0))] := hD
      have h_20 := w_18
      have h_20 : r_17 = wW c0 a0 3 := h_20
      have t_21 : r_17.toInt = (wW c0 a0 3).toInt := by rw [h_20]
      have b_22 : 0 ≤ r_17.toInt ∧ r_17.toInt ≤ 2001 := by rw [h_20]; exact SB.w3 pre0 (by omega) (by omega)
      have lo_r_17 := k_lo r_17
      have hi_r_17 := k_hi r_17
      refine lv_aload_n hx hb dX11_eatenOn_26 rfl (lv_at hl 0 rfl) ?_
      refine va_get (D := D) (ci := 11) (v := .ref k0) (C := RX11) (T := TX11) (N := 25) hx hb hT giX11 hown hK hP 0 rfl rfl 0 (by decide +kernel) (hT (Cond.fieldLink RX11 9 "DesertWireModel" "s" "[I") mw_1156) (fun _ h9 => h9) rfl dX11_eatenOn_27 ?_
      refine lv_bipush (v := 19) hx hb dX11_eatenOn_30 (by decide +kernel) ?_
      refine lv_aload_n hx hb dX11_eatenOn_32 rfl (lv_at hl 0 rfl) ?_
      refine lv_iload_n hx hb dX11_eatenOn_33 rfl (lv_at hl 1 rfl) ?_
      refine lv_iconst (v := 1) hx hb dX11_eatenOn_34 (by decide +kernel) ?_
      refine kJi (wr := []) (va_runV (As := [.int a0, .int 1]) (rest := [.int 19, .ref k0, .int r_17]) ⟨hx, hb, hml, hown, hT⟩ (c_X11_workG1 l D cI aK aV k k0 k1 k2 k4 k5 k6 k7 k8 ka kb kl ko H.size c3 c9 cc cd ce cf cg ch ci cj ck cm cn c0 a0 1 (by first | omega | (simp only [zl_1]; first | done | omega) | decide | assumption | rfl) (by first | omega | (simp only [zl_1]; first | done | omega) | decide | assumption | rfl) (by first | omega | (simp only [zl_1]; first | done | omega) | decide | assumption | rfl)) (cwV 2 hT (gV_in mw_1276 mw_1273 mw_1275 mw_p3_12 mw_12) rfl rfl rfl (by decide +kernel) ⟨Nat.le_of_ble_eq_true rfl, Nat.le_of_ble_eq_true rfl⟩) (kRecvX (q0 := 0) (ci := 11) hK hP hD hN hXS hS hA rfl rfl [0, 1] rfl (by decide +kernel)) rfl rfl hl.1 rfl (lv_room (Nat.le_of_ble_eq_true rfl)) dX11_eatenOn_35 ⟨Nat.le_of_ble_eq_true rfl, Nat.le_of_ble_eq_true rfl⟩) hP hD hS hA [0, 1] [] rfl rfl (by decide +kernel) (by decide +kernel) ?_
      clear hP hD hS
      intro r_23 u_25 H locs w_24 hP hD hS
      replace hP : va_P D vwCl [(k, .inr (11, [.ref k0, .ref k1, .ref k2, .int c3, .ref k4, .ref k5, .ref k6, .ref k7, .ref k8, .int c9, .ref ka, .ref kb, .int cc, .int cd, .int ce, .int cf, .int cg, .int ch, .int ci, .int cj, .int ck, .ref kl, .int cm, .int cn, .ref ko])), (k0, .inl (cI, 1201, .inl c0))] H := hP
      replace hD : va_D A [(k, .inr (11, [.ref k0, .ref k1, .ref k2, .int c3, .ref k4, .ref k5, .ref k6, .ref k7, .ref k8, .int c9, .ref ka, .ref kb, .int cc, .int cd, .int ce, .int cf, .int cg, .int ch, .int ci, .int cj, .int ck, .ref kl, .int cm, .int cn, .ref ko])), (k0, .inl (cI, 1201, .inl c0))] := hD
      have h_26 := w_24
      have h_26 : r_23 = wW c0 a0 1 := h_26
      have t_27 : r_23.toInt = (wW c0 a0 1).toInt := by rw [h_26]
      have b_28 : 0 ≤ r_23.toInt ∧ r_23.toInt ≤ 39 := by rw [h_26]; exact SB.w1 pre0 (by omega) (by omega)
      have lo_r_23 := k_lo r_23
      have hi_r_23 := k_hi r_23
      refine lv_iadd hx hb dX11_eatenOn_38 ?_
      refine lv_topi (fun v_29 ev_29 => ?_)
      have tv_29 : v_29.toInt = 19 + r_23.toInt := by rw [ev_29]; exact k_addv zl_19 rfl (by omega) (by omega)
      refine k_iald (v := (c0 v_29.toNatClampNeg)) hx hb hK hP 1 0 rfl rfl (k_in (by omega) (by omega)) rfl dX11_eatenOn_39 ?_
      refine lv_topi (fun v_30 ev_30 => ?_)
      have lo_v_30 := k_lo v_30
      have hi_v_30 := k_hi v_30
      have tv_30 : v_30.toInt = (c0 v_29.toNatClampNeg).toInt := by rw [ev_30]
      refine b_if_ne hx hb rfl (tgt := 48) dX11_eatenOn_40 (by decide +kernel) (fun c_31 => ?_) (fun c_31 => ?_)
      · refine lv_bipush (v := 120) hx hb dX11_eatenOn_48 (by decide +kernel) ?_
        refine lv_iadd hx hb dX11_eatenOn_50 ?_
        refine lv_topi (fun v_32 ev_32 => ?_)
        have tv_32 : v_32.toInt = r_17.toInt + 120 := by rw [ev_32]; exact k_addv rfl zl_120 (by omega) (by omega)
        refine lv_istore_n (lv' := [(2, .int v_32), (0, .ref k), (1, .int a0)]) hx hb dX11_eatenOn_51 rfl hl (by decide +kernel) rfl ?_
        clear hl
        intro ls hl
        refine lv_iload_n hx hb dX11_eatenOn_52 rfl (lv_at hl 0 rfl) ?_
        refine lv_aload_n hx hb dX11_eatenOn_53 rfl (lv_at hl 1 rfl) ?_
        refine va_get (D := D) (ci := 11) (v := .ref k0) (C := RX11) (T := TX11) (N := 25) hx hb hT giX11 hown hK hP 0 rfl rfl 0 (by decide +kernel) (hT (Cond.fieldLink RX11 9 "DesertWireModel" "s" "[I") mw_1156) (fun _ h9 => h9) rfl dX11_eatenOn_54 ?_
        refine lv_iconst (v := 0) hx hb dX11_eatenOn_57 (by decide +kernel) ?_
        refine k_iald (v := (c0 0)) hx hb hK hP 1 0 rfl rfl (k_inl (by decide +kernel)) rfl dX11_eatenOn_58 ?_
        refine lv_topi (fun v_33 ev_33 => ?_)
        have lo_v_33 := k_lo v_33
        have hi_v_33 := k_hi v_33
        have tv_33 : v_33.toInt = (c0 0).toInt := by rw [ev_33]
        have b_34 : 0 ≤ v_33.toInt ∧ v_33.toInt ≤ 2000 := by first | (rw [tv_33]; exact SB.n0 pre0) | exact SB.n0 pre0 | omega
        refine b_icmp_le hx hb rfl rfl (tgt := 66) dX11_eatenOn_59 (by decide +kernel) (fun c_35 => ?_) (fun c_35 => ?_)
        · refine lv_aload_n hx hb dX11_eatenOn_66 rfl (lv_at hl 1 rfl) ?_
          refine va_get (D := D) (ci := 11) (v := .ref k0) (C := RX11) (T := TX11) (N := 25) hx hb hT giX11 hown hK hP 0 rfl rfl 0 (by decide +kernel) (hT (Cond.fieldLink RX11 9 "DesertWireModel" "s" "[I") mw_1156) (fun _ h9 => h9) rfl dX11_eatenOn_67 ?_
          refine lv_iconst (v := 0) hx hb dX11_eatenOn_70 (by decide +kernel) ?_
          refine k_iald (v := (c0 0)) hx hb hK hP 1 0 rfl rfl (k_inl (by decide +kernel)) rfl dX11_eatenOn_71 ?_
          refine lv_topi (fun v_36 ev_36 => ?_)
          have lo_v_36 := k_lo v_36
          have hi_v_36 := k_hi v_36
          have tv_36 : v_36.toInt = (c0 0).toInt := by rw [ev_36]
          have b_37 : 0 ≤ v_36.toInt ∧ v_36.toInt ≤ 2000 := by first | (rw [tv_36]; exact SB.n0 pre0) | exact SB.n0 pre0 | omega
          refine lv_iconst (v := 1) hx hb dX11_eatenOn_72 (by decide +kernel) ?_
          refine lv_iadd hx hb dX11_eatenOn_73 ?_
          refine lv_topi (fun v_38 ev_38 => ?_)
          have tv_38 : v_38.toInt = v_36.toInt + 1 := by rw [ev_38]; exact k_addv rfl zl_1 (by omega) (by omega)
          exact hRet () [0, 1] (ref_eo1 (mi := r_23) (so := v_30) (sn := r_17) (li := 120) (d := v_32) h_7 h_14 h_26 (rd_in ev_30 (by omega)) h_20 (by first | exact Or.inl ⟨by omega, rfl⟩ | exact Or.inr ⟨by omega, rfl⟩) ev_32 (Or.inr ⟨by omega, by rw [ev_38, ev_36]⟩)) hP hD (by decide +kernel) rfl hS rfl dX11_eatenOn_74
        · refine lv_iload_n hx hb dX11_eatenOn_62 rfl (lv_at hl 0 rfl) ?_
          refine lv_goto (tgt := 74) hx hb dX11_eatenOn_63 (by decide +kernel) ?_
          exact hRet () [0, 1] (ref_eo1 (mi := r_23) (so := v_30) (sn := r_17) (li := 120) (d := v_32) h_7 h_14 h_26 (rd_in ev_30 (by omega)) h_20 (by first | exact Or.inl ⟨by omega, rfl⟩ | exact Or.inr ⟨by omega, rfl⟩) ev_32 (Or.inl ⟨by omega, rfl⟩)) hP hD (by decide +kernel) rfl hS rfl dX11_eatenOn_74
      · refine lv_bipush (v := 60) hx hb dX11_eatenOn_43 (by decide +kernel) ?_
        refine lv_goto (tgt := 50) hx hb dX11_eatenOn_45 (by decide +kernel) ?_
        refine lv_iadd hx hb dX11_eatenOn_50 ?_
        refine lv_topi (fun v_39 ev_39 => ?_)
        have tv_39 : v_39.toInt = r_17.toInt + 60 := by rw [ev_39]; exact k_addv rfl zl_60 (by omega) (by omega)
        refine lv_istore_n (lv' := [(2, .int v_39), (0, .ref k), (1, .int a0)]) hx hb dX11_eatenOn_51 rfl hl (by decide +kernel) rfl ?_
        clear hl
        intro ls hl
        refine lv_iload_n hx hb dX11_eatenOn_52 rfl (lv_at hl 0 rfl) ?_
        refine lv_aload_n hx hb dX11_eatenOn_53 rfl (lv_at hl 1 rfl) ?_
        refine va_get (D := D) (ci := 11) (v := .ref k0) (C := RX11) (T := TX11) (N := 25) hx hb hT giX11 hown hK hP 0 rfl rfl 0 (by decide +kernel) (hT (Cond.fieldLink RX11 9 "DesertWireModel" "s" "[I") mw_1156) (fun _ h9 => h9) rfl dX11_eatenOn_54 ?_
        refine lv_iconst (v := 0) hx hb dX11_eatenOn_57 (by decide +kernel) ?_
        refine k_iald (v := (c0 0)) hx hb hK hP 1 0 rfl rfl (k_inl (by decide +kernel)) rfl dX11_eatenOn_58 ?_
        refine lv_topi (fun v_40 ev_40 => ?_)
        have lo_v_40 := k_lo v_40
        have hi_v_40 := k_hi v_40
        have tv_40 : v_40.toInt = (c0 0).toInt := by rw [ev_40]
        have b_41 : 0 ≤ v_40.toInt ∧ v_40.toInt ≤ 2000 := by first | (rw [tv_40]; exact SB.n0 pre0) | exact SB.n0 pre0 | omega
        refine b_icmp_le hx hb rfl rfl (tgt := 66) dX11_eatenOn_59 (by decide +kernel) (fun c_42 => ?_) (fun c_42 => ?_)
        · refine lv_aload_n hx hb dX11_eatenOn_66 rfl (lv_at hl 1 rfl) ?_
          refine va_get (D := D) (ci := 11) (v := .ref k0) (C := RX11) (T := TX11) (N := 25) hx hb hT giX11 hown hK hP 0 rfl rfl 0 (by decide +kernel) (hT (Cond.fieldLink RX11 9 "DesertWireModel" "s" "[I") mw_1156) (fun _ h9 => h9) rfl dX11_eatenOn_67 ?_
          refine lv_iconst (v := 0) hx hb dX11_eatenOn_70 (by decide +kernel) ?_
          refine k_iald (v := (c0 0)) hx hb hK hP 1 0 rfl rfl (k_inl (by decide +kernel)) rfl dX11_eatenOn_71 ?_
          refine lv_topi (fun v_43 ev_43 => ?_)
          have lo_v_43 := k_lo v_43
          have hi_v_43 := k_hi v_43
          have tv_43 : v_43.toInt = (c0 0).toInt := by rw [ev_43]
          have b_44 : 0 ≤ v_43.toInt ∧ v_43.toInt ≤ 2000 := by first | (rw [tv_43]; exact SB.n0 pre0) | exact SB.n0 pre0 | omega
          refine lv_iconst (v := 1) hx hb dX11_eatenOn_72 (by decide +kernel) ?_
          refine lv_iadd hx hb dX11_eatenOn_73 ?_
          refine lv_topi (fun v_45 ev_45 => ?_)
          have tv_45 : v_45.toInt = v_43.toInt + 1 := by rw [ev_45]; exact k_addv rfl zl_1 (by omega) (by omega)
          exact hRet () [0, 1] (ref_eo1 (mi := r_23) (so := v_30) (sn := r_17) (li := 60) (d := v_39) h_7 h_14 h_26 (rd_in ev_30 (by omega)) h_20 (by first | exact Or.inl ⟨by omega, rfl⟩ | exact Or.inr ⟨by omega, rfl⟩) ev_39 (Or.inr ⟨by omega, by rw [ev_45, ev_43]⟩)) hP hD (by decide +kernel) rfl hS rfl dX11_eatenOn_74
        · refine lv_iload_n hx hb dX11_eatenOn_62 rfl (lv_at hl 0 rfl) ?_
          refine lv_goto (tgt := 74) hx hb dX11_eatenOn_63 (by decide +kernel) ?_
          exact hRet () [0, 1] (ref_eo1 (mi := r_23) (so := v_30) (sn := r_17) (li := 60) (d := v_39) h_7 h_14 h_26 (rd_in ev_30 (by omega)) h_20 (by first | exact Or.inl ⟨by omega, rfl⟩ | exact Or.inr ⟨by omega, rfl⟩) ev_39 (Or.inl ⟨by omega, rfl⟩)) hP hD (by decide +kernel) rfl hS rfl dX11_eatenOn_74
  · try simp only [zl_1] at h_8
    have h_8 : stF c0 a0 1 = 0 := h_8
    obtain rfl : r_4 = 0 := hr_4.trans (by decide +kernel)
    refine b_if_eq hx hb zl_0 (tgt := 18) dX11_eatenOn_6 (by decide +kernel) (fun c_46 => ?_) (fun c_46 => by exfalso; omega)
    refine lv_iconst (v := (-1)) hx hb dX11_eatenOn_18 (by decide +kernel) ?_
    exact hRet () [0, 1] (ref_eo0 (Or.inl h_8)) hP hD (by decide +kernel) rfl hS rfl dX11_eatenOn_19
theorem bn_cX11_at_0 : BN cX11_at 0 0x568bcc21d348704a110e8056a2b := by
  unfold BN; decide +kernel
theorem dX11_at_0 : decode cX11_at 0 = .ok (.aload_n 0, 1) := dR0 (k := 0) (i := 0) bn_cX11_at_0 dop_42 (by decide +kernel)
theorem dX11_at_1 : decode cX11_at 1 = .ok (.getfield 28, 3) := dR2 (f := Instr.getfield) (k := 0) (i := 1) bn_cX11_at_0 dop_180 28 (by decide +kernel)
theorem dX11_at_4 : decode cX11_at 4 = .ok (.bipush 36, 2) := dR1s (f := Instr.bipush) (k := 0) (i := 4) bn_cX11_at_0 dop_16 36 36 (by decide +kernel)
theorem dX11_at_6 : decode cX11_at 6 = .ok (.iload_n 1, 1) := dR0 (k := 0) (i := 6) bn_cX11_at_0 dop_27 (by decide +kernel)
theorem dX11_at_7 : decode cX11_at 7 = .ok (.imul, 1) := dR0 (k := 0) (i := 7) bn_cX11_at_0 dop_104 (by decide +kernel)
theorem dX11_at_8 : decode cX11_at 8 = .ok (.iload_n 2, 1) := dR0 (k := 0) (i := 8) bn_cX11_at_0 dop_28 (by decide +kernel)
theorem dX11_at_9 : decode cX11_at 9 = .ok (.iadd, 1) := dR0 (k := 0) (i := 9) bn_cX11_at_0 dop_96 (by decide +kernel)
theorem dX11_at_10 : decode cX11_at 10 = .ok (.iaload, 1) := dR0 (k := 0) (i := 10) bn_cX11_at_0 dop_46 (by decide +kernel)
theorem dX11_at_11 : decode cX11_at 11 = .ok (.ireturn, 1) := dR0 (k := 0) (i := 11) bn_cX11_at_0 dop_172 (by decide +kernel)
set_option maxHeartbeats 4000000 in
set_option maxRecDepth 100000 in
theorem c_X11_atG (l : Launch) (D : va_G) (cI : ClassId) (aK aV : Nat → Nat) (k k0 k1 k2 k4 k5 k6 k7 k8 ka kb kl ko : Nat) (sz : Nat) (c3 : Int32) (c9 : Int32) (cc : Int32) (cd : Int32) (ce : Int32) (cf : Int32) (cg : Int32) (ch : Int32) (ci : Int32) (cj : Int32) (ck : Int32) (cm : Int32) (cn : Int32) (c7 : Nat → Int32) (a0 : Int32) (a1 : Int32) (pre0 : 0 ≤ a0.toInt) (pre1 : a0.toInt ≤ 3) (pre2 : 0 ≤ a1.toInt) (pre3 : a1.toInt ≤ 35) : Met l yX11_at (gW yX11_at cX11_at 3 (some .int)) ({ frames := 0, cells := 0, slots := 0, locals := 0 } : Room) (kPreX D cI aK aV [.ref k, .int a0, .int a1] [(k, .inr (11, [.ref k0, .ref k1, .ref k2, .int c3, .ref k4, .ref k5, .ref k6, .ref k7, .ref k8, .int c9, .ref ka, .ref kb, .int cc, .int cd, .int ce, .int cf, .int cg, .int ch, .int ci, .int cj, .int ck, .ref kl, .int cm, .int cn, .ref ko])), (k7, .inl (cI, 144, .inl c7))] sz) (va_Qi (fun (r : Int32) (u : Unit) => r = c7 (36 * a0.toInt.toNat + a1.toInt.toNat)) (fun u t => kWd D cI (va_A [(k, .inr (11, [.ref k0, .ref k1, .ref k2, .int c3, .ref k4, .ref k5, .ref k6, .ref k7, .ref k8, .int c9, .ref ka, .ref kb, .int cc, .int cd, .int ce, .int cf, .int cg, .int ch, .int ci, .int cj, .int ck, .ref kl, .int cm, .int cn, .ref ko])), (k7, .inl (cI, 144, .inl c7))] sz) [(k, .inr (11, [.ref k0, .ref k1, .ref k2, .int c3, .ref k4, .ref k5, .ref k6, .ref k7, .ref k8, .int c9, .ref ka, .ref kb, .int cc, .int cd, .int ce, .int cf, .int cg, .int ch, .int ci, .int cj, .int ck, .ref kl, .int cm, .int cn, .ref ko])), (k7, .inl (cI, 144, .inl c7))] t) (va_A [(k, .inr (11, [.ref k0, .ref k1, .ref k2, .int c3, .ref k4, .ref k5, .ref k6, .ref k7, .ref k8, .int c9, .ref ka, .ref kb, .int cc, .int cd, .int ce, .int cf, .int cg, .int ch, .int ci, .int cj, .int ck, .ref kl, .int cm, .int cn, .ref ko])), (k7, .inl (cI, 144, .inl c7))] sz)) 0 0 (va_A [(k, .inr (11, [.ref k0, .ref k1, .ref k2, .int c3, .ref k4, .ref k5, .ref k6, .ref k7, .ref k8, .int c9, .ref ka, .ref kb, .int cc, .int cd, .int ce, .int cf, .int cg, .int ch, .int ci, .int cj, .int ck, .ref kl, .int cm, .int cn, .ref ko])), (k7, .inl (cI, 144, .inl c7))] sz) := by
  refine kMetIX (own := RX11) (by decide +kernel) rfl (Nat.le_of_ble_eq_true rfl) ?_
  intro p e s m args below meth c hx hb hT hown hname hml A Q hK hP hD hS hA hN hXS hRet ls hl
  have hl : lv_has ls 3 [(0, .ref k), (1, .int a0), (2, .int a1)] := hl
  have lo_a0 := k_lo a0
  have hi_a0 := k_hi a0
  have lo_a1 := k_lo a1
  have hi_a1 := k_hi a1
  have lo_ci := k_lo ci
  have hi_ci := k_hi ci
  refine lv_aload_n hx hb dX11_at_0 rfl (lv_at hl 0 rfl) ?_
  refine va_get (D := D) (ci := 11) (v := .ref k7) (C := RX11) (T := TX11) (N := 25) hx hb hT giX11 hown hK hP 0 rfl rfl 7 (by decide +kernel) (hT (Cond.fieldLink RX11 28 "DesertWireModel" "number" "[I") mw_1163) (fun _ h9 => h9) rfl dX11_at_1 ?_
  refine lv_bipush (v := 36) hx hb dX11_at_4 (by decide +kernel) ?_
  refine lv_iload_n hx hb dX11_at_6 rfl (lv_at hl 1 rfl) ?_
  refine lv_imul hx hb dX11_at_7 ?_
  refine lv_topi (fun v_1 ev_1 => ?_)
  have tv_1 : v_1.toInt = 36 * a0.toInt := by rw [ev_1]; exact k_mulv zl_36 rfl (by omega) (by omega)
  refine lv_iload_n hx hb dX11_at_8 rfl (lv_at hl 2 rfl) ?_
  refine lv_iadd hx hb dX11_at_9 ?_
  refine lv_topi (fun v_2 ev_2 => ?_)
  have tv_2 : v_2.toInt = v_1.toInt + a1.toInt := by rw [ev_2]; exact k_addv rfl rfl (by omega) (by omega)
  refine k_iald (v := (c7 v_2.toNatClampNeg)) hx hb hK hP 1 0 rfl rfl (k_in (by omega) (by omega)) rfl dX11_at_10 ?_
  refine lv_topi (fun v_3 ev_3 => ?_)
  have lo_v_3 := k_lo v_3
  have hi_v_3 := k_hi v_3
  have tv_3 : v_3.toInt = (c7 v_2.toNatClampNeg).toInt := by rw [ev_3]
  exact hRet () [0, 1] (by rw [ev_3, k_clamp]; congr 1; omega) hP hD (by decide +kernel) rfl hS rfl dX11_at_11
theorem bn_cX11_isLost_0 : BN cX11_isLost 0 0xad0201402a80282002a1031f402b704844382b := by
  unfold BN; decide +kernel
theorem dX11_isLost_0 : decode cX11_isLost 0 = .ok (.aload_n 0, 1) := dR0 (k := 0) (i := 0) bn_cX11_isLost_0 dop_42 (by decide +kernel)
theorem dX11_isLost_1 : decode cX11_isLost 1 = .ok (.iload_n 1, 1) := dR0 (k := 0) (i := 1) bn_cX11_isLost_0 dop_27 (by decide +kernel)
theorem dX11_isLost_2 : decode cX11_isLost 2 = .ok (.bipush 8, 2) := dR1s (f := Instr.bipush) (k := 0) (i := 2) bn_cX11_isLost_0 dop_16 8 8 (by decide +kernel)
theorem dX11_isLost_4 : decode cX11_isLost 4 = .ok (.invokevirtual 124, 3) := dR2 (f := Instr.invokevirtual) (k := 0) (i := 4) bn_cX11_isLost_0 dop_182 124 (by decide +kernel)
theorem dX11_isLost_7 : decode cX11_isLost 7 = .ok (.iconst 2, 1) := dR0 (k := 0) (i := 7) bn_cX11_isLost_0 dop_5 (by decide +kernel)
theorem dX11_isLost_8 : decode cX11_isLost 8 = .ok (.if_icmp .ne 7, 3) := dR2s (f := Instr.if_icmp .ne) (k := 0) (i := 8) bn_cX11_isLost_0 dop_160 7 7 (by decide +kernel)
theorem dX11_isLost_11 : decode cX11_isLost 11 = .ok (.iconst 1, 1) := dR0 (k := 0) (i := 11) bn_cX11_isLost_0 dop_4 (by decide +kernel)
theorem dX11_isLost_12 : decode cX11_isLost 12 = .ok (.goto 4, 3) := dR2s (f := Instr.goto) (k := 0) (i := 12) bn_cX11_isLost_0 dop_167 4 4 (by decide +kernel)
theorem dX11_isLost_15 : decode cX11_isLost 15 = .ok (.iconst 0, 1) := dR0 (k := 0) (i := 15) bn_cX11_isLost_0 dop_3 (by decide +kernel)
theorem dX11_isLost_16 : decode cX11_isLost 16 = .ok (.ireturn, 1) := dR0 (k := 0) (i := 16) bn_cX11_isLost_0 dop_172 (by decide +kernel)
set_option maxHeartbeats 4000000 in
set_option maxRecDepth 100000 in
theorem c_X11_isLostG (l : Launch) (D : va_G) (cI : ClassId) (aK aV : Nat → Nat) (k k0 k1 k2 k4 k5 k6 k7 k8 ka kb kl ko : Nat) (sz : Nat) (c3 : Int32) (c9 : Int32) (cc : Int32) (cd : Int32) (ce : Int32) (cf : Int32) (cg : Int32) (ch : Int32) (ci : Int32) (cj : Int32) (ck : Int32) (cm : Int32) (cn : Int32) (c0 : Nat → Int32) (a0 : Int32) (pre0 : SIX c0 (-1)) (pre1 : 0 ≤ a0.toInt) (pre2 : a0.toInt ≤ 3) (pre3 : a0.toInt < (c0 2).toInt) : Met l yX11_isLost (gW yX11_isLost cX11_isLost 2 (some .boolean)) ({ frames := 1, cells := 0, slots := 0, locals := 22 } : Room) (kPreX D cI aK aV [.ref k, .int a0] [(k, .inr (11, [.ref k0, .ref k1, .ref k2, .int c3, .ref k4, .ref k5, .ref k6, .ref k7, .ref k8, .int c9, .ref ka, .ref kb, .int cc, .int cd, .int ce, .int cf, .int cg, .int ch, .int ci, .int cj, .int ck, .ref kl, .int cm, .int cn, .ref ko])), (k0, .inl (cI, 1201, .inl c0))] sz) (va_Qi (fun (r : Int32) (u : Unit) => (r = 1 ∧ (pW c0 a0 8).toInt = 2) ∨ (r = 0 ∧ (pW c0 a0 8).toInt ≠ 2 ∧ 1 ≤ (pW c0 a0 2).toInt)) (fun u t => kWd D cI (va_A [(k, .inr (11, [.ref k0, .ref k1, .ref k2, .int c3, .ref k4, .ref k5, .ref k6, .ref k7, .ref k8, .int c9, .ref ka, .ref kb, .int cc, .int cd, .int ce, .int cf, .int cg, .int ch, .int ci, .int cj, .int ck, .ref kl, .int cm, .int cn, .ref ko])), (k0, .inl (cI, 1201, .inl c0))] sz) [(k, .inr (11, [.ref k0, .ref k1, .ref k2, .int c3, .ref k4, .ref k5, .ref k6, .ref k7, .ref k8, .int c9, .ref ka, .ref kb, .int cc, .int cd, .int ce, .int cf, .int cg, .int ch, .int ci, .int cj, .int ck, .ref kl, .int cm, .int cn, .ref ko])), (k0, .inl (cI, 1201, .inl c0))] t) (va_A [(k, .inr (11, [.ref k0, .ref k1, .ref k2, .int c3, .ref k4, .ref k5, .ref k6, .ref k7, .ref k8, .int c9, .ref ka, .ref kb, .int cc, .int cd, .int ce, .int cf, .int cg, .int ch, .int ci, .int cj, .int ck, .ref kl, .int cm, .int cn, .ref ko])), (k0, .inl (cI, 1201, .inl c0))] sz)) 0 0 (va_A [(k, .inr (11, [.ref k0, .ref k1, .ref k2, .int c3, .ref k4, .ref k5, .ref k6, .ref k7, .ref k8, .int c9, .ref ka, .ref kb, .int cc, .int cd, .int ce, .int cf, .int cg, .int ch, .int ci, .int cj, .int ck, .ref kl, .int cm, .int cn, .ref ko])), (k0, .inl (cI, 1201, .inl c0))] sz) := by
  refine kMetIX (own := RX11) (by decide +kernel) rfl (Nat.le_of_ble_eq_true rfl) ?_
  intro p e s m args below meth c hx hb hT hown hname hml A Q hK hP hD hS hA hN hXS hRet ls hl
  have hl : lv_has ls 2 [(0, .ref k), (1, .int a0)] := hl
  have lo_a0 := k_lo a0
  have hi_a0 := k_hi a0
  have lo_ci := k_lo ci
  have hi_ci := k_hi ci
  have pre0 : SIX c0 (-1) := pre0
  have nb_1 : 0 ≤ (c0 0).toInt ∧ (c0 0).toInt ≤ 2000 := SB.n0 (And.left pre0)
  have nb_2 : 0 ≤ (c0 1).toInt ∧ (c0 1).toInt ≤ 60 := SB.n1 (And.left pre0)
  have nb_3 : 0 ≤ (c0 2).toInt ∧ (c0 2).toInt ≤ 4 := SB.n2 (And.left pre0)
  refine lv_aload_n hx hb dX11_isLost_0 rfl (lv_at hl 0 rfl) ?_
  refine lv_iload_n hx hb dX11_isLost_1 rfl (lv_at hl 1 rfl) ?_
  refine lv_bipush (v := 8) hx hb dX11_isLost_2 (by decide +kernel) ?_
  refine kJi (wr := []) (va_runV (As := [.int a0, .int 8]) (rest := []) ⟨hx, hb, hml, hown, hT⟩ (c_X11_partyG8 l D cI aK aV k k0 k1 k2 k4 k5 k6 k7 k8 ka kb kl ko s.heap.size c3 c9 cc cd ce cf cg ch ci cj ck cm cn c0 a0 8 (by first | omega | (simp only [zl_8]; first | done | omega) | decide | assumption | rfl) (by first | omega | (simp only [zl_8]; first | done | omega) | decide | assumption | rfl) (by first | omega | (simp only [zl_8]; first | done | omega) | decide | assumption | rfl)) (cwV 2 hT (gV_in mw_1416 mw_1413 mw_1415 mw_p5_5 mw_12) rfl rfl rfl (by decide +kernel) ⟨Nat.le_of_ble_eq_true rfl, Nat.le_of_ble_eq_true rfl⟩) (kRecvX (q0 := 0) (ci := 11) hK hP hD hN hXS hS hA rfl rfl [0, 1] rfl (by decide +kernel)) rfl rfl hl.1 rfl (lv_room (Nat.le_of_ble_eq_true rfl)) dX11_isLost_4 ⟨Nat.le_of_ble_eq_true rfl, Nat.le_of_ble_eq_true rfl⟩) hP hD hS hA [0, 1] [] rfl rfl (by decide +kernel) (by decide +kernel) ?_
  clear hP hD hS
  intro r_4 u_6 H locs w_5 hP hD hS
  replace hP : va_P D vwCl [(k, .inr (11, [.ref k0, .ref k1, .ref k2, .int c3, .ref k4, .ref k5, .ref k6, .ref k7, .ref k8, .int c9, .ref ka, .ref kb, .int cc, .int cd, .int ce, .int cf, .int cg, .int ch, .int ci, .int cj, .int ck, .ref kl, .int cm, .int cn, .ref ko])), (k0, .inl (cI, 1201, .inl c0))] H := hP
  replace hD : va_D A [(k, .inr (11, [.ref k0, .ref k1, .ref k2, .int c3, .ref k4, .ref k5, .ref k6, .ref k7, .ref k8, .int c9, .ref ka, .ref kb, .int cc, .int cd, .int ce, .int cf, .int cg, .int ch, .int ci, .int cj, .int ck, .ref kl, .int cm, .int cn, .ref ko])), (k0, .inl (cI, 1201, .inl c0))] := hD
  have h_7 := w_5
  have h_7 : r_4 = pW c0 a0 8 := h_7
  have t_8 : r_4.toInt = (pW c0 a0 8).toInt := by rw [h_7]
  have lo_r_4 := k_lo r_4
  have hi_r_4 := k_hi r_4
  refine lv_iconst (v := 2) hx hb dX11_isLost_7 (by decide +kernel) ?_
  refine b_icmp_ne hx hb rfl zl_2 (tgt := 15) dX11_isLost_8 (by decide +kernel) (fun c_9 => ?_) (fun c_9 => ?_)
  · refine lv_iconst (v := 0) hx hb dX11_isLost_15 (by decide +kernel) ?_
    exact hRet () [0, 1] (Or.inr (⟨rfl, (by omega), (SIX.men pre0 (by omega) (by omega) (by omega) (by omega))⟩)) hP hD (by decide +kernel) rfl hS rfl dX11_isLost_16
  · refine lv_iconst (v := 1) hx hb dX11_isLost_11 (by decide +kernel) ?_
    refine lv_goto (tgt := 16) hx hb dX11_isLost_12 (by decide +kernel) ?_
    exact hRet () [0, 1] (Or.inl ⟨rfl, (by omega)⟩) hP hD (by decide +kernel) rfl hS rfl dX11_isLost_16
theorem bn_cX11_canRead_0 : BN cX11_canRead 0 0x10210a061b984080500aa012160480546050b0202c1000a943c080b0182c071b8100a015401410014e0242c0d00a680e16048dcce015b8202c2b1d80548050b0202c081b8780e37028186e04028dcca1e308e002b702874563800adc0a1c158fc70015b8143a2b05005503800adc0a1c1583402a31c0056e050e8ac70015b814382b568100c014d95402b703874560d00a68aa015b81c382b := by
  unfold BN; decide +kernel
theorem dX11_canRead_0 : decode cX11_canRead 0 = .ok (.aload_n 0, 1) := dR0 (k := 0) (i := 0) bn_cX11_canRead_0 dop_42 (by decide +kernel)
theorem dX11_canRead_1 : decode cX11_canRead 1 = .ok (.iload_n 1, 1) := dR0 (k := 0) (i := 1) bn_cX11_canRead_0 dop_27 (by decide +kernel)
theorem dX11_canRead_2 : decode cX11_canRead 2 = .ok (.iconst 3, 1) := dR0 (k := 0) (i := 2) bn_cX11_canRead_0 dop_6 (by decide +kernel)
theorem dX11_canRead_3 : decode cX11_canRead 3 = .ok (.invokevirtual 84, 3) := dR2 (f := Instr.invokevirtual) (k := 0) (i := 3) bn_cX11_canRead_0 dop_182 84 (by decide +kernel)
theorem dX11_canRead_6 : decode cX11_canRead 6 = .ok (.ifCond .eq 12, 3) := dR2s (f := Instr.ifCond .eq) (k := 0) (i := 6) bn_cX11_canRead_0 dop_153 12 12 (by decide +kernel)
theorem dX11_canRead_9 : decode cX11_canRead 9 = .ok (.aload_n 0, 1) := dR0 (k := 0) (i := 9) bn_cX11_canRead_0 dop_42 (by decide +kernel)
theorem dX11_canRead_10 : decode cX11_canRead 10 = .ok (.iload_n 2, 1) := dR0 (k := 0) (i := 10) bn_cX11_canRead_0 dop_28 (by decide +kernel)
theorem dX11_canRead_11 : decode cX11_canRead 11 = .ok (.iconst 3, 1) := dR0 (k := 0) (i := 11) bn_cX11_canRead_0 dop_6 (by decide +kernel)
theorem dX11_canRead_12 : decode cX11_canRead 12 = .ok (.invokevirtual 84, 3) := dR2 (f := Instr.invokevirtual) (k := 0) (i := 12) bn_cX11_canRead_0 dop_182 84 (by decide +kernel)
theorem dX11_canRead_15 : decode cX11_canRead 15 = .ok (.ifCond .ne 5, 3) := dR2s (f := Instr.ifCond .ne) (k := 0) (i := 15) bn_cX11_canRead_0 dop_154 5 5 (by decide +kernel)
theorem dX11_canRead_18 : decode cX11_canRead 18 = .ok (.iconst 0, 1) := dR0 (k := 0) (i := 18) bn_cX11_canRead_0 dop_3 (by decide +kernel)
theorem dX11_canRead_19 : decode cX11_canRead 19 = .ok (.ireturn, 1) := dR0 (k := 0) (i := 19) bn_cX11_canRead_0 dop_172 (by decide +kernel)
theorem dX11_canRead_20 : decode cX11_canRead 20 = .ok (.aload_n 0, 1) := dR0 (k := 0) (i := 20) bn_cX11_canRead_0 dop_42 (by decide +kernel)
theorem dX11_canRead_21 : decode cX11_canRead 21 = .ok (.iload_n 1, 1) := dR0 (k := 0) (i := 21) bn_cX11_canRead_0 dop_27 (by decide +kernel)
theorem dX11_canRead_22 : decode cX11_canRead 22 = .ok (.iconst 1, 1) := dR0 (k := 0) (i := 22) bn_cX11_canRead_0 dop_4 (by decide +kernel)
theorem dX11_canRead_23 : decode cX11_canRead 23 = .ok (.invokevirtual 55, 3) := dR2 (f := Instr.invokevirtual) (k := 0) (i := 23) bn_cX11_canRead_0 dop_182 55 (by decide +kernel)
theorem dX11_canRead_26 : decode cX11_canRead 26 = .ok (.aload_n 0, 1) := dR0 (k := 0) (i := 26) bn_cX11_canRead_0 dop_42 (by decide +kernel)
theorem dX11_canRead_27 : decode cX11_canRead 27 = .ok (.iload_n 2, 1) := dR0 (k := 0) (i := 27) bn_cX11_canRead_0 dop_28 (by decide +kernel)
theorem dX11_canRead_28 : decode cX11_canRead 28 = .ok (.iconst 1, 1) := dR0 (k := 0) (i := 28) bn_cX11_canRead_0 dop_4 (by decide +kernel)
theorem dX11_canRead_29 : decode cX11_canRead 29 = .ok (.invokevirtual 55, 3) := dR2 (f := Instr.invokevirtual) (k := 0) (i := 29) bn_cX11_canRead_0 dop_182 55 (by decide +kernel)
theorem dX11_canRead_32 : decode cX11_canRead 32 = .ok (.if_icmp .ge 12, 3) := dR2s (f := Instr.if_icmp .ge) (k := 0) (i := 32) bn_cX11_canRead_0 dop_162 12 12 (by decide +kernel)
theorem dX11_canRead_35 : decode cX11_canRead 35 = .ok (.aload_n 0, 1) := dR0 (k := 0) (i := 35) bn_cX11_canRead_0 dop_42 (by decide +kernel)
theorem dX11_canRead_36 : decode cX11_canRead 36 = .ok (.iload_n 1, 1) := dR0 (k := 0) (i := 36) bn_cX11_canRead_0 dop_27 (by decide +kernel)
theorem dX11_canRead_37 : decode cX11_canRead 37 = .ok (.iconst 1, 1) := dR0 (k := 0) (i := 37) bn_cX11_canRead_0 dop_4 (by decide +kernel)
theorem dX11_canRead_38 : decode cX11_canRead 38 = .ok (.invokevirtual 55, 3) := dR2 (f := Instr.invokevirtual) (k := 0) (i := 38) bn_cX11_canRead_0 dop_182 55 (by decide +kernel)
theorem dX11_canRead_41 : decode cX11_canRead 41 = .ok (.goto 9, 3) := dR2s (f := Instr.goto) (k := 0) (i := 41) bn_cX11_canRead_0 dop_167 9 9 (by decide +kernel)
theorem dX11_canRead_44 : decode cX11_canRead 44 = .ok (.aload_n 0, 1) := dR0 (k := 0) (i := 44) bn_cX11_canRead_0 dop_42 (by decide +kernel)
theorem dX11_canRead_45 : decode cX11_canRead 45 = .ok (.iload_n 2, 1) := dR0 (k := 0) (i := 45) bn_cX11_canRead_0 dop_28 (by decide +kernel)
theorem dX11_canRead_46 : decode cX11_canRead 46 = .ok (.iconst 1, 1) := dR0 (k := 0) (i := 46) bn_cX11_canRead_0 dop_4 (by decide +kernel)
theorem dX11_canRead_47 : decode cX11_canRead 47 = .ok (.invokevirtual 55, 3) := dR2 (f := Instr.invokevirtual) (k := 0) (i := 47) bn_cX11_canRead_0 dop_182 55 (by decide +kernel)
theorem dX11_canRead_50 : decode cX11_canRead 50 = .ok (.istore_n 3, 1) := dR0 (k := 0) (i := 50) bn_cX11_canRead_0 dop_62 (by decide +kernel)
theorem dX11_canRead_51 : decode cX11_canRead 51 = .ok (.aload_n 0, 1) := dR0 (k := 0) (i := 51) bn_cX11_canRead_0 dop_42 (by decide +kernel)
theorem dX11_canRead_52 : decode cX11_canRead 52 = .ok (.iload_n 1, 1) := dR0 (k := 0) (i := 52) bn_cX11_canRead_0 dop_27 (by decide +kernel)
theorem dX11_canRead_53 : decode cX11_canRead 53 = .ok (.iconst 1, 1) := dR0 (k := 0) (i := 53) bn_cX11_canRead_0 dop_4 (by decide +kernel)
theorem dX11_canRead_54 : decode cX11_canRead 54 = .ok (.invokevirtual 55, 3) := dR2 (f := Instr.invokevirtual) (k := 0) (i := 54) bn_cX11_canRead_0 dop_182 55 (by decide +kernel)
theorem dX11_canRead_57 : decode cX11_canRead 57 = .ok (.aload_n 0, 1) := dR0 (k := 0) (i := 57) bn_cX11_canRead_0 dop_42 (by decide +kernel)
theorem dX11_canRead_58 : decode cX11_canRead 58 = .ok (.iload_n 2, 1) := dR0 (k := 0) (i := 58) bn_cX11_canRead_0 dop_28 (by decide +kernel)
theorem dX11_canRead_59 : decode cX11_canRead 59 = .ok (.iconst 1, 1) := dR0 (k := 0) (i := 59) bn_cX11_canRead_0 dop_4 (by decide +kernel)
theorem dX11_canRead_60 : decode cX11_canRead 60 = .ok (.invokevirtual 55, 3) := dR2 (f := Instr.invokevirtual) (k := 0) (i := 60) bn_cX11_canRead_0 dop_182 55 (by decide +kernel)
theorem dX11_canRead_63 : decode cX11_canRead 63 = .ok (.iadd, 1) := dR0 (k := 0) (i := 63) bn_cX11_canRead_0 dop_96 (by decide +kernel)
theorem dX11_canRead_64 : decode cX11_canRead 64 = .ok (.iload_n 3, 1) := dR0 (k := 0) (i := 64) bn_cX11_canRead_0 dop_29 (by decide +kernel)
theorem dX11_canRead_65 : decode cX11_canRead 65 = .ok (.isub, 1) := dR0 (k := 0) (i := 65) bn_cX11_canRead_0 dop_100 (by decide +kernel)
theorem dX11_canRead_66 : decode cX11_canRead 66 = .ok (.istore 4, 2) := dR1 (f := Instr.istore) (k := 0) (i := 66) bn_cX11_canRead_0 dop_54 4 (by decide +kernel)
theorem dX11_canRead_68 : decode cX11_canRead 68 = .ok (.iconst 0, 1) := dR0 (k := 0) (i := 68) bn_cX11_canRead_0 dop_3 (by decide +kernel)
theorem dX11_canRead_69 : decode cX11_canRead 69 = .ok (.istore 5, 2) := dR1 (f := Instr.istore) (k := 0) (i := 69) bn_cX11_canRead_0 dop_54 5 (by decide +kernel)
theorem dX11_canRead_71 : decode cX11_canRead 71 = .ok (.iconst 1, 1) := dR0 (k := 0) (i := 71) bn_cX11_canRead_0 dop_4 (by decide +kernel)
theorem dX11_canRead_72 : decode cX11_canRead 72 = .ok (.istore 6, 2) := dR1 (f := Instr.istore) (k := 0) (i := 72) bn_cX11_canRead_0 dop_54 6 (by decide +kernel)
theorem dX11_canRead_74 : decode cX11_canRead 74 = .ok (.iload_n 3, 1) := dR0 (k := 0) (i := 74) bn_cX11_canRead_0 dop_29 (by decide +kernel)
theorem dX11_canRead_75 : decode cX11_canRead 75 = .ok (.istore 7, 2) := dR1 (f := Instr.istore) (k := 0) (i := 75) bn_cX11_canRead_0 dop_54 7 (by decide +kernel)
theorem dX11_canRead_77 : decode cX11_canRead 77 = .ok (.iload 7, 2) := dR1 (f := Instr.iload) (k := 0) (i := 77) bn_cX11_canRead_0 dop_21 7 (by decide +kernel)
theorem dX11_canRead_79 : decode cX11_canRead 79 = .ok (.iload 4, 2) := dR1 (f := Instr.iload) (k := 0) (i := 79) bn_cX11_canRead_0 dop_21 4 (by decide +kernel)
theorem dX11_canRead_81 : decode cX11_canRead 81 = .ok (.if_icmp .gt 58, 3) := dR2s (f := Instr.if_icmp .gt) (k := 0) (i := 81) bn_cX11_canRead_0 dop_163 58 58 (by decide +kernel)
theorem dX11_canRead_84 : decode cX11_canRead 84 = .ok (.aload_n 0, 1) := dR0 (k := 0) (i := 84) bn_cX11_canRead_0 dop_42 (by decide +kernel)
theorem dX11_canRead_85 : decode cX11_canRead 85 = .ok (.iload 7, 2) := dR1 (f := Instr.iload) (k := 0) (i := 85) bn_cX11_canRead_0 dop_21 7 (by decide +kernel)
theorem dX11_canRead_87 : decode cX11_canRead 87 = .ok (.invokevirtual 102, 3) := dR2 (f := Instr.invokevirtual) (k := 0) (i := 87) bn_cX11_canRead_0 dop_182 102 (by decide +kernel)
theorem dX11_canRead_90 : decode cX11_canRead 90 = .ok (.istore 8, 2) := dR1 (f := Instr.istore) (k := 0) (i := 90) bn_cX11_canRead_0 dop_54 8 (by decide +kernel)
theorem dX11_canRead_92 : decode cX11_canRead 92 = .ok (.iload 6, 2) := dR1 (f := Instr.iload) (k := 0) (i := 92) bn_cX11_canRead_0 dop_21 6 (by decide +kernel)
theorem dX11_canRead_94 : decode cX11_canRead 94 = .ok (.ifCond .eq 12, 3) := dR2s (f := Instr.ifCond .eq) (k := 0) (i := 94) bn_cX11_canRead_0 dop_153 12 12 (by decide +kernel)
theorem dX11_canRead_97 : decode cX11_canRead 97 = .ok (.iload 8, 2) := dR1 (f := Instr.iload) (k := 0) (i := 97) bn_cX11_canRead_0 dop_21 8 (by decide +kernel)
theorem dX11_canRead_99 : decode cX11_canRead 99 = .ok (.ifCond .lt 7, 3) := dR2s (f := Instr.ifCond .lt) (k := 0) (i := 99) bn_cX11_canRead_0 dop_155 7 7 (by decide +kernel)
theorem dX11_canRead_102 : decode cX11_canRead 102 = .ok (.iconst 1, 1) := dR0 (k := 0) (i := 102) bn_cX11_canRead_0 dop_4 (by decide +kernel)
theorem dX11_canRead_103 : decode cX11_canRead 103 = .ok (.goto 4, 3) := dR2s (f := Instr.goto) (k := 0) (i := 103) bn_cX11_canRead_0 dop_167 4 4 (by decide +kernel)
theorem dX11_canRead_106 : decode cX11_canRead 106 = .ok (.iconst 0, 1) := dR0 (k := 0) (i := 106) bn_cX11_canRead_0 dop_3 (by decide +kernel)
theorem dX11_canRead_107 : decode cX11_canRead 107 = .ok (.istore 6, 2) := dR1 (f := Instr.istore) (k := 0) (i := 107) bn_cX11_canRead_0 dop_54 6 (by decide +kernel)
theorem dX11_canRead_109 : decode cX11_canRead 109 = .ok (.iload 5, 2) := dR1 (f := Instr.iload) (k := 0) (i := 109) bn_cX11_canRead_0 dop_21 5 (by decide +kernel)
theorem dX11_canRead_111 : decode cX11_canRead 111 = .ok (.iload 7, 2) := dR1 (f := Instr.iload) (k := 0) (i := 111) bn_cX11_canRead_0 dop_21 7 (by decide +kernel)
theorem dX11_canRead_113 : decode cX11_canRead 113 = .ok (.iload_n 3, 1) := dR0 (k := 0) (i := 113) bn_cX11_canRead_0 dop_29 (by decide +kernel)
theorem dX11_canRead_114 : decode cX11_canRead 114 = .ok (.if_icmp .le 15, 3) := dR2s (f := Instr.if_icmp .le) (k := 0) (i := 114) bn_cX11_canRead_0 dop_164 15 15 (by decide +kernel)
theorem dX11_canRead_117 : decode cX11_canRead 117 = .ok (.iload 7, 2) := dR1 (f := Instr.iload) (k := 0) (i := 117) bn_cX11_canRead_0 dop_21 7 (by decide +kernel)
theorem dX11_canRead_119 : decode cX11_canRead 119 = .ok (.iload 4, 2) := dR1 (f := Instr.iload) (k := 0) (i := 119) bn_cX11_canRead_0 dop_21 4 (by decide +kernel)
theorem dX11_canRead_121 : decode cX11_canRead 121 = .ok (.if_icmp .ge 8, 3) := dR2s (f := Instr.if_icmp .ge) (k := 0) (i := 121) bn_cX11_canRead_0 dop_162 8 8 (by decide +kernel)
theorem dX11_canRead_124 : decode cX11_canRead 124 = .ok (.iload 8, 2) := dR1 (f := Instr.iload) (k := 0) (i := 124) bn_cX11_canRead_0 dop_21 8 (by decide +kernel)
theorem dX11_canRead_126 : decode cX11_canRead 126 = .ok (.goto 4, 3) := dR2s (f := Instr.goto) (k := 0) (i := 126) bn_cX11_canRead_0 dop_167 4 4 (by decide +kernel)
theorem bn_cX11_canRead_128 : BN cX11_canRead 128 0x15a0402805500504005482f0384414015a8ac0c160a00534070b31a00a8010210a061b9840805 := by
  unfold BN; decide +kernel
theorem dX11_canRead_129 : decode cX11_canRead 129 = .ok (.iconst 0, 1) := dR0 (k := 128) (i := 1) bn_cX11_canRead_128 dop_3 (by decide +kernel)
theorem dX11_canRead_130 : decode cX11_canRead 130 = .ok (.iadd, 1) := dR0 (k := 128) (i := 2) bn_cX11_canRead_128 dop_96 (by decide +kernel)
theorem dX11_canRead_131 : decode cX11_canRead 131 = .ok (.istore 5, 2) := dR1 (f := Instr.istore) (k := 128) (i := 3) bn_cX11_canRead_128 dop_54 5 (by decide +kernel)
theorem dX11_canRead_133 : decode cX11_canRead 133 = .ok (.iinc 7 1, 3) := dRii (f := Instr.iinc) (k := 128) (i := 5) bn_cX11_canRead_128 dop_132 7 1 1 (by decide +kernel)
theorem dX11_canRead_136 : decode cX11_canRead 136 = .ok (.goto (-59), 3) := dR2s (f := Instr.goto) (k := 128) (i := 8) bn_cX11_canRead_128 dop_167 65477 (-59) (by decide +kernel)
theorem dX11_canRead_139 : decode cX11_canRead 139 = .ok (.iload 6, 2) := dR1 (f := Instr.iload) (k := 128) (i := 11) bn_cX11_canRead_128 dop_21 6 (by decide +kernel)
theorem dX11_canRead_141 : decode cX11_canRead 141 = .ok (.ifCond .eq 19, 3) := dR2s (f := Instr.ifCond .eq) (k := 128) (i := 13) bn_cX11_canRead_128 dop_153 19 19 (by decide +kernel)
theorem dX11_canRead_144 : decode cX11_canRead 144 = .ok (.iload 5, 2) := dR1 (f := Instr.iload) (k := 128) (i := 16) bn_cX11_canRead_128 dop_21 5 (by decide +kernel)
theorem dX11_canRead_146 : decode cX11_canRead 146 = .ok (.aload_n 0, 1) := dR0 (k := 128) (i := 18) bn_cX11_canRead_128 dop_42 (by decide +kernel)
theorem dX11_canRead_147 : decode cX11_canRead 147 = .ok (.getfield 9, 3) := dR2 (f := Instr.getfield) (k := 128) (i := 19) bn_cX11_canRead_128 dop_180 9 (by decide +kernel)
theorem dX11_canRead_150 : decode cX11_canRead 150 = .ok (.bipush 6, 2) := dR1s (f := Instr.bipush) (k := 128) (i := 22) bn_cX11_canRead_128 dop_16 6 6 (by decide +kernel)
theorem dX11_canRead_152 : decode cX11_canRead 152 = .ok (.iaload, 1) := dR0 (k := 128) (i := 24) bn_cX11_canRead_128 dop_46 (by decide +kernel)
theorem dX11_canRead_153 : decode cX11_canRead 153 = .ok (.if_icmp .gt 7, 3) := dR2s (f := Instr.if_icmp .gt) (k := 128) (i := 25) bn_cX11_canRead_128 dop_163 7 7 (by decide +kernel)
theorem dX11_canRead_156 : decode cX11_canRead 156 = .ok (.iconst 1, 1) := dR0 (k := 128) (i := 28) bn_cX11_canRead_128 dop_4 (by decide +kernel)
theorem dX11_canRead_157 : decode cX11_canRead 157 = .ok (.goto 4, 3) := dR2s (f := Instr.goto) (k := 128) (i := 29) bn_cX11_canRead_128 dop_167 4 4 (by decide +kernel)
theorem dX11_canRead_160 : decode cX11_canRead 160 = .ok (.iconst 0, 1) := dR0 (k := 128) (i := 32) bn_cX11_canRead_128 dop_3 (by decide +kernel)
theorem dX11_canRead_161 : decode cX11_canRead 161 = .ok (.ireturn, 1) := dR0 (k := 128) (i := 33) bn_cX11_canRead_128 dop_172 (by decide +kernel)
set_option maxHeartbeats 4000000 in
set_option maxRecDepth 100000 in
theorem c_X11_canReadG (l : Launch) (D : va_G) (cI : ClassId) (aK aV : Nat → Nat) (k k0 k1 k2 k4 k5 k6 k7 k8 ka kb kl ko : Nat) (sz : Nat) (c3 : Int32) (c9 : Int32) (cc : Int32) (cd : Int32) (ce : Int32) (cf : Int32) (cg : Int32) (ch : Int32) (ci : Int32) (cj : Int32) (ck : Int32) (cm : Int32) (cn : Int32) (c0 : Nat → Int32) (a0 : Int32) (a1 : Int32) (pre0 : SB c0) (pre1 : 0 ≤ a0.toInt) (pre2 : a0.toInt ≤ 59) (pre3 : 0 ≤ a1.toInt) (pre4 : a1.toInt ≤ 59) : Met l yX11_canRead (gW yX11_canRead cX11_canRead 9 (some .boolean)) ({ frames := 4, cells := 0, slots := 0, locals := 88 } : Room) (kPreX D cI aK aV [.ref k, .int a0, .int a1] [(k, .inr (11, [.ref k0, .ref k1, .ref k2, .int c3, .ref k4, .ref k5, .ref k6, .ref k7, .ref k8, .int c9, .ref ka, .ref kb, .int cc, .int cd, .int ce, .int cf, .int cg, .int ch, .int ci, .int cj, .int ck, .ref kl, .int cm, .int cn, .ref ko])), (k0, .inl (cI, 1201, .inl c0))] sz) (va_Qi (fun (r : Int32) (u : Unit) => (r = 1 ∧ crF c0 a0 a1 = 1) ∨ (r = 0 ∧ crF c0 a0 a1 = 0)) (fun u t => kWd D cI (va_A [(k, .inr (11, [.ref k0, .ref k1, .ref k2, .int c3, .ref k4, .ref k5, .ref k6, .ref k7, .ref k8, .int c9, .ref ka, .ref kb, .int cc, .int cd, .int ce, .int cf, .int cg, .int ch, .int ci, .int cj, .int ck, .ref kl, .int cm, .int cn, .ref ko])), (k0, .inl (cI, 1201, .inl c0))] sz) [(k, .inr (11, [.ref k0, .ref k1, .ref k2, .int c3, .ref k4, .ref k5, .ref k6, .ref k7, .ref k8, .int c9, .ref ka, .ref kb, .int cc, .int cd, .int ce, .int cf, .int cg, .int ch, .int ci, .int cj, .int ck, .ref kl, .int cm, .int cn, .ref ko])), (k0, .inl (cI, 1201, .inl c0))] t) (va_A [(k, .inr (11, [.ref k0, .ref k1, .ref k2, .int c3, .ref k4, .ref k5, .ref k6, .ref k7, .ref k8, .int c9, .ref ka, .ref kb, .int cc, .int cd, .int ce, .int cf, .int cg, .int ch, .int ci, .int cj, .int ck, .ref kl, .int cm, .int cn, .ref ko])), (k0, .inl (cI, 1201, .inl c0))] sz)) 0 0 (va_A [(k, .inr (11, [.ref k0, .ref k1, .ref k2, .int c3, .ref k4, .ref k5, .ref k6, .ref k7, .ref k8, .int c9, .ref ka, .ref kb, .int cc, .int cd, .int ce, .int cf, .int cg, .int ch, .int ci, .int cj, .int ck, .ref kl, .int cm, .int cn, .ref ko])), (k0, .inl (cI, 1201, .inl c0))] sz) := by
  refine kMetIX (own := RX11) (by decide +kernel) rfl (Nat.le_of_ble_eq_true rfl) ?_
  intro p e s m args below meth c hx hb hT hown hname hml A Q hK hP hD hS hA hN hXS hRet ls hl
  have hl : lv_has ls 9 [(0, .ref k), (1, .int a0), (2, .int a1)] := hl
  have lo_a0 := k_lo a0
  have hi_a0 := k_hi a0
  have lo_a1 := k_lo a1
  have hi_a1 := k_hi a1
  have lo_ci := k_lo ci
  have hi_ci := k_hi ci
  have pre0 : SB c0 := pre0
  have nb_1 : 0 ≤ (c0 0).toInt ∧ (c0 0).toInt ≤ 2000 := SB.n0 pre0
  have nb_2 : 0 ≤ (c0 1).toInt ∧ (c0 1).toInt ≤ 60 := SB.n1 pre0
  have nb_3 : 0 ≤ (c0 2).toInt ∧ (c0 2).toInt ≤ 4 := SB.n2 pre0
  refine lv_aload_n hx hb dX11_canRead_0 rfl (lv_at hl 0 rfl) ?_
  refine lv_iload_n hx hb dX11_canRead_1 rfl (lv_at hl 1 rfl) ?_
  refine lv_iconst (v := 3) hx hb dX11_canRead_2 (by decide +kernel) ?_
  refine kJi (wr := []) (va_runV (As := [.int a0, .int 3]) (rest := []) ⟨hx, hb, hml, hown, hT⟩ (c_X11_standsG l D cI aK aV k k0 k1 k2 k4 k5 k6 k7 k8 ka kb kl ko s.heap.size c3 c9 cc cd ce cf cg ch ci cj ck cm cn c0 a0 3 (by first | omega | (simp only [zl_3]; first | done | omega) | decide | assumption | rfl) (by first | omega | (simp only [zl_3]; first | done | omega) | decide | assumption | rfl) pre0) (cwV 2 hT (gV_in mw_1295 mw_1292 mw_1294 mw_p3_14 mw_12) rfl rfl rfl (by decide +kernel) ⟨Nat.le_of_ble_eq_true rfl, Nat.le_of_ble_eq_true rfl⟩) (kRecvX (q0 := 0) (ci := 11) hK hP hD hN hXS hS hA rfl rfl [0, 1] rfl (by decide +kernel)) rfl rfl hl.1 rfl (lv_room (Nat.le_of_ble_eq_true rfl)) dX11_canRead_3 ⟨Nat.le_of_ble_eq_true rfl, Nat.le_of_ble_eq_true rfl⟩) hP hD hS hA [0, 1] [] rfl rfl (by decide +kernel) (by decide +kernel) ?_
  clear hP hD hS
  intro r_4 u_6 H locs w_5 hP hD hS
  replace hP : va_P D vwCl [(k, .inr (11, [.ref k0, .ref k1, .ref k2, .int c3, .ref k4, .ref k5, .ref k6, .ref k7, .ref k8, .int c9, .ref ka, .ref kb, .int cc, .int cd, .int ce, .int cf, .int cg, .int ch, .int ci, .int cj, .int ck, .ref kl, .int cm, .int cn, .ref ko])), (k0, .inl (cI, 1201, .inl c0))] H := hP
  replace hD : va_D A [(k, .inr (11, [.ref k0, .ref k1, .ref k2, .int c3, .ref k4, .ref k5, .ref k6, .ref k7, .ref k8, .int c9, .ref ka, .ref kb, .int cc, .int cd, .int ce, .int cf, .int cg, .int ch, .int ci, .int cj, .int ck, .ref kl, .int cm, .int cn, .ref ko])), (k0, .inl (cI, 1201, .inl c0))] := hD
  rcases w_5 with ⟨hr_4, h_7⟩ | ⟨hr_4, h_8⟩
  · try simp only [zl_3] at h_7
    have h_7 : stF c0 a0 3 = 1 := h_7
    obtain rfl : r_4 = 1 := hr_4.trans (by decide +kernel)
    refine b_if_eq hx hb zl_1 (tgt := 18) dX11_canRead_6 (by decide +kernel) (fun c_9 => by exfalso; omega) (fun c_9 => ?_)
    refine lv_aload_n hx hb dX11_canRead_9 rfl (lv_at hl 0 rfl) ?_
    refine lv_iload_n hx hb dX11_canRead_10 rfl (lv_at hl 2 rfl) ?_
    refine lv_iconst (v := 3) hx hb dX11_canRead_11 (by decide +kernel) ?_
    refine kJi (wr := []) (va_runV (As := [.int a1, .int 3]) (rest := []) ⟨hx, hb, hml, hown, hT⟩ (c_X11_standsG l D cI aK aV k k0 k1 k2 k4 k5 k6 k7 k8 ka kb kl ko H.size c3 c9 cc cd ce cf cg ch ci cj ck cm cn c0 a1 3 (by first | omega | (simp only [zl_3]; first | done | omega) | decide | assumption | rfl) (by first | omega | (simp only [zl_3]; first | done | omega) | decide | assumption | rfl) pre0) (cwV 2 hT (gV_in mw_1295 mw_1292 mw_1294 mw_p3_14 mw_12) rfl rfl rfl (by decide +kernel) ⟨Nat.le_of_ble_eq_true rfl, Nat.le_of_ble_eq_true rfl⟩) (kRecvX (q0 := 0) (ci := 11) hK hP hD hN hXS hS hA rfl rfl [0, 1] rfl (by decide +kernel)) rfl rfl hl.1 rfl (lv_room (Nat.le_of_ble_eq_true rfl)) dX11_canRead_12 ⟨Nat.le_of_ble_eq_true rfl, Nat.le_of_ble_eq_true rfl⟩) hP hD hS hA [0, 1] [] rfl rfl (by decide +kernel) (by decide +kernel) ?_
    clear hP hD hS
    intro r_10 u_12 H locs w_11 hP hD hS
    replace hP : va_P D vwCl [(k, .inr (11, [.ref k0, .ref k1, .ref k2, .int c3, .ref k4, .ref k5, .ref k6, .ref k7, .ref k8, .int c9, .ref ka, .ref kb, .int cc, .int cd, .int ce, .int cf, .int cg, .int ch, .int ci, .int cj, .int ck, .ref kl, .int cm, .int cn, .ref ko])), (k0, .inl (cI, 1201, .inl c0))] H := hP
    replace hD : va_D A [(k, .inr (11, [.ref k0, .ref k1, .ref k2, .int c3, .ref k4, .ref k5, .ref k6, .ref k7, .ref k8, .int c9, .ref ka, .ref kb, .int cc, .int cd, .int ce, .int cf, .int cg, .int ch, .int ci, .int cj, .int ck, .ref kl, .int cm, .int cn, .ref ko])), (k0, .inl (cI, 1201, .inl c0))] := hD
    rcases w_11 with ⟨hr_10, h_13⟩ | ⟨hr_10, h_14⟩
    · try simp only [zl_3] at h_13
      have h_13 : stF c0 a1 3 = 1 := h_13
      obtain rfl : r_10 = 1 := hr_10.trans (by decide +kernel)
      refine b_if_ne hx hb zl_1 (tgt := 20) dX11_canRead_15 (by decide +kernel) (fun c_15 => ?_) (fun c_15 => by exfalso; omega)
      refine lv_aload_n hx hb dX11_canRead_20 rfl (lv_at hl 0 rfl) ?_
      refine lv_iload_n hx hb dX11_canRead_21 rfl (lv_at hl 1 rfl) ?_
      refine lv_iconst (v := 1) hx hb dX11_canRead_22 (by decide +kernel) ?_
      refine kJi (wr := []) (va_runV (As := [.int a0, .int 1]) (rest := []) ⟨hx, hb, hml, hown, hT⟩ (c_X11_workG1 l D cI aK aV k k0 k1 k2 k4 k5 k6 k7 k8 ka kb kl ko H.size c3 c9 cc cd ce cf cg ch ci cj ck cm cn c0 a0 1 (by first | omega | (simp only [zl_1]; first | done | omega) | decide | assumption | rfl) (by first | omega | (simp only [zl_1]; first | done | omega) | decide | assumption | rfl) (by first | omega | (simp only [zl_1]; first | done | omega) | decide | assumption | rfl)) (cwV 2 hT (gV_in mw_1276 mw_1273 mw_1275 mw_p3_12 mw_12) rfl rfl rfl (by decide +kernel) ⟨Nat.le_of_ble_eq_true rfl, Nat.le_of_ble_eq_true rfl⟩) (kRecvX (q0 := 0) (ci := 11) hK hP hD hN hXS hS hA rfl rfl [0, 1] rfl (by decide +kernel)) rfl rfl hl.1 rfl (lv_room (Nat.le_of_ble_eq_true rfl)) dX11_canRead_23 ⟨Nat.le_of_ble_eq_true rfl, Nat.le_of_ble_eq_true rfl⟩) hP hD hS hA [0, 1] [] rfl rfl (by decide +kernel) (by decide +kernel) ?_
      clear hP hD hS
      intro r_16 u_18 H locs w_17 hP hD hS
      replace hP : va_P D vwCl [(k, .inr (11, [.ref k0, .ref k1, .ref k2, .int c3, .ref k4, .ref k5, .ref k6, .ref k7, .ref k8, .int c9, .ref ka, .ref kb, .int cc, .int cd, .int ce, .int cf, .int cg, .int ch, .int ci, .int cj, .int ck, .ref kl, .int cm, .int cn, .ref ko])), (k0, .inl (cI, 1201, .inl c0))] H := hP
      replace hD : va_D A [(k, .inr (11, [.ref k0, .ref k1, .ref k2, .int c3, .ref k4, .ref k5, .ref k6, .ref k7, .ref k8, .int c9, .ref ka, .ref kb, .int cc, .int cd, .int ce, .int cf, .int cg, .int ch, .int ci, .int cj, .int ck, .ref kl, .int cm, .int cn, .ref ko])), (k0, .inl (cI, 1201, .inl c0))] := hD
      have h_19 := w_17
      have h_19 : r_16 = wW c0 a0 1 := h_19
      have t_20 : r_16.toInt = (wW c0 a0 1).toInt := by rw [h_19]
      have b_21 : 0 ≤ r_16.toInt ∧ r_16.toInt ≤ 39 := by rw [h_19]; exact SB.w1 pre0 (by omega) (by omega)
      have lo_r_16 := k_lo r_16
      have hi_r_16 := k_hi r_16
      refine lv_aload_n hx hb dX11_canRead_26 rfl (lv_at hl 0 rfl) ?_
      refine lv_iload_n hx hb dX11_canRead_27 rfl (lv_at hl 2 rfl) ?_
      refine lv_iconst (v := 1) hx hb dX11_canRead_28 (by decide +kernel) ?_
      refine kJi (wr := []) (va_runV (As := [.int a1, .int 1]) (rest := [.int r_16]) ⟨hx, hb, hml, hown, hT⟩ (c_X11_workG1 l D cI aK aV k k0 k1 k2 k4 k5 k6 k7 k8 ka kb kl ko H.size c3 c9 cc cd ce cf cg ch ci cj ck cm cn c0 a1 1 (by first | omega | (simp only [zl_1]; first | done | omega) | decide | assumption | rfl) (by first | omega | (simp only [zl_1]; first | done | omega) | decide | assumption | rfl) (by first | omega | (simp only [zl_1]; first | done | omega) | decide | assumption | rfl)) (cwV 2 hT (gV_in mw_1276 mw_1273 mw_1275 mw_p3_12 mw_12) rfl rfl rfl (by decide +kernel) ⟨Nat.le_of_ble_eq_true rfl, Nat.le_of_ble_eq_true rfl⟩) (kRecvX (q0 := 0) (ci := 11) hK hP hD hN hXS hS hA rfl rfl [0, 1] rfl (by decide +kernel)) rfl rfl hl.1 rfl (lv_room (Nat.le_of_ble_eq_true rfl)) dX11_canRead_29 ⟨Nat.le_of_ble_eq_true rfl, Nat.le_of_ble_eq_true rfl⟩) hP hD hS hA [0, 1] [] rfl rfl (by decide +kernel) (by decide +kernel) ?_
      clear hP hD hS
      intro r_22 u_24 H locs w_23 hP hD hS
      replace hP : va_P D vwCl [(k, .inr (11, [.ref k0, .ref k1, .ref k2, .int c3, .ref k4, .ref k5, .ref k6, .ref k7, .ref k8, .int c9, .ref ka, .ref kb, .int cc, .int cd, .int ce, .int cf, .int cg, .int ch, .int ci, .int cj, .int ck, .ref kl, .int cm, .int cn, .ref ko])), (k0, .inl (cI, 1201, .inl c0))] H := hP
      replace hD : va_D A [(k, .inr (11, [.ref k0, .ref k1, .ref k2, .int c3, .ref k4, .ref k5, .ref k6, .ref k7, .ref k8, .int c9, .ref ka, .ref kb, .int cc, .int cd, .int ce, .int cf, .int cg, .int ch, .int ci, .int cj, .int ck, .ref kl, .int cm, .int cn, .ref ko])), (k0, .inl (cI, 1201, .inl c0))] := hD
      have h_25 := w_23
      have h_25 : r_22 = wW c0 a1 1 := h_25
      have t_26 : r_22.toInt = (wW c0 a1 1).toInt := by rw [h_25]
      have b_27 : 0 ≤ r_22.toInt ∧ r_22.toInt ≤ 39 := by rw [h_25]; exact SB.w1 pre0 (by omega) (by omega)
      have lo_r_22 := k_lo r_22
      have hi_r_22 := k_hi r_22
      refine b_icmp_ge hx hb rfl rfl (tgt := 44) dX11_canRead_32 (by decide +kernel) (fun c_28 => ?_) (fun c_28 => ?_)
      · refine lv_aload_n hx hb dX11_canRead_44 rfl (lv_at hl 0 rfl) ?_
        refine lv_iload_n hx hb dX11_canRead_45 rfl (lv_at hl 2 rfl) ?_
        refine lv_iconst (v := 1) hx hb dX11_canRead_46 (by decide +kernel) ?_
        refine kJi (wr := []) (va_runV (As := [.int a1, .int 1]) (rest := []) ⟨hx, hb, hml, hown, hT⟩ (c_X11_workG1 l D cI aK aV k k0 k1 k2 k4 k5 k6 k7 k8 ka kb kl ko H.size c3 c9 cc cd ce cf cg ch ci cj ck cm cn c0 a1 1 (by first | omega | (simp only [zl_1]; first | done | omega) | decide | assumption | rfl) (by first | omega | (simp only [zl_1]; first | done | omega) | decide | assumption | rfl) (by first | omega | (simp only [zl_1]; first | done | omega) | decide | assumption | rfl)) (cwV 2 hT (gV_in mw_1276 mw_1273 mw_1275 mw_p3_12 mw_12) rfl rfl rfl (by decide +kernel) ⟨Nat.le_of_ble_eq_true rfl, Nat.le_of_ble_eq_true rfl⟩) (kRecvX (q0 := 0) (ci := 11) hK hP hD hN hXS hS hA rfl rfl [0, 1] rfl (by decide +kernel)) rfl rfl hl.1 rfl (lv_room (Nat.le_of_ble_eq_true rfl)) dX11_canRead_47 ⟨Nat.le_of_ble_eq_true rfl, Nat.le_of_ble_eq_true rfl⟩) hP hD hS hA [0, 1] [] rfl rfl (by decide +kernel) (by decide +kernel) ?_
        clear hP hD hS
        intro r_29 u_31 H locs w_30 hP hD hS
        replace hP : va_P D vwCl [(k, .inr (11, [.ref k0, .ref k1, .ref k2, .int c3, .ref k4, .ref k5, .ref k6, .ref k7, .ref k8, .int c9, .ref ka, .ref kb, .int cc, .int cd, .int ce, .int cf, .int cg, .int ch, .int ci, .int cj, .int ck, .ref kl, .int cm, .int cn, .ref ko])), (k0, .inl (cI, 1201, .inl c0))] H := hP
        replace hD : va_D A [(k, .inr (11, [.ref k0, .ref k1, .ref k2, .int c3, .ref k4, .ref k5, .ref k6, .ref k7, .ref k8, .int c9, .ref ka, .ref kb, .int cc, .int cd, .int ce, .int cf, .int cg, .int ch, .int ci, .int cj, .int ck, .ref kl, .int cm, .int cn, .ref ko])), (k0, .inl (cI, 1201, .inl c0))] := hD
        have h_32 := w_30
        have h_32 : r_29 = wW c0 a1 1 := h_32
        have t_33 : r_29.toInt = (wW c0 a1 1).toInt := by rw [h_32]
        have b_34 : 0 ≤ r_29.toInt ∧ r_29.toInt ≤ 39 := by rw [h_32]; exact SB.w1 pre0 (by omega) (by omega)
        have lo_r_29 := k_lo r_29
        have hi_r_29 := k_hi r_29
        refine lv_istore_n (lv' := [(3, .int r_29), (0, .ref k), (1, .int a0), (2, .int a1)]) hx hb dX11_canRead_50 rfl hl (by decide +kernel) rfl ?_
        clear hl
        intro ls hl
        refine lv_aload_n hx hb dX11_canRead_51 rfl (lv_at hl 1 rfl) ?_
        refine lv_iload_n hx hb dX11_canRead_52 rfl (lv_at hl 2 rfl) ?_
        refine lv_iconst (v := 1) hx hb dX11_canRead_53 (by decide +kernel) ?_
        refine kJi (wr := []) (va_runV (As := [.int a0, .int 1]) (rest := []) ⟨hx, hb, hml, hown, hT⟩ (c_X11_workG1 l D cI aK aV k k0 k1 k2 k4 k5 k6 k7 k8 ka kb kl ko H.size c3 c9 cc cd ce cf cg ch ci cj ck cm cn c0 a0 1 (by first | omega | (simp only [zl_1]; first | done | omega) | decide | assumption | rfl) (by first | omega | (simp only [zl_1]; first | done | omega) | decide | assumption | rfl) (by first | omega | (simp only [zl_1]; first | done | omega) | decide | assumption | rfl)) (cwV 2 hT (gV_in mw_1276 mw_1273 mw_1275 mw_p3_12 mw_12) rfl rfl rfl (by decide +kernel) ⟨Nat.le_of_ble_eq_true rfl, Nat.le_of_ble_eq_true rfl⟩) (kRecvX (q0 := 0) (ci := 11) hK hP hD hN hXS hS hA rfl rfl [0, 1] rfl (by decide +kernel)) rfl rfl hl.1 rfl (lv_room (Nat.le_of_ble_eq_true rfl)) dX11_canRead_54 ⟨Nat.le_of_ble_eq_true rfl, Nat.le_of_ble_eq_true rfl⟩) hP hD hS hA [0, 1] [] rfl rfl (by decide +kernel) (by decide +kernel) ?_
        clear hP hD hS
        intro r_35 u_37 H locs w_36 hP hD hS
        replace hP : va_P D vwCl [(k, .inr (11, [.ref k0, .ref k1, .ref k2, .int c3, .ref k4, .ref k5, .ref k6, .ref k7, .ref k8, .int c9, .ref ka, .ref kb, .int cc, .int cd, .int ce, .int cf, .int cg, .int ch, .int ci, .int cj, .int ck, .ref kl, .int cm, .int cn, .ref ko])), (k0, .inl (cI, 1201, .inl c0))] H := hP
        replace hD : va_D A [(k, .inr (11, [.ref k0, .ref k1, .ref k2, .int c3, .ref k4, .ref k5, .ref k6, .ref k7, .ref k8, .int c9, .ref ka, .ref kb, .int cc, .int cd, .int ce, .int cf, .int cg, .int ch, .int ci, .int cj, .int ck, .ref kl, .int cm, .int cn, .ref ko])), (k0, .inl (cI, 1201, .inl c0))] := hD
        have h_38 := w_36
        have h_38 : r_35 = wW c0 a0 1 := h_38
        have t_39 : r_35.toInt = (wW c0 a0 1).toInt := by rw [h_38]
        have b_40 : 0 ≤ r_35.toInt ∧ r_35.toInt ≤ 39 := by rw [h_38]; exact SB.w1 pre0 (by omega) (by omega)
        have lo_r_35 := k_lo r_35
        have hi_r_35 := k_hi r_35
        refine lv_aload_n hx hb dX11_canRead_57 rfl (lv_at hl 1 rfl) ?_
        refine lv_iload_n hx hb dX11_canRead_58 rfl (lv_at hl 3 rfl) ?_
        refine lv_iconst (v := 1) hx hb dX11_canRead_59 (by decide +kernel) ?_
        refine kJi (wr := []) (va_runV (As := [.int a1, .int 1]) (rest := [.int r_35]) ⟨hx, hb, hml, hown, hT⟩ (c_X11_workG1 l D cI aK aV k k0 k1 k2 k4 k5 k6 k7 k8 ka kb kl ko H.size c3 c9 cc cd ce cf cg ch ci cj ck cm cn c0 a1 1 (by first | omega | (simp only [zl_1]; first | done | omega) | decide | assumption | rfl) (by first | omega | (simp only [zl_1]; first | done | omega) | decide | assumption | rfl) (by first | omega | (simp only [zl_1]; first | done | omega) | decide | assumption | rfl)) (cwV 2 hT (gV_in mw_1276 mw_1273 mw_1275 mw_p3_12 mw_12) rfl rfl rfl (by decide +kernel) ⟨Nat.le_of_ble_eq_true rfl, Nat.le_of_ble_eq_true rfl⟩) (kRecvX (q0 := 0) (ci := 11) hK hP hD hN hXS hS hA rfl rfl [0, 1] rfl (by decide +kernel)) rfl rfl hl.1 rfl (lv_room (Nat.le_of_ble_eq_true rfl)) dX11_canRead_60 ⟨Nat.le_of_ble_eq_true rfl, Nat.le_of_ble_eq_true rfl⟩) hP hD hS hA [0, 1] [] rfl rfl (by decide +kernel) (by decide +kernel) ?_
        clear hP hD hS
        intro r_41 u_43 H locs w_42 hP hD hS
        replace hP : va_P D vwCl [(k, .inr (11, [.ref k0, .ref k1, .ref k2, .int c3, .ref k4, .ref k5, .ref k6, .ref k7, .ref k8, .int c9, .ref ka, .ref kb, .int cc, .int cd, .int ce, .int cf, .int cg, .int ch, .int ci, .int cj, .int ck, .ref kl, .int cm, .int cn, .ref ko])), (k0, .inl (cI, 1201, .inl c0))] H := hP
        replace hD : va_D A [(k, .inr (11, [.ref k0, .ref k1, .ref k2, .int c3, .ref k4, .ref k5, .ref k6, .ref k7, .ref k8, .int c9, .ref ka, .ref kb, .int cc, .int cd, .int ce, .int cf, .int cg, .int ch, .int ci, .int cj, .int ck, .ref kl, .int cm, .int cn, .ref ko])), (k0, .inl (cI, 1201, .inl c0))] := hD
        have h_44 := w_42
        have h_44 : r_41 = wW c0 a1 1 := h_44
        have t_45 : r_41.toInt = (wW c0 a1 1).toInt := by rw [h_44]
        have b_46 : 0 ≤ r_41.toInt ∧ r_41.toInt ≤ 39 := by rw [h_44]; exact SB.w1 pre0 (by omega) (by omega)
        have lo_r_41 := k_lo r_41
        have hi_r_41 := k_hi r_41
        refine lv_iadd hx hb dX11_canRead_63 ?_
        refine lv_topi (fun v_47 ev_47 => ?_)
        have tv_47 : v_47.toInt = r_35.toInt + r_41.toInt := by rw [ev_47]; exact k_addv rfl rfl (by omega) (by omega)
        refine lv_iload_n hx hb dX11_canRead_64 rfl (lv_at hl 0 rfl) ?_
        refine lv_isub hx hb dX11_canRead_65 ?_
        refine lv_topi (fun v_48 ev_48 => ?_)
        have tv_48 : v_48.toInt = v_47.toInt - r_29.toInt := by rw [ev_48]; exact k_subv rfl rfl (by omega) (by omega)
        refine lv_istore (lv' := [(4, .int v_48), (3, .int r_29), (0, .ref k), (1, .int a0), (2, .int a1)]) hx hb dX11_canRead_66 hl (by decide +kernel) rfl ?_
        clear hl
        intro ls hl
        refine lv_iconst (v := 0) hx hb dX11_canRead_68 (by decide +kernel) ?_
        refine lv_istore (lv' := [(5, .int 0), (4, .int v_48), (3, .int r_29), (0, .ref k), (1, .int a0), (2, .int a1)]) hx hb dX11_canRead_69 hl (by decide +kernel) rfl ?_
        clear hl
        intro ls hl
        refine lv_iconst (v := 1) hx hb dX11_canRead_71 (by decide +kernel) ?_
        refine lv_istore (lv' := [(6, .int 1), (5, .int 0), (4, .int v_48), (3, .int r_29), (0, .ref k), (1, .int a0), (2, .int a1)]) hx hb dX11_canRead_72 hl (by decide +kernel) rfl ?_
        clear hl
        intro ls hl
        refine lv_iload_n hx hb dX11_canRead_74 rfl (lv_at hl 3 rfl) ?_
        refine lv_istore (lv' := [(7, .int r_29), (6, .int 1), (5, .int 0), (4, .int v_48), (3, .int r_29), (0, .ref k), (1, .int a0), (2, .int a1)]) hx hb dX11_canRead_75 hl (by decide +kernel) rfl ?_
        clear hl
        intro ls hl
        have hloop_77 : ∀ (fu_ : Nat) (l77_5 : Int32) (l77_6 : Int32) (l77_7 : Int32), l77_6.toInt ≤ 1 → r_29.toInt ≤ l77_7.toInt → r_29.toInt ≤ l77_7.toInt → l77_7.toInt ≤ v_48.toInt + 1 → (l77_6, l77_5) = CRS c0 r_29 v_48 (l77_7.toInt - r_29.toInt).toNat → (v_48.toInt + 1 - l77_7.toInt).toNat < fu_ → ∀ (ls : Array Slot) (H : Heap) (locs : List Loc), lv_has ls 9 [(7, .int l77_7), (6, .int l77_6), (5, .int l77_5), (4, .int v_48), (3, .int r_29), (0, .ref k), (1, .int a0), (2, .int a1)] → va_P D vwCl [(k, .inr (11, [.ref k0, .ref k1, .ref k2, .int c3, .ref k4, .ref k5, .ref k6, .ref k7, .ref k8, .int c9, .ref ka, .ref kb, .int cc, .int cd, .int ce, .int cf, .int cg, .int ch, .int ci, .int cj, .int ck, .ref kl, .int cm, .int cn, .ref ko])), (k0, .inl (cI, 1201, .inl c0))] H → va_D A [(k, .inr (11, [.ref k0, .ref k1, .ref k2, .int c3, .ref k4, .ref k5, .ref k6, .ref k7, .ref k8, .int c9, .ref ka, .ref kb, .int cc, .int cd, .int ce, .int cf, .int cg, .int ch, .int ci, .int cj, .int ck, .ref kl, .int cm, .int cn, .ref ko])), (k0, .inl (cI, 1201, .inl c0))] → va_S A s.heap H locs → W p l e ({ frames := 4, cells := 0, slots := 0, locals := 88 } : Room) s m args below meth c H locs 0 0 Q (F0 m 77 ls []) := by
          intro fu_; induction fu_ with
          | zero => intro l77_5 l77_6 l77_7 i77_0 i77_1 i77_2 i77_3 i77_4 hm; exact absurd hm (by omega)
          | succ fu_ ih77 =>
              intro l77_5 l77_6 l77_7 i77_0 i77_1 i77_2 i77_3 i77_4 hm ls H locs hl hP hD hS
              have lo_l77_5 := k_lo l77_5
              have hi_l77_5 := k_hi l77_5
              have lo_l77_6 := k_lo l77_6
              have hi_l77_6 := k_hi l77_6
              have lo_l77_7 := k_lo l77_7
              have hi_l77_7 := k_hi l77_7
              refine lv_iload hx hb dX11_canRead_77 (lv_at hl 0 rfl) ?_
              refine lv_iload hx hb dX11_canRead_79 (lv_at hl 3 rfl) ?_
              refine b_icmp_gt hx hb rfl rfl (tgt := 139) dX11_canRead_81 (by decide +kernel) (fun c_49 => ?_) (fun c_49 => ?_)
              · refine lv_iload hx hb dX11_canRead_139 (lv_at hl 1 rfl) ?_
                refine b_if_eq hx hb rfl (tgt := 160) dX11_canRead_141 (by decide +kernel) (fun c_50 => ?_) (fun c_50 => ?_)
                · refine lv_iconst (v := 0) hx hb dX11_canRead_160 (by decide +kernel) ?_
                  exact hRet () [0, 1] (Or.inr (⟨rfl, (crF_r (x := r_35) (y := r_29) (t := v_48) h_7 h_13 h_38 h_32 (by omega) (by subst_vars; rfl) (crEnd_in i77_4 (by omega) (by first | exact Or.inl ⟨by omega, by omega, rfl⟩ | exact Or.inr ⟨by omega, rfl⟩)))⟩)) hP hD (by decide +kernel) rfl hS rfl dX11_canRead_161
                · refine lv_iload hx hb dX11_canRead_144 (lv_at hl 2 rfl) ?_
                  refine lv_aload_n hx hb dX11_canRead_146 rfl (lv_at hl 5 rfl) ?_
                  refine va_get (D := D) (ci := 11) (v := .ref k0) (C := RX11) (T := TX11) (N := 25) hx hb hT giX11 hown hK hP 0 rfl rfl 0 (by decide +kernel) (hT (Cond.fieldLink RX11 9 "DesertWireModel" "s" "[I") mw_1156) (fun _ h9 => h9) rfl dX11_canRead_147 ?_
                  refine lv_bipush (v := 6) hx hb dX11_canRead_150 (by decide +kernel) ?_
                  refine k_iald (v := (c0 6)) hx hb hK hP 1 0 rfl rfl (k_inl (by decide +kernel)) rfl dX11_canRead_152 ?_
                  refine lv_topi (fun v_51 ev_51 => ?_)
                  have lo_v_51 := k_lo v_51
                  have hi_v_51 := k_hi v_51
                  have tv_51 : v_51.toInt = (c0 6).toInt := by rw [ev_51]
                  refine b_icmp_gt hx hb rfl rfl (tgt := 160) dX11_canRead_153 (by decide +kernel) (fun c_52 => ?_) (fun c_52 => ?_)
                  · refine lv_iconst (v := 0) hx hb dX11_canRead_160 (by decide +kernel) ?_
                    exact hRet () [0, 1] (Or.inr (⟨rfl, (crF_r (x := r_35) (y := r_29) (t := v_48) h_7 h_13 h_38 h_32 (by omega) (by subst_vars; rfl) (crEnd_in i77_4 (by omega) (by first | exact Or.inl ⟨by omega, by omega, rfl⟩ | exact Or.inr ⟨by omega, rfl⟩)))⟩)) hP hD (by decide +kernel) rfl hS rfl dX11_canRead_161
                  · refine lv_iconst (v := 1) hx hb dX11_canRead_156 (by decide +kernel) ?_
                    refine lv_goto (tgt := 161) hx hb dX11_canRead_157 (by decide +kernel) ?_
                    exact hRet () [0, 1] (Or.inl ⟨rfl, (crF_r (x := r_35) (y := r_29) (t := v_48) h_7 h_13 h_38 h_32 (by omega) (by subst_vars; rfl) (crEnd_in i77_4 (by omega) (by first | exact Or.inl ⟨by omega, by omega, rfl⟩ | exact Or.inr ⟨by omega, rfl⟩)))⟩) hP hD (by decide +kernel) rfl hS rfl dX11_canRead_161
              · refine lv_aload_n hx hb dX11_canRead_84 rfl (lv_at hl 5 rfl) ?_
                refine lv_iload hx hb dX11_canRead_85 (lv_at hl 0 rfl) ?_
                refine kJi (wr := []) (va_runV (As := [.int l77_7]) (rest := []) ⟨hx, hb, hml, hown, hT⟩ (c_X11_leakOfG l D cI aK aV k k0 k1 k2 k4 k5 k6 k7 k8 ka kb kl ko H.size c3 c9 cc cd ce cf cg ch ci cj ck cm cn c0 l77_7 pre0) (cwV 1 hT (gV_in mw_1372 mw_1369 mw_1371 mw_p4_14 mw_12) rfl rfl rfl (by decide +kernel) ⟨Nat.le_of_ble_eq_true rfl, Nat.le_of_ble_eq_true rfl⟩) (kRecvX (q0 := 0) (ci := 11) hK hP hD hN hXS hS hA rfl rfl [0, 1] rfl (by decide +kernel)) rfl rfl hl.1 rfl (lv_room (Nat.le_of_ble_eq_true rfl)) dX11_canRead_87 ⟨Nat.le_of_ble_eq_true rfl, Nat.le_of_ble_eq_true rfl⟩) hP hD hS hA [0, 1] [] rfl rfl (by decide +kernel) (by decide +kernel) ?_
                clear hP hD hS
                intro r_53 u_55 H locs w_54 hP hD hS
                replace hP : va_P D vwCl [(k, .inr (11, [.ref k0, .ref k1, .ref k2, .int c3, .ref k4, .ref k5, .ref k6, .ref k7, .ref k8, .int c9, .ref ka, .ref kb, .int cc, .int cd, .int ce, .int cf, .int cg, .int ch, .int ci, .int cj, .int ck, .ref kl, .int cm, .int cn, .ref ko])), (k0, .inl (cI, 1201, .inl c0))] H := hP
                replace hD : va_D A [(k, .inr (11, [.ref k0, .ref k1, .ref k2, .int c3, .ref k4, .ref k5, .ref k6, .ref k7, .ref k8, .int c9, .ref ka, .ref kb, .int cc, .int cd, .int ce, .int cf, .int cg, .int ch, .int ci, .int cj, .int ck, .ref kl, .int cm, .int cn, .ref ko])), (k0, .inl (cI, 1201, .inl c0))] := hD
                have h_56 := w_54
                have h_56 : r_53 = lkF c0 l77_7.toInt := h_56
                have lo_r_53 := k_lo r_53
                have hi_r_53 := k_hi r_53
                refine lv_istore (lv' := [(8, .int r_53), (7, .int l77_7), (6, .int l77_6), (5, .int l77_5), (4, .int v_48), (3, .int r_29), (0, .ref k), (1, .int a0), (2, .int a1)]) hx hb dX11_canRead_90 hl (by decide +kernel) rfl ?_
                clear hl
                intro ls hl
                refine lv_iload hx hb dX11_canRead_92 (lv_at hl 2 rfl) ?_
                refine b_if_eq hx hb rfl (tgt := 106) dX11_canRead_94 (by decide +kernel) (fun c_57 => ?_) (fun c_57 => ?_)
                · refine lv_iconst (v := 0) hx hb dX11_canRead_106 (by decide +kernel) ?_
                  refine lv_istore (lv' := [(6, .int 0), (8, .int r_53), (7, .int l77_7), (5, .int l77_5), (4, .int v_48), (3, .int r_29), (0, .ref k), (1, .int a0), (2, .int a1)]) hx hb dX11_canRead_107 hl (by decide +kernel) rfl ?_
                  clear hl
                  intro ls hl
                  refine lv_iload hx hb dX11_canRead_109 (lv_at hl 3 rfl) ?_
                  refine lv_iload hx hb dX11_canRead_111 (lv_at hl 2 rfl) ?_
                  refine lv_iload_n hx hb dX11_canRead_113 rfl (lv_at hl 5 rfl) ?_
                  refine b_icmp_le hx hb rfl rfl (tgt := 129) dX11_canRead_114 (by decide +kernel) (fun c_58 => ?_) (fun c_58 => ?_)
                  · refine lv_iconst (v := 0) hx hb dX11_canRead_129 (by decide +kernel) ?_
                    refine lv_iadd hx hb dX11_canRead_130 ?_
                    refine lv_topi (fun v_59 ev_59 => ?_)
                    have tv_59 : v_59.toInt = l77_5.toInt + 0 := by rw [ev_59]; exact k_addv rfl zl_0 (by omega) (by omega)
                    refine lv_istore (lv' := [(5, .int v_59), (6, .int 0), (8, .int r_53), (7, .int l77_7), (4, .int v_48), (3, .int r_29), (0, .ref k), (1, .int a0), (2, .int a1)]) hx hb dX11_canRead_131 hl (by decide +kernel) rfl ?_
                    clear hl
                    intro ls hl
                    obtain ⟨v_60, ev_60⟩ : ∃ y : Int32, y = l77_7 + 1 := ⟨_, rfl⟩
                    have tv_60 : v_60.toInt = l77_7.toInt + 1 := by rw [ev_60]; exact k_addv rfl zl_1 (by omega) (by omega)
                    refine lv_iinc (v := v_60) (lv' := [(7, .int v_60), (5, .int v_59), (6, .int 0), (8, .int r_53), (4, .int v_48), (3, .int r_29), (0, .ref k), (1, .int a0), (2, .int a1)]) hx hb dX11_canRead_133 hl (k := 3) rfl (by rw [ev_60]; rfl) (by decide +kernel) rfl ?_
                    clear hl
                    intro ls hl
                    refine lv_goto (tgt := 77) hx hb dX11_canRead_136 (by decide +kernel) ?_
                    exact ih77 v_59 0 v_60 (by first | omega | (simp only [zl_0]; first | done | omega) | decide | assumption | rfl) (by first | omega | (simp only [zl_0]; first | done | omega) | decide | assumption | rfl) (by first | omega | (simp only [zl_0]; first | done | omega) | decide | assumption | rfl) (by first | omega | (simp only [zl_0]; first | done | omega) | decide | assumption | rfl) (CRS_step (lk := r_53) (y := 0) i77_4 (by omega) (by omega) (by omega) h_56 (by first | exact Or.inl ⟨by omega, by omega, rfl⟩ | exact Or.inr ⟨by omega, rfl⟩) (by first | exact Or.inl ⟨by omega, by omega, rfl⟩ | exact Or.inr ⟨by omega, rfl⟩) ev_59) (by omega) ls _ _ (lv_sub hl [0, 2, 1, 4, 5, 6, 7, 8] rfl) (hP.sub [0, 1] rfl) (hD.sub [0, 1] (by decide +kernel) rfl) hS
                  · refine lv_iload hx hb dX11_canRead_117 (lv_at hl 2 rfl) ?_
                    refine lv_iload hx hb dX11_canRead_119 (lv_at hl 4 rfl) ?_
                    refine b_icmp_ge hx hb rfl rfl (tgt := 129) dX11_canRead_121 (by decide +kernel) (fun c_61 => ?_) (fun c_61 => ?_)
                    · refine lv_iconst (v := 0) hx hb dX11_canRead_129 (by decide +kernel) ?_
                      refine lv_iadd hx hb dX11_canRead_130 ?_
                      refine lv_topi (fun v_62 ev_62 => ?_)
                      have tv_62 : v_62.toInt = l77_5.toInt + 0 := by rw [ev_62]; exact k_addv rfl zl_0 (by omega) (by omega)
                      refine lv_istore (lv' := [(5, .int v_62), (6, .int 0), (8, .int r_53), (7, .int l77_7), (4, .int v_48), (3, .int r_29), (0, .ref k), (1, .int a0), (2, .int a1)]) hx hb dX11_canRead_131 hl (by decide +kernel) rfl ?_
                      clear hl
                      intro ls hl
                      obtain ⟨v_63, ev_63⟩ : ∃ y : Int32, y = l77_7 + 1 := ⟨_, rfl⟩
                      have tv_63 : v_63.toInt = l77_7.toInt + 1 := by rw [ev_63]; exact k_addv rfl zl_1 (by omega) (by omega)
                      refine lv_iinc (v := v_63) (lv' := [(7, .int v_63), (5, .int v_62), (6, .int 0), (8, .int r_53), (4, .int v_48), (3, .int r_29), (0, .ref k), (1, .int a0), (2, .int a1)]) hx hb dX11_canRead_133 hl (k := 3) rfl (by rw [ev_63]; rfl) (by decide +kernel) rfl ?_
                      clear hl
                      intro ls hl
                      refine lv_goto (tgt := 77) hx hb dX11_canRead_136 (by decide +kernel) ?_
                      exact ih77 v_62 0 v_63 (by first | omega | (simp only [zl_0]; first | done | omega) | decide | assumption | rfl) (by first | omega | (simp only [zl_0]; first | done | omega) | decide | assumption | rfl) (by first | omega | (simp only [zl_0]; first | done | omega) | decide | assumption | rfl) (by first | omega | (simp only [zl_0]; first | done | omega) | decide | assumption | rfl) (CRS_step (lk := r_53) (y := 0) i77_4 (by omega) (by omega) (by omega) h_56 (by first | exact Or.inl ⟨by omega, by omega, rfl⟩ | exact Or.inr ⟨by omega, rfl⟩) (by first | exact Or.inl ⟨by omega, by omega, rfl⟩ | exact Or.inr ⟨by omega, rfl⟩) ev_62) (by omega) ls _ _ (lv_sub hl [0, 2, 1, 4, 5, 6, 7, 8] rfl) (hP.sub [0, 1] rfl) (hD.sub [0, 1] (by decide +kernel) rfl) hS
                    · refine lv_iload hx hb dX11_canRead_124 (lv_at hl 1 rfl) ?_
                      refine lv_goto (tgt := 130) hx hb dX11_canRead_126 (by decide +kernel) ?_
                      refine lv_iadd hx hb dX11_canRead_130 ?_
                      refine lv_topi (fun v_64 ev_64 => ?_)
                      have lo_v_64 := k_lo v_64
                      have hi_v_64 := k_hi v_64
                      refine lv_istore (lv' := [(5, .int v_64), (6, .int 0), (8, .int r_53), (7, .int l77_7), (4, .int v_48), (3, .int r_29), (0, .ref k), (1, .int a0), (2, .int a1)]) hx hb dX11_canRead_131 hl (by decide +kernel) rfl ?_
                      clear hl
                      intro ls hl
                      obtain ⟨v_65, ev_65⟩ : ∃ y : Int32, y = l77_7 + 1 := ⟨_, rfl⟩
                      have tv_65 : v_65.toInt = l77_7.toInt + 1 := by rw [ev_65]; exact k_addv rfl zl_1 (by omega) (by omega)
                      refine lv_iinc (v := v_65) (lv' := [(7, .int v_65), (5, .int v_64), (6, .int 0), (8, .int r_53), (4, .int v_48), (3, .int r_29), (0, .ref k), (1, .int a0), (2, .int a1)]) hx hb dX11_canRead_133 hl (k := 3) rfl (by rw [ev_65]; rfl) (by decide +kernel) rfl ?_
                      clear hl
                      intro ls hl
                      refine lv_goto (tgt := 77) hx hb dX11_canRead_136 (by decide +kernel) ?_
                      exact ih77 v_64 0 v_65 (by first | omega | (simp only [zl_0]; first | done | omega) | decide | assumption | rfl) (by first | omega | (simp only [zl_0]; first | done | omega) | decide | assumption | rfl) (by first | omega | (simp only [zl_0]; first | done | omega) | decide | assumption | rfl) (by first | omega | (simp only [zl_0]; first | done | omega) | decide | assumption | rfl) (CRS_step (lk := r_53) (y := r_53) i77_4 (by omega) (by omega) (by omega) h_56 (by first | exact Or.inl ⟨by omega, by omega, rfl⟩ | exact Or.inr ⟨by omega, rfl⟩) (by first | exact Or.inl ⟨by omega, by omega, rfl⟩ | exact Or.inr ⟨by omega, rfl⟩) ev_64) (by omega) ls _ _ (lv_sub hl [0, 2, 1, 4, 5, 6, 7, 8] rfl) (hP.sub [0, 1] rfl) (hD.sub [0, 1] (by decide +kernel) rfl) hS
                · refine lv_iload hx hb dX11_canRead_97 (lv_at hl 0 rfl) ?_
                  refine b_if_lt hx hb rfl (tgt := 106) dX11_canRead_99 (by decide +kernel) (fun c_66 => ?_) (fun c_66 => ?_)
                  · refine lv_iconst (v := 0) hx hb dX11_canRead_106 (by decide +kernel) ?_
                    refine lv_istore (lv' := [(6, .int 0), (8, .int r_53), (7, .int l77_7), (5, .int l77_5), (4, .int v_48), (3, .int r_29), (0, .ref k), (1, .int a0), (2, .int a1)]) hx hb dX11_canRead_107 hl (by decide +kernel) rfl ?_
                    clear hl
                    intro ls hl
                    refine lv_iload hx hb dX11_canRead_109 (lv_at hl 3 rfl) ?_
                    refine lv_iload hx hb dX11_canRead_111 (lv_at hl 2 rfl) ?_
                    refine lv_iload_n hx hb dX11_canRead_113 rfl (lv_at hl 5 rfl) ?_
                    refine b_icmp_le hx hb rfl rfl (tgt := 129) dX11_canRead_114 (by decide +kernel) (fun c_67 => ?_) (fun c_67 => ?_)
                    · refine lv_iconst (v := 0) hx hb dX11_canRead_129 (by decide +kernel) ?_
                      refine lv_iadd hx hb dX11_canRead_130 ?_
                      refine lv_topi (fun v_68 ev_68 => ?_)
                      have tv_68 : v_68.toInt = l77_5.toInt + 0 := by rw [ev_68]; exact k_addv rfl zl_0 (by omega) (by omega)
                      refine lv_istore (lv' := [(5, .int v_68), (6, .int 0), (8, .int r_53), (7, .int l77_7), (4, .int v_48), (3, .int r_29), (0, .ref k), (1, .int a0), (2, .int a1)]) hx hb dX11_canRead_131 hl (by decide +kernel) rfl ?_
                      clear hl
                      intro ls hl
                      obtain ⟨v_69, ev_69⟩ : ∃ y : Int32, y = l77_7 + 1 := ⟨_, rfl⟩
                      have tv_69 : v_69.toInt = l77_7.toInt + 1 := by rw [ev_69]; exact k_addv rfl zl_1 (by omega) (by omega)
                      refine lv_iinc (v := v_69) (lv' := [(7, .int v_69), (5, .int v_68), (6, .int 0), (8, .int r_53), (4, .int v_48), (3, .int r_29), (0, .ref k), (1, .int a0), (2, .int a1)]) hx hb dX11_canRead_133 hl (k := 3) rfl (by rw [ev_69]; rfl) (by decide +kernel) rfl ?_
                      clear hl
                      intro ls hl
                      refine lv_goto (tgt := 77) hx hb dX11_canRead_136 (by decide +kernel) ?_
                      exact ih77 v_68 0 v_69 (by first | omega | (simp only [zl_0]; first | done | omega) | decide | assumption | rfl) (by first | omega | (simp only [zl_0]; first | done | omega) | decide | assumption | rfl) (by first | omega | (simp only [zl_0]; first | done | omega) | decide | assumption | rfl) (by first | omega | (simp only [zl_0]; first | done | omega) | decide | assumption | rfl) (CRS_step (lk := r_53) (y := 0) i77_4 (by omega) (by omega) (by omega) h_56 (by first | exact Or.inl ⟨by omega, by omega, rfl⟩ | exact Or.inr ⟨by omega, rfl⟩) (by first | exact Or.inl ⟨by omega, by omega, rfl⟩ | exact Or.inr ⟨by omega, rfl⟩) ev_68) (by omega) ls _ _ (lv_sub hl [0, 2, 1, 4, 5, 6, 7, 8] rfl) (hP.sub [0, 1] rfl) (hD.sub [0, 1] (by decide +kernel) rfl) hS
                    · refine lv_iload hx hb dX11_canRead_117 (lv_at hl 2 rfl) ?_
                      refine lv_iload hx hb dX11_canRead_119 (lv_at hl 4 rfl) ?_
                      refine b_icmp_ge hx hb rfl rfl (tgt := 129) dX11_canRead_121 (by decide +kernel) (fun c_70 => ?_) (fun c_70 => ?_)
                      · refine lv_iconst (v := 0) hx hb dX11_canRead_129 (by decide +kernel) ?_
                        refine lv_iadd hx hb dX11_canRead_130 ?_
                        refine lv_topi (fun v_71 ev_71 => ?_)
                        have tv_71 : v_71.toInt = l77_5.toInt + 0 := by rw [ev_71]; exact k_addv rfl zl_0 (by omega) (by omega)
                        refine lv_istore (lv' := [(5, .int v_71), (6, .int 0), (8, .int r_53), (7, .int l77_7), (4, .int v_48), (3, .int r_29), (0, .ref k), (1, .int a0), (2, .int a1)]) hx hb dX11_canRead_131 hl (by decide +kernel) rfl ?_
                        clear hl
                        intro ls hl
                        obtain ⟨v_72, ev_72⟩ : ∃ y : Int32, y = l77_7 + 1 := ⟨_, rfl⟩
                        have tv_72 : v_72.toInt = l77_7.toInt + 1 := by rw [ev_72]; exact k_addv rfl zl_1 (by omega) (by omega)
                        refine lv_iinc (v := v_72) (lv' := [(7, .int v_72), (5, .int v_71), (6, .int 0), (8, .int r_53), (4, .int v_48), (3, .int r_29), (0, .ref k), (1, .int a0), (2, .int a1)]) hx hb dX11_canRead_133 hl (k := 3) rfl (by rw [ev_72]; rfl) (by decide +kernel) rfl ?_
                        clear hl
                        intro ls hl
                        refine lv_goto (tgt := 77) hx hb dX11_canRead_136 (by decide +kernel) ?_
                        exact ih77 v_71 0 v_72 (by first | omega | (simp only [zl_0]; first | done | omega) | decide | assumption | rfl) (by first | omega | (simp only [zl_0]; first | done | omega) | decide | assumption | rfl) (by first | omega | (simp only [zl_0]; first | done | omega) | decide | assumption | rfl) (by first | omega | (simp only [zl_0]; first | done | omega) | decide | assumption | rfl) (CRS_step (lk := r_53) (y := 0) i77_4 (by omega) (by omega) (by omega) h_56 (by first | exact Or.inl ⟨by omega, by omega, rfl⟩ | exact Or.inr ⟨by omega, rfl⟩) (by first | exact Or.inl ⟨by omega, by omega, rfl⟩ | exact Or.inr ⟨by omega, rfl⟩) ev_71) (by omega) ls _ _ (lv_sub hl [0, 2, 1, 4, 5, 6, 7, 8] rfl) (hP.sub [0, 1] rfl) (hD.sub [0, 1] (by decide +kernel) rfl) hS
                      · refine lv_iload hx hb dX11_canRead_124 (lv_at hl 1 rfl) ?_
                        refine lv_goto (tgt := 130) hx hb dX11_canRead_126 (by decide +kernel) ?_
                        refine lv_iadd hx hb dX11_canRead_130 ?_
                        refine lv_topi (fun v_73 ev_73 => ?_)
                        have lo_v_73 := k_lo v_73
                        have hi_v_73 := k_hi v_73
                        refine lv_istore (lv' := [(5, .int v_73), (6, .int 0), (8, .int r_53), (7, .int l77_7), (4, .int v_48), (3, .int r_29), (0, .ref k), (1, .int a0), (2, .int a1)]) hx hb dX11_canRead_131 hl (by decide +kernel) rfl ?_
                        clear hl
                        intro ls hl
                        obtain ⟨v_74, ev_74⟩ : ∃ y : Int32, y = l77_7 + 1 := ⟨_, rfl⟩
                        have tv_74 : v_74.toInt = l77_7.toInt + 1 := by rw [ev_74]; exact k_addv rfl zl_1 (by omega) (by omega)
                        refine lv_iinc (v := v_74) (lv' := [(7, .int v_74), (5, .int v_73), (6, .int 0), (8, .int r_53), (4, .int v_48), (3, .int r_29), (0, .ref k), (1, .int a0), (2, .int a1)]) hx hb dX11_canRead_133 hl (k := 3) rfl (by rw [ev_74]; rfl) (by decide +kernel) rfl ?_
                        clear hl
                        intro ls hl
                        refine lv_goto (tgt := 77) hx hb dX11_canRead_136 (by decide +kernel) ?_
                        exact ih77 v_73 0 v_74 (by first | omega | (simp only [zl_0]; first | done | omega) | decide | assumption | rfl) (by first | omega | (simp only [zl_0]; first | done | omega) | decide | assumption | rfl) (by first | omega | (simp only [zl_0]; first | done | omega) | decide | assumption | rfl) (by first | omega | (simp only [zl_0]; first | done | omega) | decide | assumption | rfl) (CRS_step (lk := r_53) (y := r_53) i77_4 (by omega) (by omega) (by omega) h_56 (by first | exact Or.inl ⟨by omega, by omega, rfl⟩ | exact Or.inr ⟨by omega, rfl⟩) (by first | exact Or.inl ⟨by omega, by omega, rfl⟩ | exact Or.inr ⟨by omega, rfl⟩) ev_73) (by omega) ls _ _ (lv_sub hl [0, 2, 1, 4, 5, 6, 7, 8] rfl) (hP.sub [0, 1] rfl) (hD.sub [0, 1] (by decide +kernel) rfl) hS
                  · refine lv_iconst (v := 1) hx hb dX11_canRead_102 (by decide +kernel) ?_
                    refine lv_goto (tgt := 107) hx hb dX11_canRead_103 (by decide +kernel) ?_
                    refine lv_istore (lv' := [(6, .int 1), (8, .int r_53), (7, .int l77_7), (5, .int l77_5), (4, .int v_48), (3, .int r_29), (0, .ref k), (1, .int a0), (2, .int a1)]) hx hb dX11_canRead_107 hl (by decide +kernel) rfl ?_
                    clear hl
                    intro ls hl
                    refine lv_iload hx hb dX11_canRead_109 (lv_at hl 3 rfl) ?_
                    refine lv_iload hx hb dX11_canRead_111 (lv_at hl 2 rfl) ?_
                    refine lv_iload_n hx hb dX11_canRead_113 rfl (lv_at hl 5 rfl) ?_
                    refine b_icmp_le hx hb rfl rfl (tgt := 129) dX11_canRead_114 (by decide +kernel) (fun c_75 => ?_) (fun c_75 => ?_)
                    · refine lv_iconst (v := 0) hx hb dX11_canRead_129 (by decide +kernel) ?_
                      refine lv_iadd hx hb dX11_canRead_130 ?_
                      refine lv_topi (fun v_76 ev_76 => ?_)
                      have tv_76 : v_76.toInt = l77_5.toInt + 0 := by rw [ev_76]; exact k_addv rfl zl_0 (by omega) (by omega)
                      refine lv_istore (lv' := [(5, .int v_76), (6, .int 1), (8, .int r_53), (7, .int l77_7), (4, .int v_48), (3, .int r_29), (0, .ref k), (1, .int a0), (2, .int a1)]) hx hb dX11_canRead_131 hl (by decide +kernel) rfl ?_
                      clear hl
                      intro ls hl
                      obtain ⟨v_77, ev_77⟩ : ∃ y : Int32, y = l77_7 + 1 := ⟨_, rfl⟩
                      have tv_77 : v_77.toInt = l77_7.toInt + 1 := by rw [ev_77]; exact k_addv rfl zl_1 (by omega) (by omega)
                      refine lv_iinc (v := v_77) (lv' := [(7, .int v_77), (5, .int v_76), (6, .int 1), (8, .int r_53), (4, .int v_48), (3, .int r_29), (0, .ref k), (1, .int a0), (2, .int a1)]) hx hb dX11_canRead_133 hl (k := 3) rfl (by rw [ev_77]; rfl) (by decide +kernel) rfl ?_
                      clear hl
                      intro ls hl
                      refine lv_goto (tgt := 77) hx hb dX11_canRead_136 (by decide +kernel) ?_
                      exact ih77 v_76 1 v_77 (by first | omega | (simp only [zl_1]; first | done | omega) | decide | assumption | rfl) (by first | omega | (simp only [zl_1]; first | done | omega) | decide | assumption | rfl) (by first | omega | (simp only [zl_1]; first | done | omega) | decide | assumption | rfl) (by first | omega | (simp only [zl_1]; first | done | omega) | decide | assumption | rfl) (CRS_step (lk := r_53) (y := 0) i77_4 (by omega) (by omega) (by omega) h_56 (by first | exact Or.inl ⟨by omega, by omega, rfl⟩ | exact Or.inr ⟨by omega, rfl⟩) (by first | exact Or.inl ⟨by omega, by omega, rfl⟩ | exact Or.inr ⟨by omega, rfl⟩) ev_76) (by omega) ls _ _ (lv_sub hl [0, 2, 1, 4, 5, 6, 7, 8] rfl) (hP.sub [0, 1] rfl) (hD.sub [0, 1] (by decide +kernel) rfl) hS
                    · refine lv_iload hx hb dX11_canRead_117 (lv_at hl 2 rfl) ?_
                      refine lv_iload hx hb dX11_canRead_119 (lv_at hl 4 rfl) ?_
                      refine b_icmp_ge hx hb rfl rfl (tgt := 129) dX11_canRead_121 (by decide +kernel) (fun c_78 => ?_) (fun c_78 => ?_)
                      · refine lv_iconst (v := 0) hx hb dX11_canRead_129 (by decide +kernel) ?_
                        refine lv_iadd hx hb dX11_canRead_130 ?_
                        refine lv_topi (fun v_79 ev_79 => ?_)
                        have tv_79 : v_79.toInt = l77_5.toInt + 0 := by rw [ev_79]; exact k_addv rfl zl_0 (by omega) (by omega)
                        refine lv_istore (lv' := [(5, .int v_79), (6, .int 1), (8, .int r_53), (7, .int l77_7), (4, .int v_48), (3, .int r_29), (0, .ref k), (1, .int a0), (2, .int a1)]) hx hb dX11_canRead_131 hl (by decide +kernel) rfl ?_
                        clear hl
                        intro ls hl
                        obtain ⟨v_80, ev_80⟩ : ∃ y : Int32, y = l77_7 + 1 := ⟨_, rfl⟩
                        have tv_80 : v_80.toInt = l77_7.toInt + 1 := by rw [ev_80]; exact k_addv rfl zl_1 (by omega) (by omega)
                        refine lv_iinc (v := v_80) (lv' := [(7, .int v_80), (5, .int v_79), (6, .int 1), (8, .int r_53), (4, .int v_48), (3, .int r_29), (0, .ref k), (1, .int a0), (2, .int a1)]) hx hb dX11_canRead_133 hl (k := 3) rfl (by rw [ev_80]; rfl) (by decide +kernel) rfl ?_
                        clear hl
                        intro ls hl
                        refine lv_goto (tgt := 77) hx hb dX11_canRead_136 (by decide +kernel) ?_
                        exact ih77 v_79 1 v_80 (by first | omega | (simp only [zl_1]; first | done | omega) | decide | assumption | rfl) (by first | omega | (simp only [zl_1]; first | done | omega) | decide | assumption | rfl) (by first | omega | (simp only [zl_1]; first | done | omega) | decide | assumption | rfl) (by first | omega | (simp only [zl_1]; first | done | omega) | decide | assumption | rfl) (CRS_step (lk := r_53) (y := 0) i77_4 (by omega) (by omega) (by omega) h_56 (by first | exact Or.inl ⟨by omega, by omega, rfl⟩ | exact Or.inr ⟨by omega, rfl⟩) (by first | exact Or.inl ⟨by omega, by omega, rfl⟩ | exact Or.inr ⟨by omega, rfl⟩) ev_79) (by omega) ls _ _ (lv_sub hl [0, 2, 1, 4, 5, 6, 7, 8] rfl) (hP.sub [0, 1] rfl) (hD.sub [0, 1] (by decide +kernel) rfl) hS
                      · refine lv_iload hx hb dX11_canRead_124 (lv_at hl 1 rfl) ?_
                        refine lv_goto (tgt := 130) hx hb dX11_canRead_126 (by decide +kernel) ?_
                        refine lv_iadd hx hb dX11_canRead_130 ?_
                        refine lv_topi (fun v_81 ev_81 => ?_)
                        have lo_v_81 := k_lo v_81
                        have hi_v_81 := k_hi v_81
                        refine lv_istore (lv' := [(5, .int v_81), (6, .int 1), (8, .int r_53), (7, .int l77_7), (4, .int v_48), (3, .int r_29), (0, .ref k), (1, .int a0), (2, .int a1)]) hx hb dX11_canRead_131 hl (by decide +kernel) rfl ?_
                        clear hl
                        intro ls hl
                        obtain ⟨v_82, ev_82⟩ : ∃ y : Int32, y = l77_7 + 1 := ⟨_, rfl⟩
                        have tv_82 : v_82.toInt = l77_7.toInt + 1 := by rw [ev_82]; exact k_addv rfl zl_1 (by omega) (by omega)
                        refine lv_iinc (v := v_82) (lv' := [(7, .int v_82), (5, .int v_81), (6, .int 1), (8, .int r_53), (4, .int v_48), (3, .int r_29), (0, .ref k), (1, .int a0), (2, .int a1)]) hx hb dX11_canRead_133 hl (k := 3) rfl (by rw [ev_82]; rfl) (by decide +kernel) rfl ?_
                        clear hl
                        intro ls hl
                        refine lv_goto (tgt := 77) hx hb dX11_canRead_136 (by decide +kernel) ?_
                        exact ih77 v_81 1 v_82 (by first | omega | (simp only [zl_1]; first | done | omega) | decide | assumption | rfl) (by first | omega | (simp only [zl_1]; first | done | omega) | decide | assumption | rfl) (by first | omega | (simp only [zl_1]; first | done | omega) | decide | assumption | rfl) (by first | omega | (simp only [zl_1]; first | done | omega) | decide | assumption | rfl) (CRS_step (lk := r_53) (y := r_53) i77_4 (by omega) (by omega) (by omega) h_56 (by first | exact Or.inl ⟨by omega, by omega, rfl⟩ | exact Or.inr ⟨by omega, rfl⟩) (by first | exact Or.inl ⟨by omega, by omega, rfl⟩ | exact Or.inr ⟨by omega, rfl⟩) ev_81) (by omega) ls _ _ (lv_sub hl [0, 2, 1, 4, 5, 6, 7, 8] rfl) (hP.sub [0, 1] rfl) (hD.sub [0, 1] (by decide +kernel) rfl) hS
        exact hloop_77 _ 0 1 r_29 (by first | omega | (simp only [zl_0, zl_1]; first | done | omega) | decide | assumption | rfl) (by first | omega | (simp only [zl_0, zl_1]; first | done | omega) | decide | assumption | rfl) (by first | omega | (simp only [zl_0, zl_1]; first | done | omega) | decide | assumption | rfl) (by first | omega | (simp only [zl_0, zl_1]; first | done | omega) | decide | assumption | rfl) (CRS_zero rfl rfl rfl) (Nat.lt_succ_self _) ls _ _ (lv_sub hl [0, 1, 2, 3, 4, 5, 6, 7] rfl) hP hD hS
      · refine lv_aload_n hx hb dX11_canRead_35 rfl (lv_at hl 0 rfl) ?_
        refine lv_iload_n hx hb dX11_canRead_36 rfl (lv_at hl 1 rfl) ?_
        refine lv_iconst (v := 1) hx hb dX11_canRead_37 (by decide +kernel) ?_
        refine kJi (wr := []) (va_runV (As := [.int a0, .int 1]) (rest := []) ⟨hx, hb, hml, hown, hT⟩ (c_X11_workG1 l D cI aK aV k k0 k1 k2 k4 k5 k6 k7 k8 ka kb kl ko H.size c3 c9 cc cd ce cf cg ch ci cj ck cm cn c0 a0 1 (by first | omega | (simp only [zl_1]; first | done | omega) | decide | assumption | rfl) (by first | omega | (simp only [zl_1]; first | done | omega) | decide | assumption | rfl) (by first | omega | (simp only [zl_1]; first | done | omega) | decide | assumption | rfl)) (cwV 2 hT (gV_in mw_1276 mw_1273 mw_1275 mw_p3_12 mw_12) rfl rfl rfl (by decide +kernel) ⟨Nat.le_of_ble_eq_true rfl, Nat.le_of_ble_eq_true rfl⟩) (kRecvX (q0 := 0) (ci := 11) hK hP hD hN hXS hS hA rfl rfl [0, 1] rfl (by decide +kernel)) rfl rfl hl.1 rfl (lv_room (Nat.le_of_ble_eq_true rfl)) dX11_canRead_38 ⟨Nat.le_of_ble_eq_true rfl, Nat.le_of_ble_eq_true rfl⟩) hP hD hS hA [0, 1] [] rfl rfl (by decide +kernel) (by decide +kernel) ?_
        clear hP hD hS
        intro r_83 u_85 H locs w_84 hP hD hS
        replace hP : va_P D vwCl [(k, .inr (11, [.ref k0, .ref k1, .ref k2, .int c3, .ref k4, .ref k5, .ref k6, .ref k7, .ref k8, .int c9, .ref ka, .ref kb, .int cc, .int cd, .int ce, .int cf, .int cg, .int ch, .int ci, .int cj, .int ck, .ref kl, .int cm, .int cn, .ref ko])), (k0, .inl (cI, 1201, .inl c0))] H := hP
        replace hD : va_D A [(k, .inr (11, [.ref k0, .ref k1, .ref k2, .int c3, .ref k4, .ref k5, .ref k6, .ref k7, .ref k8, .int c9, .ref ka, .ref kb, .int cc, .int cd, .int ce, .int cf, .int cg, .int ch, .int ci, .int cj, .int ck, .ref kl, .int cm, .int cn, .ref ko])), (k0, .inl (cI, 1201, .inl c0))] := hD
        have h_86 := w_84
        have h_86 : r_83 = wW c0 a0 1 := h_86
        have t_87 : r_83.toInt = (wW c0 a0 1).toInt := by rw [h_86]
        have b_88 : 0 ≤ r_83.toInt ∧ r_83.toInt ≤ 39 := by rw [h_86]; exact SB.w1 pre0 (by omega) (by omega)
        have lo_r_83 := k_lo r_83
        have hi_r_83 := k_hi r_83
        refine lv_goto (tgt := 50) hx hb dX11_canRead_41 (by decide +kernel) ?_
        refine lv_istore_n (lv' := [(3, .int r_83), (0, .ref k), (1, .int a0), (2, .int a1)]) hx hb dX11_canRead_50 rfl hl (by decide +kernel) rfl ?_
        clear hl
        intro ls hl
        refine lv_aload_n hx hb dX11_canRead_51 rfl (lv_at hl 1 rfl) ?_
        refine lv_iload_n hx hb dX11_canRead_52 rfl (lv_at hl 2 rfl) ?_
        refine lv_iconst (v := 1) hx hb dX11_canRead_53 (by decide +kernel) ?_
        refine kJi (wr := []) (va_runV (As := [.int a0, .int 1]) (rest := []) ⟨hx, hb, hml, hown, hT⟩ (c_X11_workG1 l D cI aK aV k k0 k1 k2 k4 k5 k6 k7 k8 ka kb kl ko H.size c3 c9 cc cd ce cf cg ch ci cj ck cm cn c0 a0 1 (by first | omega | (simp only [zl_1]; first | done | omega) | decide | assumption | rfl) (by first | omega | (simp only [zl_1]; first | done | omega) | decide | assumption | rfl) (by first | omega | (simp only [zl_1]; first | done | omega) | decide | assumption | rfl)) (cwV 2 hT (gV_in mw_1276 mw_1273 mw_1275 mw_p3_12 mw_12) rfl rfl rfl (by decide +kernel) ⟨Nat.le_of_ble_eq_true rfl, Nat.le_of_ble_eq_true rfl⟩) (kRecvX (q0 := 0) (ci := 11) hK hP hD hN hXS hS hA rfl rfl [0, 1] rfl (by decide +kernel)) rfl rfl hl.1 rfl (lv_room (Nat.le_of_ble_eq_true rfl)) dX11_canRead_54 ⟨Nat.le_of_ble_eq_true rfl, Nat.le_of_ble_eq_true rfl⟩) hP hD hS hA [0, 1] [] rfl rfl (by decide +kernel) (by decide +kernel) ?_
        clear hP hD hS
        intro r_89 u_91 H locs w_90 hP hD hS
        replace hP : va_P D vwCl [(k, .inr (11, [.ref k0, .ref k1, .ref k2, .int c3, .ref k4, .ref k5, .ref k6, .ref k7, .ref k8, .int c9, .ref ka, .ref kb, .int cc, .int cd, .int ce, .int cf, .int cg, .int ch, .int ci, .int cj, .int ck, .ref kl, .int cm, .int cn, .ref ko])), (k0, .inl (cI, 1201, .inl c0))] H := hP
        replace hD : va_D A [(k, .inr (11, [.ref k0, .ref k1, .ref k2, .int c3, .ref k4, .ref k5, .ref k6, .ref k7, .ref k8, .int c9, .ref ka, .ref kb, .int cc, .int cd, .int ce, .int cf, .int cg, .int ch, .int ci, .int cj, .int ck, .ref kl, .int cm, .int cn, .ref ko])), (k0, .inl (cI, 1201, .inl c0))] := hD
        have h_92 := w_90
        have h_92 : r_89 = wW c0 a0 1 := h_92
        have t_93 : r_89.toInt = (wW c0 a0 1).toInt := by rw [h_92]
        have b_94 : 0 ≤ r_89.toInt ∧ r_89.toInt ≤ 39 := by rw [h_92]; exact SB.w1 pre0 (by omega) (by omega)
        have lo_r_89 := k_lo r_89
        have hi_r_89 := k_hi r_89
        refine lv_aload_n hx hb dX11_canRead_57 rfl (lv_at hl 1 rfl) ?_
        refine lv_iload_n hx hb dX11_canRead_58 rfl (lv_at hl 3 rfl) ?_
        refine lv_iconst (v := 1) hx hb dX11_canRead_59 (by decide +kernel) ?_
        refine kJi (wr := []) (va_runV (As := [.int a1, .int 1]) (rest := [.int r_89]) ⟨hx, hb, hml, hown, hT⟩ (c_X11_workG1 l D cI aK aV k k0 k1 k2 k4 k5 k6 k7 k8 ka kb kl ko H.size c3 c9 cc cd ce cf cg ch ci cj ck cm cn c0 a1 1 (by first | omega | (simp only [zl_1]; first | done | omega) | decide | assumption | rfl) (by first | omega | (simp only [zl_1]; first | done | omega) | decide | assumption | rfl) (by first | omega | (simp only [zl_1]; first | done | omega) | decide | assumption | rfl)) (cwV 2 hT (gV_in mw_1276 mw_1273 mw_1275 mw_p3_12 mw_12) rfl rfl rfl (by decide +kernel) ⟨Nat.le_of_ble_eq_true rfl, Nat.le_of_ble_eq_true rfl⟩) (kRecvX (q0 := 0) (ci := 11) hK hP hD hN hXS hS hA rfl rfl [0, 1] rfl (by decide +kernel)) rfl rfl hl.1 rfl (lv_room (Nat.le_of_ble_eq_true rfl)) dX11_canRead_60 ⟨Nat.le_of_ble_eq_true rfl, Nat.le_of_ble_eq_true rfl⟩) hP hD hS hA [0, 1] [] rfl rfl (by decide +kernel) (by decide +kernel) ?_
        clear hP hD hS
        intro r_95 u_97 H locs w_96 hP hD hS
        replace hP : va_P D vwCl [(k, .inr (11, [.ref k0, .ref k1, .ref k2, .int c3, .ref k4, .ref k5, .ref k6, .ref k7, .ref k8, .int c9, .ref ka, .ref kb, .int cc, .int cd, .int ce, .int cf, .int cg, .int ch, .int ci, .int cj, .int ck, .ref kl, .int cm, .int cn, .ref ko])), (k0, .inl (cI, 1201, .inl c0))] H := hP
        replace hD : va_D A [(k, .inr (11, [.ref k0, .ref k1, .ref k2, .int c3, .ref k4, .ref k5, .ref k6, .ref k7, .ref k8, .int c9, .ref ka, .ref kb, .int cc, .int cd, .int ce, .int cf, .int cg, .int ch, .int ci, .int cj, .int ck, .ref kl, .int cm, .int cn, .ref ko])), (k0, .inl (cI, 1201, .inl c0))] := hD
        have h_98 := w_96
        have h_98 : r_95 = wW c0 a1 1 := h_98
        have t_99 : r_95.toInt = (wW c0 a1 1).toInt := by rw [h_98]
        have b_100 : 0 ≤ r_95.toInt ∧ r_95.toInt ≤ 39 := by rw [h_98]; exact SB.w1 pre0 (by omega) (by omega)
        have lo_r_95 := k_lo r_95
        have hi_r_95 := k_hi r_95
        refine lv_iadd hx hb dX11_canRead_63 ?_
        refine lv_topi (fun v_101 ev_101 => ?_)
        have tv_101 : v_101.toInt = r_89.toInt + r_95.toInt := by rw [ev_101]; exact k_addv rfl rfl (by omega) (by omega)
        refine lv_iload_n hx hb dX11_canRead_64 rfl (lv_at hl 0 rfl) ?_
        refine lv_isub hx hb dX11_canRead_65 ?_
        refine lv_topi (fun v_102 ev_102 => ?_)
        have tv_102 : v_102.toInt = v_101.toInt - r_83.toInt := by rw [ev_102]; exact k_subv rfl rfl (by omega) (by omega)
        refine lv_istore (lv' := [(4, .int v_102), (3, .int r_83), (0, .ref k), (1, .int a0), (2, .int a1)]) hx hb dX11_canRead_66 hl (by decide +kernel) rfl ?_
        clear hl
        intro ls hl
        refine lv_iconst (v := 0) hx hb dX11_canRead_68 (by decide +kernel) ?_
        refine lv_istore (lv' := [(5, .int 0), (4, .int v_102), (3, .int r_83), (0, .ref k), (1, .int a0), (2, .int a1)]) hx hb dX11_canRead_69 hl (by decide +kernel) rfl ?_
        clear hl
        intro ls hl
        refine lv_iconst (v := 1) hx hb dX11_canRead_71 (by decide +kernel) ?_
        refine lv_istore (lv' := [(6, .int 1), (5, .int 0), (4, .int v_102), (3, .int r_83), (0, .ref k), (1, .int a0), (2, .int a1)]) hx hb dX11_canRead_72 hl (by decide +kernel) rfl ?_
        clear hl
        intro ls hl
        refine lv_iload_n hx hb dX11_canRead_74 rfl (lv_at hl 3 rfl) ?_
        refine lv_istore (lv' := [(7, .int r_83), (6, .int 1), (5, .int 0), (4, .int v_102), (3, .int r_83), (0, .ref k), (1, .int a0), (2, .int a1)]) hx hb dX11_canRead_75 hl (by decide +kernel) rfl ?_
        clear hl
        intro ls hl
        have hloop_77 : ∀ (fu_ : Nat) (l77_5 : Int32) (l77_6 : Int32) (l77_7 : Int32), l77_6.toInt ≤ 1 → r_83.toInt ≤ l77_7.toInt → r_83.toInt ≤ l77_7.toInt → l77_7.toInt ≤ v_102.toInt + 1 → (l77_6, l77_5) = CRS c0 r_83 v_102 (l77_7.toInt - r_83.toInt).toNat → (v_102.toInt + 1 - l77_7.toInt).toNat < fu_ → ∀ (ls : Array Slot) (H : Heap) (locs : List Loc), lv_has ls 9 [(7, .int l77_7), (6, .int l77_6), (5, .int l77_5), (4, .int v_102), (3, .int r_83), (0, .ref k), (1, .int a0), (2, .int a1)] → va_P D vwCl [(k, .inr (11, [.ref k0, .ref k1, .ref k2, .int c3, .ref k4, .ref k5, .ref k6, .ref k7, .ref k8, .int c9, .ref ka, .ref kb, .int cc, .int cd, .int ce, .int cf, .int cg, .int ch, .int ci, .int cj, .int ck, .ref kl, .int cm, .int cn, .ref ko])), (k0, .inl (cI, 1201, .inl c0))] H → va_D A [(k, .inr (11, [.ref k0, .ref k1, .ref k2, .int c3, .ref k4, .ref k5, .ref k6, .ref k7, .ref k8, .int c9, .ref ka, .ref kb, .int cc, .int cd, .int ce, .int cf, .int cg, .int ch, .int ci, .int cj, .int ck, .ref kl, .int cm, .int cn, .ref ko])), (k0, .inl (cI, 1201, .inl c0))] → va_S A s.heap H locs → W p l e ({ frames := 4, cells := 0, slots := 0, locals := 88 } : Room) s m args below meth c H locs 0 0 Q (F0 m 77 ls []) := by
          intro fu_; induction fu_ with
          | zero => intro l77_5 l77_6 l77_7 i77_0 i77_1 i77_2 i77_3 i77_4 hm; exact absurd hm (by omega)
          | succ fu_ ih77 =>
              intro l77_5 l77_6 l77_7 i77_0 i77_1 i77_2 i77_3 i77_4 hm ls H locs hl hP hD hS
              have lo_l77_5 := k_lo l77_5
              have hi_l77_5 := k_hi l77_5
              have lo_l77_6 := k_lo l77_6
              have hi_l77_6 := k_hi l77_6
              have lo_l77_7 := k_lo l77_7
              have hi_l77_7 := k_hi l77_7
              refine lv_iload hx hb dX11_canRead_77 (lv_at hl 0 rfl) ?_
              refine lv_iload hx hb dX11_canRead_79 (lv_at hl 3 rfl) ?_
              refine b_icmp_gt hx hb rfl rfl (tgt := 139) dX11_canRead_81 (by decide +kernel) (fun c_103 => ?_) (fun c_103 => ?_)
              · refine lv_iload hx hb dX11_canRead_139 (lv_at hl 1 rfl) ?_
                refine b_if_eq hx hb rfl (tgt := 160) dX11_canRead_141 (by decide +kernel) (fun c_104 => ?_) (fun c_104 => ?_)
                · refine lv_iconst (v := 0) hx hb dX11_canRead_160 (by decide +kernel) ?_
                  exact hRet () [0, 1] (Or.inr (⟨rfl, (crF_l (x := r_83) (y := r_95) (t := v_102) h_7 h_13 h_86 h_98 (by omega) (by subst_vars; rfl) (crEnd_in i77_4 (by omega) (by first | exact Or.inl ⟨by omega, by omega, rfl⟩ | exact Or.inr ⟨by omega, rfl⟩)))⟩)) hP hD (by decide +kernel) rfl hS rfl dX11_canRead_161
                · refine lv_iload hx hb dX11_canRead_144 (lv_at hl 2 rfl) ?_
                  refine lv_aload_n hx hb dX11_canRead_146 rfl (lv_at hl 5 rfl) ?_
                  refine va_get (D := D) (ci := 11) (v := .ref k0) (C := RX11) (T := TX11) (N := 25) hx hb hT giX11 hown hK hP 0 rfl rfl 0 (by decide +kernel) (hT (Cond.fieldLink RX11 9 "DesertWireModel" "s" "[I") mw_1156) (fun _ h9 => h9) rfl dX11_canRead_147 ?_
                  refine lv_bipush (v := 6) hx hb dX11_canRead_150 (by decide +kernel) ?_
                  refine k_iald (v := (c0 6)) hx hb hK hP 1 0 rfl rfl (k_inl (by decide +kernel)) rfl dX11_canRead_152 ?_
                  refine lv_topi (fun v_105 ev_105 => ?_)
                  have lo_v_105 := k_lo v_105
                  have hi_v_105 := k_hi v_105
                  have tv_105 : v_105.toInt = (c0 6).toInt := by rw [ev_105]
                  refine b_icmp_gt hx hb rfl rfl (tgt := 160) dX11_canRead_153 (by decide +kernel) (fun c_106 => ?_) (fun c_106 => ?_)
                  · refine lv_iconst (v := 0) hx hb dX11_canRead_160 (by decide +kernel) ?_
                    exact hRet () [0, 1] (Or.inr (⟨rfl, (crF_l (x := r_83) (y := r_95) (t := v_102) h_7 h_13 h_86 h_98 (by omega) (by subst_vars; rfl) (crEnd_in i77_4 (by omega) (by first | exact Or.inl ⟨by omega, by omega, rfl⟩ | exact Or.inr ⟨by omega, rfl⟩)))⟩)) hP hD (by decide +kernel) rfl hS rfl dX11_canRead_161
                  · refine lv_iconst (v := 1) hx hb dX11_canRead_156 (by decide +kernel) ?_
                    refine lv_goto (tgt := 161) hx hb dX11_canRead_157 (by decide +kernel) ?_
                    exact hRet () [0, 1] (Or.inl ⟨rfl, (crF_l (x := r_83) (y := r_95) (t := v_102) h_7 h_13 h_86 h_98 (by omega) (by subst_vars; rfl) (crEnd_in i77_4 (by omega) (by first | exact Or.inl ⟨by omega, by omega, rfl⟩ | exact Or.inr ⟨by omega, rfl⟩)))⟩) hP hD (by decide +kernel) rfl hS rfl dX11_canRead_161
              · refine lv_aload_n hx hb dX11_canRead_84 rfl (lv_at hl 5 rfl) ?_
                refine lv_iload hx hb dX11_canRead_85 (lv_at hl 0 rfl) ?_
                refine kJi (wr := []) (va_runV (As := [.int l77_7]) (rest := []) ⟨hx, hb, hml, hown, hT⟩ (c_X11_leakOfG l D cI aK aV k k0 k1 k2 k4 k5 k6 k7 k8 ka kb kl ko H.size c3 c9 cc cd ce cf cg ch ci cj ck cm cn c0 l77_7 pre0) (cwV 1 hT (gV_in mw_1372 mw_1369 mw_1371 mw_p4_14 mw_12) rfl rfl rfl (by decide +kernel) ⟨Nat.le_of_ble_eq_true rfl, Nat.le_of_ble_eq_true rfl⟩) (kRecvX (q0 := 0) (ci := 11) hK hP hD hN hXS hS hA rfl rfl [0, 1] rfl (by decide +kernel)) rfl rfl hl.1 rfl (lv_room (Nat.le_of_ble_eq_true rfl)) dX11_canRead_87 ⟨Nat.le_of_ble_eq_true rfl, Nat.le_of_ble_eq_true rfl⟩) hP hD hS hA [0, 1] [] rfl rfl (by decide +kernel) (by decide +kernel) ?_
                clear hP hD hS
                intro r_107 u_109 H locs w_108 hP hD hS
                replace hP : va_P D vwCl [(k, .inr (11, [.ref k0, .ref k1, .ref k2, .int c3, .ref k4, .ref k5, .ref k6, .ref k7, .ref k8, .int c9, .ref ka, .ref kb, .int cc, .int cd, .int ce, .int cf, .int cg, .int ch, .int ci, .int cj, .int ck, .ref kl, .int cm, .int cn, .ref ko])), (k0, .inl (cI, 1201, .inl c0))] H := hP
                replace hD : va_D A [(k, .inr (11, [.ref k0, .ref k1, .ref k2, .int c3, .ref k4, .ref k5, .ref k6, .ref k7, .ref k8, .int c9, .ref ka, .ref kb, .int cc, .int cd, .int ce, .int cf, .int cg, .int ch, .int ci, .int cj, .int ck, .ref kl, .int cm, .int cn, .ref ko])), (k0, .inl (cI, 1201, .inl c0))] := hD
                have h_110 := w_108
                have h_110 : r_107 = lkF c0 l77_7.toInt := h_110
                have lo_r_107 := k_lo r_107
                have hi_r_107 := k_hi r_107
                refine lv_istore (lv' := [(8, .int r_107), (7, .int l77_7), (6, .int l77_6), (5, .int l77_5), (4, .int v_102), (3, .int r_83), (0, .ref k), (1, .int a0), (2, .int a1)]) hx hb dX11_canRead_90 hl (by decide +kernel) rfl ?_
                clear hl
                intro ls hl
                refine lv_iload hx hb dX11_canRead_92 (lv_at hl 2 rfl) ?_
                refine b_if_eq hx hb rfl (tgt := 106) dX11_canRead_94 (by decide +kernel) (fun c_111 => ?_) (fun c_111 => ?_)
                · refine lv_iconst (v := 0) hx hb dX11_canRead_106 (by decide +kernel) ?_
                  refine lv_istore (lv' := [(6, .int 0), (8, .int r_107), (7, .int l77_7), (5, .int l77_5), (4, .int v_102), (3, .int r_83), (0, .ref k), (1, .int a0), (2, .int a1)]) hx hb dX11_canRead_107 hl (by decide +kernel) rfl ?_
                  clear hl
                  intro ls hl
                  refine lv_iload hx hb dX11_canRead_109 (lv_at hl 3 rfl) ?_
                  refine lv_iload hx hb dX11_canRead_111 (lv_at hl 2 rfl) ?_
                  refine lv_iload_n hx hb dX11_canRead_113 rfl (lv_at hl 5 rfl) ?_
                  refine b_icmp_le hx hb rfl rfl (tgt := 129) dX11_canRead_114 (by decide +kernel) (fun c_112 => ?_) (fun c_112 => ?_)
                  · refine lv_iconst (v := 0) hx hb dX11_canRead_129 (by decide +kernel) ?_
                    refine lv_iadd hx hb dX11_canRead_130 ?_
                    refine lv_topi (fun v_113 ev_113 => ?_)
                    have tv_113 : v_113.toInt = l77_5.toInt + 0 := by rw [ev_113]; exact k_addv rfl zl_0 (by omega) (by omega)
                    refine lv_istore (lv' := [(5, .int v_113), (6, .int 0), (8, .int r_107), (7, .int l77_7), (4, .int v_102), (3, .int r_83), (0, .ref k), (1, .int a0), (2, .int a1)]) hx hb dX11_canRead_131 hl (by decide +kernel) rfl ?_
                    clear hl
                    intro ls hl
                    obtain ⟨v_114, ev_114⟩ : ∃ y : Int32, y = l77_7 + 1 := ⟨_, rfl⟩
                    have tv_114 : v_114.toInt = l77_7.toInt + 1 := by rw [ev_114]; exact k_addv rfl zl_1 (by omega) (by omega)
                    refine lv_iinc (v := v_114) (lv' := [(7, .int v_114), (5, .int v_113), (6, .int 0), (8, .int r_107), (4, .int v_102), (3, .int r_83), (0, .ref k), (1, .int a0), (2, .int a1)]) hx hb dX11_canRead_133 hl (k := 3) rfl (by rw [ev_114]; rfl) (by decide +kernel) rfl ?_
                    clear hl
                    intro ls hl
                    refine lv_goto (tgt := 77) hx hb dX11_canRead_136 (by decide +kernel) ?_
                    exact ih77 v_113 0 v_114 (by first | omega | (simp only [zl_0]; first | done | omega) | decide | assumption | rfl) (by first | omega | (simp only [zl_0]; first | done | omega) | decide | assumption | rfl) (by first | omega | (simp only [zl_0]; first | done | omega) | decide | assumption | rfl) (by first | omega | (simp only [zl_0]; first | done | omega) | decide | assumption | rfl) (CRS_step (lk := r_107) (y := 0) i77_4 (by omega) (by omega) (by omega) h_110 (by first | exact Or.inl ⟨by omega, by omega, rfl⟩ | exact Or.inr ⟨by omega, rfl⟩) (by first | exact Or.inl ⟨by omega, by omega, rfl⟩ | exact Or.inr ⟨by omega, rfl⟩) ev_113) (by omega) ls _ _ (lv_sub hl [0, 2, 1, 4, 5, 6, 7, 8] rfl) (hP.sub [0, 1] rfl) (hD.sub [0, 1] (by decide +kernel) rfl) hS
                  · refine lv_iload hx hb dX11_canRead_117 (lv_at hl 2 rfl) ?_
                    refine lv_iload hx hb dX11_canRead_119 (lv_at hl 4 rfl) ?_
                    refine b_icmp_ge hx hb rfl rfl (tgt := 129) dX11_canRead_121 (by decide +kernel) (fun c_115 => ?_) (fun c_115 => ?_)
                    · refine lv_iconst (v := 0) hx hb dX11_canRead_129 (by decide +kernel) ?_
                      refine lv_iadd hx hb dX11_canRead_130 ?_
                      refine lv_topi (fun v_116 ev_116 => ?_)
                      have tv_116 : v_116.toInt = l77_5.toInt + 0 := by rw [ev_116]; exact k_addv rfl zl_0 (by omega) (by omega)
                      refine lv_istore (lv' := [(5, .int v_116), (6, .int 0), (8, .int r_107), (7, .int l77_7), (4, .int v_102), (3, .int r_83), (0, .ref k), (1, .int a0), (2, .int a1)]) hx hb dX11_canRead_131 hl (by decide +kernel) rfl ?_
                      clear hl
                      intro ls hl
                      obtain ⟨v_117, ev_117⟩ : ∃ y : Int32, y = l77_7 + 1 := ⟨_, rfl⟩
                      have tv_117 : v_117.toInt = l77_7.toInt + 1 := by rw [ev_117]; exact k_addv rfl zl_1 (by omega) (by omega)
                      refine lv_iinc (v := v_117) (lv' := [(7, .int v_117), (5, .int v_116), (6, .int 0), (8, .int r_107), (4, .int v_102), (3, .int r_83), (0, .ref k), (1, .int a0), (2, .int a1)]) hx hb dX11_canRead_133 hl (k := 3) rfl (by rw [ev_117]; rfl) (by decide +kernel) rfl ?_
                      clear hl
                      intro ls hl
                      refine lv_goto (tgt := 77) hx hb dX11_canRead_136 (by decide +kernel) ?_
                      exact ih77 v_116 0 v_117 (by first | omega | (simp only [zl_0]; first | done | omega) | decide | assumption | rfl) (by first | omega | (simp only [zl_0]; first | done | omega) | decide | assumption | rfl) (by first | omega | (simp only [zl_0]; first | done | omega) | decide | assumption | rfl) (by first | omega | (simp only [zl_0]; first | done | omega) | decide | assumption | rfl) (CRS_step (lk := r_107) (y := 0) i77_4 (by omega) (by omega) (by omega) h_110 (by first | exact Or.inl ⟨by omega, by omega, rfl⟩ | exact Or.inr ⟨by omega, rfl⟩) (by first | exact Or.inl ⟨by omega, by omega, rfl⟩ | exact Or.inr ⟨by omega, rfl⟩) ev_116) (by omega) ls _ _ (lv_sub hl [0, 2, 1, 4, 5, 6, 7, 8] rfl) (hP.sub [0, 1] rfl) (hD.sub [0, 1] (by decide +kernel) rfl) hS
                    · refine lv_iload hx hb dX11_canRead_124 (lv_at hl 1 rfl) ?_
                      refine lv_goto (tgt := 130) hx hb dX11_canRead_126 (by decide +kernel) ?_
                      refine lv_iadd hx hb dX11_canRead_130 ?_
                      refine lv_topi (fun v_118 ev_118 => ?_)
                      have lo_v_118 := k_lo v_118
                      have hi_v_118 := k_hi v_118
                      refine lv_istore (lv' := [(5, .int v_118), (6, .int 0), (8, .int r_107), (7, .int l77_7), (4, .int v_102), (3, .int r_83), (0, .ref k), (1, .int a0), (2, .int a1)]) hx hb dX11_canRead_131 hl (by decide +kernel) rfl ?_
                      clear hl
                      intro ls hl
                      obtain ⟨v_119, ev_119⟩ : ∃ y : Int32, y = l77_7 + 1 := ⟨_, rfl⟩
                      have tv_119 : v_119.toInt = l77_7.toInt + 1 := by rw [ev_119]; exact k_addv rfl zl_1 (by omega) (by omega)
                      refine lv_iinc (v := v_119) (lv' := [(7, .int v_119), (5, .int v_118), (6, .int 0), (8, .int r_107), (4, .int v_102), (3, .int r_83), (0, .ref k), (1, .int a0), (2, .int a1)]) hx hb dX11_canRead_133 hl (k := 3) rfl (by rw [ev_119]; rfl) (by decide +kernel) rfl ?_
                      clear hl
                      intro ls hl
                      refine lv_goto (tgt := 77) hx hb dX11_canRead_136 (by decide +kernel) ?_
                      exact ih77 v_118 0 v_119 (by first | omega | (simp only [zl_0]; first | done | omega) | decide | assumption | rfl) (by first | omega | (simp only [zl_0]; first | done | omega) | decide | assumption | rfl) (by first | omega | (simp only [zl_0]; first | done | omega) | decide | assumption | rfl) (by first | omega | (simp only [zl_0]; first | done | omega) | decide | assumption | rfl) (CRS_step (lk := r_107) (y := r_107) i77_4 (by omega) (by omega) (by omega) h_110 (by first | exact Or.inl ⟨by omega, by omega, rfl⟩ | exact Or.inr ⟨by omega, rfl⟩) (by first | exact Or.inl ⟨by omega, by omega, rfl⟩ | exact Or.inr ⟨by omega, rfl⟩) ev_118) (by omega) ls _ _ (lv_sub hl [0, 2, 1, 4, 5, 6, 7, 8] rfl) (hP.sub [0, 1] rfl) (hD.sub [0, 1] (by decide +kernel) rfl) hS
                · refine lv_iload hx hb dX11_canRead_97 (lv_at hl 0 rfl) ?_
                  refine b_if_lt hx hb rfl (tgt := 106) dX11_canRead_99 (by decide +kernel) (fun c_120 => ?_) (fun c_120 => ?_)
                  · refine lv_iconst (v := 0) hx hb dX11_canRead_106 (by decide +kernel) ?_
                    refine lv_istore (lv' := [(6, .int 0), (8, .int r_107), (7, .int l77_7), (5, .int l77_5), (4, .int v_102), (3, .int r_83), (0, .ref k), (1, .int a0), (2, .int a1)]) hx hb dX11_canRead_107 hl (by decide +kernel) rfl ?_
                    clear hl
                    intro ls hl
                    refine lv_iload hx hb dX11_canRead_109 (lv_at hl 3 rfl) ?_
                    refine lv_iload hx hb dX11_canRead_111 (lv_at hl 2 rfl) ?_
                    refine lv_iload_n hx hb dX11_canRead_113 rfl (lv_at hl 5 rfl) ?_
                    refine b_icmp_le hx hb rfl rfl (tgt := 129) dX11_canRead_114 (by decide +kernel) (fun c_121 => ?_) (fun c_121 => ?_)
                    · refine lv_iconst (v := 0) hx hb dX11_canRead_129 (by decide +kernel) ?_
                      refine lv_iadd hx hb dX11_canRead_130 ?_
                      refine lv_topi (fun v_122 ev_122 => ?_)
                      have tv_122 : v_122.toInt = l77_5.toInt + 0 := by rw [ev_122]; exact k_addv rfl zl_0 (by omega) (by omega)
                      refine lv_istore (lv' := [(5, .int v_122), (6, .int 0), (8, .int r_107), (7, .int l77_7), (4, .int v_102), (3, .int r_83), (0, .ref k), (1, .int a0), (2, .int a1)]) hx hb dX11_canRead_131 hl (by decide +kernel) rfl ?_
                      clear hl
                      intro ls hl
                      obtain ⟨v_123, ev_123⟩ : ∃ y : Int32, y = l77_7 + 1 := ⟨_, rfl⟩
                      have tv_123 : v_123.toInt = l77_7.toInt + 1 := by rw [ev_123]; exact k_addv rfl zl_1 (by omega) (by omega)
                      refine lv_iinc (v := v_123) (lv' := [(7, .int v_123), (5, .int v_122), (6, .int 0), (8, .int r_107), (4, .int v_102), (3, .int r_83), (0, .ref k), (1, .int a0), (2, .int a1)]) hx hb dX11_canRead_133 hl (k := 3) rfl (by rw [ev_123]; rfl) (by decide +kernel) rfl ?_
                      clear hl
                      intro ls hl
                      refine lv_goto (tgt := 77) hx hb dX11_canRead_136 (by decide +kernel) ?_
                      exact ih77 v_122 0 v_123 (by first | omega | (simp only [zl_0]; first | done | omega) | decide | assumption | rfl) (by first | omega | (simp only [zl_0]; first | done | omega) | decide | assumption | rfl) (by first | omega | (simp only [zl_0]; first | done | omega) | decide | assumption | rfl) (by first | omega | (simp only [zl_0]; first | done | omega) | decide | assumption | rfl) (CRS_step (lk := r_107) (y := 0) i77_4 (by omega) (by omega) (by omega) h_110 (by first | exact Or.inl ⟨by omega, by omega, rfl⟩ | exact Or.inr ⟨by omega, rfl⟩) (by first | exact Or.inl ⟨by omega, by omega, rfl⟩ | exact Or.inr ⟨by omega, rfl⟩) ev_122) (by omega) ls _ _ (lv_sub hl [0, 2, 1, 4, 5, 6, 7, 8] rfl) (hP.sub [0, 1] rfl) (hD.sub [0, 1] (by decide +kernel) rfl) hS
                    · refine lv_iload hx hb dX11_canRead_117 (lv_at hl 2 rfl) ?_
                      refine lv_iload hx hb dX11_canRead_119 (lv_at hl 4 rfl) ?_
                      refine b_icmp_ge hx hb rfl rfl (tgt := 129) dX11_canRead_121 (by decide +kernel) (fun c_124 => ?_) (fun c_124 => ?_)
                      · refine lv_iconst (v := 0) hx hb dX11_canRead_129 (by decide +kernel) ?_
                        refine lv_iadd hx hb dX11_canRead_130 ?_
                        refine lv_topi (fun v_125 ev_125 => ?_)
                        have tv_125 : v_125.toInt = l77_5.toInt + 0 := by rw [ev_125]; exact k_addv rfl zl_0 (by omega) (by omega)
                        refine lv_istore (lv' := [(5, .int v_125), (6, .int 0), (8, .int r_107), (7, .int l77_7), (4, .int v_102), (3, .int r_83), (0, .ref k), (1, .int a0), (2, .int a1)]) hx hb dX11_canRead_131 hl (by decide +kernel) rfl ?_
                        clear hl
                        intro ls hl
                        obtain ⟨v_126, ev_126⟩ : ∃ y : Int32, y = l77_7 + 1 := ⟨_, rfl⟩
                        have tv_126 : v_126.toInt = l77_7.toInt + 1 := by rw [ev_126]; exact k_addv rfl zl_1 (by omega) (by omega)
                        refine lv_iinc (v := v_126) (lv' := [(7, .int v_126), (5, .int v_125), (6, .int 0), (8, .int r_107), (4, .int v_102), (3, .int r_83), (0, .ref k), (1, .int a0), (2, .int a1)]) hx hb dX11_canRead_133 hl (k := 3) rfl (by rw [ev_126]; rfl) (by decide +kernel) rfl ?_
                        clear hl
                        intro ls hl
                        refine lv_goto (tgt := 77) hx hb dX11_canRead_136 (by decide +kernel) ?_
                        exact ih77 v_125 0 v_126 (by first | omega | (simp only [zl_0]; first | done | omega) | decide | assumption | rfl) (by first | omega | (simp only [zl_0]; first | done | omega) | decide | assumption | rfl) (by first | omega | (simp only [zl_0]; first | done | omega) | decide | assumption | rfl) (by first | omega | (simp only [zl_0]; first | done | omega) | decide | assumption | rfl) (CRS_step (lk := r_107) (y := 0) i77_4 (by omega) (by omega) (by omega) h_110 (by first | exact Or.inl ⟨by omega, by omega, rfl⟩ | exact Or.inr ⟨by omega, rfl⟩) (by first | exact Or.inl ⟨by omega, by omega, rfl⟩ | exact Or.inr ⟨by omega, rfl⟩) ev_125) (by omega) ls _ _ (lv_sub hl [0, 2, 1, 4, 5, 6, 7, 8] rfl) (hP.sub [0, 1] rfl) (hD.sub [0, 1] (by decide +kernel) rfl) hS
                      · refine lv_iload hx hb dX11_canRead_124 (lv_at hl 1 rfl) ?_
                        refine lv_goto (tgt := 130) hx hb dX11_canRead_126 (by decide +kernel) ?_
                        refine lv_iadd hx hb dX11_canRead_130 ?_
                        refine lv_topi (fun v_127 ev_127 => ?_)
                        have lo_v_127 := k_lo v_127
                        have hi_v_127 := k_hi v_127
                        refine lv_istore (lv' := [(5, .int v_127), (6, .int 0), (8, .int r_107), (7, .int l77_7), (4, .int v_102), (3, .int r_83), (0, .ref k), (1, .int a0), (2, .int a1)]) hx hb dX11_canRead_131 hl (by decide +kernel) rfl ?_
                        clear hl
                        intro ls hl
                        obtain ⟨v_128, ev_128⟩ : ∃ y : Int32, y = l77_7 + 1 := ⟨_, rfl⟩
                        have tv_128 : v_128.toInt = l77_7.toInt + 1 := by rw [ev_128]; exact k_addv rfl zl_1 (by omega) (by omega)
                        refine lv_iinc (v := v_128) (lv' := [(7, .int v_128), (5, .int v_127), (6, .int 0), (8, .int r_107), (4, .int v_102), (3, .int r_83), (0, .ref k), (1, .int a0), (2, .int a1)]) hx hb dX11_canRead_133 hl (k := 3) rfl (by rw [ev_128]; rfl) (by decide +kernel) rfl ?_
                        clear hl
                        intro ls hl
                        refine lv_goto (tgt := 77) hx hb dX11_canRead_136 (by decide +kernel) ?_
                        exact ih77 v_127 0 v_128 (by first | omega | (simp only [zl_0]; first | done | omega) | decide | assumption | rfl) (by first | omega | (simp only [zl_0]; first | done | omega) | decide | assumption | rfl) (by first | omega | (simp only [zl_0]; first | done | omega) | decide | assumption | rfl) (by first | omega | (simp only [zl_0]; first | done | omega) | decide | assumption | rfl) (CRS_step (lk := r_107) (y := r_107) i77_4 (by omega) (by omega) (by omega) h_110 (by first | exact Or.inl ⟨by omega, by omega, rfl⟩ | exact Or.inr ⟨by omega, rfl⟩) (by first | exact Or.inl ⟨by omega, by omega, rfl⟩ | exact Or.inr ⟨by omega, rfl⟩) ev_127) (by omega) ls _ _ (lv_sub hl [0, 2, 1, 4, 5, 6, 7, 8] rfl) (hP.sub [0, 1] rfl) (hD.sub [0, 1] (by decide +kernel) rfl) hS
                  · refine lv_iconst (v := 1) hx hb dX11_canRead_102 (by decide +kernel) ?_
                    refine lv_goto (tgt := 107) hx hb dX11_canRead_103 (by decide +kernel) ?_
                    refine lv_istore (lv' := [(6, .int 1), (8, .int r_107), (7, .int l77_7), (5, .int l77_5), (4, .int v_102), (3, .int r_83), (0, .ref k), (1, .int a0), (2, .int a1)]) hx hb dX11_canRead_107 hl (by decide +kernel) rfl ?_
                    clear hl
                    intro ls hl
                    refine lv_iload hx hb dX11_canRead_109 (lv_at hl 3 rfl) ?_
                    refine lv_iload hx hb dX11_canRead_111 (lv_at hl 2 rfl) ?_
                    refine lv_iload_n hx hb dX11_canRead_113 rfl (lv_at hl 5 rfl) ?_
                    refine b_icmp_le hx hb rfl rfl (tgt := 129) dX11_canRead_114 (by decide +kernel) (fun c_129 => ?_) (fun c_129 => ?_)
                    · refine lv_iconst (v := 0) hx hb dX11_canRead_129 (by decide +kernel) ?_
                      refine lv_iadd hx hb dX11_canRead_130 ?_
                      refine lv_topi (fun v_130 ev_130 => ?_)
                      have tv_130 : v_130.toInt = l77_5.toInt + 0 := by rw [ev_130]; exact k_addv rfl zl_0 (by omega) (by omega)
                      refine lv_istore (lv' := [(5, .int v_130), (6, .int 1), (8, .int r_107), (7, .int l77_7), (4, .int v_102), (3, .int r_83), (0, .ref k), (1, .int a0), (2, .int a1)]) hx hb dX11_canRead_131 hl (by decide +kernel) rfl ?_
                      clear hl
                      intro ls hl
                      obtain ⟨v_131, ev_131⟩ : ∃ y : Int32, y = l77_7 + 1 := ⟨_, rfl⟩
                      have tv_131 : v_131.toInt = l77_7.toInt + 1 := by rw [ev_131]; exact k_addv rfl zl_1 (by omega) (by omega)
                      refine lv_iinc (v := v_131) (lv' := [(7, .int v_131), (5, .int v_130), (6, .int 1), (8, .int r_107), (4, .int v_102), (3, .int r_83), (0, .ref k), (1, .int a0), (2, .int a1)]) hx hb dX11_canRead_133 hl (k := 3) rfl (by rw [ev_131]; rfl) (by decide +kernel) rfl ?_
                      clear hl
                      intro ls hl
                      refine lv_goto (tgt := 77) hx hb dX11_canRead_136 (by decide +kernel) ?_
                      exact ih77 v_130 1 v_131 (by first | omega | (simp only [zl_1]; first | done | omega) | decide | assumption | rfl) (by first | omega | (simp only [zl_1]; first | done | omega) | decide | assumption | rfl) (by first | omega | (simp only [zl_1]; first | done | omega) | decide | assumption | rfl) (by first | omega | (simp only [zl_1]; first | done | omega) | decide | assumption | rfl) (CRS_step (lk := r_107) (y := 0) i77_4 (by omega) (by omega) (by omega) h_110 (by first | exact Or.inl ⟨by omega, by omega, rfl⟩ | exact Or.inr ⟨by omega, rfl⟩) (by first | exact Or.inl ⟨by omega, by omega, rfl⟩ | exact Or.inr ⟨by omega, rfl⟩) ev_130) (by omega) ls _ _ (lv_sub hl [0, 2, 1, 4, 5, 6, 7, 8] rfl) (hP.sub [0, 1] rfl) (hD.sub [0, 1] (by decide +kernel) rfl) hS
                    · refine lv_iload hx hb dX11_canRead_117 (lv_at hl 2 rfl) ?_
                      refine lv_iload hx hb dX11_canRead_119 (lv_at hl 4 rfl) ?_
                      refine b_icmp_ge hx hb rfl rfl (tgt := 129) dX11_canRead_121 (by decide +kernel) (fun c_132 => ?_) (fun c_132 => ?_)
                      · refine lv_iconst (v := 0) hx hb dX11_canRead_129 (by decide +kernel) ?_
                        refine lv_iadd hx hb dX11_canRead_130 ?_
                        refine lv_topi (fun v_133 ev_133 => ?_)
                        have tv_133 : v_133.toInt = l77_5.toInt + 0 := by rw [ev_133]; exact k_addv rfl zl_0 (by omega) (by omega)
                        refine lv_istore (lv' := [(5, .int v_133), (6, .int 1), (8, .int r_107), (7, .int l77_7), (4, .int v_102), (3, .int r_83), (0, .ref k), (1, .int a0), (2, .int a1)]) hx hb dX11_canRead_131 hl (by decide +kernel) rfl ?_
                        clear hl
                        intro ls hl
                        obtain ⟨v_134, ev_134⟩ : ∃ y : Int32, y = l77_7 + 1 := ⟨_, rfl⟩
                        have tv_134 : v_134.toInt = l77_7.toInt + 1 := by rw [ev_134]; exact k_addv rfl zl_1 (by omega) (by omega)
                        refine lv_iinc (v := v_134) (lv' := [(7, .int v_134), (5, .int v_133), (6, .int 1), (8, .int r_107), (4, .int v_102), (3, .int r_83), (0, .ref k), (1, .int a0), (2, .int a1)]) hx hb dX11_canRead_133 hl (k := 3) rfl (by rw [ev_134]; rfl) (by decide +kernel) rfl ?_
                        clear hl
                        intro ls hl
                        refine lv_goto (tgt := 77) hx hb dX11_canRead_136 (by decide +kernel) ?_
                        exact ih77 v_133 1 v_134 (by first | omega | (simp only [zl_1]; first | done | omega) | decide | assumption | rfl) (by first | omega | (simp only [zl_1]; first | done | omega) | decide | assumption | rfl) (by first | omega | (simp only [zl_1]; first | done | omega) | decide | assumption | rfl) (by first | omega | (simp only [zl_1]; first | done | omega) | decide | assumption | rfl) (CRS_step (lk := r_107) (y := 0) i77_4 (by omega) (by omega) (by omega) h_110 (by first | exact Or.inl ⟨by omega, by omega, rfl⟩ | exact Or.inr ⟨by omega, rfl⟩) (by first | exact Or.inl ⟨by omega, by omega, rfl⟩ | exact Or.inr ⟨by omega, rfl⟩) ev_133) (by omega) ls _ _ (lv_sub hl [0, 2, 1, 4, 5, 6, 7, 8] rfl) (hP.sub [0, 1] rfl) (hD.sub [0, 1] (by decide +kernel) rfl) hS
                      · refine lv_iload hx hb dX11_canRead_124 (lv_at hl 1 rfl) ?_
                        refine lv_goto (tgt := 130) hx hb dX11_canRead_126 (by decide +kernel) ?_
                        refine lv_iadd hx hb dX11_canRead_130 ?_
                        refine lv_topi (fun v_135 ev_135 => ?_)
                        have lo_v_135 := k_lo v_135
                        have hi_v_135 := k_hi v_135
                        refine lv_istore (lv' := [(5, .int v_135), (6, .int 1), (8, .int r_107), (7, .int l77_7), (4, .int v_102), (3, .int r_83), (0, .ref k), (1, .int a0), (2, .int a1)]) hx hb dX11_canRead_131 hl (by decide +kernel) rfl ?_
                        clear hl
                        intro ls hl
                        obtain ⟨v_136, ev_136⟩ : ∃ y : Int32, y = l77_7 + 1 := ⟨_, rfl⟩
                        have tv_136 : v_136.toInt = l77_7.toInt + 1 := by rw [ev_136]; exact k_addv rfl zl_1 (by omega) (by omega)
                        refine lv_iinc (v := v_136) (lv' := [(7, .int v_136), (5, .int v_135), (6, .int 1), (8, .int r_107), (4, .int v_102), (3, .int r_83), (0, .ref k), (1, .int a0), (2, .int a1)]) hx hb dX11_canRead_133 hl (k := 3) rfl (by rw [ev_136]; rfl) (by decide +kernel) rfl ?_
                        clear hl
                        intro ls hl
                        refine lv_goto (tgt := 77) hx hb dX11_canRead_136 (by decide +kernel) ?_
                        exact ih77 v_135 1 v_136 (by first | omega | (simp only [zl_1]; first | done | omega) | decide | assumption | rfl) (by first | omega | (simp only [zl_1]; first | done | omega) | decide | assumption | rfl) (by first | omega | (simp only [zl_1]; first | done | omega) | decide | assumption | rfl) (by first | omega | (simp only [zl_1]; first | done | omega) | decide | assumption | rfl) (CRS_step (lk := r_107) (y := r_107) i77_4 (by omega) (by omega) (by omega) h_110 (by first | exact Or.inl ⟨by omega, by omega, rfl⟩ | exact Or.inr ⟨by omega, rfl⟩) (by first | exact Or.inl ⟨by omega, by omega, rfl⟩ | exact Or.inr ⟨by omega, rfl⟩) ev_135) (by omega) ls _ _ (lv_sub hl [0, 2, 1, 4, 5, 6, 7, 8] rfl) (hP.sub [0, 1] rfl) (hD.sub [0, 1] (by decide +kernel) rfl) hS
        exact hloop_77 _ 0 1 r_83 (by first | omega | (simp only [zl_0, zl_1]; first | done | omega) | decide | assumption | rfl) (by first | omega | (simp only [zl_0, zl_1]; first | done | omega) | decide | assumption | rfl) (by first | omega | (simp only [zl_0, zl_1]; first | done | omega) | decide | assumption | rfl) (by first | omega | (simp only [zl_0, zl_1]; first | done | omega) | decide | assumption | rfl) (CRS_zero rfl rfl rfl) (Nat.lt_succ_self _) ls _ _ (lv_sub hl [0, 1, 2, 3, 4, 5, 6, 7] rfl) hP hD hS
    · try simp only [zl_3] at h_14
      have h_14 : stF c0 a1 3 = 0 := h_14
      obtain rfl : r_10 = 0 := hr_10.trans (by decide +kernel)
      refine b_if_ne hx hb zl_0 (tgt := 20) dX11_canRead_15 (by decide +kernel) (fun c_137 => by exfalso; omega) (fun c_137 => ?_)
      refine lv_iconst (v := 0) hx hb dX11_canRead_18 (by decide +kernel) ?_
      exact hRet () [0, 1] (Or.inr (⟨rfl, (crF_n (Or.inr h_14))⟩)) hP hD (by decide +kernel) rfl hS rfl dX11_canRead_19
  · try simp only [zl_3] at h_8
    have h_8 : stF c0 a0 3 = 0 := h_8
    obtain rfl : r_4 = 0 := hr_4.trans (by decide +kernel)
    refine b_if_eq hx hb zl_0 (tgt := 18) dX11_canRead_6 (by decide +kernel) (fun c_138 => ?_) (fun c_138 => by exfalso; omega)
    refine lv_iconst (v := 0) hx hb dX11_canRead_18 (by decide +kernel) ?_
    exact hRet () [0, 1] (Or.inr (⟨rfl, (crF_n (Or.inl h_8))⟩)) hP hD (by decide +kernel) rfl hS rfl dX11_canRead_19
theorem bn_cX11_reads_0 : BN cX11_reads 0 0x15a0402805500504005348300adc3a1c15ab482015b950262b0580540071c0056e040e8ac1c015081c70015b810382b5690402b72004c560b00a843a1c04805345100adc3a2b08805345100adc382b := by
  unfold BN; decide +kernel
theorem dX11_reads_0 : decode cX11_reads 0 = .ok (.aload_n 0, 1) := dR0 (k := 0) (i := 0) bn_cX11_reads_0 dop_42 (by decide +kernel)
theorem dX11_reads_1 : decode cX11_reads 1 = .ok (.iload_n 1, 1) := dR0 (k := 0) (i := 1) bn_cX11_reads_0 dop_27 (by decide +kernel)
theorem dX11_reads_2 : decode cX11_reads 2 = .ok (.invokevirtual 80, 3) := dR2 (f := Instr.invokevirtual) (k := 0) (i := 2) bn_cX11_reads_0 dop_182 80 (by decide +kernel)
theorem dX11_reads_5 : decode cX11_reads 5 = .ok (.ifCond .eq 16, 3) := dR2s (f := Instr.ifCond .eq) (k := 0) (i := 5) bn_cX11_reads_0 dop_153 16 16 (by decide +kernel)
theorem dX11_reads_8 : decode cX11_reads 8 = .ok (.aload_n 0, 1) := dR0 (k := 0) (i := 8) bn_cX11_reads_0 dop_42 (by decide +kernel)
theorem dX11_reads_9 : decode cX11_reads 9 = .ok (.iload_n 2, 1) := dR0 (k := 0) (i := 9) bn_cX11_reads_0 dop_28 (by decide +kernel)
theorem dX11_reads_10 : decode cX11_reads 10 = .ok (.invokevirtual 80, 3) := dR2 (f := Instr.invokevirtual) (k := 0) (i := 10) bn_cX11_reads_0 dop_182 80 (by decide +kernel)
theorem dX11_reads_13 : decode cX11_reads 13 = .ok (.ifCond .eq 8, 3) := dR2s (f := Instr.ifCond .eq) (k := 0) (i := 13) bn_cX11_reads_0 dop_153 8 8 (by decide +kernel)
theorem dX11_reads_16 : decode cX11_reads 16 = .ok (.iload_n 1, 1) := dR0 (k := 0) (i := 16) bn_cX11_reads_0 dop_27 (by decide +kernel)
theorem dX11_reads_17 : decode cX11_reads 17 = .ok (.iload_n 2, 1) := dR0 (k := 0) (i := 17) bn_cX11_reads_0 dop_28 (by decide +kernel)
theorem dX11_reads_18 : decode cX11_reads 18 = .ok (.if_icmp .ne 10, 3) := dR2s (f := Instr.if_icmp .ne) (k := 0) (i := 18) bn_cX11_reads_0 dop_160 10 10 (by decide +kernel)
theorem dX11_reads_21 : decode cX11_reads 21 = .ok (.aload_n 0, 1) := dR0 (k := 0) (i := 21) bn_cX11_reads_0 dop_42 (by decide +kernel)
theorem dX11_reads_22 : decode cX11_reads 22 = .ok (.ldc 63, 2) := dR1 (f := Instr.ldc) (k := 0) (i := 22) bn_cX11_reads_0 dop_18 63 (by decide +kernel)
theorem dX11_reads_24 : decode cX11_reads 24 = .ok (.invokevirtual 64, 3) := dR2 (f := Instr.invokevirtual) (k := 0) (i := 24) bn_cX11_reads_0 dop_182 64 (by decide +kernel)
theorem dX11_reads_27 : decode cX11_reads 27 = .ok (.ireturn, 1) := dR0 (k := 0) (i := 27) bn_cX11_reads_0 dop_172 (by decide +kernel)
theorem dX11_reads_28 : decode cX11_reads 28 = .ok (.aload_n 0, 1) := dR0 (k := 0) (i := 28) bn_cX11_reads_0 dop_42 (by decide +kernel)
theorem dX11_reads_29 : decode cX11_reads 29 = .ok (.iload_n 1, 1) := dR0 (k := 0) (i := 29) bn_cX11_reads_0 dop_27 (by decide +kernel)
theorem dX11_reads_30 : decode cX11_reads 30 = .ok (.iconst 0, 1) := dR0 (k := 0) (i := 30) bn_cX11_reads_0 dop_3 (by decide +kernel)
theorem dX11_reads_31 : decode cX11_reads 31 = .ok (.invokevirtual 55, 3) := dR2 (f := Instr.invokevirtual) (k := 0) (i := 31) bn_cX11_reads_0 dop_182 55 (by decide +kernel)
theorem dX11_reads_34 : decode cX11_reads 34 = .ok (.iconst 3, 1) := dR0 (k := 0) (i := 34) bn_cX11_reads_0 dop_6 (by decide +kernel)
theorem dX11_reads_35 : decode cX11_reads 35 = .ok (.if_icmp .ne 13, 3) := dR2s (f := Instr.if_icmp .ne) (k := 0) (i := 35) bn_cX11_reads_0 dop_160 13 13 (by decide +kernel)
theorem dX11_reads_38 : decode cX11_reads 38 = .ok (.aload_n 0, 1) := dR0 (k := 0) (i := 38) bn_cX11_reads_0 dop_42 (by decide +kernel)
theorem dX11_reads_39 : decode cX11_reads 39 = .ok (.iload_n 2, 1) := dR0 (k := 0) (i := 39) bn_cX11_reads_0 dop_28 (by decide +kernel)
theorem dX11_reads_40 : decode cX11_reads 40 = .ok (.iconst 0, 1) := dR0 (k := 0) (i := 40) bn_cX11_reads_0 dop_3 (by decide +kernel)
theorem dX11_reads_41 : decode cX11_reads 41 = .ok (.invokevirtual 55, 3) := dR2 (f := Instr.invokevirtual) (k := 0) (i := 41) bn_cX11_reads_0 dop_182 55 (by decide +kernel)
theorem dX11_reads_44 : decode cX11_reads 44 = .ok (.iconst 3, 1) := dR0 (k := 0) (i := 44) bn_cX11_reads_0 dop_6 (by decide +kernel)
theorem dX11_reads_45 : decode cX11_reads 45 = .ok (.if_icmp .eq 10, 3) := dR2s (f := Instr.if_icmp .eq) (k := 0) (i := 45) bn_cX11_reads_0 dop_159 10 10 (by decide +kernel)
theorem dX11_reads_48 : decode cX11_reads 48 = .ok (.aload_n 0, 1) := dR0 (k := 0) (i := 48) bn_cX11_reads_0 dop_42 (by decide +kernel)
theorem dX11_reads_49 : decode cX11_reads 49 = .ok (.ldc 83, 2) := dR1 (f := Instr.ldc) (k := 0) (i := 49) bn_cX11_reads_0 dop_18 83 (by decide +kernel)
theorem dX11_reads_51 : decode cX11_reads 51 = .ok (.invokevirtual 64, 3) := dR2 (f := Instr.invokevirtual) (k := 0) (i := 51) bn_cX11_reads_0 dop_182 64 (by decide +kernel)
theorem dX11_reads_54 : decode cX11_reads 54 = .ok (.ireturn, 1) := dR0 (k := 0) (i := 54) bn_cX11_reads_0 dop_172 (by decide +kernel)
theorem dX11_reads_55 : decode cX11_reads 55 = .ok (.aload_n 0, 1) := dR0 (k := 0) (i := 55) bn_cX11_reads_0 dop_42 (by decide +kernel)
theorem dX11_reads_56 : decode cX11_reads 56 = .ok (.iload_n 1, 1) := dR0 (k := 0) (i := 56) bn_cX11_reads_0 dop_27 (by decide +kernel)
theorem dX11_reads_57 : decode cX11_reads 57 = .ok (.iload_n 2, 1) := dR0 (k := 0) (i := 57) bn_cX11_reads_0 dop_28 (by decide +kernel)
theorem dX11_reads_58 : decode cX11_reads 58 = .ok (.invokevirtual 130, 3) := dR2 (f := Instr.invokevirtual) (k := 0) (i := 58) bn_cX11_reads_0 dop_182 130 (by decide +kernel)
theorem dX11_reads_61 : decode cX11_reads 61 = .ok (.ifCond .eq 7, 3) := dR2s (f := Instr.ifCond .eq) (k := 0) (i := 61) bn_cX11_reads_0 dop_153 7 7 (by decide +kernel)
theorem dX11_reads_64 : decode cX11_reads 64 = .ok (.iconst 1, 1) := dR0 (k := 0) (i := 64) bn_cX11_reads_0 dop_4 (by decide +kernel)
theorem dX11_reads_65 : decode cX11_reads 65 = .ok (.goto 4, 3) := dR2s (f := Instr.goto) (k := 0) (i := 65) bn_cX11_reads_0 dop_167 4 4 (by decide +kernel)
theorem dX11_reads_68 : decode cX11_reads 68 = .ok (.iconst 0, 1) := dR0 (k := 0) (i := 68) bn_cX11_reads_0 dop_3 (by decide +kernel)
theorem dX11_reads_69 : decode cX11_reads 69 = .ok (.ireturn, 1) := dR0 (k := 0) (i := 69) bn_cX11_reads_0 dop_172 (by decide +kernel)
set_option maxHeartbeats 4000000 in
set_option maxRecDepth 100000 in
theorem c_X11_readsG (l : Launch) (D : va_G) (cI : ClassId) (aK aV : Nat → Nat) (k k0 k1 k2 k4 k5 k6 k7 k8 ka kb kl ko : Nat) (sz : Nat) (c3 : Int32) (c9 : Int32) (cc : Int32) (cd : Int32) (ce : Int32) (cf : Int32) (cg : Int32) (ch : Int32) (ci : Int32) (cj : Int32) (ck : Int32) (cm : Int32) (cn : Int32) (c0 : Nat → Int32) (c4 : Nat → Int32) (a0 : Int32) (a1 : Int32) (pre0 : SB c0) : Met l yX11_reads (gW yX11_reads cX11_reads 3 (some .int)) ({ frames := 5, cells := 0, slots := 0, locals := 116 } : Room) (kPreX D cI aK aV [.ref k, .int a0, .int a1] [(k, .inr (11, [.ref k0, .ref k1, .ref k2, .int c3, .ref k4, .ref k5, .ref k6, .ref k7, .ref k8, .int c9, .ref ka, .ref kb, .int cc, .int cd, .int ce, .int cf, .int cg, .int ch, .int ci, .int cj, .int ck, .ref kl, .int cm, .int cn, .ref ko])), (k0, .inl (cI, 1201, .inl c0)), (k4, .inl (cI, 6, .inl c4))] sz) (va_Qi (fun (r : Int32) (u : (Nat → Int32)) => True) (fun u t => kWd D cI (va_A [(k, .inr (11, [.ref k0, .ref k1, .ref k2, .int c3, .ref k4, .ref k5, .ref k6, .ref k7, .ref k8, .int c9, .ref ka, .ref kb, .int cc, .int cd, .int ce, .int cf, .int cg, .int ch, .int ci, .int cj, .int ck, .ref kl, .int cm, .int cn, .ref ko])), (k0, .inl (cI, 1201, .inl c0)), (k4, .inl (cI, 6, .inl c4))] sz) [(k, .inr (11, [.ref k0, .ref k1, .ref k2, .int c3, .ref k4, .ref k5, .ref k6, .ref k7, .ref k8, .int c9, .ref ka, .ref kb, .int cc, .int cd, .int ce, .int cf, .int cg, .int ch, .int ci, .int cj, .int ck, .ref kl, .int cm, .int cn, .ref ko])), (k0, .inl (cI, 1201, .inl c0)), (k4, .inl (cI, 6, .inl u))] t) (va_A [(k, .inr (11, [.ref k0, .ref k1, .ref k2, .int c3, .ref k4, .ref k5, .ref k6, .ref k7, .ref k8, .int c9, .ref ka, .ref kb, .int cc, .int cd, .int ce, .int cf, .int cg, .int ch, .int ci, .int cj, .int ck, .ref kl, .int cm, .int cn, .ref ko])), (k0, .inl (cI, 1201, .inl c0)), (k4, .inl (cI, 6, .inl c4))] sz)) 0 0 (va_A [(k, .inr (11, [.ref k0, .ref k1, .ref k2, .int c3, .ref k4, .ref k5, .ref k6, .ref k7, .ref k8, .int c9, .ref ka, .ref kb, .int cc, .int cd, .int ce, .int cf, .int cg, .int ch, .int ci, .int cj, .int ck, .ref kl, .int cm, .int cn, .ref ko])), (k0, .inl (cI, 1201, .inl c0)), (k4, .inl (cI, 6, .inl c4))] sz) := by
  refine kMetIX (own := RX11) (by decide +kernel) rfl (Nat.le_of_ble_eq_true rfl) ?_
  intro p e s m args below meth c hx hb hT hown hname hml A Q hK hP hD hS hA hN hXS hRet ls hl
  have hl : lv_has ls 3 [(0, .ref k), (1, .int a0), (2, .int a1)] := hl
  have lo_a0 := k_lo a0
  have hi_a0 := k_hi a0
  have lo_a1 := k_lo a1
  have hi_a1 := k_hi a1
  have lo_ci := k_lo ci
  have hi_ci := k_hi ci
  have pre0 : SB c0 := pre0
  have nb_1 : 0 ≤ (c0 0).toInt ∧ (c0 0).toInt ≤ 2000 := SB.n0 pre0
  have nb_2 : 0 ≤ (c0 1).toInt ∧ (c0 1).toInt ≤ 60 := SB.n1 pre0
  have nb_3 : 0 ≤ (c0 2).toInt ∧ (c0 2).toInt ≤ 4 := SB.n2 pre0
  refine lv_aload_n hx hb dX11_reads_0 rfl (lv_at hl 0 rfl) ?_
  refine lv_iload_n hx hb dX11_reads_1 rfl (lv_at hl 1 rfl) ?_
  refine kJi (wr := [(k4, .inl (cI, 6, .inl c4))]) (va_runV (As := [.int a0]) (rest := []) ⟨hx, hb, hml, hown, hT⟩ (c_X11_isWorkG l D cI aK aV k k0 k1 k2 k4 k5 k6 k7 k8 ka kb kl ko s.heap.size c3 c9 cc cd ce cf cg ch ci cj ck cm cn c0 a0 pre0) (cwV 1 hT (gV_in mw_1272 mw_1269 mw_1271 mw_p3_11 mw_12) rfl rfl rfl (by decide +kernel) ⟨Nat.le_of_ble_eq_true rfl, Nat.le_of_ble_eq_true rfl⟩) (kRecvX (q0 := 0) (ci := 11) hK hP hD hN hXS hS hA rfl rfl [0, 1] rfl (by decide +kernel)) rfl rfl hl.1 rfl (lv_room (Nat.le_of_ble_eq_true rfl)) dX11_reads_2 ⟨Nat.le_of_ble_eq_true rfl, Nat.le_of_ble_eq_true rfl⟩) hP hD hS hA [0, 1] [2] rfl rfl (by decide +kernel) (by decide +kernel) ?_
  clear hP hD hS
  intro r_4 u_6 H locs w_5 hP hD hS
  replace hP : va_P D vwCl [(k4, .inl (cI, 6, .inl c4)), (k, .inr (11, [.ref k0, .ref k1, .ref k2, .int c3, .ref k4, .ref k5, .ref k6, .ref k7, .ref k8, .int c9, .ref ka, .ref kb, .int cc, .int cd, .int ce, .int cf, .int cg, .int ch, .int ci, .int cj, .int ck, .ref kl, .int cm, .int cn, .ref ko])), (k0, .inl (cI, 1201, .inl c0))] H := hP
  replace hD : va_D A [(k4, .inl (cI, 6, .inl c4)), (k, .inr (11, [.ref k0, .ref k1, .ref k2, .int c3, .ref k4, .ref k5, .ref k6, .ref k7, .ref k8, .int c9, .ref ka, .ref kb, .int cc, .int cd, .int ce, .int cf, .int cg, .int ch, .int ci, .int cj, .int ck, .ref kl, .int cm, .int cn, .ref ko])), (k0, .inl (cI, 1201, .inl c0))] := hD
  rcases w_5 with ⟨hr_4, h_7, h_8⟩ | ⟨hr_4, h_9⟩
  · have h_7 : 0 ≤ a0.toInt := h_7
    have h_8 : a0.toInt < (c0 1).toInt := h_8
    obtain rfl : r_4 = 1 := hr_4.trans (by decide +kernel)
    refine b_if_eq hx hb zl_1 (tgt := 21) dX11_reads_5 (by decide +kernel) (fun c_10 => by exfalso; omega) (fun c_10 => ?_)
    refine lv_aload_n hx hb dX11_reads_8 rfl (lv_at hl 0 rfl) ?_
    refine lv_iload_n hx hb dX11_reads_9 rfl (lv_at hl 2 rfl) ?_
    refine kJi (wr := [(k4, .inl (cI, 6, .inl c4))]) (va_runV (As := [.int a1]) (rest := []) ⟨hx, hb, hml, hown, hT⟩ (c_X11_isWorkG l D cI aK aV k k0 k1 k2 k4 k5 k6 k7 k8 ka kb kl ko H.size c3 c9 cc cd ce cf cg ch ci cj ck cm cn c0 a1 pre0) (cwV 1 hT (gV_in mw_1272 mw_1269 mw_1271 mw_p3_11 mw_12) rfl rfl rfl (by decide +kernel) ⟨Nat.le_of_ble_eq_true rfl, Nat.le_of_ble_eq_true rfl⟩) (kRecvX (q0 := 1) (ci := 11) hK hP hD hN hXS hS hA rfl rfl [1, 2] rfl (by decide +kernel)) rfl rfl hl.1 rfl (lv_room (Nat.le_of_ble_eq_true rfl)) dX11_reads_10 ⟨Nat.le_of_ble_eq_true rfl, Nat.le_of_ble_eq_true rfl⟩) hP hD hS hA [1, 2] [0] rfl rfl (by decide +kernel) (by decide +kernel) ?_
    clear hP hD hS
    intro r_11 u_13 H locs w_12 hP hD hS
    replace hP : va_P D vwCl [(k4, .inl (cI, 6, .inl c4)), (k, .inr (11, [.ref k0, .ref k1, .ref k2, .int c3, .ref k4, .ref k5, .ref k6, .ref k7, .ref k8, .int c9, .ref ka, .ref kb, .int cc, .int cd, .int ce, .int cf, .int cg, .int ch, .int ci, .int cj, .int ck, .ref kl, .int cm, .int cn, .ref ko])), (k0, .inl (cI, 1201, .inl c0))] H := hP
    replace hD : va_D A [(k4, .inl (cI, 6, .inl c4)), (k, .inr (11, [.ref k0, .ref k1, .ref k2, .int c3, .ref k4, .ref k5, .ref k6, .ref k7, .ref k8, .int c9, .ref ka, .ref kb, .int cc, .int cd, .int ce, .int cf, .int cg, .int ch, .int ci, .int cj, .int ck, .ref kl, .int cm, .int cn, .ref ko])), (k0, .inl (cI, 1201, .inl c0))] := hD
    rcases w_12 with ⟨hr_11, h_14, h_15⟩ | ⟨hr_11, h_16⟩
    · have h_14 : 0 ≤ a1.toInt := h_14
      have h_15 : a1.toInt < (c0 1).toInt := h_15
      obtain rfl : r_11 = 1 := hr_11.trans (by decide +kernel)
      refine b_if_eq hx hb zl_1 (tgt := 21) dX11_reads_13 (by decide +kernel) (fun c_17 => by exfalso; omega) (fun c_17 => ?_)
      refine lv_iload_n hx hb dX11_reads_16 rfl (lv_at hl 1 rfl) ?_
      refine lv_iload_n hx hb dX11_reads_17 rfl (lv_at hl 2 rfl) ?_
      refine b_icmp_ne hx hb rfl rfl (tgt := 28) dX11_reads_18 (by decide +kernel) (fun c_18 => ?_) (fun c_18 => ?_)
      · refine lv_aload_n hx hb dX11_reads_28 rfl (lv_at hl 0 rfl) ?_
        refine lv_iload_n hx hb dX11_reads_29 rfl (lv_at hl 1 rfl) ?_
        refine lv_iconst (v := 0) hx hb dX11_reads_30 (by decide +kernel) ?_
        refine kJi (wr := [(k4, .inl (cI, 6, .inl c4))]) (va_runV (As := [.int a0, .int 0]) (rest := []) ⟨hx, hb, hml, hown, hT⟩ (c_X11_workG0 l D cI aK aV k k0 k1 k2 k4 k5 k6 k7 k8 ka kb kl ko H.size c3 c9 cc cd ce cf cg ch ci cj ck cm cn c0 a0 0 (by first | omega | (simp only [zl_0]; first | done | omega) | decide | assumption | rfl) (by first | omega | (simp only [zl_0]; first | done | omega) | decide | assumption | rfl) (by first | omega | (simp only [zl_0]; first | done | omega) | decide | assumption | rfl)) (cwV 2 hT (gV_in mw_1276 mw_1273 mw_1275 mw_p3_12 mw_12) rfl rfl rfl (by decide +kernel) ⟨Nat.le_of_ble_eq_true rfl, Nat.le_of_ble_eq_true rfl⟩) (kRecvX (q0 := 1) (ci := 11) hK hP hD hN hXS hS hA rfl rfl [1, 2] rfl (by decide +kernel)) rfl rfl hl.1 rfl (lv_room (Nat.le_of_ble_eq_true rfl)) dX11_reads_31 ⟨Nat.le_of_ble_eq_true rfl, Nat.le_of_ble_eq_true rfl⟩) hP hD hS hA [1, 2] [0] rfl rfl (by decide +kernel) (by decide +kernel) ?_
        clear hP hD hS
        intro r_19 u_21 H locs w_20 hP hD hS
        replace hP : va_P D vwCl [(k4, .inl (cI, 6, .inl c4)), (k, .inr (11, [.ref k0, .ref k1, .ref k2, .int c3, .ref k4, .ref k5, .ref k6, .ref k7, .ref k8, .int c9, .ref ka, .ref kb, .int cc, .int cd, .int ce, .int cf, .int cg, .int ch, .int ci, .int cj, .int ck, .ref kl, .int cm, .int cn, .ref ko])), (k0, .inl (cI, 1201, .inl c0))] H := hP
        replace hD : va_D A [(k4, .inl (cI, 6, .inl c4)), (k, .inr (11, [.ref k0, .ref k1, .ref k2, .int c3, .ref k4, .ref k5, .ref k6, .ref k7, .ref k8, .int c9, .ref ka, .ref kb, .int cc, .int cd, .int ce, .int cf, .int cg, .int ch, .int ci, .int cj, .int ck, .ref kl, .int cm, .int cn, .ref ko])), (k0, .inl (cI, 1201, .inl c0))] := hD
        have h_22 := w_20
        have h_22 : r_19 = wW c0 a0 0 := h_22
        have t_23 : r_19.toInt = (wW c0 a0 0).toInt := by rw [h_22]
        have b_24 : 0 ≤ r_19.toInt ∧ r_19.toInt ≤ 5 := by rw [h_22]; exact SB.w0 pre0 (by omega) (by omega)
        have lo_r_19 := k_lo r_19
        have hi_r_19 := k_hi r_19
        refine lv_iconst (v := 3) hx hb dX11_reads_34 (by decide +kernel) ?_
        refine b_icmp_ne hx hb rfl zl_3 (tgt := 48) dX11_reads_35 (by decide +kernel) (fun c_25 => ?_) (fun c_25 => ?_)
        · refine lv_aload_n hx hb dX11_reads_48 rfl (lv_at hl 0 rfl) ?_
          refine lv_ldc (v := (-1000005)) hx hb hown (hT _ mw_1283) dX11_reads_49 ?_
          refine kJi (wr := [(k0, .inl (cI, 1201, .inl c0))]) (va_runV (As := [.int (-1000005)]) (rest := []) ⟨hx, hb, hml, hown, hT⟩ (c_X11_findingG l D cI aK aV k k0 k1 k2 k4 k5 k6 k7 k8 ka kb kl ko H.size c3 c9 cc cd ce cf cg ch ci cj ck cm cn c4 (-1000005) (by first | omega | (simp only [zl_m1000005]; first | done | omega) | decide | assumption | rfl) (by first | omega | (simp only [zl_m1000005]; first | done | omega) | decide | assumption | rfl)) (cwV 1 hT (gV_in mw_1243 mw_1240 mw_1242 mw_p3_8 mw_12) rfl rfl rfl (by decide +kernel) ⟨Nat.le_of_ble_eq_true rfl, Nat.le_of_ble_eq_true rfl⟩) (kRecvX (q0 := 1) (ci := 11) hK hP hD hN hXS hS hA rfl rfl [1, 0] rfl (by decide +kernel)) rfl rfl hl.1 rfl (lv_room (Nat.le_of_ble_eq_true rfl)) dX11_reads_51 ⟨Nat.le_of_ble_eq_true rfl, Nat.le_of_ble_eq_true rfl⟩) hP hD hS hA [1, 0] [2] rfl rfl (by decide +kernel) (by decide +kernel) ?_
          clear hP hD hS
          intro r_26 sc4_28 H locs w_27 hP hD hS
          replace hP : va_P D vwCl [(k0, .inl (cI, 1201, .inl c0)), (k, .inr (11, [.ref k0, .ref k1, .ref k2, .int c3, .ref k4, .ref k5, .ref k6, .ref k7, .ref k8, .int c9, .ref ka, .ref kb, .int cc, .int cd, .int ce, .int cf, .int cg, .int ch, .int ci, .int cj, .int ck, .ref kl, .int cm, .int cn, .ref ko])), (k4, .inl (cI, 6, .inl sc4_28))] H := hP
          replace hD : va_D A [(k0, .inl (cI, 1201, .inl c0)), (k, .inr (11, [.ref k0, .ref k1, .ref k2, .int c3, .ref k4, .ref k5, .ref k6, .ref k7, .ref k8, .int c9, .ref ka, .ref kb, .int cc, .int cd, .int ce, .int cf, .int cg, .int ch, .int ci, .int cj, .int ck, .ref kl, .int cm, .int cn, .ref ko])), (k4, .inl (cI, 6, .inl sc4_28))] := hD
          have hr_26 := w_27
          obtain rfl : r_26 = (-1000005) := hr_26.trans (by decide +kernel)
          exact hRet sc4_28 [1, 0, 2] trivial hP hD (by decide +kernel) rfl hS rfl dX11_reads_54
        · refine lv_aload_n hx hb dX11_reads_38 rfl (lv_at hl 0 rfl) ?_
          refine lv_iload_n hx hb dX11_reads_39 rfl (lv_at hl 2 rfl) ?_
          refine lv_iconst (v := 0) hx hb dX11_reads_40 (by decide +kernel) ?_
          refine kJi (wr := [(k4, .inl (cI, 6, .inl c4))]) (va_runV (As := [.int a1, .int 0]) (rest := []) ⟨hx, hb, hml, hown, hT⟩ (c_X11_workG0 l D cI aK aV k k0 k1 k2 k4 k5 k6 k7 k8 ka kb kl ko H.size c3 c9 cc cd ce cf cg ch ci cj ck cm cn c0 a1 0 (by first | omega | (simp only [zl_0]; first | done | omega) | decide | assumption | rfl) (by first | omega | (simp only [zl_0]; first | done | omega) | decide | assumption | rfl) (by first | omega | (simp only [zl_0]; first | done | omega) | decide | assumption | rfl)) (cwV 2 hT (gV_in mw_1276 mw_1273 mw_1275 mw_p3_12 mw_12) rfl rfl rfl (by decide +kernel) ⟨Nat.le_of_ble_eq_true rfl, Nat.le_of_ble_eq_true rfl⟩) (kRecvX (q0 := 1) (ci := 11) hK hP hD hN hXS hS hA rfl rfl [1, 2] rfl (by decide +kernel)) rfl rfl hl.1 rfl (lv_room (Nat.le_of_ble_eq_true rfl)) dX11_reads_41 ⟨Nat.le_of_ble_eq_true rfl, Nat.le_of_ble_eq_true rfl⟩) hP hD hS hA [1, 2] [0] rfl rfl (by decide +kernel) (by decide +kernel) ?_
          clear hP hD hS
          intro r_29 u_31 H locs w_30 hP hD hS
          replace hP : va_P D vwCl [(k4, .inl (cI, 6, .inl c4)), (k, .inr (11, [.ref k0, .ref k1, .ref k2, .int c3, .ref k4, .ref k5, .ref k6, .ref k7, .ref k8, .int c9, .ref ka, .ref kb, .int cc, .int cd, .int ce, .int cf, .int cg, .int ch, .int ci, .int cj, .int ck, .ref kl, .int cm, .int cn, .ref ko])), (k0, .inl (cI, 1201, .inl c0))] H := hP
          replace hD : va_D A [(k4, .inl (cI, 6, .inl c4)), (k, .inr (11, [.ref k0, .ref k1, .ref k2, .int c3, .ref k4, .ref k5, .ref k6, .ref k7, .ref k8, .int c9, .ref ka, .ref kb, .int cc, .int cd, .int ce, .int cf, .int cg, .int ch, .int ci, .int cj, .int ck, .ref kl, .int cm, .int cn, .ref ko])), (k0, .inl (cI, 1201, .inl c0))] := hD
          have h_32 := w_30
          have h_32 : r_29 = wW c0 a1 0 := h_32
          have t_33 : r_29.toInt = (wW c0 a1 0).toInt := by rw [h_32]
          have b_34 : 0 ≤ r_29.toInt ∧ r_29.toInt ≤ 5 := by rw [h_32]; exact SB.w0 pre0 (by omega) (by omega)
          have lo_r_29 := k_lo r_29
          have hi_r_29 := k_hi r_29
          refine lv_iconst (v := 3) hx hb dX11_reads_44 (by decide +kernel) ?_
          refine b_icmp_eq hx hb rfl zl_3 (tgt := 55) dX11_reads_45 (by decide +kernel) (fun c_35 => ?_) (fun c_35 => ?_)
          · refine lv_aload_n hx hb dX11_reads_55 rfl (lv_at hl 0 rfl) ?_
            refine lv_iload_n hx hb dX11_reads_56 rfl (lv_at hl 1 rfl) ?_
            refine lv_iload_n hx hb dX11_reads_57 rfl (lv_at hl 2 rfl) ?_
            refine kJi (wr := [(k4, .inl (cI, 6, .inl c4))]) (va_runV (As := [.int a0, .int a1]) (rest := []) ⟨hx, hb, hml, hown, hT⟩ (c_X11_canReadG l D cI aK aV k k0 k1 k2 k4 k5 k6 k7 k8 ka kb kl ko H.size c3 c9 cc cd ce cf cg ch ci cj ck cm cn c0 a0 a1 pre0 (by first | omega | decide | assumption | rfl) (by first | omega | decide | assumption | rfl) (by first | omega | decide | assumption | rfl) (by first | omega | decide | assumption | rfl)) (cwV 2 hT (gV_in mw_1448 mw_1445 mw_1447 mw_p5_7 mw_12) rfl rfl rfl (by decide +kernel) ⟨Nat.le_of_ble_eq_true rfl, Nat.le_of_ble_eq_true rfl⟩) (kRecvX (q0 := 1) (ci := 11) hK hP hD hN hXS hS hA rfl rfl [1, 2] rfl (by decide +kernel)) rfl rfl hl.1 rfl (lv_room (Nat.le_of_ble_eq_true rfl)) dX11_reads_58 ⟨Nat.le_of_ble_eq_true rfl, Nat.le_of_ble_eq_true rfl⟩) hP hD hS hA [1, 2] [0] rfl rfl (by decide +kernel) (by decide +kernel) ?_
            clear hP hD hS
            intro r_36 u_38 H locs w_37 hP hD hS
            replace hP : va_P D vwCl [(k4, .inl (cI, 6, .inl c4)), (k, .inr (11, [.ref k0, .ref k1, .ref k2, .int c3, .ref k4, .ref k5, .ref k6, .ref k7, .ref k8, .int c9, .ref ka, .ref kb, .int cc, .int cd, .int ce, .int cf, .int cg, .int ch, .int ci, .int cj, .int ck, .ref kl, .int cm, .int cn, .ref ko])), (k0, .inl (cI, 1201, .inl c0))] H := hP
            replace hD : va_D A [(k4, .inl (cI, 6, .inl c4)), (k, .inr (11, [.ref k0, .ref k1, .ref k2, .int c3, .ref k4, .ref k5, .ref k6, .ref k7, .ref k8, .int c9, .ref ka, .ref kb, .int cc, .int cd, .int ce, .int cf, .int cg, .int ch, .int ci, .int cj, .int ck, .ref kl, .int cm, .int cn, .ref ko])), (k0, .inl (cI, 1201, .inl c0))] := hD
            rcases w_37 with ⟨hr_36, h_39⟩ | ⟨hr_36, h_40⟩
            · have h_39 : crF c0 a0 a1 = 1 := h_39
              obtain rfl : r_36 = 1 := hr_36.trans (by decide +kernel)
              refine b_if_eq hx hb zl_1 (tgt := 68) dX11_reads_61 (by decide +kernel) (fun c_41 => by exfalso; omega) (fun c_41 => ?_)
              refine lv_iconst (v := 1) hx hb dX11_reads_64 (by decide +kernel) ?_
              refine lv_goto (tgt := 69) hx hb dX11_reads_65 (by decide +kernel) ?_
              exact hRet c4 [1, 2, 0] trivial hP hD (by decide +kernel) rfl hS rfl dX11_reads_69
            · have h_40 : crF c0 a0 a1 = 0 := h_40
              obtain rfl : r_36 = 0 := hr_36.trans (by decide +kernel)
              refine b_if_eq hx hb zl_0 (tgt := 68) dX11_reads_61 (by decide +kernel) (fun c_42 => ?_) (fun c_42 => by exfalso; omega)
              refine lv_iconst (v := 0) hx hb dX11_reads_68 (by decide +kernel) ?_
              exact hRet c4 [1, 2, 0] trivial hP hD (by decide +kernel) rfl hS rfl dX11_reads_69
          · refine lv_aload_n hx hb dX11_reads_48 rfl (lv_at hl 0 rfl) ?_
            refine lv_ldc (v := (-1000005)) hx hb hown (hT _ mw_1283) dX11_reads_49 ?_
            refine kJi (wr := [(k0, .inl (cI, 1201, .inl c0))]) (va_runV (As := [.int (-1000005)]) (rest := []) ⟨hx, hb, hml, hown, hT⟩ (c_X11_findingG l D cI aK aV k k0 k1 k2 k4 k5 k6 k7 k8 ka kb kl ko H.size c3 c9 cc cd ce cf cg ch ci cj ck cm cn c4 (-1000005) (by first | omega | (simp only [zl_m1000005]; first | done | omega) | decide | assumption | rfl) (by first | omega | (simp only [zl_m1000005]; first | done | omega) | decide | assumption | rfl)) (cwV 1 hT (gV_in mw_1243 mw_1240 mw_1242 mw_p3_8 mw_12) rfl rfl rfl (by decide +kernel) ⟨Nat.le_of_ble_eq_true rfl, Nat.le_of_ble_eq_true rfl⟩) (kRecvX (q0 := 1) (ci := 11) hK hP hD hN hXS hS hA rfl rfl [1, 0] rfl (by decide +kernel)) rfl rfl hl.1 rfl (lv_room (Nat.le_of_ble_eq_true rfl)) dX11_reads_51 ⟨Nat.le_of_ble_eq_true rfl, Nat.le_of_ble_eq_true rfl⟩) hP hD hS hA [1, 0] [2] rfl rfl (by decide +kernel) (by decide +kernel) ?_
            clear hP hD hS
            intro r_43 sc4_45 H locs w_44 hP hD hS
            replace hP : va_P D vwCl [(k0, .inl (cI, 1201, .inl c0)), (k, .inr (11, [.ref k0, .ref k1, .ref k2, .int c3, .ref k4, .ref k5, .ref k6, .ref k7, .ref k8, .int c9, .ref ka, .ref kb, .int cc, .int cd, .int ce, .int cf, .int cg, .int ch, .int ci, .int cj, .int ck, .ref kl, .int cm, .int cn, .ref ko])), (k4, .inl (cI, 6, .inl sc4_45))] H := hP
            replace hD : va_D A [(k0, .inl (cI, 1201, .inl c0)), (k, .inr (11, [.ref k0, .ref k1, .ref k2, .int c3, .ref k4, .ref k5, .ref k6, .ref k7, .ref k8, .int c9, .ref ka, .ref kb, .int cc, .int cd, .int ce, .int cf, .int cg, .int ch, .int ci, .int cj, .int ck, .ref kl, .int cm, .int cn, .ref ko])), (k4, .inl (cI, 6, .inl sc4_45))] := hD
            have hr_43 := w_44
            obtain rfl : r_43 = (-1000005) := hr_43.trans (by decide +kernel)
            exact hRet sc4_45 [1, 0, 2] trivial hP hD (by decide +kernel) rfl hS rfl dX11_reads_54
      · refine lv_aload_n hx hb dX11_reads_21 rfl (lv_at hl 0 rfl) ?_
        refine lv_ldc (v := (-1000001)) hx hb hown (hT _ mw_1239) dX11_reads_22 ?_
        refine kJi (wr := [(k0, .inl (cI, 1201, .inl c0))]) (va_runV (As := [.int (-1000001)]) (rest := []) ⟨hx, hb, hml, hown, hT⟩ (c_X11_findingG l D cI aK aV k k0 k1 k2 k4 k5 k6 k7 k8 ka kb kl ko H.size c3 c9 cc cd ce cf cg ch ci cj ck cm cn c4 (-1000001) (by first | omega | (simp only [zl_m1000001]; first | done | omega) | decide | assumption | rfl) (by first | omega | (simp only [zl_m1000001]; first | done | omega) | decide | assumption | rfl)) (cwV 1 hT (gV_in mw_1243 mw_1240 mw_1242 mw_p3_8 mw_12) rfl rfl rfl (by decide +kernel) ⟨Nat.le_of_ble_eq_true rfl, Nat.le_of_ble_eq_true rfl⟩) (kRecvX (q0 := 1) (ci := 11) hK hP hD hN hXS hS hA rfl rfl [1, 0] rfl (by decide +kernel)) rfl rfl hl.1 rfl (lv_room (Nat.le_of_ble_eq_true rfl)) dX11_reads_24 ⟨Nat.le_of_ble_eq_true rfl, Nat.le_of_ble_eq_true rfl⟩) hP hD hS hA [1, 0] [2] rfl rfl (by decide +kernel) (by decide +kernel) ?_
        clear hP hD hS
        intro r_46 sc4_48 H locs w_47 hP hD hS
        replace hP : va_P D vwCl [(k0, .inl (cI, 1201, .inl c0)), (k, .inr (11, [.ref k0, .ref k1, .ref k2, .int c3, .ref k4, .ref k5, .ref k6, .ref k7, .ref k8, .int c9, .ref ka, .ref kb, .int cc, .int cd, .int ce, .int cf, .int cg, .int ch, .int ci, .int cj, .int ck, .ref kl, .int cm, .int cn, .ref ko])), (k4, .inl (cI, 6, .inl sc4_48))] H := hP
        replace hD : va_D A [(k0, .inl (cI, 1201, .inl c0)), (k, .inr (11, [.ref k0, .ref k1, .ref k2, .int c3, .ref k4, .ref k5, .ref k6, .ref k7, .ref k8, .int c9, .ref ka, .ref kb, .int cc, .int cd, .int ce, .int cf, .int cg, .int ch, .int ci, .int cj, .int ck, .ref kl, .int cm, .int cn, .ref ko])), (k4, .inl (cI, 6, .inl sc4_48))] := hD
        have hr_46 := w_47
        obtain rfl : r_46 = (-1000001) := hr_46.trans (by decide +kernel)
        exact hRet sc4_48 [1, 0, 2] trivial hP hD (by decide +kernel) rfl hS rfl dX11_reads_27
    · have h_16 : a1.toInt < 0 ∨ (c0 1).toInt ≤ a1.toInt := h_16
      obtain rfl : r_11 = 0 := hr_11.trans (by decide +kernel)
      refine b_if_eq hx hb zl_0 (tgt := 21) dX11_reads_13 (by decide +kernel) (fun c_49 => ?_) (fun c_49 => by exfalso; omega)
      refine lv_aload_n hx hb dX11_reads_21 rfl (lv_at hl 0 rfl) ?_
      refine lv_ldc (v := (-1000001)) hx hb hown (hT _ mw_1239) dX11_reads_22 ?_
      refine kJi (wr := [(k0, .inl (cI, 1201, .inl c0))]) (va_runV (As := [.int (-1000001)]) (rest := []) ⟨hx, hb, hml, hown, hT⟩ (c_X11_findingG l D cI aK aV k k0 k1 k2 k4 k5 k6 k7 k8 ka kb kl ko H.size c3 c9 cc cd ce cf cg ch ci cj ck cm cn c4 (-1000001) (by first | omega | (simp only [zl_m1000001]; first | done | omega) | decide | assumption | rfl) (by first | omega | (simp only [zl_m1000001]; first | done | omega) | decide | assumption | rfl)) (cwV 1 hT (gV_in mw_1243 mw_1240 mw_1242 mw_p3_8 mw_12) rfl rfl rfl (by decide +kernel) ⟨Nat.le_of_ble_eq_true rfl, Nat.le_of_ble_eq_true rfl⟩) (kRecvX (q0 := 1) (ci := 11) hK hP hD hN hXS hS hA rfl rfl [1, 0] rfl (by decide +kernel)) rfl rfl hl.1 rfl (lv_room (Nat.le_of_ble_eq_true rfl)) dX11_reads_24 ⟨Nat.le_of_ble_eq_true rfl, Nat.le_of_ble_eq_true rfl⟩) hP hD hS hA [1, 0] [2] rfl rfl (by decide +kernel) (by decide +kernel) ?_
      clear hP hD hS
      intro r_50 sc4_52 H locs w_51 hP hD hS
      replace hP : va_P D vwCl [(k0, .inl (cI, 1201, .inl c0)), (k, .inr (11, [.ref k0, .ref k1, .ref k2, .int c3, .ref k4, .ref k5, .ref k6, .ref k7, .ref k8, .int c9, .ref ka, .ref kb, .int cc, .int cd, .int ce, .int cf, .int cg, .int ch, .int ci, .int cj, .int ck, .ref kl, .int cm, .int cn, .ref ko])), (k4, .inl (cI, 6, .inl sc4_52))] H := hP
      replace hD : va_D A [(k0, .inl (cI, 1201, .inl c0)), (k, .inr (11, [.ref k0, .ref k1, .ref k2, .int c3, .ref k4, .ref k5, .ref k6, .ref k7, .ref k8, .int c9, .ref ka, .ref kb, .int cc, .int cd, .int ce, .int cf, .int cg, .int ch, .int ci, .int cj, .int ck, .ref kl, .int cm, .int cn, .ref ko])), (k4, .inl (cI, 6, .inl sc4_52))] := hD
      have hr_50 := w_51
      obtain rfl : r_50 = (-1000001) := hr_50.trans (by decide +kernel)
      exact hRet sc4_52 [1, 0, 2] trivial hP hD (by decide +kernel) rfl hS rfl dX11_reads_27
  · have h_9 : a0.toInt < 0 ∨ (c0 1).toInt ≤ a0.toInt := h_9
    obtain rfl : r_4 = 0 := hr_4.trans (by decide +kernel)
    refine b_if_eq hx hb zl_0 (tgt := 21) dX11_reads_5 (by decide +kernel) (fun c_53 => ?_) (fun c_53 => by exfalso; omega)
    refine lv_aload_n hx hb dX11_reads_21 rfl (lv_at hl 0 rfl) ?_
    refine lv_ldc (v := (-1000001)) hx hb hown (hT _ mw_1239) dX11_reads_22 ?_
    refine kJi (wr := [(k0, .inl (cI, 1201, .inl c0))]) (va_runV (As := [.int (-1000001)]) (rest := []) ⟨hx, hb, hml, hown, hT⟩ (c_X11_findingG l D cI aK aV k k0 k1 k2 k4 k5 k6 k7 k8 ka kb kl ko H.size c3 c9 cc cd ce cf cg ch ci cj ck cm cn c4 (-1000001) (by first | omega | (simp only [zl_m1000001]; first | done | omega) | decide | assumption | rfl) (by first | omega | (simp only [zl_m1000001]; first | done | omega) | decide | assumption | rfl)) (cwV 1 hT (gV_in mw_1243 mw_1240 mw_1242 mw_p3_8 mw_12) rfl rfl rfl (by decide +kernel) ⟨Nat.le_of_ble_eq_true rfl, Nat.le_of_ble_eq_true rfl⟩) (kRecvX (q0 := 1) (ci := 11) hK hP hD hN hXS hS hA rfl rfl [1, 0] rfl (by decide +kernel)) rfl rfl hl.1 rfl (lv_room (Nat.le_of_ble_eq_true rfl)) dX11_reads_24 ⟨Nat.le_of_ble_eq_true rfl, Nat.le_of_ble_eq_true rfl⟩) hP hD hS hA [1, 0] [2] rfl rfl (by decide +kernel) (by decide +kernel) ?_
    clear hP hD hS
    intro r_54 sc4_56 H locs w_55 hP hD hS
    replace hP : va_P D vwCl [(k0, .inl (cI, 1201, .inl c0)), (k, .inr (11, [.ref k0, .ref k1, .ref k2, .int c3, .ref k4, .ref k5, .ref k6, .ref k7, .ref k8, .int c9, .ref ka, .ref kb, .int cc, .int cd, .int ce, .int cf, .int cg, .int ch, .int ci, .int cj, .int ck, .ref kl, .int cm, .int cn, .ref ko])), (k4, .inl (cI, 6, .inl sc4_56))] H := hP
    replace hD : va_D A [(k0, .inl (cI, 1201, .inl c0)), (k, .inr (11, [.ref k0, .ref k1, .ref k2, .int c3, .ref k4, .ref k5, .ref k6, .ref k7, .ref k8, .int c9, .ref ka, .ref kb, .int cc, .int cd, .int ce, .int cf, .int cg, .int ch, .int ci, .int cj, .int ck, .ref kl, .int cm, .int cn, .ref ko])), (k4, .inl (cI, 6, .inl sc4_56))] := hD
    have hr_54 := w_55
    obtain rfl : r_54 = (-1000001) := hr_54.trans (by decide +kernel)
    exact hRet sc4_56 [1, 0, 2] trivial hP hD (by decide +kernel) rfl hS rfl dX11_reads_27
theorem bn_cX11_findHands_0 : BN cX11_findHands 0 0x802a00406429405e050b08c02b51582c02a8308143c0a00a6906015b8182c050b0ac2a01508785e060b08c02b5158142c2300ad4563400a745e050b08c02b5158f802a31781414015a8ac0c16030dc085200a8c5e05050056a2b028580a370219802a31781414015a8ac3c3f0237e00a8010110a500181402a802020029a2a8056e070e8ac2201508743c1e118056a2b11805463d088787e04 := by
  unfold BN; decide +kernel
theorem dX11_findHands_0 : decode cX11_findHands 0 = .ok (.iconst 0, 1) := dR0 (k := 0) (i := 0) bn_cX11_findHands_0 dop_3 (by decide +kernel)
theorem dX11_findHands_1 : decode cX11_findHands 1 = .ok (.istore_n 3, 1) := dR0 (k := 0) (i := 1) bn_cX11_findHands_0 dop_62 (by decide +kernel)
theorem dX11_findHands_2 : decode cX11_findHands 2 = .ok (.iload_n 3, 1) := dR0 (k := 0) (i := 2) bn_cX11_findHands_0 dop_29 (by decide +kernel)
theorem dX11_findHands_3 : decode cX11_findHands 3 = .ok (.bipush 60, 2) := dR1s (f := Instr.bipush) (k := 0) (i := 3) bn_cX11_findHands_0 dop_16 60 60 (by decide +kernel)
theorem dX11_findHands_5 : decode cX11_findHands 5 = .ok (.if_icmp .ge 34, 3) := dR2s (f := Instr.if_icmp .ge) (k := 0) (i := 5) bn_cX11_findHands_0 dop_162 34 34 (by decide +kernel)
theorem dX11_findHands_8 : decode cX11_findHands 8 = .ok (.aload_n 0, 1) := dR0 (k := 0) (i := 8) bn_cX11_findHands_0 dop_42 (by decide +kernel)
theorem dX11_findHands_9 : decode cX11_findHands 9 = .ok (.getfield 34, 3) := dR2 (f := Instr.getfield) (k := 0) (i := 9) bn_cX11_findHands_0 dop_180 34 (by decide +kernel)
theorem dX11_findHands_12 : decode cX11_findHands 12 = .ok (.iload_n 3, 1) := dR0 (k := 0) (i := 12) bn_cX11_findHands_0 dop_29 (by decide +kernel)
theorem dX11_findHands_13 : decode cX11_findHands 13 = .ok (.iload_n 3, 1) := dR0 (k := 0) (i := 13) bn_cX11_findHands_0 dop_29 (by decide +kernel)
theorem dX11_findHands_14 : decode cX11_findHands 14 = .ok (.iload_n 2, 1) := dR0 (k := 0) (i := 14) bn_cX11_findHands_0 dop_28 (by decide +kernel)
theorem dX11_findHands_15 : decode cX11_findHands 15 = .ok (.if_icmp .ne 16, 3) := dR2s (f := Instr.if_icmp .ne) (k := 0) (i := 15) bn_cX11_findHands_0 dop_160 16 16 (by decide +kernel)
theorem dX11_findHands_18 : decode cX11_findHands 18 = .ok (.aload_n 0, 1) := dR0 (k := 0) (i := 18) bn_cX11_findHands_0 dop_42 (by decide +kernel)
theorem dX11_findHands_19 : decode cX11_findHands 19 = .ok (.iload_n 2, 1) := dR0 (k := 0) (i := 19) bn_cX11_findHands_0 dop_28 (by decide +kernel)
theorem dX11_findHands_20 : decode cX11_findHands 20 = .ok (.iconst 3, 1) := dR0 (k := 0) (i := 20) bn_cX11_findHands_0 dop_6 (by decide +kernel)
theorem dX11_findHands_21 : decode cX11_findHands 21 = .ok (.invokevirtual 84, 3) := dR2 (f := Instr.invokevirtual) (k := 0) (i := 21) bn_cX11_findHands_0 dop_182 84 (by decide +kernel)
theorem dX11_findHands_24 : decode cX11_findHands 24 = .ok (.ifCond .eq 7, 3) := dR2s (f := Instr.ifCond .eq) (k := 0) (i := 24) bn_cX11_findHands_0 dop_153 7 7 (by decide +kernel)
theorem dX11_findHands_27 : decode cX11_findHands 27 = .ok (.iconst 0, 1) := dR0 (k := 0) (i := 27) bn_cX11_findHands_0 dop_3 (by decide +kernel)
theorem dX11_findHands_28 : decode cX11_findHands 28 = .ok (.goto 4, 3) := dR2s (f := Instr.goto) (k := 0) (i := 28) bn_cX11_findHands_0 dop_167 4 4 (by decide +kernel)
theorem dX11_findHands_31 : decode cX11_findHands 31 = .ok (.iconst (-1), 1) := dR0 (k := 0) (i := 31) bn_cX11_findHands_0 dop_2 (by decide +kernel)
theorem dX11_findHands_32 : decode cX11_findHands 32 = .ok (.iastore, 1) := dR0 (k := 0) (i := 32) bn_cX11_findHands_0 dop_79 (by decide +kernel)
theorem dX11_findHands_33 : decode cX11_findHands 33 = .ok (.iinc 3 1, 3) := dRii (f := Instr.iinc) (k := 0) (i := 33) bn_cX11_findHands_0 dop_132 3 1 1 (by decide +kernel)
theorem dX11_findHands_36 : decode cX11_findHands 36 = .ok (.goto (-34), 3) := dR2s (f := Instr.goto) (k := 0) (i := 36) bn_cX11_findHands_0 dop_167 65502 (-34) (by decide +kernel)
theorem dX11_findHands_39 : decode cX11_findHands 39 = .ok (.iconst 0, 1) := dR0 (k := 0) (i := 39) bn_cX11_findHands_0 dop_3 (by decide +kernel)
theorem dX11_findHands_40 : decode cX11_findHands 40 = .ok (.istore_n 3, 1) := dR0 (k := 0) (i := 40) bn_cX11_findHands_0 dop_62 (by decide +kernel)
theorem dX11_findHands_41 : decode cX11_findHands 41 = .ok (.iload_n 3, 1) := dR0 (k := 0) (i := 41) bn_cX11_findHands_0 dop_29 (by decide +kernel)
theorem dX11_findHands_42 : decode cX11_findHands 42 = .ok (.aload_n 0, 1) := dR0 (k := 0) (i := 42) bn_cX11_findHands_0 dop_42 (by decide +kernel)
theorem dX11_findHands_43 : decode cX11_findHands 43 = .ok (.getfield 9, 3) := dR2 (f := Instr.getfield) (k := 0) (i := 43) bn_cX11_findHands_0 dop_180 9 (by decide +kernel)
theorem dX11_findHands_46 : decode cX11_findHands 46 = .ok (.iconst 1, 1) := dR0 (k := 0) (i := 46) bn_cX11_findHands_0 dop_4 (by decide +kernel)
theorem dX11_findHands_47 : decode cX11_findHands 47 = .ok (.iaload, 1) := dR0 (k := 0) (i := 47) bn_cX11_findHands_0 dop_46 (by decide +kernel)
theorem dX11_findHands_48 : decode cX11_findHands 48 = .ok (.if_icmp .ge 101, 3) := dR2s (f := Instr.if_icmp .ge) (k := 0) (i := 48) bn_cX11_findHands_0 dop_162 101 101 (by decide +kernel)
theorem dX11_findHands_51 : decode cX11_findHands 51 = .ok (.iconst 0, 1) := dR0 (k := 0) (i := 51) bn_cX11_findHands_0 dop_3 (by decide +kernel)
theorem dX11_findHands_52 : decode cX11_findHands 52 = .ok (.istore 4, 2) := dR1 (f := Instr.istore) (k := 0) (i := 52) bn_cX11_findHands_0 dop_54 4 (by decide +kernel)
theorem dX11_findHands_54 : decode cX11_findHands 54 = .ok (.iload 4, 2) := dR1 (f := Instr.iload) (k := 0) (i := 54) bn_cX11_findHands_0 dop_21 4 (by decide +kernel)
theorem dX11_findHands_56 : decode cX11_findHands 56 = .ok (.aload_n 0, 1) := dR0 (k := 0) (i := 56) bn_cX11_findHands_0 dop_42 (by decide +kernel)
theorem dX11_findHands_57 : decode cX11_findHands 57 = .ok (.getfield 9, 3) := dR2 (f := Instr.getfield) (k := 0) (i := 57) bn_cX11_findHands_0 dop_180 9 (by decide +kernel)
theorem dX11_findHands_60 : decode cX11_findHands 60 = .ok (.iconst 1, 1) := dR0 (k := 0) (i := 60) bn_cX11_findHands_0 dop_4 (by decide +kernel)
theorem dX11_findHands_61 : decode cX11_findHands 61 = .ok (.iaload, 1) := dR0 (k := 0) (i := 61) bn_cX11_findHands_0 dop_46 (by decide +kernel)
theorem dX11_findHands_62 : decode cX11_findHands 62 = .ok (.if_icmp .ge 81, 3) := dR2s (f := Instr.if_icmp .ge) (k := 0) (i := 62) bn_cX11_findHands_0 dop_162 81 81 (by decide +kernel)
theorem dX11_findHands_65 : decode cX11_findHands 65 = .ok (.iconst 0, 1) := dR0 (k := 0) (i := 65) bn_cX11_findHands_0 dop_3 (by decide +kernel)
theorem dX11_findHands_66 : decode cX11_findHands 66 = .ok (.istore 5, 2) := dR1 (f := Instr.istore) (k := 0) (i := 66) bn_cX11_findHands_0 dop_54 5 (by decide +kernel)
theorem dX11_findHands_68 : decode cX11_findHands 68 = .ok (.iload 5, 2) := dR1 (f := Instr.iload) (k := 0) (i := 68) bn_cX11_findHands_0 dop_21 5 (by decide +kernel)
theorem dX11_findHands_70 : decode cX11_findHands 70 = .ok (.aload_n 0, 1) := dR0 (k := 0) (i := 70) bn_cX11_findHands_0 dop_42 (by decide +kernel)
theorem dX11_findHands_71 : decode cX11_findHands 71 = .ok (.getfield 9, 3) := dR2 (f := Instr.getfield) (k := 0) (i := 71) bn_cX11_findHands_0 dop_180 9 (by decide +kernel)
theorem dX11_findHands_74 : decode cX11_findHands 74 = .ok (.iconst 1, 1) := dR0 (k := 0) (i := 74) bn_cX11_findHands_0 dop_4 (by decide +kernel)
theorem dX11_findHands_75 : decode cX11_findHands 75 = .ok (.iaload, 1) := dR0 (k := 0) (i := 75) bn_cX11_findHands_0 dop_46 (by decide +kernel)
theorem dX11_findHands_76 : decode cX11_findHands 76 = .ok (.if_icmp .ge 61, 3) := dR2s (f := Instr.if_icmp .ge) (k := 0) (i := 76) bn_cX11_findHands_0 dop_162 61 61 (by decide +kernel)
theorem dX11_findHands_79 : decode cX11_findHands 79 = .ok (.aload_n 0, 1) := dR0 (k := 0) (i := 79) bn_cX11_findHands_0 dop_42 (by decide +kernel)
theorem dX11_findHands_80 : decode cX11_findHands 80 = .ok (.getfield 34, 3) := dR2 (f := Instr.getfield) (k := 0) (i := 80) bn_cX11_findHands_0 dop_180 34 (by decide +kernel)
theorem dX11_findHands_83 : decode cX11_findHands 83 = .ok (.iload 4, 2) := dR1 (f := Instr.iload) (k := 0) (i := 83) bn_cX11_findHands_0 dop_21 4 (by decide +kernel)
theorem dX11_findHands_85 : decode cX11_findHands 85 = .ok (.iaload, 1) := dR0 (k := 0) (i := 85) bn_cX11_findHands_0 dop_46 (by decide +kernel)
theorem dX11_findHands_86 : decode cX11_findHands 86 = .ok (.ifCond .ge 51, 3) := dR2s (f := Instr.ifCond .ge) (k := 0) (i := 86) bn_cX11_findHands_0 dop_156 51 51 (by decide +kernel)
theorem dX11_findHands_89 : decode cX11_findHands 89 = .ok (.aload_n 0, 1) := dR0 (k := 0) (i := 89) bn_cX11_findHands_0 dop_42 (by decide +kernel)
theorem dX11_findHands_90 : decode cX11_findHands 90 = .ok (.getfield 34, 3) := dR2 (f := Instr.getfield) (k := 0) (i := 90) bn_cX11_findHands_0 dop_180 34 (by decide +kernel)
theorem dX11_findHands_93 : decode cX11_findHands 93 = .ok (.iload 4, 2) := dR1 (f := Instr.iload) (k := 0) (i := 93) bn_cX11_findHands_0 dop_21 4 (by decide +kernel)
theorem dX11_findHands_95 : decode cX11_findHands 95 = .ok (.aload_n 0, 1) := dR0 (k := 0) (i := 95) bn_cX11_findHands_0 dop_42 (by decide +kernel)
theorem dX11_findHands_96 : decode cX11_findHands 96 = .ok (.getfield 34, 3) := dR2 (f := Instr.getfield) (k := 0) (i := 96) bn_cX11_findHands_0 dop_180 34 (by decide +kernel)
theorem dX11_findHands_99 : decode cX11_findHands 99 = .ok (.iload 5, 2) := dR1 (f := Instr.iload) (k := 0) (i := 99) bn_cX11_findHands_0 dop_21 5 (by decide +kernel)
theorem dX11_findHands_101 : decode cX11_findHands 101 = .ok (.iaload, 1) := dR0 (k := 0) (i := 101) bn_cX11_findHands_0 dop_46 (by decide +kernel)
theorem dX11_findHands_102 : decode cX11_findHands 102 = .ok (.iload_n 3, 1) := dR0 (k := 0) (i := 102) bn_cX11_findHands_0 dop_29 (by decide +kernel)
theorem dX11_findHands_103 : decode cX11_findHands 103 = .ok (.if_icmp .ne 20, 3) := dR2s (f := Instr.if_icmp .ne) (k := 0) (i := 103) bn_cX11_findHands_0 dop_160 20 20 (by decide +kernel)
theorem dX11_findHands_106 : decode cX11_findHands 106 = .ok (.aload_n 0, 1) := dR0 (k := 0) (i := 106) bn_cX11_findHands_0 dop_42 (by decide +kernel)
theorem dX11_findHands_107 : decode cX11_findHands 107 = .ok (.iload 4, 2) := dR1 (f := Instr.iload) (k := 0) (i := 107) bn_cX11_findHands_0 dop_21 4 (by decide +kernel)
theorem dX11_findHands_109 : decode cX11_findHands 109 = .ok (.iload 5, 2) := dR1 (f := Instr.iload) (k := 0) (i := 109) bn_cX11_findHands_0 dop_21 5 (by decide +kernel)
theorem dX11_findHands_111 : decode cX11_findHands 111 = .ok (.invokevirtual 130, 3) := dR2 (f := Instr.invokevirtual) (k := 0) (i := 111) bn_cX11_findHands_0 dop_182 130 (by decide +kernel)
theorem dX11_findHands_114 : decode cX11_findHands 114 = .ok (.ifCond .eq 9, 3) := dR2s (f := Instr.ifCond .eq) (k := 0) (i := 114) bn_cX11_findHands_0 dop_153 9 9 (by decide +kernel)
theorem dX11_findHands_117 : decode cX11_findHands 117 = .ok (.iload_n 3, 1) := dR0 (k := 0) (i := 117) bn_cX11_findHands_0 dop_29 (by decide +kernel)
theorem dX11_findHands_118 : decode cX11_findHands 118 = .ok (.iconst 1, 1) := dR0 (k := 0) (i := 118) bn_cX11_findHands_0 dop_4 (by decide +kernel)
theorem dX11_findHands_119 : decode cX11_findHands 119 = .ok (.iadd, 1) := dR0 (k := 0) (i := 119) bn_cX11_findHands_0 dop_96 (by decide +kernel)
theorem dX11_findHands_120 : decode cX11_findHands 120 = .ok (.goto 10, 3) := dR2s (f := Instr.goto) (k := 0) (i := 120) bn_cX11_findHands_0 dop_167 10 10 (by decide +kernel)
theorem dX11_findHands_123 : decode cX11_findHands 123 = .ok (.aload_n 0, 1) := dR0 (k := 0) (i := 123) bn_cX11_findHands_0 dop_42 (by decide +kernel)
theorem dX11_findHands_124 : decode cX11_findHands 124 = .ok (.getfield 34, 3) := dR2 (f := Instr.getfield) (k := 0) (i := 124) bn_cX11_findHands_0 dop_180 34 (by decide +kernel)
theorem dX11_findHands_127 : decode cX11_findHands 127 = .ok (.iload 4, 2) := dR1 (f := Instr.iload) (k := 0) (i := 127) bn_cX11_findHands_0 dop_21 4 (by decide +kernel)
theorem bn_cX11_findHands_128 : BN cX11_findHands 128 0x2b40a1664401503f030580405429400c16028584c015a8adc500540080c8505005368300adc0c160f0ac1c01509940a2f0f08c02b5158bc0c16118056a2b030dc083b00a803a1e28070082600ad456051b8147e1c568100c014e8bc382300ad45698802a0040442aae00a8010150abf802a00406429405e05 := by
  unfold BN; decide +kernel
theorem dX11_findHands_129 : decode cX11_findHands 129 = .ok (.iaload, 1) := dR0 (k := 128) (i := 1) bn_cX11_findHands_128 dop_46 (by decide +kernel)
theorem dX11_findHands_130 : decode cX11_findHands 130 = .ok (.iastore, 1) := dR0 (k := 128) (i := 2) bn_cX11_findHands_128 dop_79 (by decide +kernel)
theorem dX11_findHands_131 : decode cX11_findHands 131 = .ok (.iinc 5 1, 3) := dRii (f := Instr.iinc) (k := 128) (i := 3) bn_cX11_findHands_128 dop_132 5 1 1 (by decide +kernel)
theorem dX11_findHands_134 : decode cX11_findHands 134 = .ok (.goto (-66), 3) := dR2s (f := Instr.goto) (k := 128) (i := 6) bn_cX11_findHands_128 dop_167 65470 (-66) (by decide +kernel)
theorem dX11_findHands_137 : decode cX11_findHands 137 = .ok (.iinc 4 1, 3) := dRii (f := Instr.iinc) (k := 128) (i := 9) bn_cX11_findHands_128 dop_132 4 1 1 (by decide +kernel)
theorem dX11_findHands_140 : decode cX11_findHands 140 = .ok (.goto (-86), 3) := dR2s (f := Instr.goto) (k := 128) (i := 12) bn_cX11_findHands_128 dop_167 65450 (-86) (by decide +kernel)
theorem dX11_findHands_143 : decode cX11_findHands 143 = .ok (.iinc 3 1, 3) := dRii (f := Instr.iinc) (k := 128) (i := 15) bn_cX11_findHands_128 dop_132 3 1 1 (by decide +kernel)
theorem dX11_findHands_146 : decode cX11_findHands 146 = .ok (.goto (-105), 3) := dR2s (f := Instr.goto) (k := 128) (i := 18) bn_cX11_findHands_128 dop_167 65431 (-105) (by decide +kernel)
theorem dX11_findHands_149 : decode cX11_findHands 149 = .ok (.aload_n 0, 1) := dR0 (k := 128) (i := 21) bn_cX11_findHands_128 dop_42 (by decide +kernel)
theorem dX11_findHands_150 : decode cX11_findHands 150 = .ok (.getfield 34, 3) := dR2 (f := Instr.getfield) (k := 128) (i := 22) bn_cX11_findHands_128 dop_180 34 (by decide +kernel)
theorem dX11_findHands_153 : decode cX11_findHands 153 = .ok (.iload_n 1, 1) := dR0 (k := 128) (i := 25) bn_cX11_findHands_128 dop_27 (by decide +kernel)
theorem dX11_findHands_154 : decode cX11_findHands 154 = .ok (.iaload, 1) := dR0 (k := 128) (i := 26) bn_cX11_findHands_128 dop_46 (by decide +kernel)
theorem dX11_findHands_155 : decode cX11_findHands 155 = .ok (.ifCond .ge 5, 3) := dR2s (f := Instr.ifCond .ge) (k := 128) (i := 27) bn_cX11_findHands_128 dop_156 5 5 (by decide +kernel)
theorem dX11_findHands_158 : decode cX11_findHands 158 = .ok (.iconst 0, 1) := dR0 (k := 128) (i := 30) bn_cX11_findHands_128 dop_3 (by decide +kernel)
theorem dX11_findHands_159 : decode cX11_findHands 159 = .ok (.ireturn, 1) := dR0 (k := 128) (i := 31) bn_cX11_findHands_128 dop_172 (by decide +kernel)
theorem dX11_findHands_160 : decode cX11_findHands 160 = .ok (.iload_n 1, 1) := dR0 (k := 128) (i := 32) bn_cX11_findHands_128 dop_27 (by decide +kernel)
theorem dX11_findHands_161 : decode cX11_findHands 161 = .ok (.istore_n 3, 1) := dR0 (k := 128) (i := 33) bn_cX11_findHands_128 dop_62 (by decide +kernel)
theorem dX11_findHands_162 : decode cX11_findHands 162 = .ok (.iconst 1, 1) := dR0 (k := 128) (i := 34) bn_cX11_findHands_128 dop_4 (by decide +kernel)
theorem dX11_findHands_163 : decode cX11_findHands 163 = .ok (.istore 4, 2) := dR1 (f := Instr.istore) (k := 128) (i := 35) bn_cX11_findHands_128 dop_54 4 (by decide +kernel)
theorem dX11_findHands_165 : decode cX11_findHands 165 = .ok (.aload_n 0, 1) := dR0 (k := 128) (i := 37) bn_cX11_findHands_128 dop_42 (by decide +kernel)
theorem dX11_findHands_166 : decode cX11_findHands 166 = .ok (.getfield 37, 3) := dR2 (f := Instr.getfield) (k := 128) (i := 38) bn_cX11_findHands_128 dop_180 37 (by decide +kernel)
theorem dX11_findHands_169 : decode cX11_findHands 169 = .ok (.iconst 0, 1) := dR0 (k := 128) (i := 41) bn_cX11_findHands_128 dop_3 (by decide +kernel)
theorem dX11_findHands_170 : decode cX11_findHands 170 = .ok (.iload_n 1, 1) := dR0 (k := 128) (i := 42) bn_cX11_findHands_128 dop_27 (by decide +kernel)
theorem dX11_findHands_171 : decode cX11_findHands 171 = .ok (.iastore, 1) := dR0 (k := 128) (i := 43) bn_cX11_findHands_128 dop_79 (by decide +kernel)
theorem dX11_findHands_172 : decode cX11_findHands 172 = .ok (.iload_n 3, 1) := dR0 (k := 128) (i := 44) bn_cX11_findHands_128 dop_29 (by decide +kernel)
theorem dX11_findHands_173 : decode cX11_findHands 173 = .ok (.iload_n 2, 1) := dR0 (k := 128) (i := 45) bn_cX11_findHands_128 dop_28 (by decide +kernel)
theorem dX11_findHands_174 : decode cX11_findHands 174 = .ok (.if_icmp .eq 58, 3) := dR2s (f := Instr.if_icmp .eq) (k := 128) (i := 46) bn_cX11_findHands_128 dop_159 58 58 (by decide +kernel)
theorem dX11_findHands_177 : decode cX11_findHands 177 = .ok (.iconst 0, 1) := dR0 (k := 128) (i := 49) bn_cX11_findHands_128 dop_3 (by decide +kernel)
theorem dX11_findHands_178 : decode cX11_findHands 178 = .ok (.istore 5, 2) := dR1 (f := Instr.istore) (k := 128) (i := 50) bn_cX11_findHands_128 dop_54 5 (by decide +kernel)
theorem dX11_findHands_180 : decode cX11_findHands 180 = .ok (.aload_n 0, 1) := dR0 (k := 128) (i := 52) bn_cX11_findHands_128 dop_42 (by decide +kernel)
theorem dX11_findHands_181 : decode cX11_findHands 181 = .ok (.getfield 34, 3) := dR2 (f := Instr.getfield) (k := 128) (i := 53) bn_cX11_findHands_128 dop_180 34 (by decide +kernel)
theorem dX11_findHands_184 : decode cX11_findHands 184 = .ok (.iload 5, 2) := dR1 (f := Instr.iload) (k := 128) (i := 56) bn_cX11_findHands_128 dop_21 5 (by decide +kernel)
theorem dX11_findHands_186 : decode cX11_findHands 186 = .ok (.iaload, 1) := dR0 (k := 128) (i := 58) bn_cX11_findHands_128 dop_46 (by decide +kernel)
theorem dX11_findHands_187 : decode cX11_findHands 187 = .ok (.aload_n 0, 1) := dR0 (k := 128) (i := 59) bn_cX11_findHands_128 dop_42 (by decide +kernel)
theorem dX11_findHands_188 : decode cX11_findHands 188 = .ok (.getfield 34, 3) := dR2 (f := Instr.getfield) (k := 128) (i := 60) bn_cX11_findHands_128 dop_180 34 (by decide +kernel)
theorem dX11_findHands_191 : decode cX11_findHands 191 = .ok (.iload_n 3, 1) := dR0 (k := 128) (i := 63) bn_cX11_findHands_128 dop_29 (by decide +kernel)
theorem dX11_findHands_192 : decode cX11_findHands 192 = .ok (.iaload, 1) := dR0 (k := 128) (i := 64) bn_cX11_findHands_128 dop_46 (by decide +kernel)
theorem dX11_findHands_193 : decode cX11_findHands 193 = .ok (.iconst 1, 1) := dR0 (k := 128) (i := 65) bn_cX11_findHands_128 dop_4 (by decide +kernel)
theorem dX11_findHands_194 : decode cX11_findHands 194 = .ok (.isub, 1) := dR0 (k := 128) (i := 66) bn_cX11_findHands_128 dop_100 (by decide +kernel)
theorem dX11_findHands_195 : decode cX11_findHands 195 = .ok (.if_icmp .ne 13, 3) := dR2s (f := Instr.if_icmp .ne) (k := 128) (i := 67) bn_cX11_findHands_128 dop_160 13 13 (by decide +kernel)
theorem dX11_findHands_198 : decode cX11_findHands 198 = .ok (.aload_n 0, 1) := dR0 (k := 128) (i := 70) bn_cX11_findHands_128 dop_42 (by decide +kernel)
theorem dX11_findHands_199 : decode cX11_findHands 199 = .ok (.iload_n 3, 1) := dR0 (k := 128) (i := 71) bn_cX11_findHands_128 dop_29 (by decide +kernel)
theorem dX11_findHands_200 : decode cX11_findHands 200 = .ok (.iload 5, 2) := dR1 (f := Instr.iload) (k := 128) (i := 72) bn_cX11_findHands_128 dop_21 5 (by decide +kernel)
theorem dX11_findHands_202 : decode cX11_findHands 202 = .ok (.invokevirtual 130, 3) := dR2 (f := Instr.invokevirtual) (k := 128) (i := 74) bn_cX11_findHands_128 dop_182 130 (by decide +kernel)
theorem dX11_findHands_205 : decode cX11_findHands 205 = .ok (.ifCond .ne 9, 3) := dR2s (f := Instr.ifCond .ne) (k := 128) (i := 77) bn_cX11_findHands_128 dop_154 9 9 (by decide +kernel)
theorem dX11_findHands_208 : decode cX11_findHands 208 = .ok (.iinc 5 1, 3) := dRii (f := Instr.iinc) (k := 128) (i := 80) bn_cX11_findHands_128 dop_132 5 1 1 (by decide +kernel)
theorem dX11_findHands_211 : decode cX11_findHands 211 = .ok (.goto (-31), 3) := dR2s (f := Instr.goto) (k := 128) (i := 83) bn_cX11_findHands_128 dop_167 65505 (-31) (by decide +kernel)
theorem dX11_findHands_214 : decode cX11_findHands 214 = .ok (.aload_n 0, 1) := dR0 (k := 128) (i := 86) bn_cX11_findHands_128 dop_42 (by decide +kernel)
theorem dX11_findHands_215 : decode cX11_findHands 215 = .ok (.getfield 37, 3) := dR2 (f := Instr.getfield) (k := 128) (i := 87) bn_cX11_findHands_128 dop_180 37 (by decide +kernel)
theorem dX11_findHands_218 : decode cX11_findHands 218 = .ok (.iload 4, 2) := dR1 (f := Instr.iload) (k := 128) (i := 90) bn_cX11_findHands_128 dop_21 4 (by decide +kernel)
theorem dX11_findHands_220 : decode cX11_findHands 220 = .ok (.iload 5, 2) := dR1 (f := Instr.iload) (k := 128) (i := 92) bn_cX11_findHands_128 dop_21 5 (by decide +kernel)
theorem dX11_findHands_222 : decode cX11_findHands 222 = .ok (.iastore, 1) := dR0 (k := 128) (i := 94) bn_cX11_findHands_128 dop_79 (by decide +kernel)
theorem dX11_findHands_223 : decode cX11_findHands 223 = .ok (.iinc 4 1, 3) := dRii (f := Instr.iinc) (k := 128) (i := 95) bn_cX11_findHands_128 dop_132 4 1 1 (by decide +kernel)
theorem dX11_findHands_226 : decode cX11_findHands 226 = .ok (.iload 5, 2) := dR1 (f := Instr.iload) (k := 128) (i := 98) bn_cX11_findHands_128 dop_21 5 (by decide +kernel)
theorem dX11_findHands_228 : decode cX11_findHands 228 = .ok (.istore_n 3, 1) := dR0 (k := 128) (i := 100) bn_cX11_findHands_128 dop_62 (by decide +kernel)
theorem dX11_findHands_229 : decode cX11_findHands 229 = .ok (.goto (-57), 3) := dR2s (f := Instr.goto) (k := 128) (i := 101) bn_cX11_findHands_128 dop_167 65479 (-57) (by decide +kernel)
theorem dX11_findHands_232 : decode cX11_findHands 232 = .ok (.iload 4, 2) := dR1 (f := Instr.iload) (k := 128) (i := 104) bn_cX11_findHands_128 dop_21 4 (by decide +kernel)
theorem dX11_findHands_234 : decode cX11_findHands 234 = .ok (.ireturn, 1) := dR0 (k := 128) (i := 106) bn_cX11_findHands_128 dop_172 (by decide +kernel)
set_option maxHeartbeats 4000000 in
set_option maxRecDepth 100000 in
theorem c_X11_findHandsG (l : Launch) (D : va_G) (cI : ClassId) (aK aV : Nat → Nat) (k k0 k1 k2 k4 k5 k6 k7 k8 ka kb kl ko : Nat) (sz : Nat) (c3 : Int32) (c9 : Int32) (cc : Int32) (cd : Int32) (ce : Int32) (cf : Int32) (cg : Int32) (ch : Int32) (ci : Int32) (cj : Int32) (ck : Int32) (cm : Int32) (cn : Int32) (c0 : Nat → Int32) (ca : Nat → Int32) (cb : Nat → Int32) (a0 : Int32) (a1 : Int32) (pre0 : SB c0) (pre1 : 0 ≤ a0.toInt) (pre2 : a0.toInt ≤ 59) (pre3 : 0 ≤ a1.toInt) (pre4 : a1.toInt ≤ 59) : Met l yX11_findHands (gW yX11_findHands cX11_findHands 6 (some .int)) ({ frames := 5, cells := 0, slots := 0, locals := 116 } : Room) (kPreX D cI aK aV [.ref k, .int a0, .int a1] [(k, .inr (11, [.ref k0, .ref k1, .ref k2, .int c3, .ref k4, .ref k5, .ref k6, .ref k7, .ref k8, .int c9, .ref ka, .ref kb, .int cc, .int cd, .int ce, .int cf, .int cg, .int ch, .int ci, .int cj, .int ck, .ref kl, .int cm, .int cn, .ref ko])), (k0, .inl (cI, 1201, .inl c0)), (ka, .inl (cI, 60, .inl ca)), (kb, .inl (cI, 60, .inl cb))] sz) (va_Qi (fun (r : Int32) (u : (Nat → Int32) × (Nat → Int32)) => 0 ≤ r.toInt ∧ r.toInt ≤ 60) (fun u t => kWd D cI (va_A [(k, .inr (11, [.ref k0, .ref k1, .ref k2, .int c3, .ref k4, .ref k5, .ref k6, .ref k7, .ref k8, .int c9, .ref ka, .ref kb, .int cc, .int cd, .int ce, .int cf, .int cg, .int ch, .int ci, .int cj, .int ck, .ref kl, .int cm, .int cn, .ref ko])), (k0, .inl (cI, 1201, .inl c0)), (ka, .inl (cI, 60, .inl ca)), (kb, .inl (cI, 60, .inl cb))] sz) [(k, .inr (11, [.ref k0, .ref k1, .ref k2, .int c3, .ref k4, .ref k5, .ref k6, .ref k7, .ref k8, .int c9, .ref ka, .ref kb, .int cc, .int cd, .int ce, .int cf, .int cg, .int ch, .int ci, .int cj, .int ck, .ref kl, .int cm, .int cn, .ref ko])), (k0, .inl (cI, 1201, .inl c0)), (ka, .inl (cI, 60, .inl u.1)), (kb, .inl (cI, 60, .inl u.2))] t) (va_A [(k, .inr (11, [.ref k0, .ref k1, .ref k2, .int c3, .ref k4, .ref k5, .ref k6, .ref k7, .ref k8, .int c9, .ref ka, .ref kb, .int cc, .int cd, .int ce, .int cf, .int cg, .int ch, .int ci, .int cj, .int ck, .ref kl, .int cm, .int cn, .ref ko])), (k0, .inl (cI, 1201, .inl c0)), (ka, .inl (cI, 60, .inl ca)), (kb, .inl (cI, 60, .inl cb))] sz)) 0 0 (va_A [(k, .inr (11, [.ref k0, .ref k1, .ref k2, .int c3, .ref k4, .ref k5, .ref k6, .ref k7, .ref k8, .int c9, .ref ka, .ref kb, .int cc, .int cd, .int ce, .int cf, .int cg, .int ch, .int ci, .int cj, .int ck, .ref kl, .int cm, .int cn, .ref ko])), (k0, .inl (cI, 1201, .inl c0)), (ka, .inl (cI, 60, .inl ca)), (kb, .inl (cI, 60, .inl cb))] sz) := by
  refine kMetIX (own := RX11) (by decide +kernel) rfl (Nat.le_of_ble_eq_true rfl) ?_
  intro p e s m args below meth c hx hb hT hown hname hml A Q hK hP hD hS hA hN hXS hRet ls hl
  have hl : lv_has ls 6 [(0, .ref k), (1, .int a0), (2, .int a1)] := hl
  have lo_a0 := k_lo a0
  have hi_a0 := k_hi a0
  have lo_a1 := k_lo a1
  have hi_a1 := k_hi a1
  have lo_ci := k_lo ci
  have hi_ci := k_hi ci
  have pre0 : SB c0 := pre0
  have nb_1 : 0 ≤ (c0 0).toInt ∧ (c0 0).toInt ≤ 2000 := SB.n0 pre0
  have nb_2 : 0 ≤ (c0 1).toInt ∧ (c0 1).toInt ≤ 60 := SB.n1 pre0
  have nb_3 : 0 ≤ (c0 2).toInt ∧ (c0 2).toInt ≤ 4 := SB.n2 pre0
  refine lv_iconst (v := 0) hx hb dX11_findHands_0 (by decide +kernel) ?_
  refine lv_istore_n (lv' := [(3, .int 0), (0, .ref k), (1, .int a0), (2, .int a1)]) hx hb dX11_findHands_1 rfl hl (by decide +kernel) rfl ?_
  clear hl
  intro ls hl
  have hloop_2 : ∀ (fu_ : Nat) (l2_3 : Int32) (g2_ka : Nat → Int32), 0 ≤ l2_3.toInt → HP g2_ka a1 l2_3.toInt → l2_3.toInt ≤ 60 → (60 - l2_3.toInt).toNat < fu_ → ∀ (ls : Array Slot) (H : Heap) (locs : List Loc), lv_has ls 6 [(3, .int l2_3), (0, .ref k), (1, .int a0), (2, .int a1)] → va_P D vwCl [(k, .inr (11, [.ref k0, .ref k1, .ref k2, .int c3, .ref k4, .ref k5, .ref k6, .ref k7, .ref k8, .int c9, .ref ka, .ref kb, .int cc, .int cd, .int ce, .int cf, .int cg, .int ch, .int ci, .int cj, .int ck, .ref kl, .int cm, .int cn, .ref ko])), (k0, .inl (cI, 1201, .inl c0)), (ka, .inl (cI, 60, .inl g2_ka)), (kb, .inl (cI, 60, .inl cb))] H → va_D A [(k, .inr (11, [.ref k0, .ref k1, .ref k2, .int c3, .ref k4, .ref k5, .ref k6, .ref k7, .ref k8, .int c9, .ref ka, .ref kb, .int cc, .int cd, .int ce, .int cf, .int cg, .int ch, .int ci, .int cj, .int ck, .ref kl, .int cm, .int cn, .ref ko])), (k0, .inl (cI, 1201, .inl c0)), (ka, .inl (cI, 60, .inl g2_ka)), (kb, .inl (cI, 60, .inl cb))] → va_S A s.heap H locs → W p l e ({ frames := 5, cells := 0, slots := 0, locals := 116 } : Room) s m args below meth c H locs 0 0 Q (F0 m 2 ls []) := by
    intro fu_; induction fu_ with
    | zero => intro l2_3 g2_ka i2_0 i2_1 i2_2 hm; exact absurd hm (by omega)
    | succ fu_ ih2 =>
        intro l2_3 g2_ka i2_0 i2_1 i2_2 hm ls H locs hl hP hD hS
        have lo_l2_3 := k_lo l2_3
        have hi_l2_3 := k_hi l2_3
        refine lv_iload_n hx hb dX11_findHands_2 rfl (lv_at hl 0 rfl) ?_
        refine lv_bipush (v := 60) hx hb dX11_findHands_3 (by decide +kernel) ?_
        refine b_icmp_ge hx hb rfl zl_60 (tgt := 39) dX11_findHands_5 (by decide +kernel) (fun c_4 => ?_) (fun c_4 => ?_)
        · refine lv_iconst (v := 0) hx hb dX11_findHands_39 (by decide +kernel) ?_
          refine lv_istore_n (lv' := [(3, .int 0), (0, .ref k), (1, .int a0), (2, .int a1)]) hx hb dX11_findHands_40 rfl hl (by decide +kernel) rfl ?_
          clear hl
          intro ls hl
          have hloop_41 : ∀ (fu_ : Nat) (l41_3 : Int32) (g41_ka : Nat → Int32), 0 ≤ l41_3.toInt → HS c0 g41_ka a1 → 0 ≤ l41_3.toInt → ((c0 1).toInt - l41_3.toInt).toNat < fu_ → ∀ (ls : Array Slot) (H : Heap) (locs : List Loc), lv_has ls 6 [(3, .int l41_3), (0, .ref k), (1, .int a0), (2, .int a1)] → va_P D vwCl [(k, .inr (11, [.ref k0, .ref k1, .ref k2, .int c3, .ref k4, .ref k5, .ref k6, .ref k7, .ref k8, .int c9, .ref ka, .ref kb, .int cc, .int cd, .int ce, .int cf, .int cg, .int ch, .int ci, .int cj, .int ck, .ref kl, .int cm, .int cn, .ref ko])), (k0, .inl (cI, 1201, .inl c0)), (ka, .inl (cI, 60, .inl g41_ka)), (kb, .inl (cI, 60, .inl cb))] H → va_D A [(k, .inr (11, [.ref k0, .ref k1, .ref k2, .int c3, .ref k4, .ref k5, .ref k6, .ref k7, .ref k8, .int c9, .ref ka, .ref kb, .int cc, .int cd, .int ce, .int cf, .int cg, .int ch, .int ci, .int cj, .int ck, .ref kl, .int cm, .int cn, .ref ko])), (k0, .inl (cI, 1201, .inl c0)), (ka, .inl (cI, 60, .inl g41_ka)), (kb, .inl (cI, 60, .inl cb))] → va_S A s.heap H locs → W p l e ({ frames := 5, cells := 0, slots := 0, locals := 116 } : Room) s m args below meth c H locs 0 0 Q (F0 m 41 ls []) := by
            intro fu_; induction fu_ with
            | zero => intro l41_3 g41_ka i41_0 i41_1 i41_2 hm; exact absurd hm (by omega)
            | succ fu_ ih41 =>
                intro l41_3 g41_ka i41_0 i41_1 i41_2 hm ls H locs hl hP hD hS
                have lo_l41_3 := k_lo l41_3
                have hi_l41_3 := k_hi l41_3
                have i41_1 : HS c0 g41_ka a1 := i41_1
                refine lv_iload_n hx hb dX11_findHands_41 rfl (lv_at hl 0 rfl) ?_
                refine lv_aload_n hx hb dX11_findHands_42 rfl (lv_at hl 1 rfl) ?_
                refine va_get (D := D) (ci := 11) (v := .ref k0) (C := RX11) (T := TX11) (N := 25) hx hb hT giX11 hown hK hP 0 rfl rfl 0 (by decide +kernel) (hT (Cond.fieldLink RX11 9 "DesertWireModel" "s" "[I") mw_1156) (fun _ h9 => h9) rfl dX11_findHands_43 ?_
                refine lv_iconst (v := 1) hx hb dX11_findHands_46 (by decide +kernel) ?_
                refine k_iald (v := (c0 1)) hx hb hK hP 1 0 rfl rfl (k_inl (by decide +kernel)) rfl dX11_findHands_47 ?_
                refine lv_topi (fun v_5 ev_5 => ?_)
                have lo_v_5 := k_lo v_5
                have hi_v_5 := k_hi v_5
                have tv_5 : v_5.toInt = (c0 1).toInt := by rw [ev_5]
                have b_6 : 0 ≤ v_5.toInt ∧ v_5.toInt ≤ 60 := by first | (rw [tv_5]; exact SB.n1 pre0) | exact SB.n1 pre0 | omega
                refine b_icmp_ge hx hb rfl rfl (tgt := 149) dX11_findHands_48 (by decide +kernel) (fun c_7 => ?_) (fun c_7 => ?_)
                · refine lv_aload_n hx hb dX11_findHands_149 rfl (lv_at hl 1 rfl) ?_
                  refine va_get (D := D) (ci := 11) (v := .ref ka) (C := RX11) (T := TX11) (N := 25) hx hb hT giX11 hown hK hP 0 rfl rfl 10 (by decide +kernel) (hT (Cond.fieldLink RX11 34 "DesertWireModel" "steps" "[I") mw_1166) (fun _ h9 => h9) rfl dX11_findHands_150 ?_
                  refine lv_iload_n hx hb dX11_findHands_153 rfl (lv_at hl 2 rfl) ?_
                  refine k_iald (v := (g41_ka a0.toNatClampNeg)) hx hb hK hP 2 0 rfl rfl (k_in (by omega) (by omega)) rfl dX11_findHands_154 ?_
                  refine lv_topi (fun v_8 ev_8 => ?_)
                  have lo_v_8 := k_lo v_8
                  have hi_v_8 := k_hi v_8
                  have tv_8 : v_8.toInt = (g41_ka a0.toNatClampNeg).toInt := by rw [ev_8]
                  refine b_if_ge hx hb rfl (tgt := 160) dX11_findHands_155 (by decide +kernel) (fun c_9 => ?_) (fun c_9 => ?_)
                  · refine lv_iload_n hx hb dX11_findHands_160 rfl (lv_at hl 2 rfl) ?_
                    refine lv_istore_n (lv' := [(3, .int a0), (0, .ref k), (1, .int a0), (2, .int a1)]) hx hb dX11_findHands_161 rfl hl (by decide +kernel) rfl ?_
                    clear hl
                    intro ls hl
                    refine lv_iconst (v := 1) hx hb dX11_findHands_162 (by decide +kernel) ?_
                    refine lv_istore (lv' := [(4, .int 1), (3, .int a0), (0, .ref k), (1, .int a0), (2, .int a1)]) hx hb dX11_findHands_163 hl (by decide +kernel) rfl ?_
                    clear hl
                    intro ls hl
                    refine lv_aload_n hx hb dX11_findHands_165 rfl (lv_at hl 2 rfl) ?_
                    refine va_get (D := D) (ci := 11) (v := .ref kb) (C := RX11) (T := TX11) (N := 25) hx hb hT giX11 hown hK hP 0 rfl rfl 11 (by decide +kernel) (hT (Cond.fieldLink RX11 37 "DesertWireModel" "way" "[I") mw_1167) (fun _ h9 => h9) rfl dX11_findHands_166 ?_
                    refine lv_iconst (v := 0) hx hb dX11_findHands_169 (by decide +kernel) ?_
                    refine lv_iload_n hx hb dX11_findHands_170 rfl (lv_at hl 3 rfl) ?_
                    refine va_iast hx hb hK hP hD hS 3 0 rfl rfl (k_inl (by decide +kernel)) dX11_findHands_171 ?_
                    clear hP hD hS
                    intro H locs hP hD hS
                    replace hP : va_P D vwCl [(k, .inr (11, [.ref k0, .ref k1, .ref k2, .int c3, .ref k4, .ref k5, .ref k6, .ref k7, .ref k8, .int c9, .ref ka, .ref kb, .int cc, .int cd, .int ce, .int cf, .int cg, .int ch, .int ci, .int cj, .int ck, .ref kl, .int cm, .int cn, .ref ko])), (k0, .inl (cI, 1201, .inl c0)), (ka, .inl (cI, 60, .inl g41_ka)), (kb, .inl (cI, 60, .inl (upd cb 0 a0)))] H := hP
                    replace hD : va_D A [(k, .inr (11, [.ref k0, .ref k1, .ref k2, .int c3, .ref k4, .ref k5, .ref k6, .ref k7, .ref k8, .int c9, .ref ka, .ref kb, .int cc, .int cd, .int ce, .int cf, .int cg, .int ch, .int ci, .int cj, .int ck, .ref kl, .int cm, .int cn, .ref ko])), (k0, .inl (cI, 1201, .inl c0)), (ka, .inl (cI, 60, .inl g41_ka)), (kb, .inl (cI, 60, .inl (upd cb 0 a0)))] := hD
                    obtain ⟨f_10, ef_10⟩ : ∃ g : Nat → Int32, g = upd cb 0 a0 := ⟨_, rfl⟩
                    rw [← ef_10] at hP hD
                    have hlt_11 : (g41_ka a0.toNatClampNeg).toInt ≤ 59 := HS_lt i41_1 (by omega) (by omega)
                    have hloop_172 : ∀ (fu_ : Nat) (l172_3 : Int32) (l172_4 : Int32) (g172_kb : Nat → Int32), 1 ≤ l172_4.toInt → 0 ≤ l172_3.toInt → l172_3.toInt ≤ 59 → 1 ≤ l172_4.toInt → 0 ≤ (g41_ka l172_3.toNatClampNeg).toInt → l172_4.toInt + (g41_ka l172_3.toNatClampNeg).toInt = 1 + (g41_ka a0.toNatClampNeg).toInt → (g41_ka l172_3.toNatClampNeg).toInt.toNat < fu_ → ∀ (ls : Array Slot) (H : Heap) (locs : List Loc), lv_has ls 6 [(4, .int l172_4), (3, .int l172_3), (0, .ref k), (1, .int a0), (2, .int a1)] → va_P D vwCl [(k, .inr (11, [.ref k0, .ref k1, .ref k2, .int c3, .ref k4, .ref k5, .ref k6, .ref k7, .ref k8, .int c9, .ref ka, .ref kb, .int cc, .int cd, .int ce, .int cf, .int cg, .int ch, .int ci, .int cj, .int ck, .ref kl, .int cm, .int cn, .ref ko])), (k0, .inl (cI, 1201, .inl c0)), (ka, .inl (cI, 60, .inl g41_ka)), (kb, .inl (cI, 60, .inl g172_kb))] H → va_D A [(k, .inr (11, [.ref k0, .ref k1, .ref k2, .int c3, .ref k4, .ref k5, .ref k6, .ref k7, .ref k8, .int c9, .ref ka, .ref kb, .int cc, .int cd, .int ce, .int cf, .int cg, .int ch, .int ci, .int cj, .int ck, .ref kl, .int cm, .int cn, .ref ko])), (k0, .inl (cI, 1201, .inl c0)), (ka, .inl (cI, 60, .inl g41_ka)), (kb, .inl (cI, 60, .inl g172_kb))] → va_S A s.heap H locs → W p l e ({ frames := 5, cells := 0, slots := 0, locals := 116 } : Room) s m args below meth c H locs 0 0 Q (F0 m 172 ls []) := by
                      intro fu_; induction fu_ with
                      | zero => intro l172_3 l172_4 g172_kb i172_0 i172_1 i172_2 i172_3 i172_4 i172_5 hm; exact absurd hm (by omega)
                      | succ fu_ ih172 =>
                          intro l172_3 l172_4 g172_kb i172_0 i172_1 i172_2 i172_3 i172_4 i172_5 hm ls H locs hl hP hD hS
                          have lo_l172_3 := k_lo l172_3
                          have hi_l172_3 := k_hi l172_3
                          have lo_l172_4 := k_lo l172_4
                          have hi_l172_4 := k_hi l172_4
                          refine lv_iload_n hx hb dX11_findHands_172 rfl (lv_at hl 1 rfl) ?_
                          refine lv_iload_n hx hb dX11_findHands_173 rfl (lv_at hl 4 rfl) ?_
                          refine b_icmp_eq hx hb rfl rfl (tgt := 232) dX11_findHands_174 (by decide +kernel) (fun c_12 => ?_) (fun c_12 => ?_)
                          · refine lv_iload hx hb dX11_findHands_232 (lv_at hl 0 rfl) ?_
                            exact hRet (g41_ka, g172_kb) [0, 1, 2, 3] ⟨(by first | omega | decide | assumption | rfl | (dsimp only; first | omega)), (by first | omega | decide | assumption | rfl | (dsimp only; first | omega))⟩ hP hD (by decide +kernel) rfl hS rfl dX11_findHands_234
                          · refine lv_iconst (v := 0) hx hb dX11_findHands_177 (by decide +kernel) ?_
                            refine lv_istore (lv' := [(5, .int 0), (4, .int l172_4), (3, .int l172_3), (0, .ref k), (1, .int a0), (2, .int a1)]) hx hb dX11_findHands_178 hl (by decide +kernel) rfl ?_
                            clear hl
                            intro ls hl
                            obtain ⟨ow, ho0, ho1, ho2, ho3, ho4⟩ := HS_next i41_1 (w := l172_3) (by omega) (by omega) (by omega) (by omega)
                            have hloop_180 : ∀ (fu_ : Nat) (l180_5 : Int32), 0 ≤ l180_5.toInt → 0 ≤ l180_5.toInt → l180_5.toInt ≤ ow.toInt → (60 - l180_5.toInt).toNat < fu_ → ∀ (ls : Array Slot) (H : Heap) (locs : List Loc), lv_has ls 6 [(5, .int l180_5), (4, .int l172_4), (3, .int l172_3), (0, .ref k), (1, .int a0), (2, .int a1)] → va_P D vwCl [(k, .inr (11, [.ref k0, .ref k1, .ref k2, .int c3, .ref k4, .ref k5, .ref k6, .ref k7, .ref k8, .int c9, .ref ka, .ref kb, .int cc, .int cd, .int ce, .int cf, .int cg, .int ch, .int ci, .int cj, .int ck, .ref kl, .int cm, .int cn, .ref ko])), (k0, .inl (cI, 1201, .inl c0)), (ka, .inl (cI, 60, .inl g41_ka)), (kb, .inl (cI, 60, .inl g172_kb))] H → va_D A [(k, .inr (11, [.ref k0, .ref k1, .ref k2, .int c3, .ref k4, .ref k5, .ref k6, .ref k7, .ref k8, .int c9, .ref ka, .ref kb, .int cc, .int cd, .int ce, .int cf, .int cg, .int ch, .int ci, .int cj, .int ck, .ref kl, .int cm, .int cn, .ref ko])), (k0, .inl (cI, 1201, .inl c0)), (ka, .inl (cI, 60, .inl g41_ka)), (kb, .inl (cI, 60, .inl g172_kb))] → va_S A s.heap H locs → W p l e ({ frames := 5, cells := 0, slots := 0, locals := 116 } : Room) s m args below meth c H locs 0 0 Q (F0 m 180 ls []) := by
                              intro fu_; induction fu_ with
                              | zero => intro l180_5 i180_0 i180_1 i180_2 hm; exact absurd hm (by omega)
                              | succ fu_ ih180 =>
                                  intro l180_5 i180_0 i180_1 i180_2 hm ls H locs hl hP hD hS
                                  have lo_l180_5 := k_lo l180_5
                                  have hi_l180_5 := k_hi l180_5
                                  refine lv_aload_n hx hb dX11_findHands_180 rfl (lv_at hl 3 rfl) ?_
                                  refine va_get (D := D) (ci := 11) (v := .ref ka) (C := RX11) (T := TX11) (N := 25) hx hb hT giX11 hown hK hP 0 rfl rfl 10 (by decide +kernel) (hT (Cond.fieldLink RX11 34 "DesertWireModel" "steps" "[I") mw_1166) (fun _ h9 => h9) rfl dX11_findHands_181 ?_
                                  refine lv_iload hx hb dX11_findHands_184 (lv_at hl 0 rfl) ?_
                                  refine k_iald (v := (g41_ka l180_5.toNatClampNeg)) hx hb hK hP 2 0 rfl rfl (k_in (by omega) (by omega)) rfl dX11_findHands_186 ?_
                                  refine lv_topi (fun v_13 ev_13 => ?_)
                                  have lo_v_13 := k_lo v_13
                                  have hi_v_13 := k_hi v_13
                                  have tv_13 : v_13.toInt = (g41_ka l180_5.toNatClampNeg).toInt := by rw [ev_13]
                                  refine lv_aload_n hx hb dX11_findHands_187 rfl (lv_at hl 3 rfl) ?_
                                  refine va_get (D := D) (ci := 11) (v := .ref ka) (C := RX11) (T := TX11) (N := 25) hx hb hT giX11 hown hK hP 0 rfl rfl 10 (by decide +kernel) (hT (Cond.fieldLink RX11 34 "DesertWireModel" "steps" "[I") mw_1166) (fun _ h9 => h9) rfl dX11_findHands_188 ?_
                                  refine lv_iload_n hx hb dX11_findHands_191 rfl (lv_at hl 2 rfl) ?_
                                  refine k_iald (v := (g41_ka l172_3.toNatClampNeg)) hx hb hK hP 2 0 rfl rfl (k_in (by omega) (by omega)) rfl dX11_findHands_192 ?_
                                  refine lv_topi (fun v_14 ev_14 => ?_)
                                  have lo_v_14 := k_lo v_14
                                  have hi_v_14 := k_hi v_14
                                  have tv_14 : v_14.toInt = (g41_ka l172_3.toNatClampNeg).toInt := by rw [ev_14]
                                  refine lv_iconst (v := 1) hx hb dX11_findHands_193 (by decide +kernel) ?_
                                  refine lv_isub hx hb dX11_findHands_194 ?_
                                  refine lv_topi (fun v_15 ev_15 => ?_)
                                  have tv_15 : v_15.toInt = v_14.toInt - 1 := by rw [ev_15]; exact k_subv rfl zl_1 (by omega) (by omega)
                                  refine b_icmp_ne hx hb rfl rfl (tgt := 208) dX11_findHands_195 (by decide +kernel) (fun c_16 => ?_) (fun c_16 => ?_)
                                  · obtain ⟨v_17, ev_17⟩ : ∃ y : Int32, y = l180_5 + 1 := ⟨_, rfl⟩
                                    have tv_17 : v_17.toInt = l180_5.toInt + 1 := by rw [ev_17]; exact k_addv rfl zl_1 (by omega) (by omega)
                                    refine lv_iinc (v := v_17) (lv' := [(5, .int v_17), (4, .int l172_4), (3, .int l172_3), (0, .ref k), (1, .int a0), (2, .int a1)]) hx hb dX11_findHands_208 hl (k := 0) rfl (by rw [ev_17]; rfl) (by decide +kernel) rfl ?_
                                    clear hl
                                    intro ls hl
                                    refine lv_goto (tgt := 180) hx hb dX11_findHands_211 (by decide +kernel) ?_
                                    exact ih180 v_17 (by first | omega | decide | assumption | rfl) (by first | omega | decide | assumption | rfl) (by have z := k_nxt1 (g := g41_ka) i180_2 (by omega); omega) (by omega) ls _ _ (lv_sub hl [0, 1, 2, 3, 4, 5] rfl) (hP.sub [0, 1, 2, 3] rfl) (hD.sub [0, 1, 2, 3] (by decide +kernel) rfl) hS
                                  · refine lv_aload_n hx hb dX11_findHands_198 rfl (lv_at hl 3 rfl) ?_
                                    refine lv_iload_n hx hb dX11_findHands_199 rfl (lv_at hl 2 rfl) ?_
                                    refine lv_iload hx hb dX11_findHands_200 (lv_at hl 0 rfl) ?_
                                    refine kJi (wr := [(ka, .inl (cI, 60, .inl g41_ka)), (kb, .inl (cI, 60, .inl g172_kb))]) (va_runV (As := [.int l172_3, .int l180_5]) (rest := []) ⟨hx, hb, hml, hown, hT⟩ (c_X11_canReadG l D cI aK aV k k0 k1 k2 k4 k5 k6 k7 k8 ka kb kl ko H.size c3 c9 cc cd ce cf cg ch ci cj ck cm cn c0 l172_3 l180_5 pre0 (by first | omega | decide | assumption | rfl) (by first | omega | decide | assumption | rfl) (by first | omega | decide | assumption | rfl) (by first | omega | decide | assumption | rfl)) (cwV 2 hT (gV_in mw_1448 mw_1445 mw_1447 mw_p5_7 mw_12) rfl rfl rfl (by decide +kernel) ⟨Nat.le_of_ble_eq_true rfl, Nat.le_of_ble_eq_true rfl⟩) (kRecvX (q0 := 0) (ci := 11) hK hP hD hN hXS hS hA rfl rfl [0, 1] rfl (by decide +kernel)) rfl rfl hl.1 rfl (lv_room (Nat.le_of_ble_eq_true rfl)) dX11_findHands_202 ⟨Nat.le_of_ble_eq_true rfl, Nat.le_of_ble_eq_true rfl⟩) hP hD hS hA [0, 1] [2, 3] rfl rfl (by decide +kernel) (by decide +kernel) ?_
                                    clear hP hD hS
                                    intro r_18 u_20 H locs w_19 hP hD hS
                                    replace hP : va_P D vwCl [(ka, .inl (cI, 60, .inl g41_ka)), (kb, .inl (cI, 60, .inl g172_kb)), (k, .inr (11, [.ref k0, .ref k1, .ref k2, .int c3, .ref k4, .ref k5, .ref k6, .ref k7, .ref k8, .int c9, .ref ka, .ref kb, .int cc, .int cd, .int ce, .int cf, .int cg, .int ch, .int ci, .int cj, .int ck, .ref kl, .int cm, .int cn, .ref ko])), (k0, .inl (cI, 1201, .inl c0))] H := hP
                                    replace hD : va_D A [(ka, .inl (cI, 60, .inl g41_ka)), (kb, .inl (cI, 60, .inl g172_kb)), (k, .inr (11, [.ref k0, .ref k1, .ref k2, .int c3, .ref k4, .ref k5, .ref k6, .ref k7, .ref k8, .int c9, .ref ka, .ref kb, .int cc, .int cd, .int ce, .int cf, .int cg, .int ch, .int ci, .int cj, .int ck, .ref kl, .int cm, .int cn, .ref ko])), (k0, .inl (cI, 1201, .inl c0))] := hD
                                    rcases w_19 with ⟨hr_18, h_21⟩ | ⟨hr_18, h_22⟩
                                    · have h_21 : crF c0 l172_3 l180_5 = 1 := h_21
                                      obtain rfl : r_18 = 1 := hr_18.trans (by decide +kernel)
                                      refine b_if_ne hx hb zl_1 (tgt := 214) dX11_findHands_205 (by decide +kernel) (fun c_23 => ?_) (fun c_23 => by exfalso; omega)
                                      refine lv_aload_n hx hb dX11_findHands_214 rfl (lv_at hl 3 rfl) ?_
                                      refine va_get (D := D) (ci := 11) (v := .ref kb) (C := RX11) (T := TX11) (N := 25) hx hb hT giX11 hown hK hP 2 rfl rfl 11 (by decide +kernel) (hT (Cond.fieldLink RX11 37 "DesertWireModel" "way" "[I") mw_1167) (fun _ h9 => h9) rfl dX11_findHands_215 ?_
                                      refine lv_iload hx hb dX11_findHands_218 (lv_at hl 1 rfl) ?_
                                      refine lv_iload hx hb dX11_findHands_220 (lv_at hl 0 rfl) ?_
                                      refine va_iast hx hb hK hP hD hS 1 0 rfl rfl (k_in (by omega) (by omega)) dX11_findHands_222 ?_
                                      clear hP hD hS
                                      intro H locs hP hD hS
                                      replace hP : va_P D vwCl [(ka, .inl (cI, 60, .inl g41_ka)), (kb, .inl (cI, 60, .inl (upd g172_kb l172_4.toNatClampNeg l180_5))), (k, .inr (11, [.ref k0, .ref k1, .ref k2, .int c3, .ref k4, .ref k5, .ref k6, .ref k7, .ref k8, .int c9, .ref ka, .ref kb, .int cc, .int cd, .int ce, .int cf, .int cg, .int ch, .int ci, .int cj, .int ck, .ref kl, .int cm, .int cn, .ref ko])), (k0, .inl (cI, 1201, .inl c0))] H := hP
                                      replace hD : va_D A [(ka, .inl (cI, 60, .inl g41_ka)), (kb, .inl (cI, 60, .inl (upd g172_kb l172_4.toNatClampNeg l180_5))), (k, .inr (11, [.ref k0, .ref k1, .ref k2, .int c3, .ref k4, .ref k5, .ref k6, .ref k7, .ref k8, .int c9, .ref ka, .ref kb, .int cc, .int cd, .int ce, .int cf, .int cg, .int ch, .int ci, .int cj, .int ck, .ref kl, .int cm, .int cn, .ref ko])), (k0, .inl (cI, 1201, .inl c0))] := hD
                                      obtain ⟨f_24, ef_24⟩ : ∃ g : Nat → Int32, g = upd g172_kb l172_4.toNatClampNeg l180_5 := ⟨_, rfl⟩
                                      rw [← ef_24] at hP hD
                                      obtain ⟨v_25, ev_25⟩ : ∃ y : Int32, y = l172_4 + 1 := ⟨_, rfl⟩
                                      have tv_25 : v_25.toInt = l172_4.toInt + 1 := by rw [ev_25]; exact k_addv rfl zl_1 (by omega) (by omega)
                                      refine lv_iinc (v := v_25) (lv' := [(4, .int v_25), (5, .int l180_5), (3, .int l172_3), (0, .ref k), (1, .int a0), (2, .int a1)]) hx hb dX11_findHands_223 hl (k := 1) rfl (by rw [ev_25]; rfl) (by decide +kernel) rfl ?_
                                      clear hl
                                      intro ls hl
                                      refine lv_iload hx hb dX11_findHands_226 (lv_at hl 1 rfl) ?_
                                      refine lv_istore_n (lv' := [(3, .int l180_5), (4, .int v_25), (5, .int l180_5), (0, .ref k), (1, .int a0), (2, .int a1)]) hx hb dX11_findHands_228 rfl hl (by decide +kernel) rfl ?_
                                      clear hl
                                      intro ls hl
                                      refine lv_goto (tgt := 172) hx hb dX11_findHands_229 (by decide +kernel) ?_
                                      exact ih172 l180_5 v_25 f_24 (by first | omega | decide | assumption | rfl) (by first | omega | decide | assumption | rfl) (by first | omega | decide | assumption | rfl) (by first | omega | decide | assumption | rfl) (by first | omega | decide | assumption | rfl) (by first | omega | decide | assumption | rfl) (by omega) ls _ _ (lv_sub hl [1, 0, 3, 4, 5] rfl) (hP.sub [2, 3, 0, 1] rfl) (hD.sub [2, 3, 0, 1] (by decide +kernel) rfl) hS
                                    · have h_22 : crF c0 l172_3 l180_5 = 0 := h_22
                                      obtain rfl : r_18 = 0 := hr_18.trans (by decide +kernel)
                                      refine b_if_ne hx hb zl_0 (tgt := 214) dX11_findHands_205 (by decide +kernel) (fun c_26 => by exfalso; omega) (fun c_26 => ?_)
                                      obtain ⟨v_27, ev_27⟩ : ∃ y : Int32, y = l180_5 + 1 := ⟨_, rfl⟩
                                      have tv_27 : v_27.toInt = l180_5.toInt + 1 := by rw [ev_27]; exact k_addv rfl zl_1 (by omega) (by omega)
                                      refine lv_iinc (v := v_27) (lv' := [(5, .int v_27), (4, .int l172_4), (3, .int l172_3), (0, .ref k), (1, .int a0), (2, .int a1)]) hx hb dX11_findHands_208 hl (k := 0) rfl (by rw [ev_27]; rfl) (by decide +kernel) rfl ?_
                                      clear hl
                                      intro ls hl
                                      refine lv_goto (tgt := 180) hx hb dX11_findHands_211 (by decide +kernel) ?_
                                      exact ih180 v_27 (by first | omega | decide | assumption | rfl) (by first | omega | decide | assumption | rfl) (by have z := k_nxt2 i180_2 h_22 ho3; omega) (by omega) ls _ _ (lv_sub hl [0, 1, 2, 3, 4, 5] rfl) (hP.sub [2, 3, 0, 1] rfl) (hD.sub [2, 3, 0, 1] (by decide +kernel) rfl) hS
                            exact hloop_180 _ 0 (by first | omega | (simp only [zl_0]; first | done | omega) | decide | assumption | rfl) (by first | omega | (simp only [zl_0]; first | done | omega) | decide | assumption | rfl) (by first | omega | (rw [zl_0]; omega)) (Nat.lt_succ_self _) ls _ _ (lv_sub hl [0, 1, 2, 3, 4, 5] rfl) hP hD hS
                    exact hloop_172 _ a0 1 f_10 (by first | omega | (simp only [zl_1]; first | done | omega) | decide | assumption | rfl) (by first | omega | (simp only [zl_1]; first | done | omega) | decide | assumption | rfl) (by first | omega | (simp only [zl_1]; first | done | omega) | decide | assumption | rfl) (by first | omega | (simp only [zl_1]; first | done | omega) | decide | assumption | rfl) (by first | omega | (simp only [zl_1]; first | done | omega) | decide | assumption | rfl) (by first | omega | (simp only [zl_1]; first | done | omega) | decide | assumption | rfl) (Nat.lt_succ_self _) ls _ _ (lv_sub hl [0, 1, 2, 3, 4] rfl) hP hD hS
                  · refine lv_iconst (v := 0) hx hb dX11_findHands_158 (by decide +kernel) ?_
                    exact hRet (g41_ka, cb) [0, 1, 2, 3] ⟨(by first | omega | (simp only [zl_0]; first | done | omega) | decide | assumption | rfl | (dsimp only; first | omega | (simp only [zl_0]; first | done | omega))), (by first | omega | (simp only [zl_0]; first | done | omega) | decide | assumption | rfl | (dsimp only; first | omega | (simp only [zl_0]; first | done | omega)))⟩ hP hD (by decide +kernel) rfl hS rfl dX11_findHands_159
                · refine lv_iconst (v := 0) hx hb dX11_findHands_51 (by decide +kernel) ?_
                  refine lv_istore (lv' := [(4, .int 0), (3, .int l41_3), (0, .ref k), (1, .int a0), (2, .int a1)]) hx hb dX11_findHands_52 hl (by decide +kernel) rfl ?_
                  clear hl
                  intro ls hl
                  have hloop_54 : ∀ (fu_ : Nat) (l54_4 : Int32) (g54_ka : Nat → Int32), 0 ≤ l54_4.toInt → HS c0 g54_ka a1 → 0 ≤ l54_4.toInt → l54_4.toInt ≤ (c0 1).toInt → ((c0 1).toInt - l54_4.toInt).toNat < fu_ → ∀ (ls : Array Slot) (H : Heap) (locs : List Loc), lv_has ls 6 [(4, .int l54_4), (3, .int l41_3), (0, .ref k), (1, .int a0), (2, .int a1)] → va_P D vwCl [(k, .inr (11, [.ref k0, .ref k1, .ref k2, .int c3, .ref k4, .ref k5, .ref k6, .ref k7, .ref k8, .int c9, .ref ka, .ref kb, .int cc, .int cd, .int ce, .int cf, .int cg, .int ch, .int ci, .int cj, .int ck, .ref kl, .int cm, .int cn, .ref ko])), (k0, .inl (cI, 1201, .inl c0)), (ka, .inl (cI, 60, .inl g54_ka)), (kb, .inl (cI, 60, .inl cb))] H → va_D A [(k, .inr (11, [.ref k0, .ref k1, .ref k2, .int c3, .ref k4, .ref k5, .ref k6, .ref k7, .ref k8, .int c9, .ref ka, .ref kb, .int cc, .int cd, .int ce, .int cf, .int cg, .int ch, .int ci, .int cj, .int ck, .ref kl, .int cm, .int cn, .ref ko])), (k0, .inl (cI, 1201, .inl c0)), (ka, .inl (cI, 60, .inl g54_ka)), (kb, .inl (cI, 60, .inl cb))] → va_S A s.heap H locs → W p l e ({ frames := 5, cells := 0, slots := 0, locals := 116 } : Room) s m args below meth c H locs 0 0 Q (F0 m 54 ls []) := by
                    intro fu_; induction fu_ with
                    | zero => intro l54_4 g54_ka i54_0 i54_1 i54_2 i54_3 hm; exact absurd hm (by omega)
                    | succ fu_ ih54 =>
                        intro l54_4 g54_ka i54_0 i54_1 i54_2 i54_3 hm ls H locs hl hP hD hS
                        have lo_l54_4 := k_lo l54_4
                        have hi_l54_4 := k_hi l54_4
                        have i54_1 : HS c0 g54_ka a1 := i54_1
                        refine lv_iload hx hb dX11_findHands_54 (lv_at hl 0 rfl) ?_
                        refine lv_aload_n hx hb dX11_findHands_56 rfl (lv_at hl 2 rfl) ?_
                        refine va_get (D := D) (ci := 11) (v := .ref k0) (C := RX11) (T := TX11) (N := 25) hx hb hT giX11 hown hK hP 0 rfl rfl 0 (by decide +kernel) (hT (Cond.fieldLink RX11 9 "DesertWireModel" "s" "[I") mw_1156) (fun _ h9 => h9) rfl dX11_findHands_57 ?_
                        refine lv_iconst (v := 1) hx hb dX11_findHands_60 (by decide +kernel) ?_
                        refine k_iald (v := (c0 1)) hx hb hK hP 1 0 rfl rfl (k_inl (by decide +kernel)) rfl dX11_findHands_61 ?_
                        refine lv_topi (fun v_28 ev_28 => ?_)
                        have lo_v_28 := k_lo v_28
                        have hi_v_28 := k_hi v_28
                        have tv_28 : v_28.toInt = (c0 1).toInt := by rw [ev_28]
                        have b_29 : 0 ≤ v_28.toInt ∧ v_28.toInt ≤ 60 := by first | (rw [tv_28]; exact SB.n1 pre0) | exact SB.n1 pre0 | omega
                        refine b_icmp_ge hx hb rfl rfl (tgt := 143) dX11_findHands_62 (by decide +kernel) (fun c_30 => ?_) (fun c_30 => ?_)
                        · obtain ⟨v_31, ev_31⟩ : ∃ y : Int32, y = l41_3 + 1 := ⟨_, rfl⟩
                          have tv_31 : v_31.toInt = l41_3.toInt + 1 := by rw [ev_31]; exact k_addv rfl zl_1 (by omega) (by omega)
                          refine lv_iinc (v := v_31) (lv' := [(3, .int v_31), (4, .int l54_4), (0, .ref k), (1, .int a0), (2, .int a1)]) hx hb dX11_findHands_143 hl (k := 1) rfl (by rw [ev_31]; rfl) (by decide +kernel) rfl ?_
                          clear hl
                          intro ls hl
                          refine lv_goto (tgt := 41) hx hb dX11_findHands_146 (by decide +kernel) ?_
                          exact ih41 v_31 g54_ka (by first | omega | decide | assumption | rfl) i54_1 (by first | omega | decide | assumption | rfl) (by omega) ls _ _ (lv_sub hl [0, 2, 3, 4] rfl) (hP.sub [0, 1, 2, 3] rfl) (hD.sub [0, 1, 2, 3] (by decide +kernel) rfl) hS
                        · refine lv_iconst (v := 0) hx hb dX11_findHands_65 (by decide +kernel) ?_
                          refine lv_istore (lv' := [(5, .int 0), (4, .int l54_4), (3, .int l41_3), (0, .ref k), (1, .int a0), (2, .int a1)]) hx hb dX11_findHands_66 hl (by decide +kernel) rfl ?_
                          clear hl
                          intro ls hl
                          have hloop_68 : ∀ (fu_ : Nat) (l68_5 : Int32) (g68_ka : Nat → Int32), 0 ≤ l68_5.toInt → HS c0 g68_ka a1 → 0 ≤ l68_5.toInt → l68_5.toInt ≤ (c0 1).toInt → ((c0 1).toInt - l68_5.toInt).toNat < fu_ → ∀ (ls : Array Slot) (H : Heap) (locs : List Loc), lv_has ls 6 [(5, .int l68_5), (4, .int l54_4), (3, .int l41_3), (0, .ref k), (1, .int a0), (2, .int a1)] → va_P D vwCl [(k, .inr (11, [.ref k0, .ref k1, .ref k2, .int c3, .ref k4, .ref k5, .ref k6, .ref k7, .ref k8, .int c9, .ref ka, .ref kb, .int cc, .int cd, .int ce, .int cf, .int cg, .int ch, .int ci, .int cj, .int ck, .ref kl, .int cm, .int cn, .ref ko])), (k0, .inl (cI, 1201, .inl c0)), (ka, .inl (cI, 60, .inl g68_ka)), (kb, .inl (cI, 60, .inl cb))] H → va_D A [(k, .inr (11, [.ref k0, .ref k1, .ref k2, .int c3, .ref k4, .ref k5, .ref k6, .ref k7, .ref k8, .int c9, .ref ka, .ref kb, .int cc, .int cd, .int ce, .int cf, .int cg, .int ch, .int ci, .int cj, .int ck, .ref kl, .int cm, .int cn, .ref ko])), (k0, .inl (cI, 1201, .inl c0)), (ka, .inl (cI, 60, .inl g68_ka)), (kb, .inl (cI, 60, .inl cb))] → va_S A s.heap H locs → W p l e ({ frames := 5, cells := 0, slots := 0, locals := 116 } : Room) s m args below meth c H locs 0 0 Q (F0 m 68 ls []) := by
                            intro fu_; induction fu_ with
                            | zero => intro l68_5 g68_ka i68_0 i68_1 i68_2 i68_3 hm; exact absurd hm (by omega)
                            | succ fu_ ih68 =>
                                intro l68_5 g68_ka i68_0 i68_1 i68_2 i68_3 hm ls H locs hl hP hD hS
                                have lo_l68_5 := k_lo l68_5
                                have hi_l68_5 := k_hi l68_5
                                have i68_1 : HS c0 g68_ka a1 := i68_1
                                refine lv_iload hx hb dX11_findHands_68 (lv_at hl 0 rfl) ?_
                                refine lv_aload_n hx hb dX11_findHands_70 rfl (lv_at hl 3 rfl) ?_
                                refine va_get (D := D) (ci := 11) (v := .ref k0) (C := RX11) (T := TX11) (N := 25) hx hb hT giX11 hown hK hP 0 rfl rfl 0 (by decide +kernel) (hT (Cond.fieldLink RX11 9 "DesertWireModel" "s" "[I") mw_1156) (fun _ h9 => h9) rfl dX11_findHands_71 ?_
                                refine lv_iconst (v := 1) hx hb dX11_findHands_74 (by decide +kernel) ?_
                                refine k_iald (v := (c0 1)) hx hb hK hP 1 0 rfl rfl (k_inl (by decide +kernel)) rfl dX11_findHands_75 ?_
                                refine lv_topi (fun v_32 ev_32 => ?_)
                                have lo_v_32 := k_lo v_32
                                have hi_v_32 := k_hi v_32
                                have tv_32 : v_32.toInt = (c0 1).toInt := by rw [ev_32]
                                have b_33 : 0 ≤ v_32.toInt ∧ v_32.toInt ≤ 60 := by first | (rw [tv_32]; exact SB.n1 pre0) | exact SB.n1 pre0 | omega
                                refine b_icmp_ge hx hb rfl rfl (tgt := 137) dX11_findHands_76 (by decide +kernel) (fun c_34 => ?_) (fun c_34 => ?_)
                                · obtain ⟨v_35, ev_35⟩ : ∃ y : Int32, y = l54_4 + 1 := ⟨_, rfl⟩
                                  have tv_35 : v_35.toInt = l54_4.toInt + 1 := by rw [ev_35]; exact k_addv rfl zl_1 (by omega) (by omega)
                                  refine lv_iinc (v := v_35) (lv' := [(4, .int v_35), (5, .int l68_5), (3, .int l41_3), (0, .ref k), (1, .int a0), (2, .int a1)]) hx hb dX11_findHands_137 hl (k := 1) rfl (by rw [ev_35]; rfl) (by decide +kernel) rfl ?_
                                  clear hl
                                  intro ls hl
                                  refine lv_goto (tgt := 54) hx hb dX11_findHands_140 (by decide +kernel) ?_
                                  exact ih54 v_35 g68_ka (by first | omega | decide | assumption | rfl) i68_1 (by first | omega | decide | assumption | rfl) (by first | omega | decide | assumption | rfl) (by omega) ls _ _ (lv_sub hl [0, 2, 3, 4, 5] rfl) (hP.sub [0, 1, 2, 3] rfl) (hD.sub [0, 1, 2, 3] (by decide +kernel) rfl) hS
                                · refine lv_aload_n hx hb dX11_findHands_79 rfl (lv_at hl 3 rfl) ?_
                                  refine va_get (D := D) (ci := 11) (v := .ref ka) (C := RX11) (T := TX11) (N := 25) hx hb hT giX11 hown hK hP 0 rfl rfl 10 (by decide +kernel) (hT (Cond.fieldLink RX11 34 "DesertWireModel" "steps" "[I") mw_1166) (fun _ h9 => h9) rfl dX11_findHands_80 ?_
                                  refine lv_iload hx hb dX11_findHands_83 (lv_at hl 1 rfl) ?_
                                  refine k_iald (v := (g68_ka l54_4.toNatClampNeg)) hx hb hK hP 2 0 rfl rfl (k_in (by omega) (by omega)) rfl dX11_findHands_85 ?_
                                  refine lv_topi (fun v_36 ev_36 => ?_)
                                  have lo_v_36 := k_lo v_36
                                  have hi_v_36 := k_hi v_36
                                  have tv_36 : v_36.toInt = (g68_ka l54_4.toNatClampNeg).toInt := by rw [ev_36]
                                  refine b_if_ge hx hb rfl (tgt := 137) dX11_findHands_86 (by decide +kernel) (fun c_37 => ?_) (fun c_37 => ?_)
                                  · obtain ⟨v_38, ev_38⟩ : ∃ y : Int32, y = l54_4 + 1 := ⟨_, rfl⟩
                                    have tv_38 : v_38.toInt = l54_4.toInt + 1 := by rw [ev_38]; exact k_addv rfl zl_1 (by omega) (by omega)
                                    refine lv_iinc (v := v_38) (lv' := [(4, .int v_38), (5, .int l68_5), (3, .int l41_3), (0, .ref k), (1, .int a0), (2, .int a1)]) hx hb dX11_findHands_137 hl (k := 1) rfl (by rw [ev_38]; rfl) (by decide +kernel) rfl ?_
                                    clear hl
                                    intro ls hl
                                    refine lv_goto (tgt := 54) hx hb dX11_findHands_140 (by decide +kernel) ?_
                                    exact ih54 v_38 g68_ka (by first | omega | decide | assumption | rfl) i68_1 (by first | omega | decide | assumption | rfl) (by first | omega | decide | assumption | rfl) (by omega) ls _ _ (lv_sub hl [0, 2, 3, 4, 5] rfl) (hP.sub [0, 1, 2, 3] rfl) (hD.sub [0, 1, 2, 3] (by decide +kernel) rfl) hS
                                  · refine lv_aload_n hx hb dX11_findHands_89 rfl (lv_at hl 3 rfl) ?_
                                    refine va_get (D := D) (ci := 11) (v := .ref ka) (C := RX11) (T := TX11) (N := 25) hx hb hT giX11 hown hK hP 0 rfl rfl 10 (by decide +kernel) (hT (Cond.fieldLink RX11 34 "DesertWireModel" "steps" "[I") mw_1166) (fun _ h9 => h9) rfl dX11_findHands_90 ?_
                                    refine lv_iload hx hb dX11_findHands_93 (lv_at hl 1 rfl) ?_
                                    refine lv_aload_n hx hb dX11_findHands_95 rfl (lv_at hl 3 rfl) ?_
                                    refine va_get (D := D) (ci := 11) (v := .ref ka) (C := RX11) (T := TX11) (N := 25) hx hb hT giX11 hown hK hP 0 rfl rfl 10 (by decide +kernel) (hT (Cond.fieldLink RX11 34 "DesertWireModel" "steps" "[I") mw_1166) (fun _ h9 => h9) rfl dX11_findHands_96 ?_
                                    refine lv_iload hx hb dX11_findHands_99 (lv_at hl 0 rfl) ?_
                                    refine k_iald (v := (g68_ka l68_5.toNatClampNeg)) hx hb hK hP 2 0 rfl rfl (k_in (by omega) (by omega)) rfl dX11_findHands_101 ?_
                                    refine lv_topi (fun v_39 ev_39 => ?_)
                                    have lo_v_39 := k_lo v_39
                                    have hi_v_39 := k_hi v_39
                                    have tv_39 : v_39.toInt = (g68_ka l68_5.toNatClampNeg).toInt := by rw [ev_39]
                                    refine lv_iload_n hx hb dX11_findHands_102 rfl (lv_at hl 2 rfl) ?_
                                    refine b_icmp_ne hx hb rfl rfl (tgt := 123) dX11_findHands_103 (by decide +kernel) (fun c_40 => ?_) (fun c_40 => ?_)
                                    · refine lv_aload_n hx hb dX11_findHands_123 rfl (lv_at hl 3 rfl) ?_
                                      refine va_get (D := D) (ci := 11) (v := .ref ka) (C := RX11) (T := TX11) (N := 25) hx hb hT giX11 hown hK hP 0 rfl rfl 10 (by decide +kernel) (hT (Cond.fieldLink RX11 34 "DesertWireModel" "steps" "[I") mw_1166) (fun _ h9 => h9) rfl dX11_findHands_124 ?_
                                      refine lv_iload hx hb dX11_findHands_127 (lv_at hl 1 rfl) ?_
                                      refine k_iald (v := (g68_ka l54_4.toNatClampNeg)) hx hb hK hP 2 0 rfl rfl (k_in (by omega) (by omega)) rfl dX11_findHands_129 ?_
                                      refine lv_topi (fun v_41 ev_41 => ?_)
                                      have lo_v_41 := k_lo v_41
                                      have hi_v_41 := k_hi v_41
                                      have tv_41 : v_41.toInt = (g68_ka l54_4.toNatClampNeg).toInt := by rw [ev_41]
                                      refine va_iast hx hb hK hP hD hS 2 0 rfl rfl (k_in (by omega) (by omega)) dX11_findHands_130 ?_
                                      clear hP hD hS
                                      intro H locs hP hD hS
                                      replace hP : va_P D vwCl [(k, .inr (11, [.ref k0, .ref k1, .ref k2, .int c3, .ref k4, .ref k5, .ref k6, .ref k7, .ref k8, .int c9, .ref ka, .ref kb, .int cc, .int cd, .int ce, .int cf, .int cg, .int ch, .int ci, .int cj, .int ck, .ref kl, .int cm, .int cn, .ref ko])), (k0, .inl (cI, 1201, .inl c0)), (ka, .inl (cI, 60, .inl (upd g68_ka l54_4.toNatClampNeg v_41))), (kb, .inl (cI, 60, .inl cb))] H := hP
                                      replace hD : va_D A [(k, .inr (11, [.ref k0, .ref k1, .ref k2, .int c3, .ref k4, .ref k5, .ref k6, .ref k7, .ref k8, .int c9, .ref ka, .ref kb, .int cc, .int cd, .int ce, .int cf, .int cg, .int ch, .int ci, .int cj, .int ck, .ref kl, .int cm, .int cn, .ref ko])), (k0, .inl (cI, 1201, .inl c0)), (ka, .inl (cI, 60, .inl (upd g68_ka l54_4.toNatClampNeg v_41))), (kb, .inl (cI, 60, .inl cb))] := hD
                                      obtain ⟨f_42, ef_42⟩ : ∃ g : Nat → Int32, g = upd g68_ka l54_4.toNatClampNeg v_41 := ⟨_, rfl⟩
                                      rw [← ef_42] at hP hD
                                      have hh_43 : HS c0 f_42 a1 := HS_same i68_1 ef_42 ev_41
                                      obtain ⟨v_44, ev_44⟩ : ∃ y : Int32, y = l68_5 + 1 := ⟨_, rfl⟩
                                      have tv_44 : v_44.toInt = l68_5.toInt + 1 := by rw [ev_44]; exact k_addv rfl zl_1 (by omega) (by omega)
                                      refine lv_iinc (v := v_44) (lv' := [(5, .int v_44), (4, .int l54_4), (3, .int l41_3), (0, .ref k), (1, .int a0), (2, .int a1)]) hx hb dX11_findHands_131 hl (k := 0) rfl (by rw [ev_44]; rfl) (by decide +kernel) rfl ?_
                                      clear hl
                                      intro ls hl
                                      refine lv_goto (tgt := 68) hx hb dX11_findHands_134 (by decide +kernel) ?_
                                      exact ih68 v_44 f_42 (by first | omega | decide | assumption | rfl) hh_43 (by first | omega | decide | assumption | rfl) (by first | omega | decide | assumption | rfl) (by omega) ls _ _ (lv_sub hl [0, 1, 2, 3, 4, 5] rfl) (hP.sub [0, 1, 2, 3] rfl) (hD.sub [0, 1, 2, 3] (by decide +kernel) rfl) hS
                                    · refine lv_aload_n hx hb dX11_findHands_106 rfl (lv_at hl 3 rfl) ?_
                                      refine lv_iload hx hb dX11_findHands_107 (lv_at hl 1 rfl) ?_
                                      refine lv_iload hx hb dX11_findHands_109 (lv_at hl 0 rfl) ?_
                                      refine kJi (wr := [(ka, .inl (cI, 60, .inl g68_ka)), (kb, .inl (cI, 60, .inl cb))]) (va_runV (As := [.int l54_4, .int l68_5]) (rest := [.int l54_4, .ref ka]) ⟨hx, hb, hml, hown, hT⟩ (c_X11_canReadG l D cI aK aV k k0 k1 k2 k4 k5 k6 k7 k8 ka kb kl ko H.size c3 c9 cc cd ce cf cg ch ci cj ck cm cn c0 l54_4 l68_5 pre0 (by first | omega | decide | assumption | rfl) (by first | omega | decide | assumption | rfl) (by first | omega | decide | assumption | rfl) (by first | omega | decide | assumption | rfl)) (cwV 2 hT (gV_in mw_1448 mw_1445 mw_1447 mw_p5_7 mw_12) rfl rfl rfl (by decide +kernel) ⟨Nat.le_of_ble_eq_true rfl, Nat.le_of_ble_eq_true rfl⟩) (kRecvX (q0 := 0) (ci := 11) hK hP hD hN hXS hS hA rfl rfl [0, 1] rfl (by decide +kernel)) rfl rfl hl.1 rfl (lv_room (Nat.le_of_ble_eq_true rfl)) dX11_findHands_111 ⟨Nat.le_of_ble_eq_true rfl, Nat.le_of_ble_eq_true rfl⟩) hP hD hS hA [0, 1] [2, 3] rfl rfl (by decide +kernel) (by decide +kernel) ?_
                                      clear hP hD hS
                                      intro r_45 u_47 H locs w_46 hP hD hS
                                      replace hP : va_P D vwCl [(ka, .inl (cI, 60, .inl g68_ka)), (kb, .inl (cI, 60, .inl cb)), (k, .inr (11, [.ref k0, .ref k1, .ref k2, .int c3, .ref k4, .ref k5, .ref k6, .ref k7, .ref k8, .int c9, .ref ka, .ref kb, .int cc, .int cd, .int ce, .int cf, .int cg, .int ch, .int ci, .int cj, .int ck, .ref kl, .int cm, .int cn, .ref ko])), (k0, .inl (cI, 1201, .inl c0))] H := hP
                                      replace hD : va_D A [(ka, .inl (cI, 60, .inl g68_ka)), (kb, .inl (cI, 60, .inl cb)), (k, .inr (11, [.ref k0, .ref k1, .ref k2, .int c3, .ref k4, .ref k5, .ref k6, .ref k7, .ref k8, .int c9, .ref ka, .ref kb, .int cc, .int cd, .int ce, .int cf, .int cg, .int ch, .int ci, .int cj, .int ck, .ref kl, .int cm, .int cn, .ref ko])), (k0, .inl (cI, 1201, .inl c0))] := hD
                                      rcases w_46 with ⟨hr_45, h_48⟩ | ⟨hr_45, h_49⟩
                                      · have h_48 : crF c0 l54_4 l68_5 = 1 := h_48
                                        obtain rfl : r_45 = 1 := hr_45.trans (by decide +kernel)
                                        refine b_if_eq hx hb zl_1 (tgt := 123) dX11_findHands_114 (by decide +kernel) (fun c_50 => by exfalso; omega) (fun c_50 => ?_)
                                        refine lv_iload_n hx hb dX11_findHands_117 rfl (lv_at hl 2 rfl) ?_
                                        refine lv_iconst (v := 1) hx hb dX11_findHands_118 (by decide +kernel) ?_
                                        refine lv_iadd hx hb dX11_findHands_119 ?_
                                        refine lv_topi (fun v_51 ev_51 => ?_)
                                        have tv_51 : v_51.toInt = l41_3.toInt + 1 := by rw [ev_51]; exact k_addv rfl zl_1 (by omega) (by omega)
                                        refine lv_goto (tgt := 130) hx hb dX11_findHands_120 (by decide +kernel) ?_
                                        refine va_iast hx hb hK hP hD hS 0 0 rfl rfl (k_in (by omega) (by omega)) dX11_findHands_130 ?_
                                        clear hP hD hS
                                        intro H locs hP hD hS
                                        replace hP : va_P D vwCl [(ka, .inl (cI, 60, .inl (upd g68_ka l54_4.toNatClampNeg v_51))), (kb, .inl (cI, 60, .inl cb)), (k, .inr (11, [.ref k0, .ref k1, .ref k2, .int c3, .ref k4, .ref k5, .ref k6, .ref k7, .ref k8, .int c9, .ref ka, .ref kb, .int cc, .int cd, .int ce, .int cf, .int cg, .int ch, .int ci, .int cj, .int ck, .ref kl, .int cm, .int cn, .ref ko])), (k0, .inl (cI, 1201, .inl c0))] H := hP
                                        replace hD : va_D A [(ka, .inl (cI, 60, .inl (upd g68_ka l54_4.toNatClampNeg v_51))), (kb, .inl (cI, 60, .inl cb)), (k, .inr (11, [.ref k0, .ref k1, .ref k2, .int c3, .ref k4, .ref k5, .ref k6, .ref k7, .ref k8, .int c9, .ref ka, .ref kb, .int cc, .int cd, .int ce, .int cf, .int cg, .int ch, .int ci, .int cj, .int ck, .ref kl, .int cm, .int cn, .ref ko])), (k0, .inl (cI, 1201, .inl c0))] := hD
                                        obtain ⟨f_52, ef_52⟩ : ∃ g : Nat → Int32, g = upd g68_ka l54_4.toNatClampNeg v_51 := ⟨_, rfl⟩
                                        rw [← ef_52] at hP hD
                                        have hh_53 : HS c0 f_52 a1 := HS_set (o := l68_5) i68_1 (by omega) (by omega) ef_52 (by omega) (by omega) (by omega) (by omega) h_48
                                        obtain ⟨v_54, ev_54⟩ : ∃ y : Int32, y = l68_5 + 1 := ⟨_, rfl⟩
                                        have tv_54 : v_54.toInt = l68_5.toInt + 1 := by rw [ev_54]; exact k_addv rfl zl_1 (by omega) (by omega)
                                        refine lv_iinc (v := v_54) (lv' := [(5, .int v_54), (4, .int l54_4), (3, .int l41_3), (0, .ref k), (1, .int a0), (2, .int a1)]) hx hb dX11_findHands_131 hl (k := 0) rfl (by rw [ev_54]; rfl) (by decide +kernel) rfl ?_
                                        clear hl
                                        intro ls hl
                                        refine lv_goto (tgt := 68) hx hb dX11_findHands_134 (by decide +kernel) ?_
                                        exact ih68 v_54 f_52 (by first | omega | decide | assumption | rfl) hh_53 (by first | omega | decide | assumption | rfl) (by first | omega | decide | assumption | rfl) (by omega) ls _ _ (lv_sub hl [0, 1, 2, 3, 4, 5] rfl) (hP.sub [2, 3, 0, 1] rfl) (hD.sub [2, 3, 0, 1] (by decide +kernel) rfl) hS
                                      · have h_49 : crF c0 l54_4 l68_5 = 0 := h_49
                                        obtain rfl : r_45 = 0 := hr_45.trans (by decide +kernel)
                                        refine b_if_eq hx hb zl_0 (tgt := 123) dX11_findHands_114 (by decide +kernel) (fun c_55 => ?_) (fun c_55 => by exfalso; omega)
                                        refine lv_aload_n hx hb dX11_findHands_123 rfl (lv_at hl 3 rfl) ?_
                                        refine va_get (D := D) (ci := 11) (v := .ref ka) (C := RX11) (T := TX11) (N := 25) hx hb hT giX11 hown hK hP 2 rfl rfl 10 (by decide +kernel) (hT (Cond.fieldLink RX11 34 "DesertWireModel" "steps" "[I") mw_1166) (fun _ h9 => h9) rfl dX11_findHands_124 ?_
                                        refine lv_iload hx hb dX11_findHands_127 (lv_at hl 1 rfl) ?_
                                        refine k_iald (v := (g68_ka l54_4.toNatClampNeg)) hx hb hK hP 0 0 rfl rfl (k_in (by omega) (by omega)) rfl dX11_findHands_129 ?_
                                        refine lv_topi (fun v_56 ev_56 => ?_)
                                        have lo_v_56 := k_lo v_56
                                        have hi_v_56 := k_hi v_56
                                        have tv_56 : v_56.toInt = (g68_ka l54_4.toNatClampNeg).toInt := by rw [ev_56]
                                        refine va_iast hx hb hK hP hD hS 0 0 rfl rfl (k_in (by omega) (by omega)) dX11_findHands_130 ?_
                                        clear hP hD hS
                                        intro H locs hP hD hS
                                        replace hP : va_P D vwCl [(ka, .inl (cI, 60, .inl (upd g68_ka l54_4.toNatClampNeg v_56))), (kb, .inl (cI, 60, .inl cb)), (k, .inr (11, [.ref k0, .ref k1, .ref k2, .int c3, .ref k4, .ref k5, .ref k6, .ref k7, .ref k8, .int c9, .ref ka, .ref kb, .int cc, .int cd, .int ce, .int cf, .int cg, .int ch, .int ci, .int cj, .int ck, .ref kl, .int cm, .int cn, .ref ko])), (k0, .inl (cI, 1201, .inl c0))] H := hP
                                        replace hD : va_D A [(ka, .inl (cI, 60, .inl (upd g68_ka l54_4.toNatClampNeg v_56))), (kb, .inl (cI, 60, .inl cb)), (k, .inr (11, [.ref k0, .ref k1, .ref k2, .int c3, .ref k4, .ref k5, .ref k6, .ref k7, .ref k8, .int c9, .ref ka, .ref kb, .int cc, .int cd, .int ce, .int cf, .int cg, .int ch, .int ci, .int cj, .int ck, .ref kl, .int cm, .int cn, .ref ko])), (k0, .inl (cI, 1201, .inl c0))] := hD
                                        obtain ⟨f_57, ef_57⟩ : ∃ g : Nat → Int32, g = upd g68_ka l54_4.toNatClampNeg v_56 := ⟨_, rfl⟩
                                        rw [← ef_57] at hP hD
                                        have hh_58 : HS c0 f_57 a1 := HS_same i68_1 ef_57 ev_56
                                        obtain ⟨v_59, ev_59⟩ : ∃ y : Int32, y = l68_5 + 1 := ⟨_, rfl⟩
                                        have tv_59 : v_59.toInt = l68_5.toInt + 1 := by rw [ev_59]; exact k_addv rfl zl_1 (by omega) (by omega)
                                        refine lv_iinc (v := v_59) (lv' := [(5, .int v_59), (4, .int l54_4), (3, .int l41_3), (0, .ref k), (1, .int a0), (2, .int a1)]) hx hb dX11_findHands_131 hl (k := 0) rfl (by rw [ev_59]; rfl) (by decide +kernel) rfl ?_
                                        clear hl
                                        intro ls hl
                                        refine lv_goto (tgt := 68) hx hb dX11_findHands_134 (by decide +kernel) ?_
                                        exact ih68 v_59 f_57 (by first | omega | decide | assumption | rfl) hh_58 (by first | omega | decide | assumption | rfl) (by first | omega | decide | assumption | rfl) (by omega) ls _ _ (lv_sub hl [0, 1, 2, 3, 4, 5] rfl) (hP.sub [2, 3, 0, 1] rfl) (hD.sub [2, 3, 0, 1] (by decide +kernel) rfl) hS
                          exact hloop_68 _ 0 g54_ka (by first | omega | (simp only [zl_0]; first | done | omega) | decide | assumption | rfl) i54_1 (by first | omega | (simp only [zl_0]; first | done | omega) | decide | assumption | rfl) (by first | omega | (simp only [zl_0]; first | done | omega) | decide | assumption | rfl) (Nat.lt_succ_self _) ls _ _ (lv_sub hl [0, 1, 2, 3, 4, 5] rfl) hP hD hS
                  exact hloop_54 _ 0 g41_ka (by first | omega | (simp only [zl_0]; first | done | omega) | decide | assumption | rfl) i41_1 (by first | omega | (simp only [zl_0]; first | done | omega) | decide | assumption | rfl) (by first | omega | (simp only [zl_0]; first | done | omega) | decide | assumption | rfl) (Nat.lt_succ_self _) ls _ _ (lv_sub hl [0, 1, 2, 3, 4] rfl) hP hD hS
          exact hloop_41 _ 0 g2_ka (by first | omega | (simp only [zl_0]; first | done | omega) | decide | assumption | rfl) (HP_end i2_1 (by omega)) (by first | omega | (simp only [zl_0]; first | done | omega) | decide | assumption | rfl) (Nat.lt_succ_self _) ls _ _ (lv_sub hl [0, 1, 2, 3] rfl) hP hD hS
        · refine lv_aload_n hx hb dX11_findHands_8 rfl (lv_at hl 1 rfl) ?_
          refine va_get (D := D) (ci := 11) (v := .ref ka) (C := RX11) (T := TX11) (N := 25) hx hb hT giX11 hown hK hP 0 rfl rfl 10 (by decide +kernel) (hT (Cond.fieldLink RX11 34 "DesertWireModel" "steps" "[I") mw_1166) (fun _ h9 => h9) rfl dX11_findHands_9 ?_
          refine lv_iload_n hx hb dX11_findHands_12 rfl (lv_at hl 0 rfl) ?_
          refine lv_iload_n hx hb dX11_findHands_13 rfl (lv_at hl 0 rfl) ?_
          refine lv_iload_n hx hb dX11_findHands_14 rfl (lv_at hl 3 rfl) ?_
          refine b_icmp_ne hx hb rfl rfl (tgt := 31) dX11_findHands_15 (by decide +kernel) (fun c_60 => ?_) (fun c_60 => ?_)
          · refine lv_iconst (v := (-1)) hx hb dX11_findHands_31 (by decide +kernel) ?_
            refine va_iast hx hb hK hP hD hS 2 0 rfl rfl (k_in (by omega) (by omega)) dX11_findHands_32 ?_
            clear hP hD hS
            intro H locs hP hD hS
            replace hP : va_P D vwCl [(k, .inr (11, [.ref k0, .ref k1, .ref k2, .int c3, .ref k4, .ref k5, .ref k6, .ref k7, .ref k8, .int c9, .ref ka, .ref kb, .int cc, .int cd, .int ce, .int cf, .int cg, .int ch, .int ci, .int cj, .int ck, .ref kl, .int cm, .int cn, .ref ko])), (k0, .inl (cI, 1201, .inl c0)), (ka, .inl (cI, 60, .inl (upd g2_ka l2_3.toNatClampNeg (-1)))), (kb, .inl (cI, 60, .inl cb))] H := hP
            replace hD : va_D A [(k, .inr (11, [.ref k0, .ref k1, .ref k2, .int c3, .ref k4, .ref k5, .ref k6, .ref k7, .ref k8, .int c9, .ref ka, .ref kb, .int cc, .int cd, .int ce, .int cf, .int cg, .int ch, .int ci, .int cj, .int ck, .ref kl, .int cm, .int cn, .ref ko])), (k0, .inl (cI, 1201, .inl c0)), (ka, .inl (cI, 60, .inl (upd g2_ka l2_3.toNatClampNeg (-1)))), (kb, .inl (cI, 60, .inl cb))] := hD
            obtain ⟨f_61, ef_61⟩ : ∃ g : Nat → Int32, g = upd g2_ka l2_3.toNatClampNeg (-1) := ⟨_, rfl⟩
            rw [← ef_61] at hP hD
            obtain ⟨v_62, ev_62⟩ : ∃ y : Int32, y = l2_3 + 1 := ⟨_, rfl⟩
            have tv_62 : v_62.toInt = l2_3.toInt + 1 := by rw [ev_62]; exact k_addv rfl zl_1 (by omega) (by omega)
            refine lv_iinc (v := v_62) (lv' := [(3, .int v_62), (0, .ref k), (1, .int a0), (2, .int a1)]) hx hb dX11_findHands_33 hl (k := 0) rfl (by rw [ev_62]; rfl) (by decide +kernel) rfl ?_
            clear hl
            intro ls hl
            refine lv_goto (tgt := 2) hx hb dX11_findHands_36 (by decide +kernel) ?_
            exact ih2 v_62 f_61 (by first | omega | decide | assumption | rfl) (HP_step i2_1 (by omega) (by omega) ef_61 zl_m1 (Or.inl (by decide +kernel))) (by first | omega | decide | assumption | rfl) (by omega) ls _ _ (lv_sub hl [0, 1, 2, 3] rfl) (hP.sub [0, 1, 2, 3] rfl) (hD.sub [0, 1, 2, 3] (by decide +kernel) rfl) hS
          · refine lv_aload_n hx hb dX11_findHands_18 rfl (lv_at hl 1 rfl) ?_
            refine lv_iload_n hx hb dX11_findHands_19 rfl (lv_at hl 3 rfl) ?_
            refine lv_iconst (v := 3) hx hb dX11_findHands_20 (by decide +kernel) ?_
            refine kJi (wr := [(ka, .inl (cI, 60, .inl g2_ka)), (kb, .inl (cI, 60, .inl cb))]) (va_runV (As := [.int a1, .int 3]) (rest := [.int l2_3, .ref ka]) ⟨hx, hb, hml, hown, hT⟩ (c_X11_standsG l D cI aK aV k k0 k1 k2 k4 k5 k6 k7 k8 ka kb kl ko H.size c3 c9 cc cd ce cf cg ch ci cj ck cm cn c0 a1 3 (by first | omega | (simp only [zl_3]; first | done | omega) | decide | assumption | rfl) (by first | omega | (simp only [zl_3]; first | done | omega) | decide | assumption | rfl) pre0) (cwV 2 hT (gV_in mw_1295 mw_1292 mw_1294 mw_p3_14 mw_12) rfl rfl rfl (by decide +kernel) ⟨Nat.le_of_ble_eq_true rfl, Nat.le_of_ble_eq_true rfl⟩) (kRecvX (q0 := 0) (ci := 11) hK hP hD hN hXS hS hA rfl rfl [0, 1] rfl (by decide +kernel)) rfl rfl hl.1 rfl (lv_room (Nat.le_of_ble_eq_true rfl)) dX11_findHands_21 ⟨Nat.le_of_ble_eq_true rfl, Nat.le_of_ble_eq_true rfl⟩) hP hD hS hA [0, 1] [2, 3] rfl rfl (by decide +kernel) (by decide +kernel) ?_
            clear hP hD hS
            intro r_63 u_65 H locs w_64 hP hD hS
            replace hP : va_P D vwCl [(ka, .inl (cI, 60, .inl g2_ka)), (kb, .inl (cI, 60, .inl cb)), (k, .inr (11, [.ref k0, .ref k1, .ref k2, .int c3, .ref k4, .ref k5, .ref k6, .ref k7, .ref k8, .int c9, .ref ka, .ref kb, .int cc, .int cd, .int ce, .int cf, .int cg, .int ch, .int ci, .int cj, .int ck, .ref kl, .int cm, .int cn, .ref ko])), (k0, .inl (cI, 1201, .inl c0))] H := hP
            replace hD : va_D A [(ka, .inl (cI, 60, .inl g2_ka)), (kb, .inl (cI, 60, .inl cb)), (k, .inr (11, [.ref k0, .ref k1, .ref k2, .int c3, .ref k4, .ref k5, .ref k6, .ref k7, .ref k8, .int c9, .ref ka, .ref kb, .int cc, .int cd, .int ce, .int cf, .int cg, .int ch, .int ci, .int cj, .int ck, .ref kl, .int cm, .int cn, .ref ko])), (k0, .inl (cI, 1201, .inl c0))] := hD
            rcases w_64 with ⟨hr_63, h_66⟩ | ⟨hr_63, h_67⟩
            · try simp only [zl_3] at h_66
              have h_66 : stF c0 a1 3 = 1 := h_66
              obtain rfl : r_63 = 1 := hr_63.trans (by decide +kernel)
              refine b_if_eq hx hb zl_1 (tgt := 31) dX11_findHands_24 (by decide +kernel) (fun c_68 => by exfalso; omega) (fun c_68 => ?_)
              refine lv_iconst (v := 0) hx hb dX11_findHands_27 (by decide +kernel) ?_
              refine lv_goto (tgt := 32) hx hb dX11_findHands_28 (by decide +kernel) ?_
              refine va_iast hx hb hK hP hD hS 0 0 rfl rfl (k_in (by omega) (by omega)) dX11_findHands_32 ?_
              clear hP hD hS
              intro H locs hP hD hS
              replace hP : va_P D vwCl [(ka, .inl (cI, 60, .inl (upd g2_ka l2_3.toNatClampNeg 0))), (kb, .inl (cI, 60, .inl cb)), (k, .inr (11, [.ref k0, .ref k1, .ref k2, .int c3, .ref k4, .ref k5, .ref k6, .ref k7, .ref k8, .int c9, .ref ka, .ref kb, .int cc, .int cd, .int ce, .int cf, .int cg, .int ch, .int ci, .int cj, .int ck, .ref kl, .int cm, .int cn, .ref ko])), (k0, .inl (cI, 1201, .inl c0))] H := hP
              replace hD : va_D A [(ka, .inl (cI, 60, .inl (upd g2_ka l2_3.toNatClampNeg 0))), (kb, .inl (cI, 60, .inl cb)), (k, .inr (11, [.ref k0, .ref k1, .ref k2, .int c3, .ref k4, .ref k5, .ref k6, .ref k7, .ref k8, .int c9, .ref ka, .ref kb, .int cc, .int cd, .int ce, .int cf, .int cg, .int ch, .int ci, .int cj, .int ck, .ref kl, .int cm, .int cn, .ref ko])), (k0, .inl (cI, 1201, .inl c0))] := hD
              obtain ⟨f_69, ef_69⟩ : ∃ g : Nat → Int32, g = upd g2_ka l2_3.toNatClampNeg 0 := ⟨_, rfl⟩
              rw [← ef_69] at hP hD
              obtain ⟨v_70, ev_70⟩ : ∃ y : Int32, y = l2_3 + 1 := ⟨_, rfl⟩
              have tv_70 : v_70.toInt = l2_3.toInt + 1 := by rw [ev_70]; exact k_addv rfl zl_1 (by omega) (by omega)
              refine lv_iinc (v := v_70) (lv' := [(3, .int v_70), (0, .ref k), (1, .int a0), (2, .int a1)]) hx hb dX11_findHands_33 hl (k := 0) rfl (by rw [ev_70]; rfl) (by decide +kernel) rfl ?_
              clear hl
              intro ls hl
              refine lv_goto (tgt := 2) hx hb dX11_findHands_36 (by decide +kernel) ?_
              exact ih2 v_70 f_69 (by first | omega | decide | assumption | rfl) (HP_step i2_1 (by omega) (by omega) ef_69 zl_0 (Or.inr ⟨rfl, by omega⟩)) (by first | omega | decide | assumption | rfl) (by omega) ls _ _ (lv_sub hl [0, 1, 2, 3] rfl) (hP.sub [2, 3, 0, 1] rfl) (hD.sub [2, 3, 0, 1] (by decide +kernel) rfl) hS
            · try simp only [zl_3] at h_67
              have h_67 : stF c0 a1 3 = 0 := h_67
              obtain rfl : r_63 = 0 := hr_63.trans (by decide +kernel)
              refine b_if_eq hx hb zl_0 (tgt := 31) dX11_findHands_24 (by decide +kernel) (fun c_71 => ?_) (fun c_71 => by exfalso; omega)
              refine lv_iconst (v := (-1)) hx hb dX11_findHands_31 (by decide +kernel) ?_
              refine va_iast hx hb hK hP hD hS 0 0 rfl rfl (k_in (by omega) (by omega)) dX11_findHands_32 ?_
              clear hP hD hS
              intro H locs hP hD hS
              replace hP : va_P D vwCl [(ka, .inl (cI, 60, .inl (upd g2_ka l2_3.toNatClampNeg (-1)))), (kb, .inl (cI, 60, .inl cb)), (k, .inr (11, [.ref k0, .ref k1, .ref k2, .int c3, .ref k4, .ref k5, .ref k6, .ref k7, .ref k8, .int c9, .ref ka, .ref kb, .int cc, .int cd, .int ce, .int cf, .int cg, .int ch, .int ci, .int cj, .int ck, .ref kl, .int cm, .int cn, .ref ko])), (k0, .inl (cI, 1201, .inl c0))] H := hP
              replace hD : va_D A [(ka, .inl (cI, 60, .inl (upd g2_ka l2_3.toNatClampNeg (-1)))), (kb, .inl (cI, 60, .inl cb)), (k, .inr (11, [.ref k0, .ref k1, .ref k2, .int c3, .ref k4, .ref k5, .ref k6, .ref k7, .ref k8, .int c9, .ref ka, .ref kb, .int cc, .int cd, .int ce, .int cf, .int cg, .int ch, .int ci, .int cj, .int ck, .ref kl, .int cm, .int cn, .ref ko])), (k0, .inl (cI, 1201, .inl c0))] := hD
              obtain ⟨f_72, ef_72⟩ : ∃ g : Nat → Int32, g = upd g2_ka l2_3.toNatClampNeg (-1) := ⟨_, rfl⟩
              rw [← ef_72] at hP hD
              obtain ⟨v_73, ev_73⟩ : ∃ y : Int32, y = l2_3 + 1 := ⟨_, rfl⟩
              have tv_73 : v_73.toInt = l2_3.toInt + 1 := by rw [ev_73]; exact k_addv rfl zl_1 (by omega) (by omega)
              refine lv_iinc (v := v_73) (lv' := [(3, .int v_73), (0, .ref k), (1, .int a0), (2, .int a1)]) hx hb dX11_findHands_33 hl (k := 0) rfl (by rw [ev_73]; rfl) (by decide +kernel) rfl ?_
              clear hl
              intro ls hl
              refine lv_goto (tgt := 2) hx hb dX11_findHands_36 (by decide +kernel) ?_
              exact ih2 v_73 f_72 (by first | omega | decide | assumption | rfl) (HP_step i2_1 (by omega) (by omega) ef_72 zl_m1 (Or.inl (by decide +kernel))) (by first | omega | decide | assumption | rfl) (by omega) ls _ _ (lv_sub hl [0, 1, 2, 3] rfl) (hP.sub [2, 3, 0, 1] rfl) (hD.sub [2, 3, 0, 1] (by decide +kernel) rfl) hS
  exact hloop_2 _ 0 ca (by first | omega | (simp only [zl_0]; first | done | omega) | decide | assumption | rfl) (HP_zero (by decide +kernel)) (by first | omega | (simp only [zl_0]; first | done | omega) | decide | assumption | rfl) (Nat.lt_succ_self _) ls _ _ (lv_sub hl [0, 1, 2, 3] rfl) hP hD hS
theorem bn_cX11_hands_0 : BN cX11_hands 0 0xad178784c015a8ac1401540142c0900a84061e0a005504100adce6131583402a2028583c0a00a680a16028dd0c015b874382b5690402b72a04c560b00a800e3800adc081d1583802a1038e002b70207056ad208056e40098ac16015180c3c0900a803a1c07005345100adc3a2b0b005345100adc382b := by
  unfold BN; decide +kernel
theorem dX11_hands_0 : decode cX11_hands 0 = .ok (.aload_n 0, 1) := dR0 (k := 0) (i := 0) bn_cX11_hands_0 dop_42 (by decide +kernel)
theorem dX11_hands_1 : decode cX11_hands 1 = .ok (.iload_n 1, 1) := dR0 (k := 0) (i := 1) bn_cX11_hands_0 dop_27 (by decide +kernel)
theorem dX11_hands_2 : decode cX11_hands 2 = .ok (.invokevirtual 80, 3) := dR2 (f := Instr.invokevirtual) (k := 0) (i := 2) bn_cX11_hands_0 dop_182 80 (by decide +kernel)
theorem dX11_hands_5 : decode cX11_hands 5 = .ok (.ifCond .eq 21, 3) := dR2s (f := Instr.ifCond .eq) (k := 0) (i := 5) bn_cX11_hands_0 dop_153 21 21 (by decide +kernel)
theorem dX11_hands_8 : decode cX11_hands 8 = .ok (.aload_n 0, 1) := dR0 (k := 0) (i := 8) bn_cX11_hands_0 dop_42 (by decide +kernel)
theorem dX11_hands_9 : decode cX11_hands 9 = .ok (.iload_n 2, 1) := dR0 (k := 0) (i := 9) bn_cX11_hands_0 dop_28 (by decide +kernel)
theorem dX11_hands_10 : decode cX11_hands 10 = .ok (.invokevirtual 80, 3) := dR2 (f := Instr.invokevirtual) (k := 0) (i := 10) bn_cX11_hands_0 dop_182 80 (by decide +kernel)
theorem dX11_hands_13 : decode cX11_hands 13 = .ok (.ifCond .eq 13, 3) := dR2s (f := Instr.ifCond .eq) (k := 0) (i := 13) bn_cX11_hands_0 dop_153 13 13 (by decide +kernel)
theorem dX11_hands_16 : decode cX11_hands 16 = .ok (.iload_n 1, 1) := dR0 (k := 0) (i := 16) bn_cX11_hands_0 dop_27 (by decide +kernel)
theorem dX11_hands_17 : decode cX11_hands 17 = .ok (.iload_n 2, 1) := dR0 (k := 0) (i := 17) bn_cX11_hands_0 dop_28 (by decide +kernel)
theorem dX11_hands_18 : decode cX11_hands 18 = .ok (.if_icmp .eq 8, 3) := dR2s (f := Instr.if_icmp .eq) (k := 0) (i := 18) bn_cX11_hands_0 dop_159 8 8 (by decide +kernel)
theorem dX11_hands_21 : decode cX11_hands 21 = .ok (.iload_n 3, 1) := dR0 (k := 0) (i := 21) bn_cX11_hands_0 dop_29 (by decide +kernel)
theorem dX11_hands_22 : decode cX11_hands 22 = .ok (.iconst (-1), 1) := dR0 (k := 0) (i := 22) bn_cX11_hands_0 dop_2 (by decide +kernel)
theorem dX11_hands_23 : decode cX11_hands 23 = .ok (.if_icmp .ge 10, 3) := dR2s (f := Instr.if_icmp .ge) (k := 0) (i := 23) bn_cX11_hands_0 dop_162 10 10 (by decide +kernel)
theorem dX11_hands_26 : decode cX11_hands 26 = .ok (.aload_n 0, 1) := dR0 (k := 0) (i := 26) bn_cX11_hands_0 dop_42 (by decide +kernel)
theorem dX11_hands_27 : decode cX11_hands 27 = .ok (.ldc 63, 2) := dR1 (f := Instr.ldc) (k := 0) (i := 27) bn_cX11_hands_0 dop_18 63 (by decide +kernel)
theorem dX11_hands_29 : decode cX11_hands 29 = .ok (.invokevirtual 64, 3) := dR2 (f := Instr.invokevirtual) (k := 0) (i := 29) bn_cX11_hands_0 dop_182 64 (by decide +kernel)
theorem dX11_hands_32 : decode cX11_hands 32 = .ok (.ireturn, 1) := dR0 (k := 0) (i := 32) bn_cX11_hands_0 dop_172 (by decide +kernel)
theorem dX11_hands_33 : decode cX11_hands 33 = .ok (.aload_n 0, 1) := dR0 (k := 0) (i := 33) bn_cX11_hands_0 dop_42 (by decide +kernel)
theorem dX11_hands_34 : decode cX11_hands 34 = .ok (.iload_n 1, 1) := dR0 (k := 0) (i := 34) bn_cX11_hands_0 dop_27 (by decide +kernel)
theorem dX11_hands_35 : decode cX11_hands 35 = .ok (.iconst 0, 1) := dR0 (k := 0) (i := 35) bn_cX11_hands_0 dop_3 (by decide +kernel)
theorem dX11_hands_36 : decode cX11_hands 36 = .ok (.invokevirtual 55, 3) := dR2 (f := Instr.invokevirtual) (k := 0) (i := 36) bn_cX11_hands_0 dop_182 55 (by decide +kernel)
theorem dX11_hands_39 : decode cX11_hands 39 = .ok (.iconst 3, 1) := dR0 (k := 0) (i := 39) bn_cX11_hands_0 dop_6 (by decide +kernel)
theorem dX11_hands_40 : decode cX11_hands 40 = .ok (.if_icmp .ne 13, 3) := dR2s (f := Instr.if_icmp .ne) (k := 0) (i := 40) bn_cX11_hands_0 dop_160 13 13 (by decide +kernel)
theorem dX11_hands_43 : decode cX11_hands 43 = .ok (.aload_n 0, 1) := dR0 (k := 0) (i := 43) bn_cX11_hands_0 dop_42 (by decide +kernel)
theorem dX11_hands_44 : decode cX11_hands 44 = .ok (.iload_n 2, 1) := dR0 (k := 0) (i := 44) bn_cX11_hands_0 dop_28 (by decide +kernel)
theorem dX11_hands_45 : decode cX11_hands 45 = .ok (.iconst 0, 1) := dR0 (k := 0) (i := 45) bn_cX11_hands_0 dop_3 (by decide +kernel)
theorem dX11_hands_46 : decode cX11_hands 46 = .ok (.invokevirtual 55, 3) := dR2 (f := Instr.invokevirtual) (k := 0) (i := 46) bn_cX11_hands_0 dop_182 55 (by decide +kernel)
theorem dX11_hands_49 : decode cX11_hands 49 = .ok (.iconst 3, 1) := dR0 (k := 0) (i := 49) bn_cX11_hands_0 dop_6 (by decide +kernel)
theorem dX11_hands_50 : decode cX11_hands 50 = .ok (.if_icmp .eq 10, 3) := dR2s (f := Instr.if_icmp .eq) (k := 0) (i := 50) bn_cX11_hands_0 dop_159 10 10 (by decide +kernel)
theorem dX11_hands_53 : decode cX11_hands 53 = .ok (.aload_n 0, 1) := dR0 (k := 0) (i := 53) bn_cX11_hands_0 dop_42 (by decide +kernel)
theorem dX11_hands_54 : decode cX11_hands 54 = .ok (.ldc 83, 2) := dR1 (f := Instr.ldc) (k := 0) (i := 54) bn_cX11_hands_0 dop_18 83 (by decide +kernel)
theorem dX11_hands_56 : decode cX11_hands 56 = .ok (.invokevirtual 64, 3) := dR2 (f := Instr.invokevirtual) (k := 0) (i := 56) bn_cX11_hands_0 dop_182 64 (by decide +kernel)
theorem dX11_hands_59 : decode cX11_hands 59 = .ok (.ireturn, 1) := dR0 (k := 0) (i := 59) bn_cX11_hands_0 dop_172 (by decide +kernel)
theorem dX11_hands_60 : decode cX11_hands 60 = .ok (.aload_n 0, 1) := dR0 (k := 0) (i := 60) bn_cX11_hands_0 dop_42 (by decide +kernel)
theorem dX11_hands_61 : decode cX11_hands 61 = .ok (.iload_n 1, 1) := dR0 (k := 0) (i := 61) bn_cX11_hands_0 dop_27 (by decide +kernel)
theorem dX11_hands_62 : decode cX11_hands 62 = .ok (.iload_n 2, 1) := dR0 (k := 0) (i := 62) bn_cX11_hands_0 dop_28 (by decide +kernel)
theorem dX11_hands_63 : decode cX11_hands 63 = .ok (.invokevirtual 133, 3) := dR2 (f := Instr.invokevirtual) (k := 0) (i := 63) bn_cX11_hands_0 dop_182 133 (by decide +kernel)
theorem dX11_hands_66 : decode cX11_hands 66 = .ok (.istore 4, 2) := dR1 (f := Instr.istore) (k := 0) (i := 66) bn_cX11_hands_0 dop_54 4 (by decide +kernel)
theorem dX11_hands_68 : decode cX11_hands 68 = .ok (.iload 4, 2) := dR1 (f := Instr.iload) (k := 0) (i := 68) bn_cX11_hands_0 dop_21 4 (by decide +kernel)
theorem dX11_hands_70 : decode cX11_hands 70 = .ok (.ifCond .eq 9, 3) := dR2s (f := Instr.ifCond .eq) (k := 0) (i := 70) bn_cX11_hands_0 dop_153 9 9 (by decide +kernel)
theorem dX11_hands_73 : decode cX11_hands 73 = .ok (.iload_n 3, 1) := dR0 (k := 0) (i := 73) bn_cX11_hands_0 dop_29 (by decide +kernel)
theorem dX11_hands_74 : decode cX11_hands 74 = .ok (.iload 4, 2) := dR1 (f := Instr.iload) (k := 0) (i := 74) bn_cX11_hands_0 dop_21 4 (by decide +kernel)
theorem dX11_hands_76 : decode cX11_hands 76 = .ok (.if_icmp .lt 12, 3) := dR2s (f := Instr.if_icmp .lt) (k := 0) (i := 76) bn_cX11_hands_0 dop_161 12 12 (by decide +kernel)
theorem dX11_hands_79 : decode cX11_hands 79 = .ok (.aload_n 0, 1) := dR0 (k := 0) (i := 79) bn_cX11_hands_0 dop_42 (by decide +kernel)
theorem dX11_hands_80 : decode cX11_hands 80 = .ok (.ldc 114, 2) := dR1 (f := Instr.ldc) (k := 0) (i := 80) bn_cX11_hands_0 dop_18 114 (by decide +kernel)
theorem dX11_hands_82 : decode cX11_hands 82 = .ok (.invokevirtual 64, 3) := dR2 (f := Instr.invokevirtual) (k := 0) (i := 82) bn_cX11_hands_0 dop_182 64 (by decide +kernel)
theorem dX11_hands_85 : decode cX11_hands 85 = .ok (.goto 19, 3) := dR2s (f := Instr.goto) (k := 0) (i := 85) bn_cX11_hands_0 dop_167 19 19 (by decide +kernel)
theorem dX11_hands_88 : decode cX11_hands 88 = .ok (.iload_n 3, 1) := dR0 (k := 0) (i := 88) bn_cX11_hands_0 dop_29 (by decide +kernel)
theorem dX11_hands_89 : decode cX11_hands 89 = .ok (.iconst (-1), 1) := dR0 (k := 0) (i := 89) bn_cX11_hands_0 dop_2 (by decide +kernel)
theorem dX11_hands_90 : decode cX11_hands 90 = .ok (.if_icmp .ne 8, 3) := dR2s (f := Instr.if_icmp .ne) (k := 0) (i := 90) bn_cX11_hands_0 dop_160 8 8 (by decide +kernel)
theorem dX11_hands_93 : decode cX11_hands 93 = .ok (.iload 4, 2) := dR1 (f := Instr.iload) (k := 0) (i := 93) bn_cX11_hands_0 dop_21 4 (by decide +kernel)
theorem dX11_hands_95 : decode cX11_hands 95 = .ok (.goto 9, 3) := dR2s (f := Instr.goto) (k := 0) (i := 95) bn_cX11_hands_0 dop_167 9 9 (by decide +kernel)
theorem dX11_hands_98 : decode cX11_hands 98 = .ok (.aload_n 0, 1) := dR0 (k := 0) (i := 98) bn_cX11_hands_0 dop_42 (by decide +kernel)
theorem dX11_hands_99 : decode cX11_hands 99 = .ok (.getfield 37, 3) := dR2 (f := Instr.getfield) (k := 0) (i := 99) bn_cX11_hands_0 dop_180 37 (by decide +kernel)
theorem dX11_hands_102 : decode cX11_hands 102 = .ok (.iload_n 3, 1) := dR0 (k := 0) (i := 102) bn_cX11_hands_0 dop_29 (by decide +kernel)
theorem dX11_hands_103 : decode cX11_hands 103 = .ok (.iaload, 1) := dR0 (k := 0) (i := 103) bn_cX11_hands_0 dop_46 (by decide +kernel)
theorem dX11_hands_104 : decode cX11_hands 104 = .ok (.ireturn, 1) := dR0 (k := 0) (i := 104) bn_cX11_hands_0 dop_172 (by decide +kernel)
set_option maxHeartbeats 4000000 in
set_option maxRecDepth 100000 in
theorem c_X11_handsG (l : Launch) (D : va_G) (cI : ClassId) (aK aV : Nat → Nat) (k k0 k1 k2 k4 k5 k6 k7 k8 ka kb kl ko : Nat) (sz : Nat) (c3 : Int32) (c9 : Int32) (cc : Int32) (cd : Int32) (ce : Int32) (cf : Int32) (cg : Int32) (ch : Int32) (ci : Int32) (cj : Int32) (ck : Int32) (cm : Int32) (cn : Int32) (c0 : Nat → Int32) (c4 : Nat → Int32) (ca : Nat → Int32) (cb : Nat → Int32) (a0 : Int32) (a1 : Int32) (a2 : Int32) (pre0 : SB c0) : Met l yX11_hands (gW yX11_hands cX11_hands 5 (some .int)) ({ frames := 6, cells := 0, slots := 0, locals := 141 } : Room) (kPreX D cI aK aV [.ref k, .int a0, .int a1, .int a2] [(k, .inr (11, [.ref k0, .ref k1, .ref k2, .int c3, .ref k4, .ref k5, .ref k6, .ref k7, .ref k8, .int c9, .ref ka, .ref kb, .int cc, .int cd, .int ce, .int cf, .int cg, .int ch, .int ci, .int cj, .int ck, .ref kl, .int cm, .int cn, .ref ko])), (k0, .inl (cI, 1201, .inl c0)), (k4, .inl (cI, 6, .inl c4)), (ka, .inl (cI, 60, .inl ca)), (kb, .inl (cI, 60, .inl cb))] sz) (va_Qi (fun (r : Int32) (u : (Nat → Int32) × (Nat → Int32) × (Nat → Int32)) => True) (fun u t => kWd D cI (va_A [(k, .inr (11, [.ref k0, .ref k1, .ref k2, .int c3, .ref k4, .ref k5, .ref k6, .ref k7, .ref k8, .int c9, .ref ka, .ref kb, .int cc, .int cd, .int ce, .int cf, .int cg, .int ch, .int ci, .int cj, .int ck, .ref kl, .int cm, .int cn, .ref ko])), (k0, .inl (cI, 1201, .inl c0)), (k4, .inl (cI, 6, .inl c4)), (ka, .inl (cI, 60, .inl ca)), (kb, .inl (cI, 60, .inl cb))] sz) [(k, .inr (11, [.ref k0, .ref k1, .ref k2, .int c3, .ref k4, .ref k5, .ref k6, .ref k7, .ref k8, .int c9, .ref ka, .ref kb, .int cc, .int cd, .int ce, .int cf, .int cg, .int ch, .int ci, .int cj, .int ck, .ref kl, .int cm, .int cn, .ref ko])), (k0, .inl (cI, 1201, .inl c0)), (k4, .inl (cI, 6, .inl u.1)), (ka, .inl (cI, 60, .inl u.2.1)), (kb, .inl (cI, 60, .inl u.2.2))] t) (va_A [(k, .inr (11, [.ref k0, .ref k1, .ref k2, .int c3, .ref k4, .ref k5, .ref k6, .ref k7, .ref k8, .int c9, .ref ka, .ref kb, .int cc, .int cd, .int ce, .int cf, .int cg, .int ch, .int ci, .int cj, .int ck, .ref kl, .int cm, .int cn, .ref ko])), (k0, .inl (cI, 1201, .inl c0)), (k4, .inl (cI, 6, .inl c4)), (ka, .inl (cI, 60, .inl ca)), (kb, .inl (cI, 60, .inl cb))] sz)) 0 0 (va_A [(k, .inr (11, [.ref k0, .ref k1, .ref k2, .int c3, .ref k4, .ref k5, .ref k6, .ref k7, .ref k8, .int c9, .ref ka, .ref kb, .int cc, .int cd, .int ce, .int cf, .int cg, .int ch, .int ci, .int cj, .int ck, .ref kl, .int cm, .int cn, .ref ko])), (k0, .inl (cI, 1201, .inl c0)), (k4, .inl (cI, 6, .inl c4)), (ka, .inl (cI, 60, .inl ca)), (kb, .inl (cI, 60, .inl cb))] sz) := by
  refine kMetIX (own := RX11) (by decide +kernel) rfl (Nat.le_of_ble_eq_true rfl) ?_
  intro p e s m args below meth c hx hb hT hown hname hml A Q hK hP hD hS hA hN hXS hRet ls hl
  have hl : lv_has ls 5 [(0, .ref k), (1, .int a0), (2, .int a1), (3, .int a2)] := hl
  have lo_a0 := k_lo a0
  have hi_a0 := k_hi a0
  have lo_a1 := k_lo a1
  have hi_a1 := k_hi a1
  have lo_a2 := k_lo a2
  have hi_a2 := k_hi a2
  have lo_ci := k_lo ci
  have hi_ci := k_hi ci
  have pre0 : SB c0 := pre0
  have nb_1 : 0 ≤ (c0 0).toInt ∧ (c0 0).toInt ≤ 2000 := SB.n0 pre0
  have nb_2 : 0 ≤ (c0 1).toInt ∧ (c0 1).toInt ≤ 60 := SB.n1 pre0
  have nb_3 : 0 ≤ (c0 2).toInt ∧ (c0 2).toInt ≤ 4 := SB.n2 pre0
  refine lv_aload_n hx hb dX11_hands_0 rfl (lv_at hl 0 rfl) ?_
  refine lv_iload_n hx hb dX11_hands_1 rfl (lv_at hl 1 rfl) ?_
  refine kJi (wr := [(k4, .inl (cI, 6, .inl c4)), (ka, .inl (cI, 60, .inl ca)), (kb, .inl (cI, 60, .inl cb))]) (va_runV (As := [.int a0]) (rest := []) ⟨hx, hb, hml, hown, hT⟩ (c_X11_isWorkG l D cI aK aV k k0 k1 k2 k4 k5 k6 k7 k8 ka kb kl ko s.heap.size c3 c9 cc cd ce cf cg ch ci cj ck cm cn c0 a0 pre0) (cwV 1 hT (gV_in mw_1272 mw_1269 mw_1271 mw_p3_11 mw_12) rfl rfl rfl (by decide +kernel) ⟨Nat.le_of_ble_eq_true rfl, Nat.le_of_ble_eq_true rfl⟩) (kRecvX (q0 := 0) (ci := 11) hK hP hD hN hXS hS hA rfl rfl [0, 1] rfl (by decide +kernel)) rfl rfl hl.1 rfl (lv_room (Nat.le_of_ble_eq_true rfl)) dX11_hands_2 ⟨Nat.le_of_ble_eq_true rfl, Nat.le_of_ble_eq_true rfl⟩) hP hD hS hA [0, 1] [2, 3, 4] rfl rfl (by decide +kernel) (by decide +kernel) ?_
  clear hP hD hS
  intro r_4 u_6 H locs w_5 hP hD hS
  replace hP : va_P D vwCl [(k4, .inl (cI, 6, .inl c4)), (ka, .inl (cI, 60, .inl ca)), (kb, .inl (cI, 60, .inl cb)), (k, .inr (11, [.ref k0, .ref k1, .ref k2, .int c3, .ref k4, .ref k5, .ref k6, .ref k7, .ref k8, .int c9, .ref ka, .ref kb, .int cc, .int cd, .int ce, .int cf, .int cg, .int ch, .int ci, .int cj, .int ck, .ref kl, .int cm, .int cn, .ref ko])), (k0, .inl (cI, 1201, .inl c0))] H := hP
  replace hD : va_D A [(k4, .inl (cI, 6, .inl c4)), (ka, .inl (cI, 60, .inl ca)), (kb, .inl (cI, 60, .inl cb)), (k, .inr (11, [.ref k0, .ref k1, .ref k2, .int c3, .ref k4, .ref k5, .ref k6, .ref k7, .ref k8, .int c9, .ref ka, .ref kb, .int cc, .int cd, .int ce, .int cf, .int cg, .int ch, .int ci, .int cj, .int ck, .ref kl, .int cm, .int cn, .ref ko])), (k0, .inl (cI, 1201, .inl c0))] := hD
  rcases w_5 with ⟨hr_4, h_7, h_8⟩ | ⟨hr_4, h_9⟩
  · have h_7 : 0 ≤ a0.toInt := h_7
    have h_8 : a0.toInt < (c0 1).toInt := h_8
    obtain rfl : r_4 = 1 := hr_4.trans (by decide +kernel)
    refine b_if_eq hx hb zl_1 (tgt := 26) dX11_hands_5 (by decide +kernel) (fun c_10 => by exfalso; omega) (fun c_10 => ?_)
    refine lv_aload_n hx hb dX11_hands_8 rfl (lv_at hl 0 rfl) ?_
    refine lv_iload_n hx hb dX11_hands_9 rfl (lv_at hl 2 rfl) ?_
    refine kJi (wr := [(k4, .inl (cI, 6, .inl c4)), (ka, .inl (cI, 60, .inl ca)), (kb, .inl (cI, 60, .inl cb))]) (va_runV (As := [.int a1]) (rest := []) ⟨hx, hb, hml, hown, hT⟩ (c_X11_isWorkG l D cI aK aV k k0 k1 k2 k4 k5 k6 k7 k8 ka kb kl ko H.size c3 c9 cc cd ce cf cg ch ci cj ck cm cn c0 a1 pre0) (cwV 1 hT (gV_in mw_1272 mw_1269 mw_1271 mw_p3_11 mw_12) rfl rfl rfl (by decide +kernel) ⟨Nat.le_of_ble_eq_true rfl, Nat.le_of_ble_eq_true rfl⟩) (kRecvX (q0 := 3) (ci := 11) hK hP hD hN hXS hS hA rfl rfl [3, 4] rfl (by decide +kernel)) rfl rfl hl.1 rfl (lv_room (Nat.le_of_ble_eq_true rfl)) dX11_hands_10 ⟨Nat.le_of_ble_eq_true rfl, Nat.le_of_ble_eq_true rfl⟩) hP hD hS hA [3, 4] [0, 1, 2] rfl rfl (by decide +kernel) (by decide +kernel) ?_
    clear hP hD hS
    intro r_11 u_13 H locs w_12 hP hD hS
    replace hP : va_P D vwCl [(k4, .inl (cI, 6, .inl c4)), (ka, .inl (cI, 60, .inl ca)), (kb, .inl (cI, 60, .inl cb)), (k, .inr (11, [.ref k0, .ref k1, .ref k2, .int c3, .ref k4, .ref k5, .ref k6, .ref k7, .ref k8, .int c9, .ref ka, .ref kb, .int cc, .int cd, .int ce, .int cf, .int cg, .int ch, .int ci, .int cj, .int ck, .ref kl, .int cm, .int cn, .ref ko])), (k0, .inl (cI, 1201, .inl c0))] H := hP
    replace hD : va_D A [(k4, .inl (cI, 6, .inl c4)), (ka, .inl (cI, 60, .inl ca)), (kb, .inl (cI, 60, .inl cb)), (k, .inr (11, [.ref k0, .ref k1, .ref k2, .int c3, .ref k4, .ref k5, .ref k6, .ref k7, .ref k8, .int c9, .ref ka, .ref kb, .int cc, .int cd, .int ce, .int cf, .int cg, .int ch, .int ci, .int cj, .int ck, .ref kl, .int cm, .int cn, .ref ko])), (k0, .inl (cI, 1201, .inl c0))] := hD
    rcases w_12 with ⟨hr_11, h_14, h_15⟩ | ⟨hr_11, h_16⟩
    · have h_14 : 0 ≤ a1.toInt := h_14
      have h_15 : a1.toInt < (c0 1).toInt := h_15
      obtain rfl : r_11 = 1 := hr_11.trans (by decide +kernel)
      refine b_if_eq hx hb zl_1 (tgt := 26) dX11_hands_13 (by decide +kernel) (fun c_17 => by exfalso; omega) (fun c_17 => ?_)
      refine lv_iload_n hx hb dX11_hands_16 rfl (lv_at hl 1 rfl) ?_
      refine lv_iload_n hx hb dX11_hands_17 rfl (lv_at hl 2 rfl) ?_
      refine b_icmp_eq hx hb rfl rfl (tgt := 26) dX11_hands_18 (by decide +kernel) (fun c_18 => ?_) (fun c_18 => ?_)
      · refine lv_aload_n hx hb dX11_hands_26 rfl (lv_at hl 0 rfl) ?_
        refine lv_ldc (v := (-1000001)) hx hb hown (hT _ mw_1239) dX11_hands_27 ?_
        refine kJi (wr := [(ka, .inl (cI, 60, .inl ca)), (kb, .inl (cI, 60, .inl cb)), (k0, .inl (cI, 1201, .inl c0))]) (va_runV (As := [.int (-1000001)]) (rest := []) ⟨hx, hb, hml, hown, hT⟩ (c_X11_findingG l D cI aK aV k k0 k1 k2 k4 k5 k6 k7 k8 ka kb kl ko H.size c3 c9 cc cd ce cf cg ch ci cj ck cm cn c4 (-1000001) (by first | omega | (simp only [zl_m1000001]; first | done | omega) | decide | assumption | rfl) (by first | omega | (simp only [zl_m1000001]; first | done | omega) | decide | assumption | rfl)) (cwV 1 hT (gV_in mw_1243 mw_1240 mw_1242 mw_p3_8 mw_12) rfl rfl rfl (by decide +kernel) ⟨Nat.le_of_ble_eq_true rfl, Nat.le_of_ble_eq_true rfl⟩) (kRecvX (q0 := 3) (ci := 11) hK hP hD hN hXS hS hA rfl rfl [3, 0] rfl (by decide +kernel)) rfl rfl hl.1 rfl (lv_room (Nat.le_of_ble_eq_true rfl)) dX11_hands_29 ⟨Nat.le_of_ble_eq_true rfl, Nat.le_of_ble_eq_true rfl⟩) hP hD hS hA [3, 0] [1, 2, 4] rfl rfl (by decide +kernel) (by decide +kernel) ?_
        clear hP hD hS
        intro r_19 sc4_21 H locs w_20 hP hD hS
        replace hP : va_P D vwCl [(ka, .inl (cI, 60, .inl ca)), (kb, .inl (cI, 60, .inl cb)), (k0, .inl (cI, 1201, .inl c0)), (k, .inr (11, [.ref k0, .ref k1, .ref k2, .int c3, .ref k4, .ref k5, .ref k6, .ref k7, .ref k8, .int c9, .ref ka, .ref kb, .int cc, .int cd, .int ce, .int cf, .int cg, .int ch, .int ci, .int cj, .int ck, .ref kl, .int cm, .int cn, .ref ko])), (k4, .inl (cI, 6, .inl sc4_21))] H := hP
        replace hD : va_D A [(ka, .inl (cI, 60, .inl ca)), (kb, .inl (cI, 60, .inl cb)), (k0, .inl (cI, 1201, .inl c0)), (k, .inr (11, [.ref k0, .ref k1, .ref k2, .int c3, .ref k4, .ref k5, .ref k6, .ref k7, .ref k8, .int c9, .ref ka, .ref kb, .int cc, .int cd, .int ce, .int cf, .int cg, .int ch, .int ci, .int cj, .int ck, .ref kl, .int cm, .int cn, .ref ko])), (k4, .inl (cI, 6, .inl sc4_21))] := hD
        have hr_19 := w_20
        obtain rfl : r_19 = (-1000001) := hr_19.trans (by decide +kernel)
        exact hRet (sc4_21, ca, cb) [3, 2, 4, 0, 1] trivial hP hD (by decide +kernel) rfl hS rfl dX11_hands_32
      · refine lv_iload_n hx hb dX11_hands_21 rfl (lv_at hl 3 rfl) ?_
        refine lv_iconst (v := (-1)) hx hb dX11_hands_22 (by decide +kernel) ?_
        refine b_icmp_ge hx hb rfl zl_m1 (tgt := 33) dX11_hands_23 (by decide +kernel) (fun c_22 => ?_) (fun c_22 => ?_)
        · refine lv_aload_n hx hb dX11_hands_33 rfl (lv_at hl 0 rfl) ?_
          refine lv_iload_n hx hb dX11_hands_34 rfl (lv_at hl 1 rfl) ?_
          refine lv_iconst (v := 0) hx hb dX11_hands_35 (by decide +kernel) ?_
          refine kJi (wr := [(k4, .inl (cI, 6, .inl c4)), (ka, .inl (cI, 60, .inl ca)), (kb, .inl (cI, 60, .inl cb))]) (va_runV (As := [.int a0, .int 0]) (rest := []) ⟨hx, hb, hml, hown, hT⟩ (c_X11_workG0 l D cI aK aV k k0 k1 k2 k4 k5 k6 k7 k8 ka kb kl ko H.size c3 c9 cc cd ce cf cg ch ci cj ck cm cn c0 a0 0 (by first | omega | (simp only [zl_0]; first | done | omega) | decide | assumption | rfl) (by first | omega | (simp only [zl_0]; first | done | omega) | decide | assumption | rfl) (by first | omega | (simp only [zl_0]; first | done | omega) | decide | assumption | rfl)) (cwV 2 hT (gV_in mw_1276 mw_1273 mw_1275 mw_p3_12 mw_12) rfl rfl rfl (by decide +kernel) ⟨Nat.le_of_ble_eq_true rfl, Nat.le_of_ble_eq_true rfl⟩) (kRecvX (q0 := 3) (ci := 11) hK hP hD hN hXS hS hA rfl rfl [3, 4] rfl (by decide +kernel)) rfl rfl hl.1 rfl (lv_room (Nat.le_of_ble_eq_true rfl)) dX11_hands_36 ⟨Nat.le_of_ble_eq_true rfl, Nat.le_of_ble_eq_true rfl⟩) hP hD hS hA [3, 4] [0, 1, 2] rfl rfl (by decide +kernel) (by decide +kernel) ?_
          clear hP hD hS
          intro r_23 u_25 H locs w_24 hP hD hS
          replace hP : va_P D vwCl [(k4, .inl (cI, 6, .inl c4)), (ka, .inl (cI, 60, .inl ca)), (kb, .inl (cI, 60, .inl cb)), (k, .inr (11, [.ref k0, .ref k1, .ref k2, .int c3, .ref k4, .ref k5, .ref k6, .ref k7, .ref k8, .int c9, .ref ka, .ref kb, .int cc, .int cd, .int ce, .int cf, .int cg, .int ch, .int ci, .int cj, .int ck, .ref kl, .int cm, .int cn, .ref ko])), (k0, .inl (cI, 1201, .inl c0))] H := hP
          replace hD : va_D A [(k4, .inl (cI, 6, .inl c4)), (ka, .inl (cI, 60, .inl ca)), (kb, .inl (cI, 60, .inl cb)), (k, .inr (11, [.ref k0, .ref k1, .ref k2, .int c3, .ref k4, .ref k5, .ref k6, .ref k7, .ref k8, .int c9, .ref ka, .ref kb, .int cc, .int cd, .int ce, .int cf, .int cg, .int ch, .int ci, .int cj, .int ck, .ref kl, .int cm, .int cn, .ref ko])), (k0, .inl (cI, 1201, .inl c0))] := hD
          have h_26 := w_24
          have h_26 : r_23 = wW c0 a0 0 := h_26
          have t_27 : r_23.toInt = (wW c0 a0 0).toInt := by rw [h_26]
          have b_28 : 0 ≤ r_23.toInt ∧ r_23.toInt ≤ 5 := by rw [h_26]; exact SB.w0 pre0 (by omega) (by omega)
          have lo_r_23 := k_lo r_23
          have hi_r_23 := k_hi r_23
          refine lv_iconst (v := 3) hx hb dX11_hands_39 (by decide +kernel) ?_
          refine b_icmp_ne hx hb rfl zl_3 (tgt := 53) dX11_hands_40 (by decide +kernel) (fun c_29 => ?_) (fun c_29 => ?_)
          · refine lv_aload_n hx hb dX11_hands_53 rfl (lv_at hl 0 rfl) ?_
            refine lv_ldc (v := (-1000005)) hx hb hown (hT _ mw_1283) dX11_hands_54 ?_
            refine kJi (wr := [(ka, .inl (cI, 60, .inl ca)), (kb, .inl (cI, 60, .inl cb)), (k0, .inl (cI, 1201, .inl c0))]) (va_runV (As := [.int (-1000005)]) (rest := []) ⟨hx, hb, hml, hown, hT⟩ (c_X11_findingG l D cI aK aV k k0 k1 k2 k4 k5 k6 k7 k8 ka kb kl ko H.size c3 c9 cc cd ce cf cg ch ci cj ck cm cn c4 (-1000005) (by first | omega | (simp only [zl_m1000005]; first | done | omega) | decide | assumption | rfl) (by first | omega | (simp only [zl_m1000005]; first | done | omega) | decide | assumption | rfl)) (cwV 1 hT (gV_in mw_1243 mw_1240 mw_1242 mw_p3_8 mw_12) rfl rfl rfl (by decide +kernel) ⟨Nat.le_of_ble_eq_true rfl, Nat.le_of_ble_eq_true rfl⟩) (kRecvX (q0 := 3) (ci := 11) hK hP hD hN hXS hS hA rfl rfl [3, 0] rfl (by decide +kernel)) rfl rfl hl.1 rfl (lv_room (Nat.le_of_ble_eq_true rfl)) dX11_hands_56 ⟨Nat.le_of_ble_eq_true rfl, Nat.le_of_ble_eq_true rfl⟩) hP hD hS hA [3, 0] [1, 2, 4] rfl rfl (by decide +kernel) (by decide +kernel) ?_
            clear hP hD hS
            intro r_30 sc4_32 H locs w_31 hP hD hS
            replace hP : va_P D vwCl [(ka, .inl (cI, 60, .inl ca)), (kb, .inl (cI, 60, .inl cb)), (k0, .inl (cI, 1201, .inl c0)), (k, .inr (11, [.ref k0, .ref k1, .ref k2, .int c3, .ref k4, .ref k5, .ref k6, .ref k7, .ref k8, .int c9, .ref ka, .ref kb, .int cc, .int cd, .int ce, .int cf, .int cg, .int ch, .int ci, .int cj, .int ck, .ref kl, .int cm, .int cn, .ref ko])), (k4, .inl (cI, 6, .inl sc4_32))] H := hP
            replace hD : va_D A [(ka, .inl (cI, 60, .inl ca)), (kb, .inl (cI, 60, .inl cb)), (k0, .inl (cI, 1201, .inl c0)), (k, .inr (11, [.ref k0, .ref k1, .ref k2, .int c3, .ref k4, .ref k5, .ref k6, .ref k7, .ref k8, .int c9, .ref ka, .ref kb, .int cc, .int cd, .int ce, .int cf, .int cg, .int ch, .int ci, .int cj, .int ck, .ref kl, .int cm, .int cn, .ref ko])), (k4, .inl (cI, 6, .inl sc4_32))] := hD
            have hr_30 := w_31
            obtain rfl : r_30 = (-1000005) := hr_30.trans (by decide +kernel)
            exact hRet (sc4_32, ca, cb) [3, 2, 4, 0, 1] trivial hP hD (by decide +kernel) rfl hS rfl dX11_hands_59
          · refine lv_aload_n hx hb dX11_hands_43 rfl (lv_at hl 0 rfl) ?_
            refine lv_iload_n hx hb dX11_hands_44 rfl (lv_at hl 2 rfl) ?_
            refine lv_iconst (v := 0) hx hb dX11_hands_45 (by decide +kernel) ?_
            refine kJi (wr := [(k4, .inl (cI, 6, .inl c4)), (ka, .inl (cI, 60, .inl ca)), (kb, .inl (cI, 60, .inl cb))]) (va_runV (As := [.int a1, .int 0]) (rest := []) ⟨hx, hb, hml, hown, hT⟩ (c_X11_workG0 l D cI aK aV k k0 k1 k2 k4 k5 k6 k7 k8 ka kb kl ko H.size c3 c9 cc cd ce cf cg ch ci cj ck cm cn c0 a1 0 (by first | omega | (simp only [zl_0]; first | done | omega) | decide | assumption | rfl) (by first | omega | (simp only [zl_0]; first | done | omega) | decide | assumption | rfl) (by first | omega | (simp only [zl_0]; first | done | omega) | decide | assumption | rfl)) (cwV 2 hT (gV_in mw_1276 mw_1273 mw_1275 mw_p3_12 mw_12) rfl rfl rfl (by decide +kernel) ⟨Nat.le_of_ble_eq_true rfl, Nat.le_of_ble_eq_true rfl⟩) (kRecvX (q0 := 3) (ci := 11) hK hP hD hN hXS hS hA rfl rfl [3, 4] rfl (by decide +kernel)) rfl rfl hl.1 rfl (lv_room (Nat.le_of_ble_eq_true rfl)) dX11_hands_46 ⟨Nat.le_of_ble_eq_true rfl, Nat.le_of_ble_eq_true rfl⟩) hP hD hS hA [3, 4] [0, 1, 2] rfl rfl (by decide +kernel) (by decide +kernel) ?_
            clear hP hD hS
            intro r_33 u_35 H locs w_34 hP hD hS
            replace hP : va_P D vwCl [(k4, .inl (cI, 6, .inl c4)), (ka, .inl (cI, 60, .inl ca)), (kb, .inl (cI, 60, .inl cb)), (k, .inr (11, [.ref k0, .ref k1, .ref k2, .int c3, .ref k4, .ref k5, .ref k6, .ref k7, .ref k8, .int c9, .ref ka, .ref kb, .int cc, .int cd, .int ce, .int cf, .int cg, .int ch, .int ci, .int cj, .int ck, .ref kl, .int cm, .int cn, .ref ko])), (k0, .inl (cI, 1201, .inl c0))] H := hP
            replace hD : va_D A [(k4, .inl (cI, 6, .inl c4)), (ka, .inl (cI, 60, .inl ca)), (kb, .inl (cI, 60, .inl cb)), (k, .inr (11, [.ref k0, .ref k1, .ref k2, .int c3, .ref k4, .ref k5, .ref k6, .ref k7, .ref k8, .int c9, .ref ka, .ref kb, .int cc, .int cd, .int ce, .int cf, .int cg, .int ch, .int ci, .int cj, .int ck, .ref kl, .int cm, .int cn, .ref ko])), (k0, .inl (cI, 1201, .inl c0))] := hD
            have h_36 := w_34
            have h_36 : r_33 = wW c0 a1 0 := h_36
            have t_37 : r_33.toInt = (wW c0 a1 0).toInt := by rw [h_36]
            have b_38 : 0 ≤ r_33.toInt ∧ r_33.toInt ≤ 5 := by rw [h_36]; exact SB.w0 pre0 (by omega) (by omega)
            have lo_r_33 := k_lo r_33
            have hi_r_33 := k_hi r_33
            refine lv_iconst (v := 3) hx hb dX11_hands_49 (by decide +kernel) ?_
            refine b_icmp_eq hx hb rfl zl_3 (tgt := 60) dX11_hands_50 (by decide +kernel) (fun c_39 => ?_) (fun c_39 => ?_)
            · refine lv_aload_n hx hb dX11_hands_60 rfl (lv_at hl 0 rfl) ?_
              refine lv_iload_n hx hb dX11_hands_61 rfl (lv_at hl 1 rfl) ?_
              refine lv_iload_n hx hb dX11_hands_62 rfl (lv_at hl 2 rfl) ?_
              refine kJi (wr := [(k4, .inl (cI, 6, .inl c4))]) (va_runV (As := [.int a0, .int a1]) (rest := []) ⟨hx, hb, hml, hown, hT⟩ (c_X11_findHandsG l D cI aK aV k k0 k1 k2 k4 k5 k6 k7 k8 ka kb kl ko H.size c3 c9 cc cd ce cf cg ch ci cj ck cm cn c0 ca cb a0 a1 pre0 (by first | omega | decide | assumption | rfl) (by first | omega | decide | assumption | rfl) (by first | omega | decide | assumption | rfl) (by first | omega | decide | assumption | rfl)) (cwV 2 hT (gV_in mw_1456 mw_1453 mw_1455 mw_p5_8 mw_12) rfl rfl rfl (by decide +kernel) ⟨Nat.le_of_ble_eq_true rfl, Nat.le_of_ble_eq_true rfl⟩) (kRecvX (q0 := 3) (ci := 11) hK hP hD hN hXS hS hA rfl rfl [3, 4, 1, 2] rfl (by decide +kernel)) rfl rfl hl.1 rfl (lv_room (Nat.le_of_ble_eq_true rfl)) dX11_hands_63 ⟨Nat.le_of_ble_eq_true rfl, Nat.le_of_ble_eq_true rfl⟩) hP hD hS hA [3, 4, 1, 2] [0] rfl rfl (by decide +kernel) (by decide +kernel) ?_
              clear hP hD hS
              intro r_40 u_44 H locs w_41 hP hD hS
              obtain ⟨sca_42, scb_43⟩ := u_44
              replace hP : va_P D vwCl [(k4, .inl (cI, 6, .inl c4)), (k, .inr (11, [.ref k0, .ref k1, .ref k2, .int c3, .ref k4, .ref k5, .ref k6, .ref k7, .ref k8, .int c9, .ref ka, .ref kb, .int cc, .int cd, .int ce, .int cf, .int cg, .int ch, .int ci, .int cj, .int ck, .ref kl, .int cm, .int cn, .ref ko])), (k0, .inl (cI, 1201, .inl c0)), (ka, .inl (cI, 60, .inl sca_42)), (kb, .inl (cI, 60, .inl scb_43))] H := hP
              replace hD : va_D A [(k4, .inl (cI, 6, .inl c4)), (k, .inr (11, [.ref k0, .ref k1, .ref k2, .int c3, .ref k4, .ref k5, .ref k6, .ref k7, .ref k8, .int c9, .ref ka, .ref kb, .int cc, .int cd, .int ce, .int cf, .int cg, .int ch, .int ci, .int cj, .int ck, .ref kl, .int cm, .int cn, .ref ko])), (k0, .inl (cI, 1201, .inl c0)), (ka, .inl (cI, 60, .inl sca_42)), (kb, .inl (cI, 60, .inl scb_43))] := hD
              obtain ⟨h_45, h_46⟩ := w_41
              have h_45 : 0 ≤ r_40.toInt := h_45
              have h_46 : r_40.toInt ≤ 60 := h_46
              have lo_r_40 := k_lo r_40
              have hi_r_40 := k_hi r_40
              refine lv_istore (lv' := [(4, .int r_40), (0, .ref k), (1, .int a0), (2, .int a1), (3, .int a2)]) hx hb dX11_hands_66 hl (by decide +kernel) rfl ?_
              clear hl
              intro ls hl
              refine lv_iload hx hb dX11_hands_68 (lv_at hl 0 rfl) ?_
              refine b_if_eq hx hb rfl (tgt := 79) dX11_hands_70 (by decide +kernel) (fun c_47 => ?_) (fun c_47 => ?_)
              · refine lv_aload_n hx hb dX11_hands_79 rfl (lv_at hl 1 rfl) ?_
                refine lv_ldc (v := (-1000002)) hx hb hown (hT _ mw_1392) dX11_hands_80 ?_
                refine kJi (wr := [(k0, .inl (cI, 1201, .inl c0)), (ka, .inl (cI, 60, .inl sca_42)), (kb, .inl (cI, 60, .inl scb_43))]) (va_runV (As := [.int (-1000002)]) (rest := []) ⟨hx, hb, hml, hown, hT⟩ (c_X11_findingG l D cI aK aV k k0 k1 k2 k4 k5 k6 k7 k8 ka kb kl ko H.size c3 c9 cc cd ce cf cg ch ci cj ck cm cn c4 (-1000002) (by first | omega | (simp only [zl_m1000002]; first | done | omega) | decide | assumption | rfl) (by first | omega | (simp only [zl_m1000002]; first | done | omega) | decide | assumption | rfl)) (cwV 1 hT (gV_in mw_1243 mw_1240 mw_1242 mw_p3_8 mw_12) rfl rfl rfl (by decide +kernel) ⟨Nat.le_of_ble_eq_true rfl, Nat.le_of_ble_eq_true rfl⟩) (kRecvX (q0 := 1) (ci := 11) hK hP hD hN hXS hS hA rfl rfl [1, 0] rfl (by decide +kernel)) rfl rfl hl.1 rfl (lv_room (Nat.le_of_ble_eq_true rfl)) dX11_hands_82 ⟨Nat.le_of_ble_eq_true rfl, Nat.le_of_ble_eq_true rfl⟩) hP hD hS hA [1, 0] [2, 3, 4] rfl rfl (by decide +kernel) (by decide +kernel) ?_
                clear hP hD hS
                intro r_48 sc4_50 H locs w_49 hP hD hS
                replace hP : va_P D vwCl [(k0, .inl (cI, 1201, .inl c0)), (ka, .inl (cI, 60, .inl sca_42)), (kb, .inl (cI, 60, .inl scb_43)), (k, .inr (11, [.ref k0, .ref k1, .ref k2, .int c3, .ref k4, .ref k5, .ref k6, .ref k7, .ref k8, .int c9, .ref ka, .ref kb, .int cc, .int cd, .int ce, .int cf, .int cg, .int ch, .int ci, .int cj, .int ck, .ref kl, .int cm, .int cn, .ref ko])), (k4, .inl (cI, 6, .inl sc4_50))] H := hP
                replace hD : va_D A [(k0, .inl (cI, 1201, .inl c0)), (ka, .inl (cI, 60, .inl sca_42)), (kb, .inl (cI, 60, .inl scb_43)), (k, .inr (11, [.ref k0, .ref k1, .ref k2, .int c3, .ref k4, .ref k5, .ref k6, .ref k7, .ref k8, .int c9, .ref ka, .ref kb, .int cc, .int cd, .int ce, .int cf, .int cg, .int ch, .int ci, .int cj, .int ck, .ref kl, .int cm, .int cn, .ref ko])), (k4, .inl (cI, 6, .inl sc4_50))] := hD
                have hr_48 := w_49
                obtain rfl : r_48 = (-1000002) := hr_48.trans (by decide +kernel)
                refine lv_goto (tgt := 104) hx hb dX11_hands_85 (by decide +kernel) ?_
                exact hRet (sc4_50, sca_42, scb_43) [3, 0, 4, 1, 2] trivial hP hD (by decide +kernel) rfl hS rfl dX11_hands_104
              · refine lv_iload_n hx hb dX11_hands_73 rfl (lv_at hl 4 rfl) ?_
                refine lv_iload hx hb dX11_hands_74 (lv_at hl 0 rfl) ?_
                refine b_icmp_lt hx hb rfl rfl (tgt := 88) dX11_hands_76 (by decide +kernel) (fun c_51 => ?_) (fun c_51 => ?_)
                · refine lv_iload_n hx hb dX11_hands_88 rfl (lv_at hl 4 rfl) ?_
                  refine lv_iconst (v := (-1)) hx hb dX11_hands_89 (by decide +kernel) ?_
                  refine b_icmp_ne hx hb rfl zl_m1 (tgt := 98) dX11_hands_90 (by decide +kernel) (fun c_52 => ?_) (fun c_52 => ?_)
                  · refine lv_aload_n hx hb dX11_hands_98 rfl (lv_at hl 1 rfl) ?_
                    refine va_get (D := D) (ci := 11) (v := .ref kb) (C := RX11) (T := TX11) (N := 25) hx hb hT giX11 hown hK hP 1 rfl rfl 11 (by decide +kernel) (hT (Cond.fieldLink RX11 37 "DesertWireModel" "way" "[I") mw_1167) (fun _ h9 => h9) rfl dX11_hands_99 ?_
                    refine lv_iload_n hx hb dX11_hands_102 rfl (lv_at hl 4 rfl) ?_
                    refine k_iald (v := (scb_43 a2.toNatClampNeg)) hx hb hK hP 4 0 rfl rfl (k_in (by omega) (by omega)) rfl dX11_hands_103 ?_
                    refine lv_topi (fun v_53 ev_53 => ?_)
                    have lo_v_53 := k_lo v_53
                    have hi_v_53 := k_hi v_53
                    have tv_53 : v_53.toInt = (scb_43 a2.toNatClampNeg).toInt := by rw [ev_53]
                    exact hRet (c4, sca_42, scb_43) [1, 2, 0, 3, 4] trivial hP hD (by decide +kernel) rfl hS rfl dX11_hands_104
                  · refine lv_iload hx hb dX11_hands_93 (lv_at hl 0 rfl) ?_
                    refine lv_goto (tgt := 104) hx hb dX11_hands_95 (by decide +kernel) ?_
                    exact hRet (c4, sca_42, scb_43) [1, 2, 0, 3, 4] trivial hP hD (by decide +kernel) rfl hS rfl dX11_hands_104
                · refine lv_aload_n hx hb dX11_hands_79 rfl (lv_at hl 1 rfl) ?_
                  refine lv_ldc (v := (-1000002)) hx hb hown (hT _ mw_1392) dX11_hands_80 ?_
                  refine kJi (wr := [(k0, .inl (cI, 1201, .inl c0)), (ka, .inl (cI, 60, .inl sca_42)), (kb, .inl (cI, 60, .inl scb_43))]) (va_runV (As := [.int (-1000002)]) (rest := []) ⟨hx, hb, hml, hown, hT⟩ (c_X11_findingG l D cI aK aV k k0 k1 k2 k4 k5 k6 k7 k8 ka kb kl ko H.size c3 c9 cc cd ce cf cg ch ci cj ck cm cn c4 (-1000002) (by first | omega | (simp only [zl_m1000002]; first | done | omega) | decide | assumption | rfl) (by first | omega | (simp only [zl_m1000002]; first | done | omega) | decide | assumption | rfl)) (cwV 1 hT (gV_in mw_1243 mw_1240 mw_1242 mw_p3_8 mw_12) rfl rfl rfl (by decide +kernel) ⟨Nat.le_of_ble_eq_true rfl, Nat.le_of_ble_eq_true rfl⟩) (kRecvX (q0 := 1) (ci := 11) hK hP hD hN hXS hS hA rfl rfl [1, 0] rfl (by decide +kernel)) rfl rfl hl.1 rfl (lv_room (Nat.le_of_ble_eq_true rfl)) dX11_hands_82 ⟨Nat.le_of_ble_eq_true rfl, Nat.le_of_ble_eq_true rfl⟩) hP hD hS hA [1, 0] [2, 3, 4] rfl rfl (by decide +kernel) (by decide +kernel) ?_
                  clear hP hD hS
                  intro r_54 sc4_56 H locs w_55 hP hD hS
                  replace hP : va_P D vwCl [(k0, .inl (cI, 1201, .inl c0)), (ka, .inl (cI, 60, .inl sca_42)), (kb, .inl (cI, 60, .inl scb_43)), (k, .inr (11, [.ref k0, .ref k1, .ref k2, .int c3, .ref k4, .ref k5, .ref k6, .ref k7, .ref k8, .int c9, .ref ka, .ref kb, .int cc, .int cd, .int ce, .int cf, .int cg, .int ch, .int ci, .int cj, .int ck, .ref kl, .int cm, .int cn, .ref ko])), (k4, .inl (cI, 6, .inl sc4_56))] H := hP
                  replace hD : va_D A [(k0, .inl (cI, 1201, .inl c0)), (ka, .inl (cI, 60, .inl sca_42)), (kb, .inl (cI, 60, .inl scb_43)), (k, .inr (11, [.ref k0, .ref k1, .ref k2, .int c3, .ref k4, .ref k5, .ref k6, .ref k7, .ref k8, .int c9, .ref ka, .ref kb, .int cc, .int cd, .int ce, .int cf, .int cg, .int ch, .int ci, .int cj, .int ck, .ref kl, .int cm, .int cn, .ref ko])), (k4, .inl (cI, 6, .inl sc4_56))] := hD
                  have hr_54 := w_55
                  obtain rfl : r_54 = (-1000002) := hr_54.trans (by decide +kernel)
                  refine lv_goto (tgt := 104) hx hb dX11_hands_85 (by decide +kernel) ?_
                  exact hRet (sc4_56, sca_42, scb_43) [3, 0, 4, 1, 2] trivial hP hD (by decide +kernel) rfl hS rfl dX11_hands_104
            · refine lv_aload_n hx hb dX11_hands_53 rfl (lv_at hl 0 rfl) ?_
              refine lv_ldc (v := (-1000005)) hx hb hown (hT _ mw_1283) dX11_hands_54 ?_
              refine kJi (wr := [(ka, .inl (cI, 60, .inl ca)), (kb, .inl (cI, 60, .inl cb)), (k0, .inl (cI, 1201, .inl c0))]) (va_runV (As := [.int (-1000005)]) (rest := []) ⟨hx, hb, hml, hown, hT⟩ (c_X11_findingG l D cI aK aV k k0 k1 k2 k4 k5 k6 k7 k8 ka kb kl ko H.size c3 c9 cc cd ce cf cg ch ci cj ck cm cn c4 (-1000005) (by first | omega | (simp only [zl_m1000005]; first | done | omega) | decide | assumption | rfl) (by first | omega | (simp only [zl_m1000005]; first | done | omega) | decide | assumption | rfl)) (cwV 1 hT (gV_in mw_1243 mw_1240 mw_1242 mw_p3_8 mw_12) rfl rfl rfl (by decide +kernel) ⟨Nat.le_of_ble_eq_true rfl, Nat.le_of_ble_eq_true rfl⟩) (kRecvX (q0 := 3) (ci := 11) hK hP hD hN hXS hS hA rfl rfl [3, 0] rfl (by decide +kernel)) rfl rfl hl.1 rfl (lv_room (Nat.le_of_ble_eq_true rfl)) dX11_hands_56 ⟨Nat.le_of_ble_eq_true rfl, Nat.le_of_ble_eq_true rfl⟩) hP hD hS hA [3, 0] [1, 2, 4] rfl rfl (by decide +kernel) (by decide +kernel) ?_
              clear hP hD hS
              intro r_57 sc4_59 H locs w_58 hP hD hS
              replace hP : va_P D vwCl [(ka, .inl (cI, 60, .inl ca)), (kb, .inl (cI, 60, .inl cb)), (k0, .inl (cI, 1201, .inl c0)), (k, .inr (11, [.ref k0, .ref k1, .ref k2, .int c3, .ref k4, .ref k5, .ref k6, .ref k7, .ref k8, .int c9, .ref ka, .ref kb, .int cc, .int cd, .int ce, .int cf, .int cg, .int ch, .int ci, .int cj, .int ck, .ref kl, .int cm, .int cn, .ref ko])), (k4, .inl (cI, 6, .inl sc4_59))] H := hP
              replace hD : va_D A [(ka, .inl (cI, 60, .inl ca)), (kb, .inl (cI, 60, .inl cb)), (k0, .inl (cI, 1201, .inl c0)), (k, .inr (11, [.ref k0, .ref k1, .ref k2, .int c3, .ref k4, .ref k5, .ref k6, .ref k7, .ref k8, .int c9, .ref ka, .ref kb, .int cc, .int cd, .int ce, .int cf, .int cg, .int ch, .int ci, .int cj, .int ck, .ref kl, .int cm, .int cn, .ref ko])), (k4, .inl (cI, 6, .inl sc4_59))] := hD
              have hr_57 := w_58
              obtain rfl : r_57 = (-1000005) := hr_57.trans (by decide +kernel)
              exact hRet (sc4_59, ca, cb) [3, 2, 4, 0, 1] trivial hP hD (by decide +kernel) rfl hS rfl dX11_hands_59
        · refine lv_aload_n hx hb dX11_hands_26 rfl (lv_at hl 0 rfl) ?_
          refine lv_ldc (v := (-1000001)) hx hb hown (hT _ mw_1239) dX11_hands_27 ?_
          refine kJi (wr := [(ka, .inl (cI, 60, .inl ca)), (kb, .inl (cI, 60, .inl cb)), (k0, .inl (cI, 1201, .inl c0))]) (va_runV (As := [.int (-1000001)]) (rest := []) ⟨hx, hb, hml, hown, hT⟩ (c_X11_findingG l D cI aK aV k k0 k1 k2 k4 k5 k6 k7 k8 ka kb kl ko H.size c3 c9 cc cd ce cf cg ch ci cj ck cm cn c4 (-1000001) (by first | omega | (simp only [zl_m1000001]; first | done | omega) | decide | assumption | rfl) (by first | omega | (simp only [zl_m1000001]; first | done | omega) | decide | assumption | rfl)) (cwV 1 hT (gV_in mw_1243 mw_1240 mw_1242 mw_p3_8 mw_12) rfl rfl rfl (by decide +kernel) ⟨Nat.le_of_ble_eq_true rfl, Nat.le_of_ble_eq_true rfl⟩) (kRecvX (q0 := 3) (ci := 11) hK hP hD hN hXS hS hA rfl rfl [3, 0] rfl (by decide +kernel)) rfl rfl hl.1 rfl (lv_room (Nat.le_of_ble_eq_true rfl)) dX11_hands_29 ⟨Nat.le_of_ble_eq_true rfl, Nat.le_of_ble_eq_true rfl⟩) hP hD hS hA [3, 0] [1, 2, 4] rfl rfl (by decide +kernel) (by decide +kernel) ?_
          clear hP hD hS
          intro r_60 sc4_62 H locs w_61 hP hD hS
          replace hP : va_P D vwCl [(ka, .inl (cI, 60, .inl ca)), (kb, .inl (cI, 60, .inl cb)), (k0, .inl (cI, 1201, .inl c0)), (k, .inr (11, [.ref k0, .ref k1, .ref k2, .int c3, .ref k4, .ref k5, .ref k6, .ref k7, .ref k8, .int c9, .ref ka, .ref kb, .int cc, .int cd, .int ce, .int cf, .int cg, .int ch, .int ci, .int cj, .int ck, .ref kl, .int cm, .int cn, .ref ko])), (k4, .inl (cI, 6, .inl sc4_62))] H := hP
          replace hD : va_D A [(ka, .inl (cI, 60, .inl ca)), (kb, .inl (cI, 60, .inl cb)), (k0, .inl (cI, 1201, .inl c0)), (k, .inr (11, [.ref k0, .ref k1, .ref k2, .int c3, .ref k4, .ref k5, .ref k6, .ref k7, .ref k8, .int c9, .ref ka, .ref kb, .int cc, .int cd, .int ce, .int cf, .int cg, .int ch, .int ci, .int cj, .int ck, .ref kl, .int cm, .int cn, .ref ko])), (k4, .inl (cI, 6, .inl sc4_62))] := hD
          have hr_60 := w_61
          obtain rfl : r_60 = (-1000001) := hr_60.trans (by decide +kernel)
          exact hRet (sc4_62, ca, cb) [3, 2, 4, 0, 1] trivial hP hD (by decide +kernel) rfl hS rfl dX11_hands_32
    · have h_16 : a1.toInt < 0 ∨ (c0 1).toInt ≤ a1.toInt := h_16
      obtain rfl : r_11 = 0 := hr_11.trans (by decide +kernel)
      refine b_if_eq hx hb zl_0 (tgt := 26) dX11_hands_13 (by decide +kernel) (fun c_63 => ?_) (fun c_63 => by exfalso; omega)
      refine lv_aload_n hx hb dX11_hands_26 rfl (lv_at hl 0 rfl) ?_
      refine lv_ldc (v := (-1000001)) hx hb hown (hT _ mw_1239) dX11_hands_27 ?_
      refine kJi (wr := [(ka, .inl (cI, 60, .inl ca)), (kb, .inl (cI, 60, .inl cb)), (k0, .inl (cI, 1201, .inl c0))]) (va_runV (As := [.int (-1000001)]) (rest := []) ⟨hx, hb, hml, hown, hT⟩ (c_X11_findingG l D cI aK aV k k0 k1 k2 k4 k5 k6 k7 k8 ka kb kl ko H.size c3 c9 cc cd ce cf cg ch ci cj ck cm cn c4 (-1000001) (by first | omega | (simp only [zl_m1000001]; first | done | omega) | decide | assumption | rfl) (by first | omega | (simp only [zl_m1000001]; first | done | omega) | decide | assumption | rfl)) (cwV 1 hT (gV_in mw_1243 mw_1240 mw_1242 mw_p3_8 mw_12) rfl rfl rfl (by decide +kernel) ⟨Nat.le_of_ble_eq_true rfl, Nat.le_of_ble_eq_true rfl⟩) (kRecvX (q0 := 3) (ci := 11) hK hP hD hN hXS hS hA rfl rfl [3, 0] rfl (by decide +kernel)) rfl rfl hl.1 rfl (lv_room (Nat.le_of_ble_eq_true rfl)) dX11_hands_29 ⟨Nat.le_of_ble_eq_true rfl, Nat.le_of_ble_eq_true rfl⟩) hP hD hS hA [3, 0] [1, 2, 4] rfl rfl (by decide +kernel) (by decide +kernel) ?_
      clear hP hD hS
      intro r_64 sc4_66 H locs w_65 hP hD hS
      replace hP : va_P D vwCl [(ka, .inl (cI, 60, .inl ca)), (kb, .inl (cI, 60, .inl cb)), (k0, .inl (cI, 1201, .inl c0)), (k, .inr (11, [.ref k0, .ref k1, .ref k2, .int c3, .ref k4, .ref k5, .ref k6, .ref k7, .ref k8, .int c9, .ref ka, .ref kb, .int cc, .int cd, .int ce, .int cf, .int cg, .int ch, .int ci, .int cj, .int ck, .ref kl, .int cm, .int cn, .ref ko])), (k4, .inl (cI, 6, .inl sc4_66))] H := hP
      replace hD : va_D A [(ka, .inl (cI, 60, .inl ca)), (kb, .inl (cI, 60, .inl cb)), (k0, .inl (cI, 1201, .inl c0)), (k, .inr (11, [.ref k0, .ref k1, .ref k2, .int c3, .ref k4, .ref k5, .ref k6, .ref k7, .ref k8, .int c9, .ref ka, .ref kb, .int cc, .int cd, .int ce, .int cf, .int cg, .int ch, .int ci, .int cj, .int ck, .ref kl, .int cm, .int cn, .ref ko])), (k4, .inl (cI, 6, .inl sc4_66))] := hD
      have hr_64 := w_65
      obtain rfl : r_64 = (-1000001) := hr_64.trans (by decide +kernel)
      exact hRet (sc4_66, ca, cb) [3, 2, 4, 0, 1] trivial hP hD (by decide +kernel) rfl hS rfl dX11_hands_32
  · have h_9 : a0.toInt < 0 ∨ (c0 1).toInt ≤ a0.toInt := h_9
    obtain rfl : r_4 = 0 := hr_4.trans (by decide +kernel)
    refine b_if_eq hx hb zl_0 (tgt := 26) dX11_hands_5 (by decide +kernel) (fun c_67 => ?_) (fun c_67 => by exfalso; omega)
    refine lv_aload_n hx hb dX11_hands_26 rfl (lv_at hl 0 rfl) ?_
    refine lv_ldc (v := (-1000001)) hx hb hown (hT _ mw_1239) dX11_hands_27 ?_
    refine kJi (wr := [(ka, .inl (cI, 60, .inl ca)), (kb, .inl (cI, 60, .inl cb)), (k0, .inl (cI, 1201, .inl c0))]) (va_runV (As := [.int (-1000001)]) (rest := []) ⟨hx, hb, hml, hown, hT⟩ (c_X11_findingG l D cI aK aV k k0 k1 k2 k4 k5 k6 k7 k8 ka kb kl ko H.size c3 c9 cc cd ce cf cg ch ci cj ck cm cn c4 (-1000001) (by first | omega | (simp only [zl_m1000001]; first | done | omega) | decide | assumption | rfl) (by first | omega | (simp only [zl_m1000001]; first | done | omega) | decide | assumption | rfl)) (cwV 1 hT (gV_in mw_1243 mw_1240 mw_1242 mw_p3_8 mw_12) rfl rfl rfl (by decide +kernel) ⟨Nat.le_of_ble_eq_true rfl, Nat.le_of_ble_eq_true rfl⟩) (kRecvX (q0 := 3) (ci := 11) hK hP hD hN hXS hS hA rfl rfl [3, 0] rfl (by decide +kernel)) rfl rfl hl.1 rfl (lv_room (Nat.le_of_ble_eq_true rfl)) dX11_hands_29 ⟨Nat.le_of_ble_eq_true rfl, Nat.le_of_ble_eq_true rfl⟩) hP hD hS hA [3, 0] [1, 2, 4] rfl rfl (by decide +kernel) (by decide +kernel) ?_
    clear hP hD hS
    intro r_68 sc4_70 H locs w_69 hP hD hS
    replace hP : va_P D vwCl [(ka, .inl (cI, 60, .inl ca)), (kb, .inl (cI, 60, .inl cb)), (k0, .inl (cI, 1201, .inl c0)), (k, .inr (11, [.ref k0, .ref k1, .ref k2, .int c3, .ref k4, .ref k5, .ref k6, .ref k7, .ref k8, .int c9, .ref ka, .ref kb, .int cc, .int cd, .int ce, .int cf, .int cg, .int ch, .int ci, .int cj, .int ck, .ref kl, .int cm, .int cn, .ref ko])), (k4, .inl (cI, 6, .inl sc4_70))] H := hP
    replace hD : va_D A [(ka, .inl (cI, 60, .inl ca)), (kb, .inl (cI, 60, .inl cb)), (k0, .inl (cI, 1201, .inl c0)), (k, .inr (11, [.ref k0, .ref k1, .ref k2, .int c3, .ref k4, .ref k5, .ref k6, .ref k7, .ref k8, .int c9, .ref ka, .ref kb, .int cc, .int cd, .int ce, .int cf, .int cg, .int ch, .int ci, .int cj, .int ck, .ref kl, .int cm, .int cn, .ref ko])), (k4, .inl (cI, 6, .inl sc4_70))] := hD
    have hr_68 := w_69
    obtain rfl : r_68 = (-1000001) := hr_68.trans (by decide +kernel)
    exact hRet (sc4_70, ca, cb) [3, 2, 4, 0, 1] trivial hP hD (by decide +kernel) rfl hS rfl dX11_hands_32
theorem bn_cX11_rain_0 : BN cX11_rain 0 0xad0f1403a610e020220a00ad4563f1798438080882802b515ab482015b900262b05805363000ae41411020741c014d0c002b906044081c := by
  unfold BN; decide +kernel
theorem dX11_rain_0 : decode cX11_rain 0 = .ok (.iload_n 1, 1) := dR0 (k := 0) (i := 0) bn_cX11_rain_0 dop_27 (by decide +kernel)
theorem dX11_rain_1 : decode cX11_rain 1 = .ok (.iconst 0, 1) := dR0 (k := 0) (i := 1) bn_cX11_rain_0 dop_3 (by decide +kernel)
theorem dX11_rain_2 : decode cX11_rain 2 = .ok (.bipush 11, 2) := dR1s (f := Instr.bipush) (k := 0) (i := 2) bn_cX11_rain_0 dop_16 11 11 (by decide +kernel)
theorem dX11_rain_4 : decode cX11_rain 4 = .ok (.invokestatic 47, 3) := dR2 (f := Instr.invokestatic) (k := 0) (i := 4) bn_cX11_rain_0 dop_184 47 (by decide +kernel)
theorem dX11_rain_7 : decode cX11_rain 7 = .ok (.ifCond .eq 13, 3) := dR2s (f := Instr.ifCond .eq) (k := 0) (i := 7) bn_cX11_rain_0 dop_153 13 13 (by decide +kernel)
theorem dX11_rain_10 : decode cX11_rain 10 = .ok (.iload_n 2, 1) := dR0 (k := 0) (i := 10) bn_cX11_rain_0 dop_28 (by decide +kernel)
theorem dX11_rain_11 : decode cX11_rain 11 = .ok (.iconst 0, 1) := dR0 (k := 0) (i := 11) bn_cX11_rain_0 dop_3 (by decide +kernel)
theorem dX11_rain_12 : decode cX11_rain 12 = .ok (.bipush 9, 2) := dR1s (f := Instr.bipush) (k := 0) (i := 12) bn_cX11_rain_0 dop_16 9 9 (by decide +kernel)
theorem dX11_rain_14 : decode cX11_rain 14 = .ok (.invokestatic 47, 3) := dR2 (f := Instr.invokestatic) (k := 0) (i := 14) bn_cX11_rain_0 dop_184 47 (by decide +kernel)
theorem dX11_rain_17 : decode cX11_rain 17 = .ok (.ifCond .ne 10, 3) := dR2s (f := Instr.ifCond .ne) (k := 0) (i := 17) bn_cX11_rain_0 dop_154 10 10 (by decide +kernel)
theorem dX11_rain_20 : decode cX11_rain 20 = .ok (.aload_n 0, 1) := dR0 (k := 0) (i := 20) bn_cX11_rain_0 dop_42 (by decide +kernel)
theorem dX11_rain_21 : decode cX11_rain 21 = .ok (.ldc 63, 2) := dR1 (f := Instr.ldc) (k := 0) (i := 21) bn_cX11_rain_0 dop_18 63 (by decide +kernel)
theorem dX11_rain_23 : decode cX11_rain 23 = .ok (.invokevirtual 64, 3) := dR2 (f := Instr.invokevirtual) (k := 0) (i := 23) bn_cX11_rain_0 dop_182 64 (by decide +kernel)
theorem dX11_rain_26 : decode cX11_rain 26 = .ok (.ireturn, 1) := dR0 (k := 0) (i := 26) bn_cX11_rain_0 dop_172 (by decide +kernel)
theorem dX11_rain_27 : decode cX11_rain 27 = .ok (.aload_n 0, 1) := dR0 (k := 0) (i := 27) bn_cX11_rain_0 dop_42 (by decide +kernel)
theorem dX11_rain_28 : decode cX11_rain 28 = .ok (.getfield 9, 3) := dR2 (f := Instr.getfield) (k := 0) (i := 28) bn_cX11_rain_0 dop_180 9 (by decide +kernel)
theorem dX11_rain_31 : decode cX11_rain 31 = .ok (.bipush 7, 2) := dR1s (f := Instr.bipush) (k := 0) (i := 31) bn_cX11_rain_0 dop_16 7 7 (by decide +kernel)
theorem dX11_rain_33 : decode cX11_rain 33 = .ok (.iload_n 1, 1) := dR0 (k := 0) (i := 33) bn_cX11_rain_0 dop_27 (by decide +kernel)
theorem dX11_rain_34 : decode cX11_rain 34 = .ok (.iadd, 1) := dR0 (k := 0) (i := 34) bn_cX11_rain_0 dop_96 (by decide +kernel)
theorem dX11_rain_35 : decode cX11_rain 35 = .ok (.iaload, 1) := dR0 (k := 0) (i := 35) bn_cX11_rain_0 dop_46 (by decide +kernel)
theorem dX11_rain_36 : decode cX11_rain 36 = .ok (.istore_n 3, 1) := dR0 (k := 0) (i := 36) bn_cX11_rain_0 dop_62 (by decide +kernel)
theorem dX11_rain_37 : decode cX11_rain 37 = .ok (.aload_n 0, 1) := dR0 (k := 0) (i := 37) bn_cX11_rain_0 dop_42 (by decide +kernel)
theorem dX11_rain_38 : decode cX11_rain 38 = .ok (.getfield 9, 3) := dR2 (f := Instr.getfield) (k := 0) (i := 38) bn_cX11_rain_0 dop_180 9 (by decide +kernel)
theorem dX11_rain_41 : decode cX11_rain 41 = .ok (.bipush 7, 2) := dR1s (f := Instr.bipush) (k := 0) (i := 41) bn_cX11_rain_0 dop_16 7 7 (by decide +kernel)
theorem dX11_rain_43 : decode cX11_rain 43 = .ok (.iload_n 1, 1) := dR0 (k := 0) (i := 43) bn_cX11_rain_0 dop_27 (by decide +kernel)
theorem dX11_rain_44 : decode cX11_rain 44 = .ok (.iadd, 1) := dR0 (k := 0) (i := 44) bn_cX11_rain_0 dop_96 (by decide +kernel)
theorem dX11_rain_45 : decode cX11_rain 45 = .ok (.iload_n 2, 1) := dR0 (k := 0) (i := 45) bn_cX11_rain_0 dop_28 (by decide +kernel)
theorem dX11_rain_46 : decode cX11_rain 46 = .ok (.iastore, 1) := dR0 (k := 0) (i := 46) bn_cX11_rain_0 dop_79 (by decide +kernel)
theorem dX11_rain_47 : decode cX11_rain 47 = .ok (.iload_n 3, 1) := dR0 (k := 0) (i := 47) bn_cX11_rain_0 dop_29 (by decide +kernel)
theorem dX11_rain_48 : decode cX11_rain 48 = .ok (.ireturn, 1) := dR0 (k := 0) (i := 48) bn_cX11_rain_0 dop_172 (by decide +kernel)
set_option maxHeartbeats 4000000 in
set_option maxRecDepth 100000 in
theorem c_X11_rainG (l : Launch) (D : va_G) (cI : ClassId) (aK aV : Nat → Nat) (k k0 k1 k2 k4 k5 k6 k7 k8 ka kb kl ko : Nat) (sz : Nat) (c3 : Int32) (c9 : Int32) (cc : Int32) (cd : Int32) (ce : Int32) (cf : Int32) (cg : Int32) (ch : Int32) (ci : Int32) (cj : Int32) (ck : Int32) (cm : Int32) (cn : Int32) (c0 : Nat → Int32) (c4 : Nat → Int32) (a0 : Int32) (a1 : Int32) (pre0 : SIX c0 (-1)) : Met l yX11_rain (gW yX11_rain cX11_rain 4 (some .int)) ({ frames := 1, cells := 0, slots := 0, locals := 22 } : Room) (kPreX D cI aK aV [.ref k, .int a0, .int a1] [(k, .inr (11, [.ref k0, .ref k1, .ref k2, .int c3, .ref k4, .ref k5, .ref k6, .ref k7, .ref k8, .int c9, .ref ka, .ref kb, .int cc, .int cd, .int ce, .int cf, .int cg, .int ch, .int ci, .int cj, .int ck, .ref kl, .int cm, .int cn, .ref ko])), (k0, .inl (cI, 1201, .inl c0)), (k4, .inl (cI, 6, .inl c4))] sz) (va_Qi (fun (r : Int32) (u : (Nat → Int32) × (Nat → Int32)) => SIX u.1 (-1) ∧ r = rainR 7 c0 a0 a1 ∧ u.1 = rainS 7 c0 a0 a1) (fun u t => kWd D cI (va_A [(k, .inr (11, [.ref k0, .ref k1, .ref k2, .int c3, .ref k4, .ref k5, .ref k6, .ref k7, .ref k8, .int c9, .ref ka, .ref kb, .int cc, .int cd, .int ce, .int cf, .int cg, .int ch, .int ci, .int cj, .int ck, .ref kl, .int cm, .int cn, .ref ko])), (k0, .inl (cI, 1201, .inl c0)), (k4, .inl (cI, 6, .inl c4))] sz) [(k, .inr (11, [.ref k0, .ref k1, .ref k2, .int c3, .ref k4, .ref k5, .ref k6, .ref k7, .ref k8, .int c9, .ref ka, .ref kb, .int cc, .int cd, .int ce, .int cf, .int cg, .int ch, .int ci, .int cj, .int ck, .ref kl, .int cm, .int cn, .ref ko])), (k0, .inl (cI, 1201, .inl u.1)), (k4, .inl (cI, 6, .inl u.2))] t) (va_A [(k, .inr (11, [.ref k0, .ref k1, .ref k2, .int c3, .ref k4, .ref k5, .ref k6, .ref k7, .ref k8, .int c9, .ref ka, .ref kb, .int cc, .int cd, .int ce, .int cf, .int cg, .int ch, .int ci, .int cj, .int ck, .ref kl, .int cm, .int cn, .ref ko])), (k0, .inl (cI, 1201, .inl c0)), (k4, .inl (cI, 6, .inl c4))] sz)) 0 0 (va_A [(k, .inr (11, [.ref k0, .ref k1, .ref k2, .int c3, .ref k4, .ref k5, .ref k6, .ref k7, .ref k8, .int c9, .ref ka, .ref kb, .int cc, .int cd, .int ce, .int cf, .int cg, .int ch, .int ci, .int cj, .int ck, .ref kl, .int cm, .int cn, .ref ko])), (k0, .inl (cI, 1201, .inl c0)), (k4, .inl (cI, 6, .inl c4))] sz) := by
  refine kMetIX (own := RX11) (by decide +kernel) rfl (Nat.le_of_ble_eq_true rfl) ?_
  intro p e s m args below meth c hx hb hT hown hname hml A Q hK hP hD hS hA hN hXS hRet ls hl
  have hl : lv_has ls 4 [(0, .ref k), (1, .int a0), (2, .int a1)] := hl
  have lo_a0 := k_lo a0
  have hi_a0 := k_hi a0
  have lo_a1 := k_lo a1
  have hi_a1 := k_hi a1
  have lo_ci := k_lo ci
  have hi_ci := k_hi ci
  have pre0 : SIX c0 (-1) := pre0
  have nb_1 : 0 ≤ (c0 0).toInt ∧ (c0 0).toInt ≤ 2000 := SB.n0 (And.left pre0)
  have nb_2 : 0 ≤ (c0 1).toInt ∧ (c0 1).toInt ≤ 60 := SB.n1 (And.left pre0)
  have nb_3 : 0 ≤ (c0 2).toInt ∧ (c0 2).toInt ≤ 4 := SB.n2 (And.left pre0)
  refine lv_iload_n hx hb dX11_rain_0 rfl (lv_at hl 1 rfl) ?_
  refine lv_iconst (v := 0) hx hb dX11_rain_1 (by decide +kernel) ?_
  refine lv_bipush (v := 11) hx hb dX11_rain_2 (by decide +kernel) ?_
  refine kJi (wr := [(k, .inr (11, [.ref k0, .ref k1, .ref k2, .int c3, .ref k4, .ref k5, .ref k6, .ref k7, .ref k8, .int c9, .ref ka, .ref kb, .int cc, .int cd, .int ce, .int cf, .int cg, .int ch, .int ci, .int cj, .int ck, .ref kl, .int cm, .int cn, .ref ko])), (k0, .inl (cI, 1201, .inl c0)), (k4, .inl (cI, 6, .inl c4))]) (va_runS (As := [.int a0, .int 0, .int 11]) (rest := []) ⟨hx, hb, hml, hown, hT⟩ (c_X11_inG l D cI aK aV s.heap.size a0 0 11) (cwS 3 hT (gS_in mw_1238 mw_1236 mw_1237 mw_12) rfl rfl rfl (by decide +kernel) ⟨Nat.le_of_ble_eq_true rfl, Nat.le_of_ble_eq_true rfl⟩) (kStatX hK hP hD hN hXS hS hA [] rfl (by decide +kernel)) rfl rfl hl.1 rfl (lv_room (Nat.le_of_ble_eq_true rfl)) dX11_rain_4 ⟨Nat.le_of_ble_eq_true rfl, Nat.le_of_ble_eq_true rfl⟩) hP hD hS hA [] [0, 1, 2] rfl rfl (by decide +kernel) (by decide +kernel) ?_
  clear hP hD hS
  intro r_4 u_6 H locs w_5 hP hD hS
  replace hP : va_P D vwCl [(k, .inr (11, [.ref k0, .ref k1, .ref k2, .int c3, .ref k4, .ref k5, .ref k6, .ref k7, .ref k8, .int c9, .ref ka, .ref kb, .int cc, .int cd, .int ce, .int cf, .int cg, .int ch, .int ci, .int cj, .int ck, .ref kl, .int cm, .int cn, .ref ko])), (k0, .inl (cI, 1201, .inl c0)), (k4, .inl (cI, 6, .inl c4))] H := hP
  replace hD : va_D A [(k, .inr (11, [.ref k0, .ref k1, .ref k2, .int c3, .ref k4, .ref k5, .ref k6, .ref k7, .ref k8, .int c9, .ref ka, .ref kb, .int cc, .int cd, .int ce, .int cf, .int cg, .int ch, .int ci, .int cj, .int ck, .ref kl, .int cm, .int cn, .ref ko])), (k0, .inl (cI, 1201, .inl c0)), (k4, .inl (cI, 6, .inl c4))] := hD
  rcases w_5 with ⟨hr_4, h_7, h_8⟩ | ⟨hr_4, h_9⟩
  · try simp only [zl_0, zl_11] at h_7
    have h_7 : 0 ≤ a0.toInt := h_7
    try simp only [zl_0, zl_11] at h_8
    have h_8 : a0.toInt ≤ 11 := h_8
    obtain rfl : r_4 = 1 := hr_4.trans (by decide +kernel)
    refine b_if_eq hx hb zl_1 (tgt := 20) dX11_rain_7 (by decide +kernel) (fun c_10 => by exfalso; omega) (fun c_10 => ?_)
    refine lv_iload_n hx hb dX11_rain_10 rfl (lv_at hl 2 rfl) ?_
    refine lv_iconst (v := 0) hx hb dX11_rain_11 (by decide +kernel) ?_
    refine lv_bipush (v := 9) hx hb dX11_rain_12 (by decide +kernel) ?_
    refine kJi (wr := [(k, .inr (11, [.ref k0, .ref k1, .ref k2, .int c3, .ref k4, .ref k5, .ref k6, .ref k7, .ref k8, .int c9, .ref ka, .ref kb, .int cc, .int cd, .int ce, .int cf, .int cg, .int ch, .int ci, .int cj, .int ck, .ref kl, .int cm, .int cn, .ref ko])), (k0, .inl (cI, 1201, .inl c0)), (k4, .inl (cI, 6, .inl c4))]) (va_runS (As := [.int a1, .int 0, .int 9]) (rest := []) ⟨hx, hb, hml, hown, hT⟩ (c_X11_inG l D cI aK aV H.size a1 0 9) (cwS 3 hT (gS_in mw_1238 mw_1236 mw_1237 mw_12) rfl rfl rfl (by decide +kernel) ⟨Nat.le_of_ble_eq_true rfl, Nat.le_of_ble_eq_true rfl⟩) (kStatX hK hP hD hN hXS hS hA [] rfl (by decide +kernel)) rfl rfl hl.1 rfl (lv_room (Nat.le_of_ble_eq_true rfl)) dX11_rain_14 ⟨Nat.le_of_ble_eq_true rfl, Nat.le_of_ble_eq_true rfl⟩) hP hD hS hA [] [0, 1, 2] rfl rfl (by decide +kernel) (by decide +kernel) ?_
    clear hP hD hS
    intro r_11 u_13 H locs w_12 hP hD hS
    replace hP : va_P D vwCl [(k, .inr (11, [.ref k0, .ref k1, .ref k2, .int c3, .ref k4, .ref k5, .ref k6, .ref k7, .ref k8, .int c9, .ref ka, .ref kb, .int cc, .int cd, .int ce, .int cf, .int cg, .int ch, .int ci, .int cj, .int ck, .ref kl, .int cm, .int cn, .ref ko])), (k0, .inl (cI, 1201, .inl c0)), (k4, .inl (cI, 6, .inl c4))] H := hP
    replace hD : va_D A [(k, .inr (11, [.ref k0, .ref k1, .ref k2, .int c3, .ref k4, .ref k5, .ref k6, .ref k7, .ref k8, .int c9, .ref ka, .ref kb, .int cc, .int cd, .int ce, .int cf, .int cg, .int ch, .int ci, .int cj, .int ck, .ref kl, .int cm, .int cn, .ref ko])), (k0, .inl (cI, 1201, .inl c0)), (k4, .inl (cI, 6, .inl c4))] := hD
    rcases w_12 with ⟨hr_11, h_14, h_15⟩ | ⟨hr_11, h_16⟩
    · try simp only [zl_0, zl_9] at h_14
      have h_14 : 0 ≤ a1.toInt := h_14
      try simp only [zl_0, zl_9] at h_15
      have h_15 : a1.toInt ≤ 9 := h_15
      obtain rfl : r_11 = 1 := hr_11.trans (by decide +kernel)
      refine b_if_ne hx hb zl_1 (tgt := 27) dX11_rain_17 (by decide +kernel) (fun c_17 => ?_) (fun c_17 => by exfalso; omega)
      refine lv_aload_n hx hb dX11_rain_27 rfl (lv_at hl 0 rfl) ?_
      refine va_get (D := D) (ci := 11) (v := .ref k0) (C := RX11) (T := TX11) (N := 25) hx hb hT giX11 hown hK hP 0 rfl rfl 0 (by decide +kernel) (hT (Cond.fieldLink RX11 9 "DesertWireModel" "s" "[I") mw_1156) (fun _ h9 => h9) rfl dX11_rain_28 ?_
      refine lv_bipush (v := 7) hx hb dX11_rain_31 (by decide +kernel) ?_
      refine lv_iload_n hx hb dX11_rain_33 rfl (lv_at hl 1 rfl) ?_
      refine lv_iadd hx hb dX11_rain_34 ?_
      refine lv_topi (fun v_18 ev_18 => ?_)
      have tv_18 : v_18.toInt = 7 + a0.toInt := by rw [ev_18]; exact k_addv zl_7 rfl (by omega) (by omega)
      refine k_iald (v := (c0 v_18.toNatClampNeg)) hx hb hK hP 1 0 rfl rfl (k_in (by omega) (by omega)) rfl dX11_rain_35 ?_
      refine lv_topi (fun v_19 ev_19 => ?_)
      have lo_v_19 := k_lo v_19
      have hi_v_19 := k_hi v_19
      have tv_19 : v_19.toInt = (c0 v_18.toNatClampNeg).toInt := by rw [ev_19]
      refine lv_istore_n (lv' := [(3, .int v_19), (0, .ref k), (1, .int a0), (2, .int a1)]) hx hb dX11_rain_36 rfl hl (by decide +kernel) rfl ?_
      clear hl
      intro ls hl
      refine lv_aload_n hx hb dX11_rain_37 rfl (lv_at hl 1 rfl) ?_
      refine va_get (D := D) (ci := 11) (v := .ref k0) (C := RX11) (T := TX11) (N := 25) hx hb hT giX11 hown hK hP 0 rfl rfl 0 (by decide +kernel) (hT (Cond.fieldLink RX11 9 "DesertWireModel" "s" "[I") mw_1156) (fun _ h9 => h9) rfl dX11_rain_38 ?_
      refine lv_bipush (v := 7) hx hb dX11_rain_41 (by decide +kernel) ?_
      refine lv_iload_n hx hb dX11_rain_43 rfl (lv_at hl 2 rfl) ?_
      refine lv_iadd hx hb dX11_rain_44 ?_
      refine lv_topi (fun v_20 ev_20 => ?_)
      have tv_20 : v_20.toInt = 7 + a0.toInt := by rw [ev_20]; exact k_addv zl_7 rfl (by omega) (by omega)
      refine lv_iload_n hx hb dX11_rain_45 rfl (lv_at hl 3 rfl) ?_
      refine va_iast hx hb hK hP hD hS 1 0 rfl rfl (k_in (by omega) (by omega)) dX11_rain_46 ?_
      clear hP hD hS
      intro H locs hP hD hS
      replace hP : va_P D vwCl [(k, .inr (11, [.ref k0, .ref k1, .ref k2, .int c3, .ref k4, .ref k5, .ref k6, .ref k7, .ref k8, .int c9, .ref ka, .ref kb, .int cc, .int cd, .int ce, .int cf, .int cg, .int ch, .int ci, .int cj, .int ck, .ref kl, .int cm, .int cn, .ref ko])), (k0, .inl (cI, 1201, .inl (upd c0 v_20.toNatClampNeg a1))), (k4, .inl (cI, 6, .inl c4))] H := hP
      replace hD : va_D A [(k, .inr (11, [.ref k0, .ref k1, .ref k2, .int c3, .ref k4, .ref k5, .ref k6, .ref k7, .ref k8, .int c9, .ref ka, .ref kb, .int cc, .int cd, .int ce, .int cf, .int cg, .int ch, .int ci, .int cj, .int ck, .ref kl, .int cm, .int cn, .ref ko])), (k0, .inl (cI, 1201, .inl (upd c0 v_20.toNatClampNeg a1))), (k4, .inl (cI, 6, .inl c4))] := hD
      obtain ⟨f_21, ef_21⟩ : ∃ g : Nat → Int32, g = upd c0 v_20.toNatClampNeg a1 := ⟨_, rfl⟩
      rw [← ef_21] at hP hD
      have hS_22 : SIX f_21 (-1) := by first | exact SIX.free pre0 ef_21 (by rw [k_clamp]; omega) | exact SIX.so pre0 ef_21 (by rw [k_clamp]; omega) (by omega)
      have n_23 : (f_21 0).toInt = (c0 0).toInt := by rw [updN ef_21 (by rw [k_clamp]; omega)]
      have n_24 : (f_21 1).toInt = (c0 1).toInt := by rw [updN ef_21 (by rw [k_clamp]; omega)]
      have n_25 : (f_21 2).toInt = (c0 2).toInt := by rw [updN ef_21 (by rw [k_clamp]; omega)]
      refine lv_iload_n hx hb dX11_rain_47 rfl (lv_at hl 0 rfl) ?_
      exact hRet (f_21, c4) [0, 1, 2] ⟨hS_22, (by (try dsimp only); unfold rainR; (repeat (first | rw [if_pos (by omega)] | rw [if_neg (by omega)])); first | done | exact (rd_in (k := 7 + a0.toInt.toNat) ev_19 (by omega))), (by (try dsimp only); unfold rainS; (repeat (first | rw [if_pos (by omega)] | rw [if_neg (by omega)])); first | done | exact (up_in ef_21 (by omega)))⟩ hP hD (by decide +kernel) rfl hS rfl dX11_rain_48
    · try simp only [zl_0, zl_9] at h_16
      have h_16 : a1.toInt < 0 ∨ 9 < a1.toInt := h_16
      obtain rfl : r_11 = 0 := hr_11.trans (by decide +kernel)
      refine b_if_ne hx hb zl_0 (tgt := 27) dX11_rain_17 (by decide +kernel) (fun c_26 => by exfalso; omega) (fun c_26 => ?_)
      refine lv_aload_n hx hb dX11_rain_20 rfl (lv_at hl 0 rfl) ?_
      refine lv_ldc (v := (-1000001)) hx hb hown (hT _ mw_1239) dX11_rain_21 ?_
      refine kJi (wr := [(k0, .inl (cI, 1201, .inl c0))]) (va_runV (As := [.int (-1000001)]) (rest := []) ⟨hx, hb, hml, hown, hT⟩ (c_X11_findingG l D cI aK aV k k0 k1 k2 k4 k5 k6 k7 k8 ka kb kl ko H.size c3 c9 cc cd ce cf cg ch ci cj ck cm cn c4 (-1000001) (by first | omega | (simp only [zl_m1000001]; first | done | omega) | decide | assumption | rfl) (by first | omega | (simp only [zl_m1000001]; first | done | omega) | decide | assumption | rfl)) (cwV 1 hT (gV_in mw_1243 mw_1240 mw_1242 mw_p3_8 mw_12) rfl rfl rfl (by decide +kernel) ⟨Nat.le_of_ble_eq_true rfl, Nat.le_of_ble_eq_true rfl⟩) (kRecvX (q0 := 0) (ci := 11) hK hP hD hN hXS hS hA rfl rfl [0, 2] rfl (by decide +kernel)) rfl rfl hl.1 rfl (lv_room (Nat.le_of_ble_eq_true rfl)) dX11_rain_23 ⟨Nat.le_of_ble_eq_true rfl, Nat.le_of_ble_eq_true rfl⟩) hP hD hS hA [0, 2] [1] rfl rfl (by decide +kernel) (by decide +kernel) ?_
      clear hP hD hS
      intro r_27 sc4_29 H locs w_28 hP hD hS
      replace hP : va_P D vwCl [(k0, .inl (cI, 1201, .inl c0)), (k, .inr (11, [.ref k0, .ref k1, .ref k2, .int c3, .ref k4, .ref k5, .ref k6, .ref k7, .ref k8, .int c9, .ref ka, .ref kb, .int cc, .int cd, .int ce, .int cf, .int cg, .int ch, .int ci, .int cj, .int ck, .ref kl, .int cm, .int cn, .ref ko])), (k4, .inl (cI, 6, .inl sc4_29))] H := hP
      replace hD : va_D A [(k0, .inl (cI, 1201, .inl c0)), (k, .inr (11, [.ref k0, .ref k1, .ref k2, .int c3, .ref k4, .ref k5, .ref k6, .ref k7, .ref k8, .int c9, .ref ka, .ref kb, .int cc, .int cd, .int ce, .int cf, .int cg, .int ch, .int ci, .int cj, .int ck, .ref kl, .int cm, .int cn, .ref ko])), (k4, .inl (cI, 6, .inl sc4_29))] := hD
      have hr_27 := w_28
      obtain rfl : r_27 = (-1000001) := hr_27.trans (by decide +kernel)
      exact hRet (c0, sc4_29) [1, 0, 2] ⟨pre0, (by (try dsimp only); unfold rainR; (repeat (first | rw [if_pos (by omega)] | rw [if_neg (by omega)]))), (by (try dsimp only); unfold rainS; (repeat (first | rw [if_pos (by omega)] | rw [if_neg (by omega)])))⟩ hP hD (by decide +kernel) rfl hS rfl dX11_rain_26
  · try simp only [zl_0, zl_11] at h_9
    have h_9 : a0.toInt < 0 ∨ 11 < a0.toInt := h_9
    obtain rfl : r_4 = 0 := hr_4.trans (by decide +kernel)
    refine b_if_eq hx hb zl_0 (tgt := 20) dX11_rain_7 (by decide +kernel) (fun c_30 => ?_) (fun c_30 => by exfalso; omega)
    refine lv_aload_n hx hb dX11_rain_20 rfl (lv_at hl 0 rfl) ?_
    refine lv_ldc (v := (-1000001)) hx hb hown (hT _ mw_1239) dX11_rain_21 ?_
    refine kJi (wr := [(k0, .inl (cI, 1201, .inl c0))]) (va_runV (As := [.int (-1000001)]) (rest := []) ⟨hx, hb, hml, hown, hT⟩ (c_X11_findingG l D cI aK aV k k0 k1 k2 k4 k5 k6 k7 k8 ka kb kl ko H.size c3 c9 cc cd ce cf cg ch ci cj ck cm cn c4 (-1000001) (by first | omega | (simp only [zl_m1000001]; first | done | omega) | decide | assumption | rfl) (by first | omega | (simp only [zl_m1000001]; first | done | omega) | decide | assumption | rfl)) (cwV 1 hT (gV_in mw_1243 mw_1240 mw_1242 mw_p3_8 mw_12) rfl rfl rfl (by decide +kernel) ⟨Nat.le_of_ble_eq_true rfl, Nat.le_of_ble_eq_true rfl⟩) (kRecvX (q0 := 0) (ci := 11) hK hP hD hN hXS hS hA rfl rfl [0, 2] rfl (by decide +kernel)) rfl rfl hl.1 rfl (lv_room (Nat.le_of_ble_eq_true rfl)) dX11_rain_23 ⟨Nat.le_of_ble_eq_true rfl, Nat.le_of_ble_eq_true rfl⟩) hP hD hS hA [0, 2] [1] rfl rfl (by decide +kernel) (by decide +kernel) ?_
    clear hP hD hS
    intro r_31 sc4_33 H locs w_32 hP hD hS
    replace hP : va_P D vwCl [(k0, .inl (cI, 1201, .inl c0)), (k, .inr (11, [.ref k0, .ref k1, .ref k2, .int c3, .ref k4, .ref k5, .ref k6, .ref k7, .ref k8, .int c9, .ref ka, .ref kb, .int cc, .int cd, .int ce, .int cf, .int cg, .int ch, .int ci, .int cj, .int ck, .ref kl, .int cm, .int cn, .ref ko])), (k4, .inl (cI, 6, .inl sc4_33))] H := hP
    replace hD : va_D A [(k0, .inl (cI, 1201, .inl c0)), (k, .inr (11, [.ref k0, .ref k1, .ref k2, .int c3, .ref k4, .ref k5, .ref k6, .ref k7, .ref k8, .int c9, .ref ka, .ref kb, .int cc, .int cd, .int ce, .int cf, .int cg, .int ch, .int ci, .int cj, .int ck, .ref kl, .int cm, .int cn, .ref ko])), (k4, .inl (cI, 6, .inl sc4_33))] := hD
    have hr_31 := w_32
    obtain rfl : r_31 = (-1000001) := hr_31.trans (by decide +kernel)
    exact hRet (c0, sc4_33) [1, 0, 2] ⟨pre0, (by (try dsimp only); unfold rainR; (repeat (first | rw [if_pos (by omega)] | rw [if_neg (by omega)]))), (by (try dsimp only); unfold rainS; (repeat (first | rw [if_pos (by omega)] | rw [if_neg (by omega)])))⟩ hP hD (by decide +kernel) rfl hS rfl dX11_rain_26
theorem bn_cX11_land_0 : BN cX11_land 0 0x568142c500f184383c0882802b5159403a610e050220a00ad456051b9845e610e0f0220a00ad456691798438140882802b51599422ad208056e40098ac16014d8c002b932044081e07005343000ae40c040e85c029a22005721c := by
  unfold BN; decide +kernel
theorem dX11_land_0 : decode cX11_land 0 = .ok (.iload_n 1, 1) := dR0 (k := 0) (i := 0) bn_cX11_land_0 dop_27 (by decide +kernel)
theorem dX11_land_1 : decode cX11_land 1 = .ok (.invokestatic 67, 3) := dR2 (f := Instr.invokestatic) (k := 0) (i := 1) bn_cX11_land_0 dop_184 67 (by decide +kernel)
theorem dX11_land_4 : decode cX11_land 4 = .ok (.ifCond .eq 22, 3) := dR2s (f := Instr.ifCond .eq) (k := 0) (i := 4) bn_cX11_land_0 dop_153 22 22 (by decide +kernel)
theorem dX11_land_7 : decode cX11_land 7 = .ok (.iload_n 2, 1) := dR0 (k := 0) (i := 7) bn_cX11_land_0 dop_28 (by decide +kernel)
theorem dX11_land_8 : decode cX11_land 8 = .ok (.iconst 0, 1) := dR0 (k := 0) (i := 8) bn_cX11_land_0 dop_3 (by decide +kernel)
theorem dX11_land_9 : decode cX11_land 9 = .ok (.iconst 2, 1) := dR0 (k := 0) (i := 9) bn_cX11_land_0 dop_5 (by decide +kernel)
theorem dX11_land_10 : decode cX11_land 10 = .ok (.invokestatic 47, 3) := dR2 (f := Instr.invokestatic) (k := 0) (i := 10) bn_cX11_land_0 dop_184 47 (by decide +kernel)
theorem dX11_land_13 : decode cX11_land 13 = .ok (.ifCond .eq 13, 3) := dR2s (f := Instr.ifCond .eq) (k := 0) (i := 13) bn_cX11_land_0 dop_153 13 13 (by decide +kernel)
theorem dX11_land_16 : decode cX11_land 16 = .ok (.iload_n 3, 1) := dR0 (k := 0) (i := 16) bn_cX11_land_0 dop_29 (by decide +kernel)
theorem dX11_land_17 : decode cX11_land 17 = .ok (.iconst 0, 1) := dR0 (k := 0) (i := 17) bn_cX11_land_0 dop_3 (by decide +kernel)
theorem dX11_land_18 : decode cX11_land 18 = .ok (.bipush 99, 2) := dR1s (f := Instr.bipush) (k := 0) (i := 18) bn_cX11_land_0 dop_16 99 99 (by decide +kernel)
theorem dX11_land_20 : decode cX11_land 20 = .ok (.invokestatic 47, 3) := dR2 (f := Instr.invokestatic) (k := 0) (i := 20) bn_cX11_land_0 dop_184 47 (by decide +kernel)
theorem dX11_land_23 : decode cX11_land 23 = .ok (.ifCond .ne 10, 3) := dR2s (f := Instr.ifCond .ne) (k := 0) (i := 23) bn_cX11_land_0 dop_154 10 10 (by decide +kernel)
theorem dX11_land_26 : decode cX11_land 26 = .ok (.aload_n 0, 1) := dR0 (k := 0) (i := 26) bn_cX11_land_0 dop_42 (by decide +kernel)
theorem dX11_land_27 : decode cX11_land 27 = .ok (.ldc 63, 2) := dR1 (f := Instr.ldc) (k := 0) (i := 27) bn_cX11_land_0 dop_18 63 (by decide +kernel)
theorem dX11_land_29 : decode cX11_land 29 = .ok (.invokevirtual 64, 3) := dR2 (f := Instr.invokevirtual) (k := 0) (i := 29) bn_cX11_land_0 dop_182 64 (by decide +kernel)
theorem dX11_land_32 : decode cX11_land 32 = .ok (.ireturn, 1) := dR0 (k := 0) (i := 32) bn_cX11_land_0 dop_172 (by decide +kernel)
theorem dX11_land_33 : decode cX11_land 33 = .ok (.bipush 100, 2) := dR1s (f := Instr.bipush) (k := 0) (i := 33) bn_cX11_land_0 dop_16 100 100 (by decide +kernel)
theorem dX11_land_35 : decode cX11_land 35 = .ok (.aload_n 0, 1) := dR0 (k := 0) (i := 35) bn_cX11_land_0 dop_42 (by decide +kernel)
theorem dX11_land_36 : decode cX11_land 36 = .ok (.getfield 9, 3) := dR2 (f := Instr.getfield) (k := 0) (i := 36) bn_cX11_land_0 dop_180 9 (by decide +kernel)
theorem dX11_land_39 : decode cX11_land 39 = .ok (.bipush 19, 2) := dR1s (f := Instr.bipush) (k := 0) (i := 39) bn_cX11_land_0 dop_16 19 19 (by decide +kernel)
theorem dX11_land_41 : decode cX11_land 41 = .ok (.iload_n 1, 1) := dR0 (k := 0) (i := 41) bn_cX11_land_0 dop_27 (by decide +kernel)
theorem dX11_land_42 : decode cX11_land 42 = .ok (.iadd, 1) := dR0 (k := 0) (i := 42) bn_cX11_land_0 dop_96 (by decide +kernel)
theorem dX11_land_43 : decode cX11_land 43 = .ok (.iaload, 1) := dR0 (k := 0) (i := 43) bn_cX11_land_0 dop_46 (by decide +kernel)
theorem dX11_land_44 : decode cX11_land 44 = .ok (.imul, 1) := dR0 (k := 0) (i := 44) bn_cX11_land_0 dop_104 (by decide +kernel)
theorem dX11_land_45 : decode cX11_land 45 = .ok (.aload_n 0, 1) := dR0 (k := 0) (i := 45) bn_cX11_land_0 dop_42 (by decide +kernel)
theorem dX11_land_46 : decode cX11_land 46 = .ok (.getfield 9, 3) := dR2 (f := Instr.getfield) (k := 0) (i := 46) bn_cX11_land_0 dop_180 9 (by decide +kernel)
theorem dX11_land_49 : decode cX11_land 49 = .ok (.bipush 59, 2) := dR1s (f := Instr.bipush) (k := 0) (i := 49) bn_cX11_land_0 dop_16 59 59 (by decide +kernel)
theorem dX11_land_51 : decode cX11_land 51 = .ok (.iload_n 1, 1) := dR0 (k := 0) (i := 51) bn_cX11_land_0 dop_27 (by decide +kernel)
theorem dX11_land_52 : decode cX11_land 52 = .ok (.iadd, 1) := dR0 (k := 0) (i := 52) bn_cX11_land_0 dop_96 (by decide +kernel)
theorem dX11_land_53 : decode cX11_land 53 = .ok (.iaload, 1) := dR0 (k := 0) (i := 53) bn_cX11_land_0 dop_46 (by decide +kernel)
theorem dX11_land_54 : decode cX11_land 54 = .ok (.iadd, 1) := dR0 (k := 0) (i := 54) bn_cX11_land_0 dop_96 (by decide +kernel)
theorem dX11_land_55 : decode cX11_land 55 = .ok (.istore 4, 2) := dR1 (f := Instr.istore) (k := 0) (i := 55) bn_cX11_land_0 dop_54 4 (by decide +kernel)
theorem dX11_land_57 : decode cX11_land 57 = .ok (.aload_n 0, 1) := dR0 (k := 0) (i := 57) bn_cX11_land_0 dop_42 (by decide +kernel)
theorem dX11_land_58 : decode cX11_land 58 = .ok (.getfield 9, 3) := dR2 (f := Instr.getfield) (k := 0) (i := 58) bn_cX11_land_0 dop_180 9 (by decide +kernel)
theorem dX11_land_61 : decode cX11_land 61 = .ok (.bipush 19, 2) := dR1s (f := Instr.bipush) (k := 0) (i := 61) bn_cX11_land_0 dop_16 19 19 (by decide +kernel)
theorem dX11_land_63 : decode cX11_land 63 = .ok (.iload_n 1, 1) := dR0 (k := 0) (i := 63) bn_cX11_land_0 dop_27 (by decide +kernel)
theorem dX11_land_64 : decode cX11_land 64 = .ok (.iadd, 1) := dR0 (k := 0) (i := 64) bn_cX11_land_0 dop_96 (by decide +kernel)
theorem dX11_land_65 : decode cX11_land 65 = .ok (.iload_n 2, 1) := dR0 (k := 0) (i := 65) bn_cX11_land_0 dop_28 (by decide +kernel)
theorem dX11_land_66 : decode cX11_land 66 = .ok (.iastore, 1) := dR0 (k := 0) (i := 66) bn_cX11_land_0 dop_79 (by decide +kernel)
theorem dX11_land_67 : decode cX11_land 67 = .ok (.aload_n 0, 1) := dR0 (k := 0) (i := 67) bn_cX11_land_0 dop_42 (by decide +kernel)
theorem dX11_land_68 : decode cX11_land 68 = .ok (.getfield 9, 3) := dR2 (f := Instr.getfield) (k := 0) (i := 68) bn_cX11_land_0 dop_180 9 (by decide +kernel)
theorem dX11_land_71 : decode cX11_land 71 = .ok (.bipush 59, 2) := dR1s (f := Instr.bipush) (k := 0) (i := 71) bn_cX11_land_0 dop_16 59 59 (by decide +kernel)
theorem dX11_land_73 : decode cX11_land 73 = .ok (.iload_n 1, 1) := dR0 (k := 0) (i := 73) bn_cX11_land_0 dop_27 (by decide +kernel)
theorem dX11_land_74 : decode cX11_land 74 = .ok (.iadd, 1) := dR0 (k := 0) (i := 74) bn_cX11_land_0 dop_96 (by decide +kernel)
theorem dX11_land_75 : decode cX11_land 75 = .ok (.iload_n 3, 1) := dR0 (k := 0) (i := 75) bn_cX11_land_0 dop_29 (by decide +kernel)
theorem dX11_land_76 : decode cX11_land 76 = .ok (.iastore, 1) := dR0 (k := 0) (i := 76) bn_cX11_land_0 dop_79 (by decide +kernel)
theorem dX11_land_77 : decode cX11_land 77 = .ok (.iload 4, 2) := dR1 (f := Instr.iload) (k := 0) (i := 77) bn_cX11_land_0 dop_21 4 (by decide +kernel)
theorem dX11_land_79 : decode cX11_land 79 = .ok (.ireturn, 1) := dR0 (k := 0) (i := 79) bn_cX11_land_0 dop_172 (by decide +kernel)
set_option maxHeartbeats 4000000 in
set_option maxRecDepth 100000 in
theorem c_X11_landG (l : Launch) (D : va_G) (cI : ClassId) (aK aV : Nat → Nat) (k k0 k1 k2 k4 k5 k6 k7 k8 ka kb kl ko : Nat) (sz : Nat) (c3 : Int32) (c9 : Int32) (cc : Int32) (cd : Int32) (ce : Int32) (cf : Int32) (cg : Int32) (ch : Int32) (ci : Int32) (cj : Int32) (ck : Int32) (cm : Int32) (cn : Int32) (c0 : Nat → Int32) (c4 : Nat → Int32) (a0 : Int32) (a1 : Int32) (a2 : Int32) (pre0 : SIX c0 (-1)) : Met l yX11_land (gW yX11_land cX11_land 5 (some .int)) ({ frames := 2, cells := 0, slots := 0, locals := 42 } : Room) (kPreX D cI aK aV [.ref k, .int a0, .int a1, .int a2] [(k, .inr (11, [.ref k0, .ref k1, .ref k2, .int c3, .ref k4, .ref k5, .ref k6, .ref k7, .ref k8, .int c9, .ref ka, .ref kb, .int cc, .int cd, .int ce, .int cf, .int cg, .int ch, .int ci, .int cj, .int ck, .ref kl, .int cm, .int cn, .ref ko])), (k0, .inl (cI, 1201, .inl c0)), (k4, .inl (cI, 6, .inl c4))] sz) (va_Qi (fun (r : Int32) (u : (Nat → Int32) × (Nat → Int32)) => SIX u.1 (-1) ∧ r = landR 19 c0 59 c0 a0 a1 a2 ∧ u.1 = landS 59 (landS 19 c0 a0 a1 a2 a1) a0 a1 a2 a2) (fun u t => kWd D cI (va_A [(k, .inr (11, [.ref k0, .ref k1, .ref k2, .int c3, .ref k4, .ref k5, .ref k6, .ref k7, .ref k8, .int c9, .ref ka, .ref kb, .int cc, .int cd, .int ce, .int cf, .int cg, .int ch, .int ci, .int cj, .int ck, .ref kl, .int cm, .int cn, .ref ko])), (k0, .inl (cI, 1201, .inl c0)), (k4, .inl (cI, 6, .inl c4))] sz) [(k, .inr (11, [.ref k0, .ref k1, .ref k2, .int c3, .ref k4, .ref k5, .ref k6, .ref k7, .ref k8, .int c9, .ref ka, .ref kb, .int cc, .int cd, .int ce, .int cf, .int cg, .int ch, .int ci, .int cj, .int ck, .ref kl, .int cm, .int cn, .ref ko])), (k0, .inl (cI, 1201, .inl u.1)), (k4, .inl (cI, 6, .inl u.2))] t) (va_A [(k, .inr (11, [.ref k0, .ref k1, .ref k2, .int c3, .ref k4, .ref k5, .ref k6, .ref k7, .ref k8, .int c9, .ref ka, .ref kb, .int cc, .int cd, .int ce, .int cf, .int cg, .int ch, .int ci, .int cj, .int ck, .ref kl, .int cm, .int cn, .ref ko])), (k0, .inl (cI, 1201, .inl c0)), (k4, .inl (cI, 6, .inl c4))] sz)) 0 0 (va_A [(k, .inr (11, [.ref k0, .ref k1, .ref k2, .int c3, .ref k4, .ref k5, .ref k6, .ref k7, .ref k8, .int c9, .ref ka, .ref kb, .int cc, .int cd, .int ce, .int cf, .int cg, .int ch, .int ci, .int cj, .int ck, .ref kl, .int cm, .int cn, .ref ko])), (k0, .inl (cI, 1201, .inl c0)), (k4, .inl (cI, 6, .inl c4))] sz) := by
  refine kMetIX (own := RX11) (by decide +kernel) rfl (Nat.le_of_ble_eq_true rfl) ?_
  intro p e s m args below meth c hx hb hT hown hname hml A Q hK hP hD hS hA hN hXS hRet ls hl
  have hl : lv_has ls 5 [(0, .ref k), (1, .int a0), (2, .int a1), (3, .int a2)] := hl
  have lo_a0 := k_lo a0
  have hi_a0 := k_hi a0
  have lo_a1 := k_lo a1
  have hi_a1 := k_hi a1
  have lo_a2 := k_lo a2
  have hi_a2 := k_hi a2
  have lo_ci := k_lo ci
  have hi_ci := k_hi ci
  have pre0 : SIX c0 (-1) := pre0
  have nb_1 : 0 ≤ (c0 0).toInt ∧ (c0 0).toInt ≤ 2000 := SB.n0 (And.left pre0)
  have nb_2 : 0 ≤ (c0 1).toInt ∧ (c0 1).toInt ≤ 60 := SB.n1 (And.left pre0)
  have nb_3 : 0 ≤ (c0 2).toInt ∧ (c0 2).toInt ≤ 4 := SB.n2 (And.left pre0)
  refine lv_iload_n hx hb dX11_land_0 rfl (lv_at hl 1 rfl) ?_
  refine kJi (wr := [(k, .inr (11, [.ref k0, .ref k1, .ref k2, .int c3, .ref k4, .ref k5, .ref k6, .ref k7, .ref k8, .int c9, .ref ka, .ref kb, .int cc, .int cd, .int ce, .int cf, .int cg, .int ch, .int ci, .int cj, .int ck, .ref kl, .int cm, .int cn, .ref ko])), (k0, .inl (cI, 1201, .inl c0)), (k4, .inl (cI, 6, .inl c4))]) (va_runS (As := [.int a0]) (rest := []) ⟨hx, hb, hml, hown, hT⟩ (c_X11_isMileG l D cI aK aV s.heap.size a0) (cwS 1 hT (gS_in mw_1251 mw_1249 mw_1250 mw_12) rfl rfl rfl (by decide +kernel) ⟨Nat.le_of_ble_eq_true rfl, Nat.le_of_ble_eq_true rfl⟩) (kStatX hK hP hD hN hXS hS hA [] rfl (by decide +kernel)) rfl rfl hl.1 rfl (lv_room (Nat.le_of_ble_eq_true rfl)) dX11_land_1 ⟨Nat.le_of_ble_eq_true rfl, Nat.le_of_ble_eq_true rfl⟩) hP hD hS hA [] [0, 1, 2] rfl rfl (by decide +kernel) (by decide +kernel) ?_
  clear hP hD hS
  intro r_4 u_6 H locs w_5 hP hD hS
  replace hP : va_P D vwCl [(k, .inr (11, [.ref k0, .ref k1, .ref k2, .int c3, .ref k4, .ref k5, .ref k6, .ref k7, .ref k8, .int c9, .ref ka, .ref kb, .int cc, .int cd, .int ce, .int cf, .int cg, .int ch, .int ci, .int cj, .int ck, .ref kl, .int cm, .int cn, .ref ko])), (k0, .inl (cI, 1201, .inl c0)), (k4, .inl (cI, 6, .inl c4))] H := hP
  replace hD : va_D A [(k, .inr (11, [.ref k0, .ref k1, .ref k2, .int c3, .ref k4, .ref k5, .ref k6, .ref k7, .ref k8, .int c9, .ref ka, .ref kb, .int cc, .int cd, .int ce, .int cf, .int cg, .int ch, .int ci, .int cj, .int ck, .ref kl, .int cm, .int cn, .ref ko])), (k0, .inl (cI, 1201, .inl c0)), (k4, .inl (cI, 6, .inl c4))] := hD
  rcases w_5 with ⟨hr_4, h_7, h_8⟩ | ⟨hr_4, h_9⟩
  · have h_7 : 0 ≤ a0.toInt := h_7
    have h_8 : a0.toInt ≤ 39 := h_8
    obtain rfl : r_4 = 1 := hr_4.trans (by decide +kernel)
    refine b_if_eq hx hb zl_1 (tgt := 26) dX11_land_4 (by decide +kernel) (fun c_10 => by exfalso; omega) (fun c_10 => ?_)
    refine lv_iload_n hx hb dX11_land_7 rfl (lv_at hl 2 rfl) ?_
    refine lv_iconst (v := 0) hx hb dX11_land_8 (by decide +kernel) ?_
    refine lv_iconst (v := 2) hx hb dX11_land_9 (by decide +kernel) ?_
    refine kJi (wr := [(k, .inr (11, [.ref k0, .ref k1, .ref k2, .int c3, .ref k4, .ref k5, .ref k6, .ref k7, .ref k8, .int c9, .ref ka, .ref kb, .int cc, .int cd, .int ce, .int cf, .int cg, .int ch, .int ci, .int cj, .int ck, .ref kl, .int cm, .int cn, .ref ko])), (k0, .inl (cI, 1201, .inl c0)), (k4, .inl (cI, 6, .inl c4))]) (va_runS (As := [.int a1, .int 0, .int 2]) (rest := []) ⟨hx, hb, hml, hown, hT⟩ (c_X11_inG l D cI aK aV H.size a1 0 2) (cwS 3 hT (gS_in mw_1238 mw_1236 mw_1237 mw_12) rfl rfl rfl (by decide +kernel) ⟨Nat.le_of_ble_eq_true rfl, Nat.le_of_ble_eq_true rfl⟩) (kStatX hK hP hD hN hXS hS hA [] rfl (by decide +kernel)) rfl rfl hl.1 rfl (lv_room (Nat.le_of_ble_eq_true rfl)) dX11_land_10 ⟨Nat.le_of_ble_eq_true rfl, Nat.le_of_ble_eq_true rfl⟩) hP hD hS hA [] [0, 1, 2] rfl rfl (by decide +kernel) (by decide +kernel) ?_
    clear hP hD hS
    intro r_11 u_13 H locs w_12 hP hD hS
    replace hP : va_P D vwCl [(k, .inr (11, [.ref k0, .ref k1, .ref k2, .int c3, .ref k4, .ref k5, .ref k6, .ref k7, .ref k8, .int c9, .ref ka, .ref kb, .int cc, .int cd, .int ce, .int cf, .int cg, .int ch, .int ci, .int cj, .int ck, .ref kl, .int cm, .int cn, .ref ko])), (k0, .inl (cI, 1201, .inl c0)), (k4, .inl (cI, 6, .inl c4))] H := hP
    replace hD : va_D A [(k, .inr (11, [.ref k0, .ref k1, .ref k2, .int c3, .ref k4, .ref k5, .ref k6, .ref k7, .ref k8, .int c9, .ref ka, .ref kb, .int cc, .int cd, .int ce, .int cf, .int cg, .int ch, .int ci, .int cj, .int ck, .ref kl, .int cm, .int cn, .ref ko])), (k0, .inl (cI, 1201, .inl c0)), (k4, .inl (cI, 6, .inl c4))] := hD
    rcases w_12 with ⟨hr_11, h_14, h_15⟩ | ⟨hr_11, h_16⟩
    · try simp only [zl_0, zl_2] at h_14
      have h_14 : 0 ≤ a1.toInt := h_14
      try simp only [zl_0, zl_2] at h_15
      have h_15 : a1.toInt ≤ 2 := h_15
      obtain rfl : r_11 = 1 := hr_11.trans (by decide +kernel)
      refine b_if_eq hx hb zl_1 (tgt := 26) dX11_land_13 (by decide +kernel) (fun c_17 => by exfalso; omega) (fun c_17 => ?_)
      refine lv_iload_n hx hb dX11_land_16 rfl (lv_at hl 3 rfl) ?_
      refine lv_iconst (v := 0) hx hb dX11_land_17 (by decide +kernel) ?_
      refine lv_bipush (v := 99) hx hb dX11_land_18 (by decide +kernel) ?_
      refine kJi (wr := [(k, .inr (11, [.ref k0, .ref k1, .ref k2, .int c3, .ref k4, .ref k5, .ref k6, .ref k7, .ref k8, .int c9, .ref ka, .ref kb, .int cc, .int cd, .int ce, .int cf, .int cg, .int ch, .int ci, .int cj, .int ck, .ref kl, .int cm, .int cn, .ref ko])), (k0, .inl (cI, 1201, .inl c0)), (k4, .inl (cI, 6, .inl c4))]) (va_runS (As := [.int a2, .int 0, .int 99]) (rest := []) ⟨hx, hb, hml, hown, hT⟩ (c_X11_inG l D cI aK aV H.size a2 0 99) (cwS 3 hT (gS_in mw_1238 mw_1236 mw_1237 mw_12) rfl rfl rfl (by decide +kernel) ⟨Nat.le_of_ble_eq_true rfl, Nat.le_of_ble_eq_true rfl⟩) (kStatX hK hP hD hN hXS hS hA [] rfl (by decide +kernel)) rfl rfl hl.1 rfl (lv_room (Nat.le_of_ble_eq_true rfl)) dX11_land_20 ⟨Nat.le_of_ble_eq_true rfl, Nat.le_of_ble_eq_true rfl⟩) hP hD hS hA [] [0, 1, 2] rfl rfl (by decide +kernel) (by decide +kernel) ?_
      clear hP hD hS
      intro r_18 u_20 H locs w_19 hP hD hS
      replace hP : va_P D vwCl [(k, .inr (11, [.ref k0, .ref k1, .ref k2, .int c3, .ref k4, .ref k5, .ref k6, .ref k7, .ref k8, .int c9, .ref ka, .ref kb, .int cc, .int cd, .int ce, .int cf, .int cg, .int ch, .int ci, .int cj, .int ck, .ref kl, .int cm, .int cn, .ref ko])), (k0, .inl (cI, 1201, .inl c0)), (k4, .inl (cI, 6, .inl c4))] H := hP
      replace hD : va_D A [(k, .inr (11, [.ref k0, .ref k1, .ref k2, .int c3, .ref k4, .ref k5, .ref k6, .ref k7, .ref k8, .int c9, .ref ka, .ref kb, .int cc, .int cd, .int ce, .int cf, .int cg, .int ch, .int ci, .int cj, .int ck, .ref kl, .int cm, .int cn, .ref ko])), (k0, .inl (cI, 1201, .inl c0)), (k4, .inl (cI, 6, .inl c4))] := hD
      rcases w_19 with ⟨hr_18, h_21, h_22⟩ | ⟨hr_18, h_23⟩
      · try simp only [zl_0, zl_99] at h_21
        have h_21 : 0 ≤ a2.toInt := h_21
        try simp only [zl_0, zl_99] at h_22
        have h_22 : a2.toInt ≤ 99 := h_22
        obtain rfl : r_18 = 1 := hr_18.trans (by decide +kernel)
        refine b_if_ne hx hb zl_1 (tgt := 33) dX11_land_23 (by decide +kernel) (fun c_24 => ?_) (fun c_24 => by exfalso; omega)
        refine lv_bipush (v := 100) hx hb dX11_land_33 (by decide +kernel) ?_
        refine lv_aload_n hx hb dX11_land_35 rfl (lv_at hl 0 rfl) ?_
        refine va_get (D := D) (ci := 11) (v := .ref k0) (C := RX11) (T := TX11) (N := 25) hx hb hT giX11 hown hK hP 0 rfl rfl 0 (by decide +kernel) (hT (Cond.fieldLink RX11 9 "DesertWireModel" "s" "[I") mw_1156) (fun _ h9 => h9) rfl dX11_land_36 ?_
        refine lv_bipush (v := 19) hx hb dX11_land_39 (by decide +kernel) ?_
        refine lv_iload_n hx hb dX11_land_41 rfl (lv_at hl 1 rfl) ?_
        refine lv_iadd hx hb dX11_land_42 ?_
        refine lv_topi (fun v_25 ev_25 => ?_)
        have tv_25 : v_25.toInt = 19 + a0.toInt := by rw [ev_25]; exact k_addv zl_19 rfl (by omega) (by omega)
        refine k_iald (v := (c0 v_25.toNatClampNeg)) hx hb hK hP 1 0 rfl rfl (k_in (by omega) (by omega)) rfl dX11_land_43 ?_
        refine lv_topi (fun v_26 ev_26 => ?_)
        have lo_v_26 := k_lo v_26
        have hi_v_26 := k_hi v_26
        have tv_26 : v_26.toInt = (c0 v_25.toNatClampNeg).toInt := by rw [ev_26]
        refine lv_imul hx hb dX11_land_44 ?_
        refine lv_topi (fun v_27 ev_27 => ?_)
        have lo_v_27 := k_lo v_27
        have hi_v_27 := k_hi v_27
        refine lv_aload_n hx hb dX11_land_45 rfl (lv_at hl 0 rfl) ?_
        refine va_get (D := D) (ci := 11) (v := .ref k0) (C := RX11) (T := TX11) (N := 25) hx hb hT giX11 hown hK hP 0 rfl rfl 0 (by decide +kernel) (hT (Cond.fieldLink RX11 9 "DesertWireModel" "s" "[I") mw_1156) (fun _ h9 => h9) rfl dX11_land_46 ?_
        refine lv_bipush (v := 59) hx hb dX11_land_49 (by decide +kernel) ?_
        refine lv_iload_n hx hb dX11_land_51 rfl (lv_at hl 1 rfl) ?_
        refine lv_iadd hx hb dX11_land_52 ?_
        refine lv_topi (fun v_28 ev_28 => ?_)
        have tv_28 : v_28.toInt = 59 + a0.toInt := by rw [ev_28]; exact k_addv zl_59 rfl (by omega) (by omega)
        refine k_iald (v := (c0 v_28.toNatClampNeg)) hx hb hK hP 1 0 rfl rfl (k_in (by omega) (by omega)) rfl dX11_land_53 ?_
        refine lv_topi (fun v_29 ev_29 => ?_)
        have lo_v_29 := k_lo v_29
        have hi_v_29 := k_hi v_29
        have tv_29 : v_29.toInt = (c0 v_28.toNatClampNeg).toInt := by rw [ev_29]
        refine lv_iadd hx hb dX11_land_54 ?_
        refine lv_topi (fun v_30 ev_30 => ?_)
        have lo_v_30 := k_lo v_30
        have hi_v_30 := k_hi v_30
        refine lv_istore (lv' := [(4, .int v_30), (0, .ref k), (1, .int a0), (2, .int a1), (3, .int a2)]) hx hb dX11_land_55 hl (by decide +kernel) rfl ?_
        clear hl
        intro ls hl
        refine lv_aload_n hx hb dX11_land_57 rfl (lv_at hl 1 rfl) ?_
        refine va_get (D := D) (ci := 11) (v := .ref k0) (C := RX11) (T := TX11) (N := 25) hx hb hT giX11 hown hK hP 0 rfl rfl 0 (by decide +kernel) (hT (Cond.fieldLink RX11 9 "DesertWireModel" "s" "[I") mw_1156) (fun _ h9 => h9) rfl dX11_land_58 ?_
        refine lv_bipush (v := 19) hx hb dX11_land_61 (by decide +kernel) ?_
        refine lv_iload_n hx hb dX11_land_63 rfl (lv_at hl 2 rfl) ?_
        refine lv_iadd hx hb dX11_land_64 ?_
        refine lv_topi (fun v_31 ev_31 => ?_)
        have tv_31 : v_31.toInt = 19 + a0.toInt := by rw [ev_31]; exact k_addv zl_19 rfl (by omega) (by omega)
        refine lv_iload_n hx hb dX11_land_65 rfl (lv_at hl 3 rfl) ?_
        refine va_iast hx hb hK hP hD hS 1 0 rfl rfl (k_in (by omega) (by omega)) dX11_land_66 ?_
        clear hP hD hS
        intro H locs hP hD hS
        replace hP : va_P D vwCl [(k, .inr (11, [.ref k0, .ref k1, .ref k2, .int c3, .ref k4, .ref k5, .ref k6, .ref k7, .ref k8, .int c9, .ref ka, .ref kb, .int cc, .int cd, .int ce, .int cf, .int cg, .int ch, .int ci, .int cj, .int ck, .ref kl, .int cm, .int cn, .ref ko])), (k0, .inl (cI, 1201, .inl (upd c0 v_31.toNatClampNeg a1))), (k4, .inl (cI, 6, .inl c4))] H := hP
        replace hD : va_D A [(k, .inr (11, [.ref k0, .ref k1, .ref k2, .int c3, .ref k4, .ref k5, .ref k6, .ref k7, .ref k8, .int c9, .ref ka, .ref kb, .int cc, .int cd, .int ce, .int cf, .int cg, .int ch, .int ci, .int cj, .int ck, .ref kl, .int cm, .int cn, .ref ko])), (k0, .inl (cI, 1201, .inl (upd c0 v_31.toNatClampNeg a1))), (k4, .inl (cI, 6, .inl c4))] := hD
        obtain ⟨f_32, ef_32⟩ : ∃ g : Nat → Int32, g = upd c0 v_31.toNatClampNeg a1 := ⟨_, rfl⟩
        rw [← ef_32] at hP hD
        have hS_33 : SIX f_32 (-1) := by first | exact SIX.free pre0 ef_32 (by rw [k_clamp]; omega) | exact SIX.so pre0 ef_32 (by rw [k_clamp]; omega) (by omega)
        have n_34 : (f_32 0).toInt = (c0 0).toInt := by rw [updN ef_32 (by rw [k_clamp]; omega)]
        have n_35 : (f_32 1).toInt = (c0 1).toInt := by rw [updN ef_32 (by rw [k_clamp]; omega)]
        have n_36 : (f_32 2).toInt = (c0 2).toInt := by rw [updN ef_32 (by rw [k_clamp]; omega)]
        refine lv_aload_n hx hb dX11_land_67 rfl (lv_at hl 1 rfl) ?_
        refine va_get (D := D) (ci := 11) (v := .ref k0) (C := RX11) (T := TX11) (N := 25) hx hb hT giX11 hown hK hP 0 rfl rfl 0 (by decide +kernel) (hT (Cond.fieldLink RX11 9 "DesertWireModel" "s" "[I") mw_1156) (fun _ h9 => h9) rfl dX11_land_68 ?_
        refine lv_bipush (v := 59) hx hb dX11_land_71 (by decide +kernel) ?_
        refine lv_iload_n hx hb dX11_land_73 rfl (lv_at hl 2 rfl) ?_
        refine lv_iadd hx hb dX11_land_74 ?_
        refine lv_topi (fun v_37 ev_37 => ?_)
        have tv_37 : v_37.toInt = 59 + a0.toInt := by rw [ev_37]; exact k_addv zl_59 rfl (by omega) (by omega)
        refine lv_iload_n hx hb dX11_land_75 rfl (lv_at hl 4 rfl) ?_
        refine va_iast hx hb hK hP hD hS 1 0 rfl rfl (k_in (by omega) (by omega)) dX11_land_76 ?_
        clear hP hD hS
        intro H locs hP hD hS
        replace hP : va_P D vwCl [(k, .inr (11, [.ref k0, .ref k1, .ref k2, .int c3, .ref k4, .ref k5, .ref k6, .ref k7, .ref k8, .int c9, .ref ka, .ref kb, .int cc, .int cd, .int ce, .int cf, .int cg, .int ch, .int ci, .int cj, .int ck, .ref kl, .int cm, .int cn, .ref ko])), (k0, .inl (cI, 1201, .inl (upd f_32 v_37.toNatClampNeg a2))), (k4, .inl (cI, 6, .inl c4))] H := hP
        replace hD : va_D A [(k, .inr (11, [.ref k0, .ref k1, .ref k2, .int c3, .ref k4, .ref k5, .ref k6, .ref k7, .ref k8, .int c9, .ref ka, .ref kb, .int cc, .int cd, .int ce, .int cf, .int cg, .int ch, .int ci, .int cj, .int ck, .ref kl, .int cm, .int cn, .ref ko])), (k0, .inl (cI, 1201, .inl (upd f_32 v_37.toNatClampNeg a2))), (k4, .inl (cI, 6, .inl c4))] := hD
        obtain ⟨f_38, ef_38⟩ : ∃ g : Nat → Int32, g = upd f_32 v_37.toNatClampNeg a2 := ⟨_, rfl⟩
        rw [← ef_38] at hP hD
        have hS_39 : SIX f_38 (-1) := by first | exact SIX.free hS_33 ef_38 (by rw [k_clamp]; omega) | exact SIX.so hS_33 ef_38 (by rw [k_clamp]; omega) (by omega)
        have n_40 : (f_38 0).toInt = (f_32 0).toInt := by rw [updN ef_38 (by rw [k_clamp]; omega)]
        have n_41 : (f_38 1).toInt = (f_32 1).toInt := by rw [updN ef_38 (by rw [k_clamp]; omega)]
        have n_42 : (f_38 2).toInt = (f_32 2).toInt := by rw [updN ef_38 (by rw [k_clamp]; omega)]
        refine lv_iload hx hb dX11_land_77 (lv_at hl 0 rfl) ?_
        exact hRet (f_38, c4) [0, 1, 2] ⟨hS_39, (by (try dsimp only); unfold landR; (repeat (first | rw [if_pos (by omega)] | rw [if_neg (by omega)])); first | done | exact (by rw [ev_30, ev_27, rd_in (k := 19 + a0.toInt.toNat) ev_26 (by omega), rd_in (k := 59 + a0.toInt.toNat) ev_29 (by omega)])), (by unfold landS; rw [if_pos (by omega), if_pos (by omega), up_in (k := 59 + a0.toInt.toNat) ef_38 (by omega), up_in (k := 19 + a0.toInt.toNat) ef_32 (by omega)])⟩ hP hD (by decide +kernel) rfl hS rfl dX11_land_79
      · try simp only [zl_0, zl_99] at h_23
        have h_23 : a2.toInt < 0 ∨ 99 < a2.toInt := h_23
        obtain rfl : r_18 = 0 := hr_18.trans (by decide +kernel)
        refine b_if_ne hx hb zl_0 (tgt := 33) dX11_land_23 (by decide +kernel) (fun c_43 => by exfalso; omega) (fun c_43 => ?_)
        refine lv_aload_n hx hb dX11_land_26 rfl (lv_at hl 0 rfl) ?_
        refine lv_ldc (v := (-1000001)) hx hb hown (hT _ mw_1239) dX11_land_27 ?_
        refine kJi (wr := [(k0, .inl (cI, 1201, .inl c0))]) (va_runV (As := [.int (-1000001)]) (rest := []) ⟨hx, hb, hml, hown, hT⟩ (c_X11_findingG l D cI aK aV k k0 k1 k2 k4 k5 k6 k7 k8 ka kb kl ko H.size c3 c9 cc cd ce cf cg ch ci cj ck cm cn c4 (-1000001) (by first | omega | (simp only [zl_m1000001]; first | done | omega) | decide | assumption | rfl) (by first | omega | (simp only [zl_m1000001]; first | done | omega) | decide | assumption | rfl)) (cwV 1 hT (gV_in mw_1243 mw_1240 mw_1242 mw_p3_8 mw_12) rfl rfl rfl (by decide +kernel) ⟨Nat.le_of_ble_eq_true rfl, Nat.le_of_ble_eq_true rfl⟩) (kRecvX (q0 := 0) (ci := 11) hK hP hD hN hXS hS hA rfl rfl [0, 2] rfl (by decide +kernel)) rfl rfl hl.1 rfl (lv_room (Nat.le_of_ble_eq_true rfl)) dX11_land_29 ⟨Nat.le_of_ble_eq_true rfl, Nat.le_of_ble_eq_true rfl⟩) hP hD hS hA [0, 2] [1] rfl rfl (by decide +kernel) (by decide +kernel) ?_
        clear hP hD hS
        intro r_44 sc4_46 H locs w_45 hP hD hS
        replace hP : va_P D vwCl [(k0, .inl (cI, 1201, .inl c0)), (k, .inr (11, [.ref k0, .ref k1, .ref k2, .int c3, .ref k4, .ref k5, .ref k6, .ref k7, .ref k8, .int c9, .ref ka, .ref kb, .int cc, .int cd, .int ce, .int cf, .int cg, .int ch, .int ci, .int cj, .int ck, .ref kl, .int cm, .int cn, .ref ko])), (k4, .inl (cI, 6, .inl sc4_46))] H := hP
        replace hD : va_D A [(k0, .inl (cI, 1201, .inl c0)), (k, .inr (11, [.ref k0, .ref k1, .ref k2, .int c3, .ref k4, .ref k5, .ref k6, .ref k7, .ref k8, .int c9, .ref ka, .ref kb, .int cc, .int cd, .int ce, .int cf, .int cg, .int ch, .int ci, .int cj, .int ck, .ref kl, .int cm, .int cn, .ref ko])), (k4, .inl (cI, 6, .inl sc4_46))] := hD
        have hr_44 := w_45
        obtain rfl : r_44 = (-1000001) := hr_44.trans (by decide +kernel)
        exact hRet (c0, sc4_46) [1, 0, 2] ⟨pre0, (by (try dsimp only); unfold landR; (repeat (first | rw [if_pos (by omega)] | rw [if_neg (by omega)]))), (by (try dsimp only); unfold landS; (repeat (first | rw [if_pos (by omega)] | rw [if_neg (by omega)])))⟩ hP hD (by decide +kernel) rfl hS rfl dX11_land_32
    · try simp only [zl_0, zl_2] at h_16
      have h_16 : a1.toInt < 0 ∨ 2 < a1.toInt := h_16
      obtain rfl : r_11 = 0 := hr_11.trans (by decide +kernel)
      refine b_if_eq hx hb zl_0 (tgt := 26) dX11_land_13 (by decide +kernel) (fun c_47 => ?_) (fun c_47 => by exfalso; omega)
      refine lv_aload_n hx hb dX11_land_26 rfl (lv_at hl 0 rfl) ?_
      refine lv_ldc (v := (-1000001)) hx hb hown (hT _ mw_1239) dX11_land_27 ?_
      refine kJi (wr := [(k0, .inl (cI, 1201, .inl c0))]) (va_runV (As := [.int (-1000001)]) (rest := []) ⟨hx, hb, hml, hown, hT⟩ (c_X11_findingG l D cI aK aV k k0 k1 k2 k4 k5 k6 k7 k8 ka kb kl ko H.size c3 c9 cc cd ce cf cg ch ci cj ck cm cn c4 (-1000001) (by first | omega | (simp only [zl_m1000001]; first | done | omega) | decide | assumption | rfl) (by first | omega | (simp only [zl_m1000001]; first | done | omega) | decide | assumption | rfl)) (cwV 1 hT (gV_in mw_1243 mw_1240 mw_1242 mw_p3_8 mw_12) rfl rfl rfl (by decide +kernel) ⟨Nat.le_of_ble_eq_true rfl, Nat.le_of_ble_eq_true rfl⟩) (kRecvX (q0 := 0) (ci := 11) hK hP hD hN hXS hS hA rfl rfl [0, 2] rfl (by decide +kernel)) rfl rfl hl.1 rfl (lv_room (Nat.le_of_ble_eq_true rfl)) dX11_land_29 ⟨Nat.le_of_ble_eq_true rfl, Nat.le_of_ble_eq_true rfl⟩) hP hD hS hA [0, 2] [1] rfl rfl (by decide +kernel) (by decide +kernel) ?_
      clear hP hD hS
      intro r_48 sc4_50 H locs w_49 hP hD hS
      replace hP : va_P D vwCl [(k0, .inl (cI, 1201, .inl c0)), (k, .inr (11, [.ref k0, .ref k1, .ref k2, .int c3, .ref k4, .ref k5, .ref k6, .ref k7, .ref k8, .int c9, .ref ka, .ref kb, .int cc, .int cd, .int ce, .int cf, .int cg, .int ch, .int ci, .int cj, .int ck, .ref kl, .int cm, .int cn, .ref ko])), (k4, .inl (cI, 6, .inl sc4_50))] H := hP
      replace hD : va_D A [(k0, .inl (cI, 1201, .inl c0)), (k, .inr (11, [.ref k0, .ref k1, .ref k2, .int c3, .ref k4, .ref k5, .ref k6, .ref k7, .ref k8, .int c9, .ref ka, .ref kb, .int cc, .int cd, .int ce, .int cf, .int cg, .int ch, .int ci, .int cj, .int ck, .ref kl, .int cm, .int cn, .ref ko])), (k4, .inl (cI, 6, .inl sc4_50))] := hD
      have hr_48 := w_49
      obtain rfl : r_48 = (-1000001) := hr_48.trans (by decide +kernel)
      exact hRet (c0, sc4_50) [1, 0, 2] ⟨pre0, (by (try dsimp only); unfold landR; (repeat (first | rw [if_pos (by omega)] | rw [if_neg (by omega)]))), (by (try dsimp only); unfold landS; (repeat (first | rw [if_pos (by omega)] | rw [if_neg (by omega)])))⟩ hP hD (by decide +kernel) rfl hS rfl dX11_land_32
  · have h_9 : a0.toInt < 0 ∨ 39 < a0.toInt := h_9
    obtain rfl : r_4 = 0 := hr_4.trans (by decide +kernel)
    refine b_if_eq hx hb zl_0 (tgt := 26) dX11_land_4 (by decide +kernel) (fun c_51 => ?_) (fun c_51 => by exfalso; omega)
    refine lv_aload_n hx hb dX11_land_26 rfl (lv_at hl 0 rfl) ?_
    refine lv_ldc (v := (-1000001)) hx hb hown (hT _ mw_1239) dX11_land_27 ?_
    refine kJi (wr := [(k0, .inl (cI, 1201, .inl c0))]) (va_runV (As := [.int (-1000001)]) (rest := []) ⟨hx, hb, hml, hown, hT⟩ (c_X11_findingG l D cI aK aV k k0 k1 k2 k4 k5 k6 k7 k8 ka kb kl ko H.size c3 c9 cc cd ce cf cg ch ci cj ck cm cn c4 (-1000001) (by first | omega | (simp only [zl_m1000001]; first | done | omega) | decide | assumption | rfl) (by first | omega | (simp only [zl_m1000001]; first | done | omega) | decide | assumption | rfl)) (cwV 1 hT (gV_in mw_1243 mw_1240 mw_1242 mw_p3_8 mw_12) rfl rfl rfl (by decide +kernel) ⟨Nat.le_of_ble_eq_true rfl, Nat.le_of_ble_eq_true rfl⟩) (kRecvX (q0 := 0) (ci := 11) hK hP hD hN hXS hS hA rfl rfl [0, 2] rfl (by decide +kernel)) rfl rfl hl.1 rfl (lv_room (Nat.le_of_ble_eq_true rfl)) dX11_land_29 ⟨Nat.le_of_ble_eq_true rfl, Nat.le_of_ble_eq_true rfl⟩) hP hD hS hA [0, 2] [1] rfl rfl (by decide +kernel) (by decide +kernel) ?_
    clear hP hD hS
    intro r_52 sc4_54 H locs w_53 hP hD hS
    replace hP : va_P D vwCl [(k0, .inl (cI, 1201, .inl c0)), (k, .inr (11, [.ref k0, .ref k1, .ref k2, .int c3, .ref k4, .ref k5, .ref k6, .ref k7, .ref k8, .int c9, .ref ka, .ref kb, .int cc, .int cd, .int ce, .int cf, .int cg, .int ch, .int ci, .int cj, .int ck, .ref kl, .int cm, .int cn, .ref ko])), (k4, .inl (cI, 6, .inl sc4_54))] H := hP
    replace hD : va_D A [(k0, .inl (cI, 1201, .inl c0)), (k, .inr (11, [.ref k0, .ref k1, .ref k2, .int c3, .ref k4, .ref k5, .ref k6, .ref k7, .ref k8, .int c9, .ref ka, .ref kb, .int cc, .int cd, .int ce, .int cf, .int cg, .int ch, .int ci, .int cj, .int ck, .ref kl, .int cm, .int cn, .ref ko])), (k4, .inl (cI, 6, .inl sc4_54))] := hD
    have hr_52 := w_53
    obtain rfl : r_52 = (-1000001) := hr_52.trans (by decide +kernel)
    exact hRet (c0, sc4_54) [1, 0, 2] ⟨pre0, (by (try dsimp only); unfold landR; (repeat (first | rw [if_pos (by omega)] | rw [if_neg (by omega)]))), (by (try dsimp only); unfold landS; (repeat (first | rw [if_pos (by omega)] | rw [if_neg (by omega)])))⟩ hP hD (by decide +kernel) rfl hS rfl dX11_land_32
theorem bn_cX11_reach_0 : BN cX11_reach 0 0x56874a01c0384414015a8ac7c2f0384414015a8ad5a4100adc80131582c029b1800572c9008480a1c := by
  unfold BN; decide +kernel
theorem dX11_reach_0 : decode cX11_reach 0 = .ok (.iload_n 1, 1) := dR0 (k := 0) (i := 0) bn_cX11_reach_0 dop_27 (by decide +kernel)
theorem dX11_reach_1 : decode cX11_reach 1 = .ok (.iconst 1, 1) := dR0 (k := 0) (i := 1) bn_cX11_reach_0 dop_4 (by decide +kernel)
theorem dX11_reach_2 : decode cX11_reach 2 = .ok (.sipush 200, 3) := dR2s (f := Instr.sipush) (k := 0) (i := 2) bn_cX11_reach_0 dop_17 200 200 (by decide +kernel)
theorem dX11_reach_5 : decode cX11_reach 5 = .ok (.invokestatic 47, 3) := dR2 (f := Instr.invokestatic) (k := 0) (i := 5) bn_cX11_reach_0 dop_184 47 (by decide +kernel)
theorem dX11_reach_8 : decode cX11_reach 8 = .ok (.ifCond .ne 10, 3) := dR2s (f := Instr.ifCond .ne) (k := 0) (i := 8) bn_cX11_reach_0 dop_154 10 10 (by decide +kernel)
theorem dX11_reach_11 : decode cX11_reach 11 = .ok (.aload_n 0, 1) := dR0 (k := 0) (i := 11) bn_cX11_reach_0 dop_42 (by decide +kernel)
theorem dX11_reach_12 : decode cX11_reach 12 = .ok (.ldc 63, 2) := dR1 (f := Instr.ldc) (k := 0) (i := 12) bn_cX11_reach_0 dop_18 63 (by decide +kernel)
theorem dX11_reach_14 : decode cX11_reach 14 = .ok (.invokevirtual 64, 3) := dR2 (f := Instr.invokevirtual) (k := 0) (i := 14) bn_cX11_reach_0 dop_182 64 (by decide +kernel)
theorem dX11_reach_17 : decode cX11_reach 17 = .ok (.ireturn, 1) := dR0 (k := 0) (i := 17) bn_cX11_reach_0 dop_172 (by decide +kernel)
theorem dX11_reach_18 : decode cX11_reach 18 = .ok (.aload_n 0, 1) := dR0 (k := 0) (i := 18) bn_cX11_reach_0 dop_42 (by decide +kernel)
theorem dX11_reach_19 : decode cX11_reach 19 = .ok (.getfield 9, 3) := dR2 (f := Instr.getfield) (k := 0) (i := 19) bn_cX11_reach_0 dop_180 9 (by decide +kernel)
theorem dX11_reach_22 : decode cX11_reach 22 = .ok (.bipush 6, 2) := dR1s (f := Instr.bipush) (k := 0) (i := 22) bn_cX11_reach_0 dop_16 6 6 (by decide +kernel)
theorem dX11_reach_24 : decode cX11_reach 24 = .ok (.iaload, 1) := dR0 (k := 0) (i := 24) bn_cX11_reach_0 dop_46 (by decide +kernel)
theorem dX11_reach_25 : decode cX11_reach 25 = .ok (.istore_n 2, 1) := dR0 (k := 0) (i := 25) bn_cX11_reach_0 dop_61 (by decide +kernel)
theorem dX11_reach_26 : decode cX11_reach 26 = .ok (.aload_n 0, 1) := dR0 (k := 0) (i := 26) bn_cX11_reach_0 dop_42 (by decide +kernel)
theorem dX11_reach_27 : decode cX11_reach 27 = .ok (.getfield 9, 3) := dR2 (f := Instr.getfield) (k := 0) (i := 27) bn_cX11_reach_0 dop_180 9 (by decide +kernel)
theorem dX11_reach_30 : decode cX11_reach 30 = .ok (.bipush 6, 2) := dR1s (f := Instr.bipush) (k := 0) (i := 30) bn_cX11_reach_0 dop_16 6 6 (by decide +kernel)
theorem dX11_reach_32 : decode cX11_reach 32 = .ok (.iload_n 1, 1) := dR0 (k := 0) (i := 32) bn_cX11_reach_0 dop_27 (by decide +kernel)
theorem dX11_reach_33 : decode cX11_reach 33 = .ok (.iastore, 1) := dR0 (k := 0) (i := 33) bn_cX11_reach_0 dop_79 (by decide +kernel)
theorem dX11_reach_34 : decode cX11_reach 34 = .ok (.iload_n 2, 1) := dR0 (k := 0) (i := 34) bn_cX11_reach_0 dop_28 (by decide +kernel)
theorem dX11_reach_35 : decode cX11_reach 35 = .ok (.ireturn, 1) := dR0 (k := 0) (i := 35) bn_cX11_reach_0 dop_172 (by decide +kernel)
set_option maxHeartbeats 4000000 in
set_option maxRecDepth 100000 in
theorem c_X11_reachG (l : Launch) (D : va_G) (cI : ClassId) (aK aV : Nat → Nat) (k k0 k1 k2 k4 k5 k6 k7 k8 ka kb kl ko : Nat) (sz : Nat) (c3 : Int32) (c9 : Int32) (cc : Int32) (cd : Int32) (ce : Int32) (cf : Int32) (cg : Int32) (ch : Int32) (ci : Int32) (cj : Int32) (ck : Int32) (cm : Int32) (cn : Int32) (c0 : Nat → Int32) (c4 : Nat → Int32) (a0 : Int32) (pre0 : SIX c0 (-1)) : Met l yX11_reach (gW yX11_reach cX11_reach 3 (some .int)) ({ frames := 1, cells := 0, slots := 0, locals := 22 } : Room) (kPreX D cI aK aV [.ref k, .int a0] [(k, .inr (11, [.ref k0, .ref k1, .ref k2, .int c3, .ref k4, .ref k5, .ref k6, .ref k7, .ref k8, .int c9, .ref ka, .ref kb, .int cc, .int cd, .int ce, .int cf, .int cg, .int ch, .int ci, .int cj, .int ck, .ref kl, .int cm, .int cn, .ref ko])), (k0, .inl (cI, 1201, .inl c0)), (k4, .inl (cI, 6, .inl c4))] sz) (va_Qi (fun (r : Int32) (u : (Nat → Int32) × (Nat → Int32)) => SIX u.1 (-1) ∧ r = reachR (c0 6) a0 ∧ u.1 = rchS c0 a0) (fun u t => kWd D cI (va_A [(k, .inr (11, [.ref k0, .ref k1, .ref k2, .int c3, .ref k4, .ref k5, .ref k6, .ref k7, .ref k8, .int c9, .ref ka, .ref kb, .int cc, .int cd, .int ce, .int cf, .int cg, .int ch, .int ci, .int cj, .int ck, .ref kl, .int cm, .int cn, .ref ko])), (k0, .inl (cI, 1201, .inl c0)), (k4, .inl (cI, 6, .inl c4))] sz) [(k, .inr (11, [.ref k0, .ref k1, .ref k2, .int c3, .ref k4, .ref k5, .ref k6, .ref k7, .ref k8, .int c9, .ref ka, .ref kb, .int cc, .int cd, .int ce, .int cf, .int cg, .int ch, .int ci, .int cj, .int ck, .ref kl, .int cm, .int cn, .ref ko])), (k0, .inl (cI, 1201, .inl u.1)), (k4, .inl (cI, 6, .inl u.2))] t) (va_A [(k, .inr (11, [.ref k0, .ref k1, .ref k2, .int c3, .ref k4, .ref k5, .ref k6, .ref k7, .ref k8, .int c9, .ref ka, .ref kb, .int cc, .int cd, .int ce, .int cf, .int cg, .int ch, .int ci, .int cj, .int ck, .ref kl, .int cm, .int cn, .ref ko])), (k0, .inl (cI, 1201, .inl c0)), (k4, .inl (cI, 6, .inl c4))] sz)) 0 0 (va_A [(k, .inr (11, [.ref k0, .ref k1, .ref k2, .int c3, .ref k4, .ref k5, .ref k6, .ref k7, .ref k8, .int c9, .ref ka, .ref kb, .int cc, .int cd, .int ce, .int cf, .int cg, .int ch, .int ci, .int cj, .int ck, .ref kl, .int cm, .int cn, .ref ko])), (k0, .inl (cI, 1201, .inl c0)), (k4, .inl (cI, 6, .inl c4))] sz) := by
  refine kMetIX (own := RX11) (by decide +kernel) rfl (Nat.le_of_ble_eq_true rfl) ?_
  intro p e s m args below meth c hx hb hT hown hname hml A Q hK hP hD hS hA hN hXS hRet ls hl
  have hl : lv_has ls 3 [(0, .ref k), (1, .int a0)] := hl
  have lo_a0 := k_lo a0
  have hi_a0 := k_hi a0
  have lo_ci := k_lo ci
  have hi_ci := k_hi ci
  have pre0 : SIX c0 (-1) := pre0
  have nb_1 : 0 ≤ (c0 0).toInt ∧ (c0 0).toInt ≤ 2000 := SB.n0 (And.left pre0)
  have nb_2 : 0 ≤ (c0 1).toInt ∧ (c0 1).toInt ≤ 60 := SB.n1 (And.left pre0)
  have nb_3 : 0 ≤ (c0 2).toInt ∧ (c0 2).toInt ≤ 4 := SB.n2 (And.left pre0)
  refine lv_iload_n hx hb dX11_reach_0 rfl (lv_at hl 1 rfl) ?_
  refine lv_iconst (v := 1) hx hb dX11_reach_1 (by decide +kernel) ?_
  refine lv_sipush (v := 200) hx hb dX11_reach_2 (by decide +kernel) ?_
  refine kJi (wr := [(k, .inr (11, [.ref k0, .ref k1, .ref k2, .int c3, .ref k4, .ref k5, .ref k6, .ref k7, .ref k8, .int c9, .ref ka, .ref kb, .int cc, .int cd, .int ce, .int cf, .int cg, .int ch, .int ci, .int cj, .int ck, .ref kl, .int cm, .int cn, .ref ko])), (k0, .inl (cI, 1201, .inl c0)), (k4, .inl (cI, 6, .inl c4))]) (va_runS (As := [.int a0, .int 1, .int 200]) (rest := []) ⟨hx, hb, hml, hown, hT⟩ (c_X11_inG l D cI aK aV s.heap.size a0 1 200) (cwS 3 hT (gS_in mw_1238 mw_1236 mw_1237 mw_12) rfl rfl rfl (by decide +kernel) ⟨Nat.le_of_ble_eq_true rfl, Nat.le_of_ble_eq_true rfl⟩) (kStatX hK hP hD hN hXS hS hA [] rfl (by decide +kernel)) rfl rfl hl.1 rfl (lv_room (Nat.le_of_ble_eq_true rfl)) dX11_reach_5 ⟨Nat.le_of_ble_eq_true rfl, Nat.le_of_ble_eq_true rfl⟩) hP hD hS hA [] [0, 1, 2] rfl rfl (by decide +kernel) (by decide +kernel) ?_
  clear hP hD hS
  intro r_4 u_6 H locs w_5 hP hD hS
  replace hP : va_P D vwCl [(k, .inr (11, [.ref k0, .ref k1, .ref k2, .int c3, .ref k4, .ref k5, .ref k6, .ref k7, .ref k8, .int c9, .ref ka, .ref kb, .int cc, .int cd, .int ce, .int cf, .int cg, .int ch, .int ci, .int cj, .int ck, .ref kl, .int cm, .int cn, .ref ko])), (k0, .inl (cI, 1201, .inl c0)), (k4, .inl (cI, 6, .inl c4))] H := hP
  replace hD : va_D A [(k, .inr (11, [.ref k0, .ref k1, .ref k2, .int c3, .ref k4, .ref k5, .ref k6, .ref k7, .ref k8, .int c9, .ref ka, .ref kb, .int cc, .int cd, .int ce, .int cf, .int cg, .int ch, .int ci, .int cj, .int ck, .ref kl, .int cm, .int cn, .ref ko])), (k0, .inl (cI, 1201, .inl c0)), (k4, .inl (cI, 6, .inl c4))] := hD
  rcases w_5 with ⟨hr_4, h_7, h_8⟩ | ⟨hr_4, h_9⟩
  · try simp only [zl_1, zl_200] at h_7
    have h_7 : 1 ≤ a0.toInt := h_7
    try simp only [zl_1, zl_200] at h_8
    have h_8 : a0.toInt ≤ 200 := h_8
    obtain rfl : r_4 = 1 := hr_4.trans (by decide +kernel)
    refine b_if_ne hx hb zl_1 (tgt := 18) dX11_reach_8 (by decide +kernel) (fun c_10 => ?_) (fun c_10 => by exfalso; omega)
    refine lv_aload_n hx hb dX11_reach_18 rfl (lv_at hl 0 rfl) ?_
    refine va_get (D := D) (ci := 11) (v := .ref k0) (C := RX11) (T := TX11) (N := 25) hx hb hT giX11 hown hK hP 0 rfl rfl 0 (by decide +kernel) (hT (Cond.fieldLink RX11 9 "DesertWireModel" "s" "[I") mw_1156) (fun _ h9 => h9) rfl dX11_reach_19 ?_
    refine lv_bipush (v := 6) hx hb dX11_reach_22 (by decide +kernel) ?_
    refine k_iald (v := (c0 6)) hx hb hK hP 1 0 rfl rfl (k_inl (by decide +kernel)) rfl dX11_reach_24 ?_
    refine lv_topi (fun v_11 ev_11 => ?_)
    have lo_v_11 := k_lo v_11
    have hi_v_11 := k_hi v_11
    have tv_11 : v_11.toInt = (c0 6).toInt := by rw [ev_11]
    refine lv_istore_n (lv' := [(2, .int v_11), (0, .ref k), (1, .int a0)]) hx hb dX11_reach_25 rfl hl (by decide +kernel) rfl ?_
    clear hl
    intro ls hl
    refine lv_aload_n hx hb dX11_reach_26 rfl (lv_at hl 1 rfl) ?_
    refine va_get (D := D) (ci := 11) (v := .ref k0) (C := RX11) (T := TX11) (N := 25) hx hb hT giX11 hown hK hP 0 rfl rfl 0 (by decide +kernel) (hT (Cond.fieldLink RX11 9 "DesertWireModel" "s" "[I") mw_1156) (fun _ h9 => h9) rfl dX11_reach_27 ?_
    refine lv_bipush (v := 6) hx hb dX11_reach_30 (by decide +kernel) ?_
    refine lv_iload_n hx hb dX11_reach_32 rfl (lv_at hl 2 rfl) ?_
    refine va_iast hx hb hK hP hD hS 1 0 rfl rfl (k_inl (by decide +kernel)) dX11_reach_33 ?_
    clear hP hD hS
    intro H locs hP hD hS
    replace hP : va_P D vwCl [(k, .inr (11, [.ref k0, .ref k1, .ref k2, .int c3, .ref k4, .ref k5, .ref k6, .ref k7, .ref k8, .int c9, .ref ka, .ref kb, .int cc, .int cd, .int ce, .int cf, .int cg, .int ch, .int ci, .int cj, .int ck, .ref kl, .int cm, .int cn, .ref ko])), (k0, .inl (cI, 1201, .inl (upd c0 6 a0))), (k4, .inl (cI, 6, .inl c4))] H := hP
    replace hD : va_D A [(k, .inr (11, [.ref k0, .ref k1, .ref k2, .int c3, .ref k4, .ref k5, .ref k6, .ref k7, .ref k8, .int c9, .ref ka, .ref kb, .int cc, .int cd, .int ce, .int cf, .int cg, .int ch, .int ci, .int cj, .int ck, .ref kl, .int cm, .int cn, .ref ko])), (k0, .inl (cI, 1201, .inl (upd c0 6 a0))), (k4, .inl (cI, 6, .inl c4))] := hD
    obtain ⟨f_12, ef_12⟩ : ∃ g : Nat → Int32, g = upd c0 6 a0 := ⟨_, rfl⟩
    rw [← ef_12] at hP hD
    have hS_13 : SIX f_12 (-1) := SIX.free pre0 ef_12 (by omega)
    have n_14 : (f_12 0).toInt = (c0 0).toInt := by rw [updN ef_12 (by omega)]
    have n_15 : (f_12 1).toInt = (c0 1).toInt := by rw [updN ef_12 (by omega)]
    have n_16 : (f_12 2).toInt = (c0 2).toInt := by rw [updN ef_12 (by omega)]
    refine lv_iload_n hx hb dX11_reach_34 rfl (lv_at hl 0 rfl) ?_
    exact hRet (f_12, c4) [0, 1, 2] ⟨hS_13, (by (try dsimp only); unfold reachR; (repeat (first | rw [if_pos (by omega)] | rw [if_neg (by omega)])); first | done | exact ev_11), (by (try dsimp only); unfold rchS; (repeat (first | rw [if_pos (by omega)] | rw [if_neg (by omega)])); first | done | exact ef_12)⟩ hP hD (by decide +kernel) rfl hS rfl dX11_reach_35
  · try simp only [zl_1, zl_200] at h_9
    have h_9 : a0.toInt < 1 ∨ 200 < a0.toInt := h_9
    obtain rfl : r_4 = 0 := hr_4.trans (by decide +kernel)
    refine b_if_ne hx hb zl_0 (tgt := 18) dX11_reach_8 (by decide +kernel) (fun c_17 => by exfalso; omega) (fun c_17 => ?_)
    refine lv_aload_n hx hb dX11_reach_11 rfl (lv_at hl 0 rfl) ?_
    refine lv_ldc (v := (-1000001)) hx hb hown (hT _ mw_1239) dX11_reach_12 ?_
    refine kJi (wr := [(k0, .inl (cI, 1201, .inl c0))]) (va_runV (As := [.int (-1000001)]) (rest := []) ⟨hx, hb, hml, hown, hT⟩ (c_X11_findingG l D cI aK aV k k0 k1 k2 k4 k5 k6 k7 k8 ka kb kl ko H.size c3 c9 cc cd ce cf cg ch ci cj ck cm cn c4 (-1000001) (by first | omega | (simp only [zl_m1000001]; first | done | omega) | decide | assumption | rfl) (by first | omega | (simp only [zl_m1000001]; first | done | omega) | decide | assumption | rfl)) (cwV 1 hT (gV_in mw_1243 mw_1240 mw_1242 mw_p3_8 mw_12) rfl rfl rfl (by decide +kernel) ⟨Nat.le_of_ble_eq_true rfl, Nat.le_of_ble_eq_true rfl⟩) (kRecvX (q0 := 0) (ci := 11) hK hP hD hN hXS hS hA rfl rfl [0, 2] rfl (by decide +kernel)) rfl rfl hl.1 rfl (lv_room (Nat.le_of_ble_eq_true rfl)) dX11_reach_14 ⟨Nat.le_of_ble_eq_true rfl, Nat.le_of_ble_eq_true rfl⟩) hP hD hS hA [0, 2] [1] rfl rfl (by decide +kernel) (by decide +kernel) ?_
    clear hP hD hS
    intro r_18 sc4_20 H locs w_19 hP hD hS
    replace hP : va_P D vwCl [(k0, .inl (cI, 1201, .inl c0)), (k, .inr (11, [.ref k0, .ref k1, .ref k2, .int c3, .ref k4, .ref k5, .ref k6, .ref k7, .ref k8, .int c9, .ref ka, .ref kb, .int cc, .int cd, .int ce, .int cf, .int cg, .int ch, .int ci, .int cj, .int ck, .ref kl, .int cm, .int cn, .ref ko])), (k4, .inl (cI, 6, .inl sc4_20))] H := hP
    replace hD : va_D A [(k0, .inl (cI, 1201, .inl c0)), (k, .inr (11, [.ref k0, .ref k1, .ref k2, .int c3, .ref k4, .ref k5, .ref k6, .ref k7, .ref k8, .int c9, .ref ka, .ref kb, .int cc, .int cd, .int ce, .int cf, .int cg, .int ch, .int ci, .int cj, .int ck, .ref kl, .int cm, .int cn, .ref ko])), (k4, .inl (cI, 6, .inl sc4_20))] := hD
    have hr_18 := w_19
    obtain rfl : r_18 = (-1000001) := hr_18.trans (by decide +kernel)
    exact hRet (c0, sc4_20) [1, 0, 2] ⟨pre0, (by (try dsimp only); unfold reachR; (repeat (first | rw [if_pos (by omega)] | rw [if_neg (by omega)]))), (by (try dsimp only); unfold rchS; (repeat (first | rw [if_pos (by omega)] | rw [if_neg (by omega)])))⟩ hP hD (by decide +kernel) rfl hS rfl dX11_reach_17
theorem bn_cX11_tell_0 : BN cX11_tell 0 0x2b45e09050056a2b281840a2f2e82414015a8aca01c308bc120a00ad4569e0284814015a8ad5a4100adc98131582c02a10a8445e09050056a2b := by
  unfold BN; decide +kernel
theorem dX11_tell_0 : decode cX11_tell 0 = .ok (.aload_n 0, 1) := dR0 (k := 0) (i := 0) bn_cX11_tell_0 dop_42 (by decide +kernel)
theorem dX11_tell_1 : decode cX11_tell 1 = .ok (.getfield 9, 3) := dR2 (f := Instr.getfield) (k := 0) (i := 1) bn_cX11_tell_0 dop_180 9 (by decide +kernel)
theorem dX11_tell_4 : decode cX11_tell 4 = .ok (.iconst 5, 1) := dR0 (k := 0) (i := 4) bn_cX11_tell_0 dop_8 (by decide +kernel)
theorem dX11_tell_5 : decode cX11_tell 5 = .ok (.iaload, 1) := dR0 (k := 0) (i := 5) bn_cX11_tell_0 dop_46 (by decide +kernel)
theorem dX11_tell_6 : decode cX11_tell 6 = .ok (.bipush 20, 2) := dR1s (f := Instr.bipush) (k := 0) (i := 6) bn_cX11_tell_0 dop_16 20 20 (by decide +kernel)
theorem dX11_tell_8 : decode cX11_tell 8 = .ok (.if_icmp .ne 10, 3) := dR2s (f := Instr.if_icmp .ne) (k := 0) (i := 8) bn_cX11_tell_0 dop_160 10 10 (by decide +kernel)
theorem dX11_tell_11 : decode cX11_tell 11 = .ok (.aload_n 0, 1) := dR0 (k := 0) (i := 11) bn_cX11_tell_0 dop_42 (by decide +kernel)
theorem dX11_tell_12 : decode cX11_tell 12 = .ok (.ldc 75, 2) := dR1 (f := Instr.ldc) (k := 0) (i := 12) bn_cX11_tell_0 dop_18 75 (by decide +kernel)
theorem dX11_tell_14 : decode cX11_tell 14 = .ok (.invokevirtual 64, 3) := dR2 (f := Instr.invokevirtual) (k := 0) (i := 14) bn_cX11_tell_0 dop_182 64 (by decide +kernel)
theorem dX11_tell_17 : decode cX11_tell 17 = .ok (.ireturn, 1) := dR0 (k := 0) (i := 17) bn_cX11_tell_0 dop_172 (by decide +kernel)
theorem dX11_tell_18 : decode cX11_tell 18 = .ok (.aload_n 0, 1) := dR0 (k := 0) (i := 18) bn_cX11_tell_0 dop_42 (by decide +kernel)
theorem dX11_tell_19 : decode cX11_tell 19 = .ok (.getfield 9, 3) := dR2 (f := Instr.getfield) (k := 0) (i := 19) bn_cX11_tell_0 dop_180 9 (by decide +kernel)
theorem dX11_tell_22 : decode cX11_tell 22 = .ok (.sipush 1181, 3) := dR2s (f := Instr.sipush) (k := 0) (i := 22) bn_cX11_tell_0 dop_17 1181 1181 (by decide +kernel)
theorem dX11_tell_25 : decode cX11_tell 25 = .ok (.aload_n 0, 1) := dR0 (k := 0) (i := 25) bn_cX11_tell_0 dop_42 (by decide +kernel)
theorem dX11_tell_26 : decode cX11_tell 26 = .ok (.getfield 9, 3) := dR2 (f := Instr.getfield) (k := 0) (i := 26) bn_cX11_tell_0 dop_180 9 (by decide +kernel)
theorem dX11_tell_29 : decode cX11_tell 29 = .ok (.iconst 5, 1) := dR0 (k := 0) (i := 29) bn_cX11_tell_0 dop_8 (by decide +kernel)
theorem dX11_tell_30 : decode cX11_tell 30 = .ok (.iaload, 1) := dR0 (k := 0) (i := 30) bn_cX11_tell_0 dop_46 (by decide +kernel)
theorem dX11_tell_31 : decode cX11_tell 31 = .ok (.iadd, 1) := dR0 (k := 0) (i := 31) bn_cX11_tell_0 dop_96 (by decide +kernel)
theorem dX11_tell_32 : decode cX11_tell 32 = .ok (.iload_n 1, 1) := dR0 (k := 0) (i := 32) bn_cX11_tell_0 dop_27 (by decide +kernel)
theorem dX11_tell_33 : decode cX11_tell 33 = .ok (.iastore, 1) := dR0 (k := 0) (i := 33) bn_cX11_tell_0 dop_79 (by decide +kernel)
theorem dX11_tell_34 : decode cX11_tell 34 = .ok (.aload_n 0, 1) := dR0 (k := 0) (i := 34) bn_cX11_tell_0 dop_42 (by decide +kernel)
theorem dX11_tell_35 : decode cX11_tell 35 = .ok (.getfield 9, 3) := dR2 (f := Instr.getfield) (k := 0) (i := 35) bn_cX11_tell_0 dop_180 9 (by decide +kernel)
theorem dX11_tell_38 : decode cX11_tell 38 = .ok (.iconst 5, 1) := dR0 (k := 0) (i := 38) bn_cX11_tell_0 dop_8 (by decide +kernel)
theorem dX11_tell_39 : decode cX11_tell 39 = .ok (.dup2, 1) := dR0 (k := 0) (i := 39) bn_cX11_tell_0 dop_92 (by decide +kernel)
theorem dX11_tell_40 : decode cX11_tell 40 = .ok (.iaload, 1) := dR0 (k := 0) (i := 40) bn_cX11_tell_0 dop_46 (by decide +kernel)
theorem dX11_tell_41 : decode cX11_tell 41 = .ok (.iconst 1, 1) := dR0 (k := 0) (i := 41) bn_cX11_tell_0 dop_4 (by decide +kernel)
theorem dX11_tell_42 : decode cX11_tell 42 = .ok (.iadd, 1) := dR0 (k := 0) (i := 42) bn_cX11_tell_0 dop_96 (by decide +kernel)
theorem dX11_tell_43 : decode cX11_tell 43 = .ok (.iastore, 1) := dR0 (k := 0) (i := 43) bn_cX11_tell_0 dop_79 (by decide +kernel)
theorem dX11_tell_44 : decode cX11_tell 44 = .ok (.aload_n 0, 1) := dR0 (k := 0) (i := 44) bn_cX11_tell_0 dop_42 (by decide +kernel)
theorem dX11_tell_45 : decode cX11_tell 45 = .ok (.getfield 9, 3) := dR2 (f := Instr.getfield) (k := 0) (i := 45) bn_cX11_tell_0 dop_180 9 (by decide +kernel)
theorem dX11_tell_48 : decode cX11_tell 48 = .ok (.iconst 5, 1) := dR0 (k := 0) (i := 48) bn_cX11_tell_0 dop_8 (by decide +kernel)
theorem dX11_tell_49 : decode cX11_tell 49 = .ok (.iaload, 1) := dR0 (k := 0) (i := 49) bn_cX11_tell_0 dop_46 (by decide +kernel)
theorem dX11_tell_50 : decode cX11_tell 50 = .ok (.ireturn, 1) := dR0 (k := 0) (i := 50) bn_cX11_tell_0 dop_172 (by decide +kernel)
set_option maxHeartbeats 4000000 in
set_option maxRecDepth 100000 in
theorem c_X11_tellG (l : Launch) (D : va_G) (cI : ClassId) (aK aV : Nat → Nat) (k k0 k1 k2 k4 k5 k6 k7 k8 ka kb kl ko : Nat) (sz : Nat) (c3 : Int32) (c9 : Int32) (cc : Int32) (cd : Int32) (ce : Int32) (cf : Int32) (cg : Int32) (ch : Int32) (ci : Int32) (cj : Int32) (ck : Int32) (cm : Int32) (cn : Int32) (c0 : Nat → Int32) (c4 : Nat → Int32) (a0 : Int32) (pre0 : SIX c0 (-1)) : Met l yX11_tell (gW yX11_tell cX11_tell 2 (some .int)) ({ frames := 1, cells := 0, slots := 0, locals := 21 } : Room) (kPreX D cI aK aV [.ref k, .int a0] [(k, .inr (11, [.ref k0, .ref k1, .ref k2, .int c3, .ref k4, .ref k5, .ref k6, .ref k7, .ref k8, .int c9, .ref ka, .ref kb, .int cc, .int cd, .int ce, .int cf, .int cg, .int ch, .int ci, .int cj, .int ck, .ref kl, .int cm, .int cn, .ref ko])), (k0, .inl (cI, 1201, .inl c0)), (k4, .inl (cI, 6, .inl c4))] sz) (va_Qi (fun (r : Int32) (u : (Nat → Int32) × (Nat → Int32)) => SIX u.1 (-1) ∧ r.toInt = tellR (c0 5) ∧ u.1 = tllS c0 a0) (fun u t => kWd D cI (va_A [(k, .inr (11, [.ref k0, .ref k1, .ref k2, .int c3, .ref k4, .ref k5, .ref k6, .ref k7, .ref k8, .int c9, .ref ka, .ref kb, .int cc, .int cd, .int ce, .int cf, .int cg, .int ch, .int ci, .int cj, .int ck, .ref kl, .int cm, .int cn, .ref ko])), (k0, .inl (cI, 1201, .inl c0)), (k4, .inl (cI, 6, .inl c4))] sz) [(k, .inr (11, [.ref k0, .ref k1, .ref k2, .int c3, .ref k4, .ref k5, .ref k6, .ref k7, .ref k8, .int c9, .ref ka, .ref kb, .int cc, .int cd, .int ce, .int cf, .int cg, .int ch, .int ci, .int cj, .int ck, .ref kl, .int cm, .int cn, .ref ko])), (k0, .inl (cI, 1201, .inl u.1)), (k4, .inl (cI, 6, .inl u.2))] t) (va_A [(k, .inr (11, [.ref k0, .ref k1, .ref k2, .int c3, .ref k4, .ref k5, .ref k6, .ref k7, .ref k8, .int c9, .ref ka, .ref kb, .int cc, .int cd, .int ce, .int cf, .int cg, .int ch, .int ci, .int cj, .int ck, .ref kl, .int cm, .int cn, .ref ko])), (k0, .inl (cI, 1201, .inl c0)), (k4, .inl (cI, 6, .inl c4))] sz)) 0 0 (va_A [(k, .inr (11, [.ref k0, .ref k1, .ref k2, .int c3, .ref k4, .ref k5, .ref k6, .ref k7, .ref k8, .int c9, .ref ka, .ref kb, .int cc, .int cd, .int ce, .int cf, .int cg, .int ch, .int ci, .int cj, .int ck, .ref kl, .int cm, .int cn, .ref ko])), (k0, .inl (cI, 1201, .inl c0)), (k4, .inl (cI, 6, .inl c4))] sz) := by
  refine kMetIX (own := RX11) (by decide +kernel) rfl (Nat.le_of_ble_eq_true rfl) ?_
  intro p e s m args below meth c hx hb hT hown hname hml A Q hK hP hD hS hA hN hXS hRet ls hl
  have hl : lv_has ls 2 [(0, .ref k), (1, .int a0)] := hl
  have lo_ci := k_lo ci
  have hi_ci := k_hi ci
  have hn5 := SB.n5 (And.left pre0)
  have pre0 : SIX c0 (-1) := pre0
  have nb_1 : 0 ≤ (c0 0).toInt ∧ (c0 0).toInt ≤ 2000 := SB.n0 (And.left pre0)
  have nb_2 : 0 ≤ (c0 1).toInt ∧ (c0 1).toInt ≤ 60 := SB.n1 (And.left pre0)
  have nb_3 : 0 ≤ (c0 2).toInt ∧ (c0 2).toInt ≤ 4 := SB.n2 (And.left pre0)
  refine lv_aload_n hx hb dX11_tell_0 rfl (lv_at hl 0 rfl) ?_
  refine va_get (D := D) (ci := 11) (v := .ref k0) (C := RX11) (T := TX11) (N := 25) hx hb hT giX11 hown hK hP 0 rfl rfl 0 (by decide +kernel) (hT (Cond.fieldLink RX11 9 "DesertWireModel" "s" "[I") mw_1156) (fun _ h9 => h9) rfl dX11_tell_1 ?_
  refine lv_iconst (v := 5) hx hb dX11_tell_4 (by decide +kernel) ?_
  refine k_iald (v := (c0 5)) hx hb hK hP 1 0 rfl rfl (k_inl (by decide +kernel)) rfl dX11_tell_5 ?_
  refine lv_topi (fun v_4 ev_4 => ?_)
  have lo_v_4 := k_lo v_4
  have hi_v_4 := k_hi v_4
  have tv_4 : v_4.toInt = (c0 5).toInt := by rw [ev_4]
  have b_5 : 0 ≤ v_4.toInt ∧ v_4.toInt ≤ 20 := by first | (rw [tv_4]; exact SB.n5 (And.left pre0)) | exact SB.n5 (And.left pre0) | omega
  refine lv_bipush (v := 20) hx hb dX11_tell_6 (by decide +kernel) ?_
  refine b_icmp_ne hx hb rfl zl_20 (tgt := 18) dX11_tell_8 (by decide +kernel) (fun c_6 => ?_) (fun c_6 => ?_)
  · refine lv_aload_n hx hb dX11_tell_18 rfl (lv_at hl 0 rfl) ?_
    refine va_get (D := D) (ci := 11) (v := .ref k0) (C := RX11) (T := TX11) (N := 25) hx hb hT giX11 hown hK hP 0 rfl rfl 0 (by decide +kernel) (hT (Cond.fieldLink RX11 9 "DesertWireModel" "s" "[I") mw_1156) (fun _ h9 => h9) rfl dX11_tell_19 ?_
    refine lv_sipush (v := 1181) hx hb dX11_tell_22 (by decide +kernel) ?_
    refine lv_aload_n hx hb dX11_tell_25 rfl (lv_at hl 0 rfl) ?_
    refine va_get (D := D) (ci := 11) (v := .ref k0) (C := RX11) (T := TX11) (N := 25) hx hb hT giX11 hown hK hP 0 rfl rfl 0 (by decide +kernel) (hT (Cond.fieldLink RX11 9 "DesertWireModel" "s" "[I") mw_1156) (fun _ h9 => h9) rfl dX11_tell_26 ?_
    refine lv_iconst (v := 5) hx hb dX11_tell_29 (by decide +kernel) ?_
    refine k_iald (v := (c0 5)) hx hb hK hP 1 0 rfl rfl (k_inl (by decide +kernel)) rfl dX11_tell_30 ?_
    refine lv_topi (fun v_7 ev_7 => ?_)
    have lo_v_7 := k_lo v_7
    have hi_v_7 := k_hi v_7
    have tv_7 : v_7.toInt = (c0 5).toInt := by rw [ev_7]
    have b_8 : 0 ≤ v_7.toInt ∧ v_7.toInt ≤ 20 := by first | (rw [tv_7]; exact SB.n5 (And.left pre0)) | exact SB.n5 (And.left pre0) | omega
    refine lv_iadd hx hb dX11_tell_31 ?_
    refine lv_topi (fun v_9 ev_9 => ?_)
    have tv_9 : v_9.toInt = 1181 + v_7.toInt := by rw [ev_9]; exact k_addv zl_1181 rfl (by omega) (by omega)
    refine lv_iload_n hx hb dX11_tell_32 rfl (lv_at hl 1 rfl) ?_
    refine va_iast hx hb hK hP hD hS 1 0 rfl rfl (k_in (by omega) (by omega)) dX11_tell_33 ?_
    clear hP hD hS
    intro H locs hP hD hS
    replace hP : va_P D vwCl [(k, .inr (11, [.ref k0, .ref k1, .ref k2, .int c3, .ref k4, .ref k5, .ref k6, .ref k7, .ref k8, .int c9, .ref ka, .ref kb, .int cc, .int cd, .int ce, .int cf, .int cg, .int ch, .int ci, .int cj, .int ck, .ref kl, .int cm, .int cn, .ref ko])), (k0, .inl (cI, 1201, .inl (upd c0 v_9.toNatClampNeg a0))), (k4, .inl (cI, 6, .inl c4))] H := hP
    replace hD : va_D A [(k, .inr (11, [.ref k0, .ref k1, .ref k2, .int c3, .ref k4, .ref k5, .ref k6, .ref k7, .ref k8, .int c9, .ref ka, .ref kb, .int cc, .int cd, .int ce, .int cf, .int cg, .int ch, .int ci, .int cj, .int ck, .ref kl, .int cm, .int cn, .ref ko])), (k0, .inl (cI, 1201, .inl (upd c0 v_9.toNatClampNeg a0))), (k4, .inl (cI, 6, .inl c4))] := hD
    obtain ⟨f_10, ef_10⟩ : ∃ g : Nat → Int32, g = upd c0 v_9.toNatClampNeg a0 := ⟨_, rfl⟩
    rw [← ef_10] at hP hD
    have hS_11 : SIX f_10 (-1) := by first | exact SIX.free pre0 ef_10 (by rw [k_clamp]; omega) | exact SIX.so pre0 ef_10 (by rw [k_clamp]; omega) (by omega)
    have n_12 : (f_10 0).toInt = (c0 0).toInt := by rw [updN ef_10 (by rw [k_clamp]; omega)]
    have n_13 : (f_10 1).toInt = (c0 1).toInt := by rw [updN ef_10 (by rw [k_clamp]; omega)]
    have n_14 : (f_10 2).toInt = (c0 2).toInt := by rw [updN ef_10 (by rw [k_clamp]; omega)]
    refine lv_aload_n hx hb dX11_tell_34 rfl (lv_at hl 0 rfl) ?_
    refine va_get (D := D) (ci := 11) (v := .ref k0) (C := RX11) (T := TX11) (N := 25) hx hb hT giX11 hown hK hP 0 rfl rfl 0 (by decide +kernel) (hT (Cond.fieldLink RX11 9 "DesertWireModel" "s" "[I") mw_1156) (fun _ h9 => h9) rfl dX11_tell_35 ?_
    refine lv_iconst (v := 5) hx hb dX11_tell_38 (by decide +kernel) ?_
    refine lv_dup2_11 hx hb dX11_tell_39 rfl rfl ?_
    refine k_iald (v := (c0 5)) hx hb hK hP 1 0 rfl rfl (k_inl (by decide +kernel)) (show f_10 5 = (c0 5) from (by rw [ef_10, pk_un (by rw [k_clamp]; omega)] <;> exact (show c0 5 = (c0 5) from rfl))) dX11_tell_40 ?_
    refine lv_topi (fun v_15 ev_15 => ?_)
    have lo_v_15 := k_lo v_15
    have hi_v_15 := k_hi v_15
    have tv_15 : v_15.toInt = (c0 5).toInt := by rw [ev_15]
    have b_16 : 0 ≤ v_15.toInt ∧ v_15.toInt ≤ 20 := by first | (rw [tv_15]; exact SB.n5 (And.left hS_11)) | exact SB.n5 (And.left hS_11) | omega
    refine lv_iconst (v := 1) hx hb dX11_tell_41 (by decide +kernel) ?_
    refine lv_iadd hx hb dX11_tell_42 ?_
    refine lv_topi (fun v_17 ev_17 => ?_)
    have tv_17 : v_17.toInt = v_15.toInt + 1 := by rw [ev_17]; exact k_addv rfl zl_1 (by omega) (by omega)
    refine va_iast hx hb hK hP hD hS 1 0 rfl rfl (k_inl (by decide +kernel)) dX11_tell_43 ?_
    clear hP hD hS
    intro H locs hP hD hS
    replace hP : va_P D vwCl [(k, .inr (11, [.ref k0, .ref k1, .ref k2, .int c3, .ref k4, .ref k5, .ref k6, .ref k7, .ref k8, .int c9, .ref ka, .ref kb, .int cc, .int cd, .int ce, .int cf, .int cg, .int ch, .int ci, .int cj, .int ck, .ref kl, .int cm, .int cn, .ref ko])), (k0, .inl (cI, 1201, .inl (upd f_10 5 v_17))), (k4, .inl (cI, 6, .inl c4))] H := hP
    replace hD : va_D A [(k, .inr (11, [.ref k0, .ref k1, .ref k2, .int c3, .ref k4, .ref k5, .ref k6, .ref k7, .ref k8, .int c9, .ref ka, .ref kb, .int cc, .int cd, .int ce, .int cf, .int cg, .int ch, .int ci, .int cj, .int ck, .ref kl, .int cm, .int cn, .ref ko])), (k0, .inl (cI, 1201, .inl (upd f_10 5 v_17))), (k4, .inl (cI, 6, .inl c4))] := hD
    obtain ⟨f_18, ef_18⟩ : ∃ g : Nat → Int32, g = upd f_10 5 v_17 := ⟨_, rfl⟩
    rw [← ef_18] at hP hD
    have hS_19 : SIX f_18 (-1) := SIX.n hS_11 ef_18 rfl (by decide +kernel) (by decide +kernel) (by omega)
    have n_20 : (f_18 0).toInt = (f_10 0).toInt := by rw [updN ef_18 (by omega)]
    have n_21 : (f_18 1).toInt = (f_10 1).toInt := by rw [updN ef_18 (by omega)]
    have n_22 : (f_18 2).toInt = (f_10 2).toInt := by rw [updN ef_18 (by omega)]
    refine lv_aload_n hx hb dX11_tell_44 rfl (lv_at hl 0 rfl) ?_
    refine va_get (D := D) (ci := 11) (v := .ref k0) (C := RX11) (T := TX11) (N := 25) hx hb hT giX11 hown hK hP 0 rfl rfl 0 (by decide +kernel) (hT (Cond.fieldLink RX11 9 "DesertWireModel" "s" "[I") mw_1156) (fun _ h9 => h9) rfl dX11_tell_45 ?_
    refine lv_iconst (v := 5) hx hb dX11_tell_48 (by decide +kernel) ?_
    refine k_iald (v := v_17) hx hb hK hP 1 0 rfl rfl (k_inl (by decide +kernel)) (by rw [ef_18]; rfl) dX11_tell_49 ?_
    have b_23 : 0 ≤ v_17.toInt ∧ v_17.toInt ≤ 20 := by first | (rw [tv_17]; exact SB.n5 (And.left hS_19)) | exact SB.n5 (And.left hS_19) | omega
    exact hRet (f_18, c4) [0, 1, 2] ⟨hS_19, (by (try dsimp only); unfold tellR; (repeat (first | rw [if_pos (by omega)] | rw [if_neg (by omega)])); first | done | exact (by omega)), (by (try dsimp only); unfold tllS; (repeat (first | rw [if_pos (by omega)] | rw [if_neg (by omega)])); first | done | exact (by rw [ef_18, up_in (k := 1181 + (c0 5).toInt.toNat) ef_10 (by omega), ev_17, ev_15]))⟩ hP hD (by decide +kernel) rfl hS rfl dX11_tell_50
  · refine lv_aload_n hx hb dX11_tell_11 rfl (lv_at hl 0 rfl) ?_
    refine lv_ldc (v := (-1000004)) hx hb hown (hT _ mw_1256) dX11_tell_12 ?_
    refine kJi (wr := [(k0, .inl (cI, 1201, .inl c0))]) (va_runV (As := [.int (-1000004)]) (rest := []) ⟨hx, hb, hml, hown, hT⟩ (c_X11_findingG l D cI aK aV k k0 k1 k2 k4 k5 k6 k7 k8 ka kb kl ko s.heap.size c3 c9 cc cd ce cf cg ch ci cj ck cm cn c4 (-1000004) (by first | omega | (simp only [zl_m1000004]; first | done | omega) | decide | assumption | rfl) (by first | omega | (simp only [zl_m1000004]; first | done | omega) | decide | assumption | rfl)) (cwV 1 hT (gV_in mw_1243 mw_1240 mw_1242 mw_p3_8 mw_12) rfl rfl rfl (by decide +kernel) ⟨Nat.le_of_ble_eq_true rfl, Nat.le_of_ble_eq_true rfl⟩) (kRecvX (q0 := 0) (ci := 11) hK hP hD hN hXS hS hA rfl rfl [0, 2] rfl (by decide +kernel)) rfl rfl hl.1 rfl (lv_room (Nat.le_of_ble_eq_true rfl)) dX11_tell_14 ⟨Nat.le_of_ble_eq_true rfl, Nat.le_of_ble_eq_true rfl⟩) hP hD hS hA [0, 2] [1] rfl rfl (by decide +kernel) (by decide +kernel) ?_
    clear hP hD hS
    intro r_24 sc4_26 H locs w_25 hP hD hS
    replace hP : va_P D vwCl [(k0, .inl (cI, 1201, .inl c0)), (k, .inr (11, [.ref k0, .ref k1, .ref k2, .int c3, .ref k4, .ref k5, .ref k6, .ref k7, .ref k8, .int c9, .ref ka, .ref kb, .int cc, .int cd, .int ce, .int cf, .int cg, .int ch, .int ci, .int cj, .int ck, .ref kl, .int cm, .int cn, .ref ko])), (k4, .inl (cI, 6, .inl sc4_26))] H := hP
    replace hD : va_D A [(k0, .inl (cI, 1201, .inl c0)), (k, .inr (11, [.ref k0, .ref k1, .ref k2, .int c3, .ref k4, .ref k5, .ref k6, .ref k7, .ref k8, .int c9, .ref ka, .ref kb, .int cc, .int cd, .int ce, .int cf, .int cg, .int ch, .int ci, .int cj, .int ck, .ref kl, .int cm, .int cn, .ref ko])), (k4, .inl (cI, 6, .inl sc4_26))] := hD
    have hr_24 := w_25
    obtain rfl : r_24 = (-1000004) := hr_24.trans (by decide +kernel)
    exact hRet (c0, sc4_26) [1, 0, 2] ⟨pre0, (by (try dsimp only); rw [zl_m1000004]; unfold tellR; (repeat (first | rw [if_pos (by omega)] | rw [if_neg (by omega)])); first | done | exact (by omega)), (by (try dsimp only); unfold tllS; (repeat (first | rw [if_pos (by omega)] | rw [if_neg (by omega)])))⟩ hP hD (by decide +kernel) rfl hS rfl dX11_tell_17
theorem bn_cX11_comes_0 : BN cX11_comes 0 0x15a060b12002b7020240c161592002b7020200c161592002b7028580e060b0ac90015b8780c060b0ac90015b8740a060b0ac90015b87008060b0aca061028bcba05050056a2b030dc5e05050056a2b := by
  unfold BN; decide +kernel
theorem dX11_comes_0 : decode cX11_comes 0 = .ok (.aload_n 0, 1) := dR0 (k := 0) (i := 0) bn_cX11_comes_0 dop_42 (by decide +kernel)
theorem dX11_comes_1 : decode cX11_comes 1 = .ok (.getfield 9, 3) := dR2 (f := Instr.getfield) (k := 0) (i := 1) bn_cX11_comes_0 dop_180 9 (by decide +kernel)
theorem dX11_comes_4 : decode cX11_comes 4 = .ok (.iconst 1, 1) := dR0 (k := 0) (i := 4) bn_cX11_comes_0 dop_4 (by decide +kernel)
theorem dX11_comes_5 : decode cX11_comes 5 = .ok (.iaload, 1) := dR0 (k := 0) (i := 5) bn_cX11_comes_0 dop_46 (by decide +kernel)
theorem dX11_comes_6 : decode cX11_comes 6 = .ok (.istore 5, 2) := dR1 (f := Instr.istore) (k := 0) (i := 6) bn_cX11_comes_0 dop_54 5 (by decide +kernel)
theorem dX11_comes_8 : decode cX11_comes 8 = .ok (.aload_n 0, 1) := dR0 (k := 0) (i := 8) bn_cX11_comes_0 dop_42 (by decide +kernel)
theorem dX11_comes_9 : decode cX11_comes 9 = .ok (.getfield 9, 3) := dR2 (f := Instr.getfield) (k := 0) (i := 9) bn_cX11_comes_0 dop_180 9 (by decide +kernel)
theorem dX11_comes_12 : decode cX11_comes 12 = .ok (.iconst 1, 1) := dR0 (k := 0) (i := 12) bn_cX11_comes_0 dop_4 (by decide +kernel)
theorem dX11_comes_13 : decode cX11_comes 13 = .ok (.dup2, 1) := dR0 (k := 0) (i := 13) bn_cX11_comes_0 dop_92 (by decide +kernel)
theorem dX11_comes_14 : decode cX11_comes 14 = .ok (.iaload, 1) := dR0 (k := 0) (i := 14) bn_cX11_comes_0 dop_46 (by decide +kernel)
theorem dX11_comes_15 : decode cX11_comes 15 = .ok (.iconst 1, 1) := dR0 (k := 0) (i := 15) bn_cX11_comes_0 dop_4 (by decide +kernel)
theorem dX11_comes_16 : decode cX11_comes 16 = .ok (.iadd, 1) := dR0 (k := 0) (i := 16) bn_cX11_comes_0 dop_96 (by decide +kernel)
theorem dX11_comes_17 : decode cX11_comes 17 = .ok (.iastore, 1) := dR0 (k := 0) (i := 17) bn_cX11_comes_0 dop_79 (by decide +kernel)
theorem dX11_comes_18 : decode cX11_comes 18 = .ok (.aload_n 0, 1) := dR0 (k := 0) (i := 18) bn_cX11_comes_0 dop_42 (by decide +kernel)
theorem dX11_comes_19 : decode cX11_comes 19 = .ok (.iload 5, 2) := dR1 (f := Instr.iload) (k := 0) (i := 19) bn_cX11_comes_0 dop_21 5 (by decide +kernel)
theorem dX11_comes_21 : decode cX11_comes 21 = .ok (.iconst 0, 1) := dR0 (k := 0) (i := 21) bn_cX11_comes_0 dop_3 (by decide +kernel)
theorem dX11_comes_22 : decode cX11_comes 22 = .ok (.iload_n 1, 1) := dR0 (k := 0) (i := 22) bn_cX11_comes_0 dop_27 (by decide +kernel)
theorem dX11_comes_23 : decode cX11_comes 23 = .ok (.invokevirtual 71, 3) := dR2 (f := Instr.invokevirtual) (k := 0) (i := 23) bn_cX11_comes_0 dop_182 71 (by decide +kernel)
theorem dX11_comes_26 : decode cX11_comes 26 = .ok (.aload_n 0, 1) := dR0 (k := 0) (i := 26) bn_cX11_comes_0 dop_42 (by decide +kernel)
theorem dX11_comes_27 : decode cX11_comes 27 = .ok (.iload 5, 2) := dR1 (f := Instr.iload) (k := 0) (i := 27) bn_cX11_comes_0 dop_21 5 (by decide +kernel)
theorem dX11_comes_29 : decode cX11_comes 29 = .ok (.iconst 1, 1) := dR0 (k := 0) (i := 29) bn_cX11_comes_0 dop_4 (by decide +kernel)
theorem dX11_comes_30 : decode cX11_comes 30 = .ok (.iload_n 2, 1) := dR0 (k := 0) (i := 30) bn_cX11_comes_0 dop_28 (by decide +kernel)
theorem dX11_comes_31 : decode cX11_comes 31 = .ok (.invokevirtual 71, 3) := dR2 (f := Instr.invokevirtual) (k := 0) (i := 31) bn_cX11_comes_0 dop_182 71 (by decide +kernel)
theorem dX11_comes_34 : decode cX11_comes 34 = .ok (.aload_n 0, 1) := dR0 (k := 0) (i := 34) bn_cX11_comes_0 dop_42 (by decide +kernel)
theorem dX11_comes_35 : decode cX11_comes 35 = .ok (.iload 5, 2) := dR1 (f := Instr.iload) (k := 0) (i := 35) bn_cX11_comes_0 dop_21 5 (by decide +kernel)
theorem dX11_comes_37 : decode cX11_comes 37 = .ok (.iconst 2, 1) := dR0 (k := 0) (i := 37) bn_cX11_comes_0 dop_5 (by decide +kernel)
theorem dX11_comes_38 : decode cX11_comes 38 = .ok (.iload_n 3, 1) := dR0 (k := 0) (i := 38) bn_cX11_comes_0 dop_29 (by decide +kernel)
theorem dX11_comes_39 : decode cX11_comes 39 = .ok (.invokevirtual 71, 3) := dR2 (f := Instr.invokevirtual) (k := 0) (i := 39) bn_cX11_comes_0 dop_182 71 (by decide +kernel)
theorem dX11_comes_42 : decode cX11_comes 42 = .ok (.aload_n 0, 1) := dR0 (k := 0) (i := 42) bn_cX11_comes_0 dop_42 (by decide +kernel)
theorem dX11_comes_43 : decode cX11_comes 43 = .ok (.iload 5, 2) := dR1 (f := Instr.iload) (k := 0) (i := 43) bn_cX11_comes_0 dop_21 5 (by decide +kernel)
theorem dX11_comes_45 : decode cX11_comes 45 = .ok (.iconst 3, 1) := dR0 (k := 0) (i := 45) bn_cX11_comes_0 dop_6 (by decide +kernel)
theorem dX11_comes_46 : decode cX11_comes 46 = .ok (.iload 4, 2) := dR1 (f := Instr.iload) (k := 0) (i := 46) bn_cX11_comes_0 dop_21 4 (by decide +kernel)
theorem dX11_comes_48 : decode cX11_comes 48 = .ok (.invokevirtual 71, 3) := dR2 (f := Instr.invokevirtual) (k := 0) (i := 48) bn_cX11_comes_0 dop_182 71 (by decide +kernel)
theorem dX11_comes_51 : decode cX11_comes 51 = .ok (.aload_n 0, 1) := dR0 (k := 0) (i := 51) bn_cX11_comes_0 dop_42 (by decide +kernel)
theorem dX11_comes_52 : decode cX11_comes 52 = .ok (.iload 5, 2) := dR1 (f := Instr.iload) (k := 0) (i := 52) bn_cX11_comes_0 dop_21 5 (by decide +kernel)
theorem dX11_comes_54 : decode cX11_comes 54 = .ok (.iconst 4, 1) := dR0 (k := 0) (i := 54) bn_cX11_comes_0 dop_7 (by decide +kernel)
theorem dX11_comes_55 : decode cX11_comes 55 = .ok (.iconst 0, 1) := dR0 (k := 0) (i := 55) bn_cX11_comes_0 dop_3 (by decide +kernel)
theorem dX11_comes_56 : decode cX11_comes 56 = .ok (.invokevirtual 71, 3) := dR2 (f := Instr.invokevirtual) (k := 0) (i := 56) bn_cX11_comes_0 dop_182 71 (by decide +kernel)
theorem dX11_comes_59 : decode cX11_comes 59 = .ok (.aload_n 0, 1) := dR0 (k := 0) (i := 59) bn_cX11_comes_0 dop_42 (by decide +kernel)
theorem dX11_comes_60 : decode cX11_comes 60 = .ok (.iload 5, 2) := dR1 (f := Instr.iload) (k := 0) (i := 60) bn_cX11_comes_0 dop_21 5 (by decide +kernel)
theorem dX11_comes_62 : decode cX11_comes 62 = .ok (.iconst 5, 1) := dR0 (k := 0) (i := 62) bn_cX11_comes_0 dop_8 (by decide +kernel)
theorem dX11_comes_63 : decode cX11_comes 63 = .ok (.iconst 0, 1) := dR0 (k := 0) (i := 63) bn_cX11_comes_0 dop_3 (by decide +kernel)
theorem dX11_comes_64 : decode cX11_comes 64 = .ok (.invokevirtual 71, 3) := dR2 (f := Instr.invokevirtual) (k := 0) (i := 64) bn_cX11_comes_0 dop_182 71 (by decide +kernel)
theorem dX11_comes_67 : decode cX11_comes 67 = .ok (.iload 5, 2) := dR1 (f := Instr.iload) (k := 0) (i := 67) bn_cX11_comes_0 dop_21 5 (by decide +kernel)
theorem dX11_comes_69 : decode cX11_comes 69 = .ok (.ireturn, 1) := dR0 (k := 0) (i := 69) bn_cX11_comes_0 dop_172 (by decide +kernel)
set_option maxHeartbeats 4000000 in
set_option maxRecDepth 100000 in
theorem c_X11_comesG (l : Launch) (D : va_G) (cI : ClassId) (aK aV : Nat → Nat) (k k0 k1 k2 k4 k5 k6 k7 k8 ka kb kl ko : Nat) (sz : Nat) (c3 : Int32) (c9 : Int32) (cc : Int32) (cd : Int32) (ce : Int32) (cf : Int32) (cg : Int32) (ch : Int32) (ci : Int32) (cj : Int32) (ck : Int32) (cm : Int32) (cn : Int32) (c0 : Nat → Int32) (a0 : Int32) (a1 : Int32) (a2 : Int32) (a3 : Int32) (pre0 : SIX c0 (-1)) (pre1 : (c0 1).toInt ≤ 59) (pre2 : 0 ≤ a0.toInt) (pre3 : a0.toInt ≤ 5) (pre4 : 0 ≤ a1.toInt) (pre5 : a1.toInt ≤ 39) (pre6 : 0 ≤ a3.toInt) (pre7 : a3.toInt ≤ 2001) : Met l yX11_comes (gW yX11_comes cX11_comes 6 (some .int)) ({ frames := 1, cells := 0, slots := 0, locals := 23 } : Room) (kPreX D cI aK aV [.ref k, .int a0, .int a1, .int a2, .int a3] [(k, .inr (11, [.ref k0, .ref k1, .ref k2, .int c3, .ref k4, .ref k5, .ref k6, .ref k7, .ref k8, .int c9, .ref ka, .ref kb, .int cc, .int cd, .int ce, .int cf, .int cg, .int ch, .int ci, .int cj, .int ck, .ref kl, .int cm, .int cn, .ref ko])), (k0, .inl (cI, 1201, .inl c0))] sz) (va_Qi (fun (r : Int32) (u : (Nat → Int32)) => SIX u (-1) ∧ (u 0).toInt = (c0 0).toInt ∧ (u 2).toInt = (c0 2).toInt ∧ (u 1).toInt = (c0 1).toInt + 1 ∧ 0 ≤ r.toInt ∧ r.toInt ≤ 59 ∧ r = c0 1 ∧ u = comS c0 a0 a1 a2 a3) (fun u t => kWd D cI (va_A [(k, .inr (11, [.ref k0, .ref k1, .ref k2, .int c3, .ref k4, .ref k5, .ref k6, .ref k7, .ref k8, .int c9, .ref ka, .ref kb, .int cc, .int cd, .int ce, .int cf, .int cg, .int ch, .int ci, .int cj, .int ck, .ref kl, .int cm, .int cn, .ref ko])), (k0, .inl (cI, 1201, .inl c0))] sz) [(k, .inr (11, [.ref k0, .ref k1, .ref k2, .int c3, .ref k4, .ref k5, .ref k6, .ref k7, .ref k8, .int c9, .ref ka, .ref kb, .int cc, .int cd, .int ce, .int cf, .int cg, .int ch, .int ci, .int cj, .int ck, .ref kl, .int cm, .int cn, .ref ko])), (k0, .inl (cI, 1201, .inl u))] t) (va_A [(k, .inr (11, [.ref k0, .ref k1, .ref k2, .int c3, .ref k4, .ref k5, .ref k6, .ref k7, .ref k8, .int c9, .ref ka, .ref kb, .int cc, .int cd, .int ce, .int cf, .int cg, .int ch, .int ci, .int cj, .int ck, .ref kl, .int cm, .int cn, .ref ko])), (k0, .inl (cI, 1201, .inl c0))] sz)) 0 0 (va_A [(k, .inr (11, [.ref k0, .ref k1, .ref k2, .int c3, .ref k4, .ref k5, .ref k6, .ref k7, .ref k8, .int c9, .ref ka, .ref kb, .int cc, .int cd, .int ce, .int cf, .int cg, .int ch, .int ci, .int cj, .int ck, .ref kl, .int cm, .int cn, .ref ko])), (k0, .inl (cI, 1201, .inl c0))] sz) := by
  refine kMetIX (own := RX11) (by decide +kernel) rfl (Nat.le_of_ble_eq_true rfl) ?_
  intro p e s m args below meth c hx hb hT hown hname hml A Q hK hP hD hS hA hN hXS hRet ls hl
  have hl : lv_has ls 6 [(0, .ref k), (1, .int a0), (2, .int a1), (3, .int a2), (4, .int a3)] := hl
  have lo_a0 := k_lo a0
  have hi_a0 := k_hi a0
  have lo_a1 := k_lo a1
  have hi_a1 := k_hi a1
  have lo_a2 := k_lo a2
  have hi_a2 := k_hi a2
  have lo_a3 := k_lo a3
  have hi_a3 := k_hi a3
  have lo_ci := k_lo ci
  have hi_ci := k_hi ci
  have pre0 : SIX c0 (-1) := pre0
  have nb_1 : 0 ≤ (c0 0).toInt ∧ (c0 0).toInt ≤ 2000 := SB.n0 (And.left pre0)
  have nb_2 : 0 ≤ (c0 1).toInt ∧ (c0 1).toInt ≤ 60 := SB.n1 (And.left pre0)
  have nb_3 : 0 ≤ (c0 2).toInt ∧ (c0 2).toInt ≤ 4 := SB.n2 (And.left pre0)
  refine lv_aload_n hx hb dX11_comes_0 rfl (lv_at hl 0 rfl) ?_
  refine va_get (D := D) (ci := 11) (v := .ref k0) (C := RX11) (T := TX11) (N := 25) hx hb hT giX11 hown hK hP 0 rfl rfl 0 (by decide +kernel) (hT (Cond.fieldLink RX11 9 "DesertWireModel" "s" "[I") mw_1156) (fun _ h9 => h9) rfl dX11_comes_1 ?_
  refine lv_iconst (v := 1) hx hb dX11_comes_4 (by decide +kernel) ?_
  refine k_iald (v := (c0 1)) hx hb hK hP 1 0 rfl rfl (k_inl (by decide +kernel)) rfl dX11_comes_5 ?_
  refine lv_topi (fun v_4 ev_4 => ?_)
  have lo_v_4 := k_lo v_4
  have hi_v_4 := k_hi v_4
  have tv_4 : v_4.toInt = (c0 1).toInt := by rw [ev_4]
  have b_5 : 0 ≤ v_4.toInt ∧ v_4.toInt ≤ 60 := by first | (rw [tv_4]; exact SB.n1 (And.left pre0)) | exact SB.n1 (And.left pre0) | omega
  refine lv_istore (lv' := [(5, .int v_4), (0, .ref k), (1, .int a0), (2, .int a1), (3, .int a2), (4, .int a3)]) hx hb dX11_comes_6 hl (by decide +kernel) rfl ?_
  clear hl
  intro ls hl
  refine lv_aload_n hx hb dX11_comes_8 rfl (lv_at hl 1 rfl) ?_
  refine va_get (D := D) (ci := 11) (v := .ref k0) (C := RX11) (T := TX11) (N := 25) hx hb hT giX11 hown hK hP 0 rfl rfl 0 (by decide +kernel) (hT (Cond.fieldLink RX11 9 "DesertWireModel" "s" "[I") mw_1156) (fun _ h9 => h9) rfl dX11_comes_9 ?_
  refine lv_iconst (v := 1) hx hb dX11_comes_12 (by decide +kernel) ?_
  refine lv_dup2_11 hx hb dX11_comes_13 rfl rfl ?_
  refine k_iald (v := (c0 1)) hx hb hK hP 1 0 rfl rfl (k_inl (by decide +kernel)) rfl dX11_comes_14 ?_
  refine lv_topi (fun v_6 ev_6 => ?_)
  have lo_v_6 := k_lo v_6
  have hi_v_6 := k_hi v_6
  have tv_6 : v_6.toInt = (c0 1).toInt := by rw [ev_6]
  have b_7 : 0 ≤ v_6.toInt ∧ v_6.toInt ≤ 60 := by first | (rw [tv_6]; exact SB.n1 (And.left pre0)) | exact SB.n1 (And.left pre0) | omega
  refine lv_iconst (v := 1) hx hb dX11_comes_15 (by decide +kernel) ?_
  refine lv_iadd hx hb dX11_comes_16 ?_
  refine lv_topi (fun v_8 ev_8 => ?_)
  have tv_8 : v_8.toInt = v_6.toInt + 1 := by rw [ev_8]; exact k_addv rfl zl_1 (by omega) (by omega)
  refine va_iast hx hb hK hP hD hS 1 0 rfl rfl (k_inl (by decide +kernel)) dX11_comes_17 ?_
  clear hP hD hS
  intro H locs hP hD hS
  replace hP : va_P D vwCl [(k, .inr (11, [.ref k0, .ref k1, .ref k2, .int c3, .ref k4, .ref k5, .ref k6, .ref k7, .ref k8, .int c9, .ref ka, .ref kb, .int cc, .int cd, .int ce, .int cf, .int cg, .int ch, .int ci, .int cj, .int ck, .ref kl, .int cm, .int cn, .ref ko])), (k0, .inl (cI, 1201, .inl (upd c0 1 v_8)))] H := hP
  replace hD : va_D A [(k, .inr (11, [.ref k0, .ref k1, .ref k2, .int c3, .ref k4, .ref k5, .ref k6, .ref k7, .ref k8, .int c9, .ref ka, .ref kb, .int cc, .int cd, .int ce, .int cf, .int cg, .int ch, .int ci, .int cj, .int ck, .ref kl, .int cm, .int cn, .ref ko])), (k0, .inl (cI, 1201, .inl (upd c0 1 v_8)))] := hD
  obtain ⟨f_9, ef_9⟩ : ∃ g : Nat → Int32, g = upd c0 1 v_8 := ⟨_, rfl⟩
  rw [← ef_9] at hP hD
  have hS_10 : SIX f_9 (-1) := SIX.n pre0 ef_9 rfl (by decide +kernel) (by decide +kernel) (by omega)
  have n_11 : (f_9 0).toInt = (c0 0).toInt := by rw [updN ef_9 (by omega)]
  have n_12 : (f_9 1).toInt = v_8.toInt := by rw [ef_9, upd_at]
  have n_13 : (f_9 2).toInt = (c0 2).toInt := by rw [updN ef_9 (by omega)]
  refine lv_aload_n hx hb dX11_comes_18 rfl (lv_at hl 1 rfl) ?_
  refine lv_iload hx hb dX11_comes_19 (lv_at hl 0 rfl) ?_
  refine lv_iconst (v := 0) hx hb dX11_comes_21 (by decide +kernel) ?_
  refine lv_iload_n hx hb dX11_comes_22 rfl (lv_at hl 2 rfl) ?_
  refine kJv (wr := []) (va_runV (As := [.int v_4, .int 0, .int a0]) (rest := []) ⟨hx, hb, hml, hown, hT⟩ (c_X11_setWorkG0 l D cI aK aV k k0 k1 k2 k4 k5 k6 k7 k8 ka kb kl ko H.size c3 c9 cc cd ce cf cg ch ci cj ck cm cn f_9 v_4 0 a0 (by first | omega | (simp only [zl_0]; first | done | omega) | decide | assumption | rfl) (by first | omega | (simp only [zl_0]; first | done | omega) | decide | assumption | rfl) (by first | omega | (simp only [zl_0]; first | done | omega) | decide | assumption | rfl)) (cwV 3 hT (gV_in mw_1264 mw_1261 mw_1263 mw_p3_10 mw_12) rfl rfl rfl (by decide +kernel) ⟨Nat.le_of_ble_eq_true rfl, Nat.le_of_ble_eq_true rfl⟩) (kRecvX (q0 := 0) (ci := 11) hK hP hD hN hXS hS hA rfl rfl [0, 1] rfl (by decide +kernel)) rfl rfl hl.1 rfl (lv_room (Nat.le_of_ble_eq_true rfl)) dX11_comes_23 ⟨Nat.le_of_ble_eq_true rfl, Nat.le_of_ble_eq_true rfl⟩) hP hD hS hA [0, 1] [] rfl rfl (by decide +kernel) (by decide +kernel) ?_
  clear hP hD hS
  intro sc0_16 H locs w_15 hP hD hS
  replace hP : va_P D vwCl [(k, .inr (11, [.ref k0, .ref k1, .ref k2, .int c3, .ref k4, .ref k5, .ref k6, .ref k7, .ref k8, .int c9, .ref ka, .ref kb, .int cc, .int cd, .int ce, .int cf, .int cg, .int ch, .int ci, .int cj, .int ck, .ref kl, .int cm, .int cn, .ref ko])), (k0, .inl (cI, 1201, .inl sc0_16))] H := hP
  replace hD : va_D A [(k, .inr (11, [.ref k0, .ref k1, .ref k2, .int c3, .ref k4, .ref k5, .ref k6, .ref k7, .ref k8, .int c9, .ref ka, .ref kb, .int cc, .int cd, .int ce, .int cf, .int cg, .int ch, .int ci, .int cj, .int ck, .ref kl, .int cm, .int cn, .ref ko])), (k0, .inl (cI, 1201, .inl sc0_16))] := hD
  have h_17 := w_15
  try simp only [zl_0] at h_17
  have h_17 : sc0_16 = upd f_9 (99 + 6 * v_4.toInt.toNat + 0) a0 := h_17
  have h_17 : sc0_16 = upd f_9 (99 + 6 * v_4.toInt.toNat + 0) a0 := h_17
  have hS_18 : SIX sc0_16 (-1) := SIX.w hS_10 h_17 rfl (by omega) (by decide +kernel) (by omega)
  have n_19 : (sc0_16 0).toInt = (f_9 0).toInt := by rw [updN h_17 (by omega)]
  have n_20 : (sc0_16 1).toInt = (f_9 1).toInt := by rw [updN h_17 (by omega)]
  have n_21 : (sc0_16 2).toInt = (f_9 2).toInt := by rw [updN h_17 (by omega)]
  refine lv_aload_n hx hb dX11_comes_26 rfl (lv_at hl 1 rfl) ?_
  refine lv_iload hx hb dX11_comes_27 (lv_at hl 0 rfl) ?_
  refine lv_iconst (v := 1) hx hb dX11_comes_29 (by decide +kernel) ?_
  refine lv_iload_n hx hb dX11_comes_30 rfl (lv_at hl 3 rfl) ?_
  refine kJv (wr := []) (va_runV (As := [.int v_4, .int 1, .int a1]) (rest := []) ⟨hx, hb, hml, hown, hT⟩ (c_X11_setWorkG1 l D cI aK aV k k0 k1 k2 k4 k5 k6 k7 k8 ka kb kl ko H.size c3 c9 cc cd ce cf cg ch ci cj ck cm cn sc0_16 v_4 1 a1 (by first | omega | (simp only [zl_1]; first | done | omega) | decide | assumption | rfl) (by first | omega | (simp only [zl_1]; first | done | omega) | decide | assumption | rfl) (by first | omega | (simp only [zl_1]; first | done | omega) | decide | assumption | rfl)) (cwV 3 hT (gV_in mw_1264 mw_1261 mw_1263 mw_p3_10 mw_12) rfl rfl rfl (by decide +kernel) ⟨Nat.le_of_ble_eq_true rfl, Nat.le_of_ble_eq_true rfl⟩) (kRecvX (q0 := 0) (ci := 11) hK hP hD hN hXS hS hA rfl rfl [0, 1] rfl (by decide +kernel)) rfl rfl hl.1 rfl (lv_room (Nat.le_of_ble_eq_true rfl)) dX11_comes_31 ⟨Nat.le_of_ble_eq_true rfl, Nat.le_of_ble_eq_true rfl⟩) hP hD hS hA [0, 1] [] rfl rfl (by decide +kernel) (by decide +kernel) ?_
  clear hP hD hS
  intro sc0_24 H locs w_23 hP hD hS
  replace hP : va_P D vwCl [(k, .inr (11, [.ref k0, .ref k1, .ref k2, .int c3, .ref k4, .ref k5, .ref k6, .ref k7, .ref k8, .int c9, .ref ka, .ref kb, .int cc, .int cd, .int ce, .int cf, .int cg, .int ch, .int ci, .int cj, .int ck, .ref kl, .int cm, .int cn, .ref ko])), (k0, .inl (cI, 1201, .inl sc0_24))] H := hP
  replace hD : va_D A [(k, .inr (11, [.ref k0, .ref k1, .ref k2, .int c3, .ref k4, .ref k5, .ref k6, .ref k7, .ref k8, .int c9, .ref ka, .ref kb, .int cc, .int cd, .int ce, .int cf, .int cg, .int ch, .int ci, .int cj, .int ck, .ref kl, .int cm, .int cn, .ref ko])), (k0, .inl (cI, 1201, .inl sc0_24))] := hD
  have h_25 := w_23
  try simp only [zl_1] at h_25
  have h_25 : sc0_24 = upd sc0_16 (99 + 6 * v_4.toInt.toNat + 1) a1 := h_25
  have h_25 : sc0_24 = upd sc0_16 (99 + 6 * v_4.toInt.toNat + 1) a1 := h_25
  have hS_26 : SIX sc0_24 (-1) := SIX.w hS_18 h_25 rfl (by omega) (by decide +kernel) (by omega)
  have n_27 : (sc0_24 0).toInt = (sc0_16 0).toInt := by rw [updN h_25 (by omega)]
  have n_28 : (sc0_24 1).toInt = (sc0_16 1).toInt := by rw [updN h_25 (by omega)]
  have n_29 : (sc0_24 2).toInt = (sc0_16 2).toInt := by rw [updN h_25 (by omega)]
  refine lv_aload_n hx hb dX11_comes_34 rfl (lv_at hl 1 rfl) ?_
  refine lv_iload hx hb dX11_comes_35 (lv_at hl 0 rfl) ?_
  refine lv_iconst (v := 2) hx hb dX11_comes_37 (by decide +kernel) ?_
  refine lv_iload_n hx hb dX11_comes_38 rfl (lv_at hl 4 rfl) ?_
  refine kJv (wr := []) (va_runV (As := [.int v_4, .int 2, .int a2]) (rest := []) ⟨hx, hb, hml, hown, hT⟩ (c_X11_setWorkG2 l D cI aK aV k k0 k1 k2 k4 k5 k6 k7 k8 ka kb kl ko H.size c3 c9 cc cd ce cf cg ch ci cj ck cm cn sc0_24 v_4 2 a2 (by first | omega | (simp only [zl_2]; first | done | omega) | decide | assumption | rfl) (by first | omega | (simp only [zl_2]; first | done | omega) | decide | assumption | rfl) (by first | omega | (simp only [zl_2]; first | done | omega) | decide | assumption | rfl)) (cwV 3 hT (gV_in mw_1264 mw_1261 mw_1263 mw_p3_10 mw_12) rfl rfl rfl (by decide +kernel) ⟨Nat.le_of_ble_eq_true rfl, Nat.le_of_ble_eq_true rfl⟩) (kRecvX (q0 := 0) (ci := 11) hK hP hD hN hXS hS hA rfl rfl [0, 1] rfl (by decide +kernel)) rfl rfl hl.1 rfl (lv_room (Nat.le_of_ble_eq_true rfl)) dX11_comes_39 ⟨Nat.le_of_ble_eq_true rfl, Nat.le_of_ble_eq_true rfl⟩) hP hD hS hA [0, 1] [] rfl rfl (by decide +kernel) (by decide +kernel) ?_
  clear hP hD hS
  intro sc0_32 H locs w_31 hP hD hS
  replace hP : va_P D vwCl [(k, .inr (11, [.ref k0, .ref k1, .ref k2, .int c3, .ref k4, .ref k5, .ref k6, .ref k7, .ref k8, .int c9, .ref ka, .ref kb, .int cc, .int cd, .int ce, .int cf, .int cg, .int ch, .int ci, .int cj, .int ck, .ref kl, .int cm, .int cn, .ref ko])), (k0, .inl (cI, 1201, .inl sc0_32))] H := hP
  replace hD : va_D A [(k, .inr (11, [.ref k0, .ref k1, .ref k2, .int c3, .ref k4, .ref k5, .ref k6, .ref k7, .ref k8, .int c9, .ref ka, .ref kb, .int cc, .int cd, .int ce, .int cf, .int cg, .int ch, .int ci, .int cj, .int ck, .ref kl, .int cm, .int cn, .ref ko])), (k0, .inl (cI, 1201, .inl sc0_32))] := hD
  have h_33 := w_31
  try simp only [zl_2] at h_33
  have h_33 : sc0_32 = upd sc0_24 (99 + 6 * v_4.toInt.toNat + 2) a2 := h_33
  have h_33 : sc0_32 = upd sc0_24 (99 + 6 * v_4.toInt.toNat + 2) a2 := h_33
  have hS_34 : SIX sc0_32 (-1) := SIX.w hS_26 h_33 rfl (by omega) (by decide +kernel) (by omega)
  have n_35 : (sc0_32 0).toInt = (sc0_24 0).toInt := by rw [updN h_33 (by omega)]
  have n_36 : (sc0_32 1).toInt = (sc0_24 1).toInt := by rw [updN h_33 (by omega)]
  have n_37 : (sc0_32 2).toInt = (sc0_24 2).toInt := by rw [updN h_33 (by omega)]
  refine lv_aload_n hx hb dX11_comes_42 rfl (lv_at hl 1 rfl) ?_
  refine lv_iload hx hb dX11_comes_43 (lv_at hl 0 rfl) ?_
  refine lv_iconst (v := 3) hx hb dX11_comes_45 (by decide +kernel) ?_
  refine lv_iload hx hb dX11_comes_46 (lv_at hl 5 rfl) ?_
  refine kJv (wr := []) (va_runV (As := [.int v_4, .int 3, .int a3]) (rest := []) ⟨hx, hb, hml, hown, hT⟩ (c_X11_setWorkG3 l D cI aK aV k k0 k1 k2 k4 k5 k6 k7 k8 ka kb kl ko H.size c3 c9 cc cd ce cf cg ch ci cj ck cm cn sc0_32 v_4 3 a3 (by first | omega | (simp only [zl_3]; first | done | omega) | decide | assumption | rfl) (by first | omega | (simp only [zl_3]; first | done | omega) | decide | assumption | rfl) (by first | omega | (simp only [zl_3]; first | done | omega) | decide | assumption | rfl)) (cwV 3 hT (gV_in mw_1264 mw_1261 mw_1263 mw_p3_10 mw_12) rfl rfl rfl (by decide +kernel) ⟨Nat.le_of_ble_eq_true rfl, Nat.le_of_ble_eq_true rfl⟩) (kRecvX (q0 := 0) (ci := 11) hK hP hD hN hXS hS hA rfl rfl [0, 1] rfl (by decide +kernel)) rfl rfl hl.1 rfl (lv_room (Nat.le_of_ble_eq_true rfl)) dX11_comes_48 ⟨Nat.le_of_ble_eq_true rfl, Nat.le_of_ble_eq_true rfl⟩) hP hD hS hA [0, 1] [] rfl rfl (by decide +kernel) (by decide +kernel) ?_
  clear hP hD hS
  intro sc0_40 H locs w_39 hP hD hS
  replace hP : va_P D vwCl [(k, .inr (11, [.ref k0, .ref k1, .ref k2, .int c3, .ref k4, .ref k5, .ref k6, .ref k7, .ref k8, .int c9, .ref ka, .ref kb, .int cc, .int cd, .int ce, .int cf, .int cg, .int ch, .int ci, .int cj, .int ck, .ref kl, .int cm, .int cn, .ref ko])), (k0, .inl (cI, 1201, .inl sc0_40))] H := hP
  replace hD : va_D A [(k, .inr (11, [.ref k0, .ref k1, .ref k2, .int c3, .ref k4, .ref k5, .ref k6, .ref k7, .ref k8, .int c9, .ref ka, .ref kb, .int cc, .int cd, .int ce, .int cf, .int cg, .int ch, .int ci, .int cj, .int ck, .ref kl, .int cm, .int cn, .ref ko])), (k0, .inl (cI, 1201, .inl sc0_40))] := hD
  have h_41 := w_39
  try simp only [zl_3] at h_41
  have h_41 : sc0_40 = upd sc0_32 (99 + 6 * v_4.toInt.toNat + 3) a3 := h_41
  have h_41 : sc0_40 = upd sc0_32 (99 + 6 * v_4.toInt.toNat + 3) a3 := h_41
  have hS_42 : SIX sc0_40 (-1) := SIX.w hS_34 h_41 rfl (by omega) (by decide +kernel) (by omega)
  have n_43 : (sc0_40 0).toInt = (sc0_32 0).toInt := by rw [updN h_41 (by omega)]
  have n_44 : (sc0_40 1).toInt = (sc0_32 1).toInt := by rw [updN h_41 (by omega)]
  have n_45 : (sc0_40 2).toInt = (sc0_32 2).toInt := by rw [updN h_41 (by omega)]
  refine lv_aload_n hx hb dX11_comes_51 rfl (lv_at hl 1 rfl) ?_
  refine lv_iload hx hb dX11_comes_52 (lv_at hl 0 rfl) ?_
  refine lv_iconst (v := 4) hx hb dX11_comes_54 (by decide +kernel) ?_
  refine lv_iconst (v := 0) hx hb dX11_comes_55 (by decide +kernel) ?_
  refine kJv (wr := []) (va_runV (As := [.int v_4, .int 4, .int 0]) (rest := []) ⟨hx, hb, hml, hown, hT⟩ (c_X11_setWorkG4 l D cI aK aV k k0 k1 k2 k4 k5 k6 k7 k8 ka kb kl ko H.size c3 c9 cc cd ce cf cg ch ci cj ck cm cn sc0_40 v_4 4 0 (by first | omega | (simp only [zl_0, zl_4]; first | done | omega) | decide | assumption | rfl) (by first | omega | (simp only [zl_0, zl_4]; first | done | omega) | decide | assumption | rfl) (by first | omega | (simp only [zl_0, zl_4]; first | done | omega) | decide | assumption | rfl)) (cwV 3 hT (gV_in mw_1264 mw_1261 mw_1263 mw_p3_10 mw_12) rfl rfl rfl (by decide +kernel) ⟨Nat.le_of_ble_eq_true rfl, Nat.le_of_ble_eq_true rfl⟩) (kRecvX (q0 := 0) (ci := 11) hK hP hD hN hXS hS hA rfl rfl [0, 1] rfl (by decide +kernel)) rfl rfl hl.1 rfl (lv_room (Nat.le_of_ble_eq_true rfl)) dX11_comes_56 ⟨Nat.le_of_ble_eq_true rfl, Nat.le_of_ble_eq_true rfl⟩) hP hD hS hA [0, 1] [] rfl rfl (by decide +kernel) (by decide +kernel) ?_
  clear hP hD hS
  intro sc0_48 H locs w_47 hP hD hS
  replace hP : va_P D vwCl [(k, .inr (11, [.ref k0, .ref k1, .ref k2, .int c3, .ref k4, .ref k5, .ref k6, .ref k7, .ref k8, .int c9, .ref ka, .ref kb, .int cc, .int cd, .int ce, .int cf, .int cg, .int ch, .int ci, .int cj, .int ck, .ref kl, .int cm, .int cn, .ref ko])), (k0, .inl (cI, 1201, .inl sc0_48))] H := hP
  replace hD : va_D A [(k, .inr (11, [.ref k0, .ref k1, .ref k2, .int c3, .ref k4, .ref k5, .ref k6, .ref k7, .ref k8, .int c9, .ref ka, .ref kb, .int cc, .int cd, .int ce, .int cf, .int cg, .int ch, .int ci, .int cj, .int ck, .ref kl, .int cm, .int cn, .ref ko])), (k0, .inl (cI, 1201, .inl sc0_48))] := hD
  have h_49 := w_47
  try simp only [zl_0, zl_4] at h_49
  have h_49 : sc0_48 = upd sc0_40 (99 + 6 * v_4.toInt.toNat + 4) 0 := h_49
  have h_49 : sc0_48 = upd sc0_40 (99 + 6 * v_4.toInt.toNat + 4) 0 := h_49
  have hS_50 : SIX sc0_48 (-1) := SIX.w hS_42 h_49 zl_0 (by omega) (by decide +kernel) (by omega)
  have n_51 : (sc0_48 0).toInt = (sc0_40 0).toInt := by rw [updN h_49 (by omega)]
  have n_52 : (sc0_48 1).toInt = (sc0_40 1).toInt := by rw [updN h_49 (by omega)]
  have n_53 : (sc0_48 2).toInt = (sc0_40 2).toInt := by rw [updN h_49 (by omega)]
  refine lv_aload_n hx hb dX11_comes_59 rfl (lv_at hl 1 rfl) ?_
  refine lv_iload hx hb dX11_comes_60 (lv_at hl 0 rfl) ?_
  refine lv_iconst (v := 5) hx hb dX11_comes_62 (by decide +kernel) ?_
  refine lv_iconst (v := 0) hx hb dX11_comes_63 (by decide +kernel) ?_
  refine kJv (wr := []) (va_runV (As := [.int v_4, .int 5, .int 0]) (rest := []) ⟨hx, hb, hml, hown, hT⟩ (c_X11_setWorkG5 l D cI aK aV k k0 k1 k2 k4 k5 k6 k7 k8 ka kb kl ko H.size c3 c9 cc cd ce cf cg ch ci cj ck cm cn sc0_48 v_4 5 0 (by first | omega | (simp only [zl_0, zl_5]; first | done | omega) | decide | assumption | rfl) (by first | omega | (simp only [zl_0, zl_5]; first | done | omega) | decide | assumption | rfl) (by first | omega | (simp only [zl_0, zl_5]; first | done | omega) | decide | assumption | rfl)) (cwV 3 hT (gV_in mw_1264 mw_1261 mw_1263 mw_p3_10 mw_12) rfl rfl rfl (by decide +kernel) ⟨Nat.le_of_ble_eq_true rfl, Nat.le_of_ble_eq_true rfl⟩) (kRecvX (q0 := 0) (ci := 11) hK hP hD hN hXS hS hA rfl rfl [0, 1] rfl (by decide +kernel)) rfl rfl hl.1 rfl (lv_room (Nat.le_of_ble_eq_true rfl)) dX11_comes_64 ⟨Nat.le_of_ble_eq_true rfl, Nat.le_of_ble_eq_true rfl⟩) hP hD hS hA [0, 1] [] rfl rfl (by decide +kernel) (by decide +kernel) ?_
  clear hP hD hS
  intro sc0_56 H locs w_55 hP hD hS
  replace hP : va_P D vwCl [(k, .inr (11, [.ref k0, .ref k1, .ref k2, .int c3, .ref k4, .ref k5, .ref k6, .ref k7, .ref k8, .int c9, .ref ka, .ref kb, .int cc, .int cd, .int ce, .int cf, .int cg, .int ch, .int ci, .int cj, .int ck, .ref kl, .int cm, .int cn, .ref ko])), (k0, .inl (cI, 1201, .inl sc0_56))] H := hP
  replace hD : va_D A [(k, .inr (11, [.ref k0, .ref k1, .ref k2, .int c3, .ref k4, .ref k5, .ref k6, .ref k7, .ref k8, .int c9, .ref ka, .ref kb, .int cc, .int cd, .int ce, .int cf, .int cg, .int ch, .int ci, .int cj, .int ck, .ref kl, .int cm, .int cn, .ref ko])), (k0, .inl (cI, 1201, .inl sc0_56))] := hD
  have h_57 := w_55
  try simp only [zl_0, zl_5] at h_57
  have h_57 : sc0_56 = upd sc0_48 (99 + 6 * v_4.toInt.toNat + 5) 0 := h_57
  have h_57 : sc0_56 = upd sc0_48 (99 + 6 * v_4.toInt.toNat + 5) 0 := h_57
  have hS_58 : SIX sc0_56 (-1) := SIX.w hS_50 h_57 zl_0 (by omega) (by decide +kernel) (by omega)
  have n_59 : (sc0_56 0).toInt = (sc0_48 0).toInt := by rw [updN h_57 (by omega)]
  have n_60 : (sc0_56 1).toInt = (sc0_48 1).toInt := by rw [updN h_57 (by omega)]
  have n_61 : (sc0_56 2).toInt = (sc0_48 2).toInt := by rw [updN h_57 (by omega)]
  refine lv_iload hx hb dX11_comes_67 (lv_at hl 0 rfl) ?_
  exact hRet sc0_56 [0, 1] ⟨hS_58, (by first | omega | decide | assumption | rfl), (by first | omega | decide | assumption | rfl), (by first | omega | decide | assumption | rfl), (by first | omega | decide | assumption | rfl), (by first | omega | decide | assumption | rfl), ev_4, (com_in (w := v_4) (v := v_8) ev_4 (by rw [ev_8, ev_6]) ef_9 h_17 h_25 h_33 h_41 h_49 h_57)⟩ hP hD (by decide +kernel) rfl hS rfl dX11_comes_69
theorem bn_cX11_work__0 : BN cX11_work_ 0 0x2b49a015b8bc080a00ad4561e0e870561100aa082015b930262b06805423d088bc0a0a00ad456ad208056e40098ac16014d8c002b9198440a1e07005344400ae43a1500a6860015c824081c := by
  unfold BN; decide +kernel
theorem dX11_work__0 : decode cX11_work_ 0 = .ok (.iload_n 1, 1) := dR0 (k := 0) (i := 0) bn_cX11_work__0 dop_27 (by decide +kernel)
theorem dX11_work__1 : decode cX11_work_ 1 = .ok (.iconst 0, 1) := dR0 (k := 0) (i := 1) bn_cX11_work__0 dop_3 (by decide +kernel)
theorem dX11_work__2 : decode cX11_work_ 2 = .ok (.iconst 5, 1) := dR0 (k := 0) (i := 2) bn_cX11_work__0 dop_8 (by decide +kernel)
theorem dX11_work__3 : decode cX11_work_ 3 = .ok (.invokestatic 47, 3) := dR2 (f := Instr.invokestatic) (k := 0) (i := 3) bn_cX11_work__0 dop_184 47 (by decide +kernel)
theorem dX11_work__6 : decode cX11_work_ 6 = .ok (.ifCond .eq 20, 3) := dR2s (f := Instr.ifCond .eq) (k := 0) (i := 6) bn_cX11_work__0 dop_153 20 20 (by decide +kernel)
theorem dX11_work__9 : decode cX11_work_ 9 = .ok (.iload_n 2, 1) := dR0 (k := 0) (i := 9) bn_cX11_work__0 dop_28 (by decide +kernel)
theorem dX11_work__10 : decode cX11_work_ 10 = .ok (.invokestatic 67, 3) := dR2 (f := Instr.invokestatic) (k := 0) (i := 10) bn_cX11_work__0 dop_184 67 (by decide +kernel)
theorem dX11_work__13 : decode cX11_work_ 13 = .ok (.ifCond .eq 13, 3) := dR2s (f := Instr.ifCond .eq) (k := 0) (i := 13) bn_cX11_work__0 dop_153 13 13 (by decide +kernel)
theorem dX11_work__16 : decode cX11_work_ 16 = .ok (.iload_n 3, 1) := dR0 (k := 0) (i := 16) bn_cX11_work__0 dop_29 (by decide +kernel)
theorem dX11_work__17 : decode cX11_work_ 17 = .ok (.iconst 1, 1) := dR0 (k := 0) (i := 17) bn_cX11_work__0 dop_4 (by decide +kernel)
theorem dX11_work__18 : decode cX11_work_ 18 = .ok (.bipush 50, 2) := dR1s (f := Instr.bipush) (k := 0) (i := 18) bn_cX11_work__0 dop_16 50 50 (by decide +kernel)
theorem dX11_work__20 : decode cX11_work_ 20 = .ok (.invokestatic 47, 3) := dR2 (f := Instr.invokestatic) (k := 0) (i := 20) bn_cX11_work__0 dop_184 47 (by decide +kernel)
theorem dX11_work__23 : decode cX11_work_ 23 = .ok (.ifCond .ne 10, 3) := dR2s (f := Instr.ifCond .ne) (k := 0) (i := 23) bn_cX11_work__0 dop_154 10 10 (by decide +kernel)
theorem dX11_work__26 : decode cX11_work_ 26 = .ok (.aload_n 0, 1) := dR0 (k := 0) (i := 26) bn_cX11_work__0 dop_42 (by decide +kernel)
theorem dX11_work__27 : decode cX11_work_ 27 = .ok (.ldc 63, 2) := dR1 (f := Instr.ldc) (k := 0) (i := 27) bn_cX11_work__0 dop_18 63 (by decide +kernel)
theorem dX11_work__29 : decode cX11_work_ 29 = .ok (.invokevirtual 64, 3) := dR2 (f := Instr.invokevirtual) (k := 0) (i := 29) bn_cX11_work__0 dop_182 64 (by decide +kernel)
theorem dX11_work__32 : decode cX11_work_ 32 = .ok (.ireturn, 1) := dR0 (k := 0) (i := 32) bn_cX11_work__0 dop_172 (by decide +kernel)
theorem dX11_work__33 : decode cX11_work_ 33 = .ok (.aload_n 0, 1) := dR0 (k := 0) (i := 33) bn_cX11_work__0 dop_42 (by decide +kernel)
theorem dX11_work__34 : decode cX11_work_ 34 = .ok (.getfield 9, 3) := dR2 (f := Instr.getfield) (k := 0) (i := 34) bn_cX11_work__0 dop_180 9 (by decide +kernel)
theorem dX11_work__37 : decode cX11_work_ 37 = .ok (.iconst 1, 1) := dR0 (k := 0) (i := 37) bn_cX11_work__0 dop_4 (by decide +kernel)
theorem dX11_work__38 : decode cX11_work_ 38 = .ok (.iaload, 1) := dR0 (k := 0) (i := 38) bn_cX11_work__0 dop_46 (by decide +kernel)
theorem dX11_work__39 : decode cX11_work_ 39 = .ok (.bipush 60, 2) := dR1s (f := Instr.bipush) (k := 0) (i := 39) bn_cX11_work__0 dop_16 60 60 (by decide +kernel)
theorem dX11_work__41 : decode cX11_work_ 41 = .ok (.if_icmp .ne 12, 3) := dR2s (f := Instr.if_icmp .ne) (k := 0) (i := 41) bn_cX11_work__0 dop_160 12 12 (by decide +kernel)
theorem dX11_work__44 : decode cX11_work_ 44 = .ok (.aload_n 0, 1) := dR0 (k := 0) (i := 44) bn_cX11_work__0 dop_42 (by decide +kernel)
theorem dX11_work__45 : decode cX11_work_ 45 = .ok (.ldc 75, 2) := dR1 (f := Instr.ldc) (k := 0) (i := 45) bn_cX11_work__0 dop_18 75 (by decide +kernel)
theorem dX11_work__47 : decode cX11_work_ 47 = .ok (.invokevirtual 64, 3) := dR2 (f := Instr.invokevirtual) (k := 0) (i := 47) bn_cX11_work__0 dop_182 64 (by decide +kernel)
theorem dX11_work__50 : decode cX11_work_ 50 = .ok (.goto 16, 3) := dR2s (f := Instr.goto) (k := 0) (i := 50) bn_cX11_work__0 dop_167 16 16 (by decide +kernel)
theorem dX11_work__53 : decode cX11_work_ 53 = .ok (.aload_n 0, 1) := dR0 (k := 0) (i := 53) bn_cX11_work__0 dop_42 (by decide +kernel)
theorem dX11_work__54 : decode cX11_work_ 54 = .ok (.iload_n 1, 1) := dR0 (k := 0) (i := 54) bn_cX11_work__0 dop_27 (by decide +kernel)
theorem dX11_work__55 : decode cX11_work_ 55 = .ok (.iload_n 2, 1) := dR0 (k := 0) (i := 55) bn_cX11_work__0 dop_28 (by decide +kernel)
theorem dX11_work__56 : decode cX11_work_ 56 = .ok (.iload_n 3, 1) := dR0 (k := 0) (i := 56) bn_cX11_work__0 dop_29 (by decide +kernel)
theorem dX11_work__57 : decode cX11_work_ 57 = .ok (.aload_n 0, 1) := dR0 (k := 0) (i := 57) bn_cX11_work__0 dop_42 (by decide +kernel)
theorem dX11_work__58 : decode cX11_work_ 58 = .ok (.getfield 9, 3) := dR2 (f := Instr.getfield) (k := 0) (i := 58) bn_cX11_work__0 dop_180 9 (by decide +kernel)
theorem dX11_work__61 : decode cX11_work_ 61 = .ok (.iconst 0, 1) := dR0 (k := 0) (i := 61) bn_cX11_work__0 dop_3 (by decide +kernel)
theorem dX11_work__62 : decode cX11_work_ 62 = .ok (.iaload, 1) := dR0 (k := 0) (i := 62) bn_cX11_work__0 dop_46 (by decide +kernel)
theorem dX11_work__63 : decode cX11_work_ 63 = .ok (.invokevirtual 76, 3) := dR2 (f := Instr.invokevirtual) (k := 0) (i := 63) bn_cX11_work__0 dop_182 76 (by decide +kernel)
theorem dX11_work__66 : decode cX11_work_ 66 = .ok (.ireturn, 1) := dR0 (k := 0) (i := 66) bn_cX11_work__0 dop_172 (by decide +kernel)
set_option maxHeartbeats 4000000 in
set_option maxRecDepth 100000 in
theorem c_X11_work_G (l : Launch) (D : va_G) (cI : ClassId) (aK aV : Nat → Nat) (k k0 k1 k2 k4 k5 k6 k7 k8 ka kb kl ko : Nat) (sz : Nat) (c3 : Int32) (c9 : Int32) (cc : Int32) (cd : Int32) (ce : Int32) (cf : Int32) (cg : Int32) (ch : Int32) (ci : Int32) (cj : Int32) (ck : Int32) (cm : Int32) (cn : Int32) (c0 : Nat → Int32) (c4 : Nat → Int32) (a0 : Int32) (a1 : Int32) (a2 : Int32) (pre0 : SIX c0 (-1)) : Met l yX11_work_ (gW yX11_work_ cX11_work_ 4 (some .int)) ({ frames := 2, cells := 0, slots := 0, locals := 48 } : Room) (kPreX D cI aK aV [.ref k, .int a0, .int a1, .int a2] [(k, .inr (11, [.ref k0, .ref k1, .ref k2, .int c3, .ref k4, .ref k5, .ref k6, .ref k7, .ref k8, .int c9, .ref ka, .ref kb, .int cc, .int cd, .int ce, .int cf, .int cg, .int ch, .int ci, .int cj, .int ck, .ref kl, .int cm, .int cn, .ref ko])), (k0, .inl (cI, 1201, .inl c0)), (k4, .inl (cI, 6, .inl c4))] sz) (va_Qi (fun (r : Int32) (u : (Nat → Int32) × (Nat → Int32)) => SIX u.1 (-1) ∧ r = workR c0 a0 a1 a2 ∧ u.1 = workS c0 a0 a1 a2) (fun u t => kWd D cI (va_A [(k, .inr (11, [.ref k0, .ref k1, .ref k2, .int c3, .ref k4, .ref k5, .ref k6, .ref k7, .ref k8, .int c9, .ref ka, .ref kb, .int cc, .int cd, .int ce, .int cf, .int cg, .int ch, .int ci, .int cj, .int ck, .ref kl, .int cm, .int cn, .ref ko])), (k0, .inl (cI, 1201, .inl c0)), (k4, .inl (cI, 6, .inl c4))] sz) [(k, .inr (11, [.ref k0, .ref k1, .ref k2, .int c3, .ref k4, .ref k5, .ref k6, .ref k7, .ref k8, .int c9, .ref ka, .ref kb, .int cc, .int cd, .int ce, .int cf, .int cg, .int ch, .int ci, .int cj, .int ck, .ref kl, .int cm, .int cn, .ref ko])), (k0, .inl (cI, 1201, .inl u.1)), (k4, .inl (cI, 6, .inl u.2))] t) (va_A [(k, .inr (11, [.ref k0, .ref k1, .ref k2, .int c3, .ref k4, .ref k5, .ref k6, .ref k7, .ref k8, .int c9, .ref ka, .ref kb, .int cc, .int cd, .int ce, .int cf, .int cg, .int ch, .int ci, .int cj, .int ck, .ref kl, .int cm, .int cn, .ref ko])), (k0, .inl (cI, 1201, .inl c0)), (k4, .inl (cI, 6, .inl c4))] sz)) 0 0 (va_A [(k, .inr (11, [.ref k0, .ref k1, .ref k2, .int c3, .ref k4, .ref k5, .ref k6, .ref k7, .ref k8, .int c9, .ref ka, .ref kb, .int cc, .int cd, .int ce, .int cf, .int cg, .int ch, .int ci, .int cj, .int ck, .ref kl, .int cm, .int cn, .ref ko])), (k0, .inl (cI, 1201, .inl c0)), (k4, .inl (cI, 6, .inl c4))] sz) := by
  refine kMetIX (own := RX11) (by decide +kernel) rfl (Nat.le_of_ble_eq_true rfl) ?_
  intro p e s m args below meth c hx hb hT hown hname hml A Q hK hP hD hS hA hN hXS hRet ls hl
  have hl : lv_has ls 4 [(0, .ref k), (1, .int a0), (2, .int a1), (3, .int a2)] := hl
  have lo_a0 := k_lo a0
  have hi_a0 := k_hi a0
  have lo_a1 := k_lo a1
  have hi_a1 := k_hi a1
  have lo_a2 := k_lo a2
  have hi_a2 := k_hi a2
  have lo_ci := k_lo ci
  have hi_ci := k_hi ci
  have pre0 : SIX c0 (-1) := pre0
  have nb_1 : 0 ≤ (c0 0).toInt ∧ (c0 0).toInt ≤ 2000 := SB.n0 (And.left pre0)
  have nb_2 : 0 ≤ (c0 1).toInt ∧ (c0 1).toInt ≤ 60 := SB.n1 (And.left pre0)
  have nb_3 : 0 ≤ (c0 2).toInt ∧ (c0 2).toInt ≤ 4 := SB.n2 (And.left pre0)
  refine lv_iload_n hx hb dX11_work__0 rfl (lv_at hl 1 rfl) ?_
  refine lv_iconst (v := 0) hx hb dX11_work__1 (by decide +kernel) ?_
  refine lv_iconst (v := 5) hx hb dX11_work__2 (by decide +kernel) ?_
  refine kJi (wr := [(k, .inr (11, [.ref k0, .ref k1, .ref k2, .int c3, .ref k4, .ref k5, .ref k6, .ref k7, .ref k8, .int c9, .ref ka, .ref kb, .int cc, .int cd, .int ce, .int cf, .int cg, .int ch, .int ci, .int cj, .int ck, .ref kl, .int cm, .int cn, .ref ko])), (k0, .inl (cI, 1201, .inl c0)), (k4, .inl (cI, 6, .inl c4))]) (va_runS (As := [.int a0, .int 0, .int 5]) (rest := []) ⟨hx, hb, hml, hown, hT⟩ (c_X11_inG l D cI aK aV s.heap.size a0 0 5) (cwS 3 hT (gS_in mw_1238 mw_1236 mw_1237 mw_12) rfl rfl rfl (by decide +kernel) ⟨Nat.le_of_ble_eq_true rfl, Nat.le_of_ble_eq_true rfl⟩) (kStatX hK hP hD hN hXS hS hA [] rfl (by decide +kernel)) rfl rfl hl.1 rfl (lv_room (Nat.le_of_ble_eq_true rfl)) dX11_work__3 ⟨Nat.le_of_ble_eq_true rfl, Nat.le_of_ble_eq_true rfl⟩) hP hD hS hA [] [0, 1, 2] rfl rfl (by decide +kernel) (by decide +kernel) ?_
  clear hP hD hS
  intro r_4 u_6 H locs w_5 hP hD hS
  replace hP : va_P D vwCl [(k, .inr (11, [.ref k0, .ref k1, .ref k2, .int c3, .ref k4, .ref k5, .ref k6, .ref k7, .ref k8, .int c9, .ref ka, .ref kb, .int cc, .int cd, .int ce, .int cf, .int cg, .int ch, .int ci, .int cj, .int ck, .ref kl, .int cm, .int cn, .ref ko])), (k0, .inl (cI, 1201, .inl c0)), (k4, .inl (cI, 6, .inl c4))] H := hP
  replace hD : va_D A [(k, .inr (11, [.ref k0, .ref k1, .ref k2, .int c3, .ref k4, .ref k5, .ref k6, .ref k7, .ref k8, .int c9, .ref ka, .ref kb, .int cc, .int cd, .int ce, .int cf, .int cg, .int ch, .int ci, .int cj, .int ck, .ref kl, .int cm, .int cn, .ref ko])), (k0, .inl (cI, 1201, .inl c0)), (k4, .inl (cI, 6, .inl c4))] := hD
  rcases w_5 with ⟨hr_4, h_7, h_8⟩ | ⟨hr_4, h_9⟩
  · try simp only [zl_0, zl_5] at h_7
    have h_7 : 0 ≤ a0.toInt := h_7
    try simp only [zl_0, zl_5] at h_8
    have h_8 : a0.toInt ≤ 5 := h_8
    obtain rfl : r_4 = 1 := hr_4.trans (by decide +kernel)
    refine b_if_eq hx hb zl_1 (tgt := 26) dX11_work__6 (by decide +kernel) (fun c_10 => by exfalso; omega) (fun c_10 => ?_)
    refine lv_iload_n hx hb dX11_work__9 rfl (lv_at hl 2 rfl) ?_
    refine kJi (wr := [(k, .inr (11, [.ref k0, .ref k1, .ref k2, .int c3, .ref k4, .ref k5, .ref k6, .ref k7, .ref k8, .int c9, .ref ka, .ref kb, .int cc, .int cd, .int ce, .int cf, .int cg, .int ch, .int ci, .int cj, .int ck, .ref kl, .int cm, .int cn, .ref ko])), (k0, .inl (cI, 1201, .inl c0)), (k4, .inl (cI, 6, .inl c4))]) (va_runS (As := [.int a1]) (rest := []) ⟨hx, hb, hml, hown, hT⟩ (c_X11_isMileG l D cI aK aV H.size a1) (cwS 1 hT (gS_in mw_1251 mw_1249 mw_1250 mw_12) rfl rfl rfl (by decide +kernel) ⟨Nat.le_of_ble_eq_true rfl, Nat.le_of_ble_eq_true rfl⟩) (kStatX hK hP hD hN hXS hS hA [] rfl (by decide +kernel)) rfl rfl hl.1 rfl (lv_room (Nat.le_of_ble_eq_true rfl)) dX11_work__10 ⟨Nat.le_of_ble_eq_true rfl, Nat.le_of_ble_eq_true rfl⟩) hP hD hS hA [] [0, 1, 2] rfl rfl (by decide +kernel) (by decide +kernel) ?_
    clear hP hD hS
    intro r_11 u_13 H locs w_12 hP hD hS
    replace hP : va_P D vwCl [(k, .inr (11, [.ref k0, .ref k1, .ref k2, .int c3, .ref k4, .ref k5, .ref k6, .ref k7, .ref k8, .int c9, .ref ka, .ref kb, .int cc, .int cd, .int ce, .int cf, .int cg, .int ch, .int ci, .int cj, .int ck, .ref kl, .int cm, .int cn, .ref ko])), (k0, .inl (cI, 1201, .inl c0)), (k4, .inl (cI, 6, .inl c4))] H := hP
    replace hD : va_D A [(k, .inr (11, [.ref k0, .ref k1, .ref k2, .int c3, .ref k4, .ref k5, .ref k6, .ref k7, .ref k8, .int c9, .ref ka, .ref kb, .int cc, .int cd, .int ce, .int cf, .int cg, .int ch, .int ci, .int cj, .int ck, .ref kl, .int cm, .int cn, .ref ko])), (k0, .inl (cI, 1201, .inl c0)), (k4, .inl (cI, 6, .inl c4))] := hD
    rcases w_12 with ⟨hr_11, h_14, h_15⟩ | ⟨hr_11, h_16⟩
    · have h_14 : 0 ≤ a1.toInt := h_14
      have h_15 : a1.toInt ≤ 39 := h_15
      obtain rfl : r_11 = 1 := hr_11.trans (by decide +kernel)
      refine b_if_eq hx hb zl_1 (tgt := 26) dX11_work__13 (by decide +kernel) (fun c_17 => by exfalso; omega) (fun c_17 => ?_)
      refine lv_iload_n hx hb dX11_work__16 rfl (lv_at hl 3 rfl) ?_
      refine lv_iconst (v := 1) hx hb dX11_work__17 (by decide +kernel) ?_
      refine lv_bipush (v := 50) hx hb dX11_work__18 (by decide +kernel) ?_
      refine kJi (wr := [(k, .inr (11, [.ref k0, .ref k1, .ref k2, .int c3, .ref k4, .ref k5, .ref k6, .ref k7, .ref k8, .int c9, .ref ka, .ref kb, .int cc, .int cd, .int ce, .int cf, .int cg, .int ch, .int ci, .int cj, .int ck, .ref kl, .int cm, .int cn, .ref ko])), (k0, .inl (cI, 1201, .inl c0)), (k4, .inl (cI, 6, .inl c4))]) (va_runS (As := [.int a2, .int 1, .int 50]) (rest := []) ⟨hx, hb, hml, hown, hT⟩ (c_X11_inG l D cI aK aV H.size a2 1 50) (cwS 3 hT (gS_in mw_1238 mw_1236 mw_1237 mw_12) rfl rfl rfl (by decide +kernel) ⟨Nat.le_of_ble_eq_true rfl, Nat.le_of_ble_eq_true rfl⟩) (kStatX hK hP hD hN hXS hS hA [] rfl (by decide +kernel)) rfl rfl hl.1 rfl (lv_room (Nat.le_of_ble_eq_true rfl)) dX11_work__20 ⟨Nat.le_of_ble_eq_true rfl, Nat.le_of_ble_eq_true rfl⟩) hP hD hS hA [] [0, 1, 2] rfl rfl (by decide +kernel) (by decide +kernel) ?_
      clear hP hD hS
      intro r_18 u_20 H locs w_19 hP hD hS
      replace hP : va_P D vwCl [(k, .inr (11, [.ref k0, .ref k1, .ref k2, .int c3, .ref k4, .ref k5, .ref k6, .ref k7, .ref k8, .int c9, .ref ka, .ref kb, .int cc, .int cd, .int ce, .int cf, .int cg, .int ch, .int ci, .int cj, .int ck, .ref kl, .int cm, .int cn, .ref ko])), (k0, .inl (cI, 1201, .inl c0)), (k4, .inl (cI, 6, .inl c4))] H := hP
      replace hD : va_D A [(k, .inr (11, [.ref k0, .ref k1, .ref k2, .int c3, .ref k4, .ref k5, .ref k6, .ref k7, .ref k8, .int c9, .ref ka, .ref kb, .int cc, .int cd, .int ce, .int cf, .int cg, .int ch, .int ci, .int cj, .int ck, .ref kl, .int cm, .int cn, .ref ko])), (k0, .inl (cI, 1201, .inl c0)), (k4, .inl (cI, 6, .inl c4))] := hD
      rcases w_19 with ⟨hr_18, h_21, h_22⟩ | ⟨hr_18, h_23⟩
      · try simp only [zl_1, zl_50] at h_21
        have h_21 : 1 ≤ a2.toInt := h_21
        try simp only [zl_1, zl_50] at h_22
        have h_22 : a2.toInt ≤ 50 := h_22
        obtain rfl : r_18 = 1 := hr_18.trans (by decide +kernel)
        refine b_if_ne hx hb zl_1 (tgt := 33) dX11_work__23 (by decide +kernel) (fun c_24 => ?_) (fun c_24 => by exfalso; omega)
        refine lv_aload_n hx hb dX11_work__33 rfl (lv_at hl 0 rfl) ?_
        refine va_get (D := D) (ci := 11) (v := .ref k0) (C := RX11) (T := TX11) (N := 25) hx hb hT giX11 hown hK hP 0 rfl rfl 0 (by decide +kernel) (hT (Cond.fieldLink RX11 9 "DesertWireModel" "s" "[I") mw_1156) (fun _ h9 => h9) rfl dX11_work__34 ?_
        refine lv_iconst (v := 1) hx hb dX11_work__37 (by decide +kernel) ?_
        refine k_iald (v := (c0 1)) hx hb hK hP 1 0 rfl rfl (k_inl (by decide +kernel)) rfl dX11_work__38 ?_
        refine lv_topi (fun v_25 ev_25 => ?_)
        have lo_v_25 := k_lo v_25
        have hi_v_25 := k_hi v_25
        have tv_25 : v_25.toInt = (c0 1).toInt := by rw [ev_25]
        have b_26 : 0 ≤ v_25.toInt ∧ v_25.toInt ≤ 60 := by first | (rw [tv_25]; exact SB.n1 (And.left pre0)) | exact SB.n1 (And.left pre0) | omega
        refine lv_bipush (v := 60) hx hb dX11_work__39 (by decide +kernel) ?_
        refine b_icmp_ne hx hb rfl zl_60 (tgt := 53) dX11_work__41 (by decide +kernel) (fun c_27 => ?_) (fun c_27 => ?_)
        · refine lv_aload_n hx hb dX11_work__53 rfl (lv_at hl 0 rfl) ?_
          refine lv_iload_n hx hb dX11_work__54 rfl (lv_at hl 1 rfl) ?_
          refine lv_iload_n hx hb dX11_work__55 rfl (lv_at hl 2 rfl) ?_
          refine lv_iload_n hx hb dX11_work__56 rfl (lv_at hl 3 rfl) ?_
          refine lv_aload_n hx hb dX11_work__57 rfl (lv_at hl 0 rfl) ?_
          refine va_get (D := D) (ci := 11) (v := .ref k0) (C := RX11) (T := TX11) (N := 25) hx hb hT giX11 hown hK hP 0 rfl rfl 0 (by decide +kernel) (hT (Cond.fieldLink RX11 9 "DesertWireModel" "s" "[I") mw_1156) (fun _ h9 => h9) rfl dX11_work__58 ?_
          refine lv_iconst (v := 0) hx hb dX11_work__61 (by decide +kernel) ?_
          refine k_iald (v := (c0 0)) hx hb hK hP 1 0 rfl rfl (k_inl (by decide +kernel)) rfl dX11_work__62 ?_
          refine lv_topi (fun v_28 ev_28 => ?_)
          have lo_v_28 := k_lo v_28
          have hi_v_28 := k_hi v_28
          have tv_28 : v_28.toInt = (c0 0).toInt := by rw [ev_28]
          have b_29 : 0 ≤ v_28.toInt ∧ v_28.toInt ≤ 2000 := by first | (rw [tv_28]; exact SB.n0 (And.left pre0)) | exact SB.n0 (And.left pre0) | omega
          refine kJi (wr := [(k4, .inl (cI, 6, .inl c4))]) (va_runV (As := [.int a0, .int a1, .int a2, .int v_28]) (rest := []) ⟨hx, hb, hml, hown, hT⟩ (c_X11_comesG l D cI aK aV k k0 k1 k2 k4 k5 k6 k7 k8 ka kb kl ko H.size c3 c9 cc cd ce cf cg ch ci cj ck cm cn c0 a0 a1 a2 v_28 pre0 (by first | omega | decide | assumption | rfl) (by first | omega | decide | assumption | rfl) (by first | omega | decide | assumption | rfl) (by first | omega | decide | assumption | rfl) (by first | omega | decide | assumption | rfl) (by first | omega | decide | assumption | rfl) (by first | omega | decide | assumption | rfl)) (cwV 4 hT (gV_in mw_1260 mw_1257 mw_1259 mw_p3_9 mw_12) rfl rfl rfl (by decide +kernel) ⟨Nat.le_of_ble_eq_true rfl, Nat.le_of_ble_eq_true rfl⟩) (kRecvX (q0 := 0) (ci := 11) hK hP hD hN hXS hS hA rfl rfl [0, 1] rfl (by decide +kernel)) rfl rfl hl.1 rfl (lv_room (Nat.le_of_ble_eq_true rfl)) dX11_work__63 ⟨Nat.le_of_ble_eq_true rfl, Nat.le_of_ble_eq_true rfl⟩) hP hD hS hA [0, 1] [2] rfl rfl (by decide +kernel) (by decide +kernel) ?_
          clear hP hD hS
          intro r_30 sc0_32 H locs w_31 hP hD hS
          replace hP : va_P D vwCl [(k4, .inl (cI, 6, .inl c4)), (k, .inr (11, [.ref k0, .ref k1, .ref k2, .int c3, .ref k4, .ref k5, .ref k6, .ref k7, .ref k8, .int c9, .ref ka, .ref kb, .int cc, .int cd, .int ce, .int cf, .int cg, .int ch, .int ci, .int cj, .int ck, .ref kl, .int cm, .int cn, .ref ko])), (k0, .inl (cI, 1201, .inl sc0_32))] H := hP
          replace hD : va_D A [(k4, .inl (cI, 6, .inl c4)), (k, .inr (11, [.ref k0, .ref k1, .ref k2, .int c3, .ref k4, .ref k5, .ref k6, .ref k7, .ref k8, .int c9, .ref ka, .ref kb, .int cc, .int cd, .int ce, .int cf, .int cg, .int ch, .int ci, .int cj, .int ck, .ref kl, .int cm, .int cn, .ref ko])), (k0, .inl (cI, 1201, .inl sc0_32))] := hD
          obtain ⟨h_33, h_34, h_35, h_36, h_37, h_38, h_39, h_40⟩ := w_31
          have h_33 : SIX sc0_32 (-1) := h_33
          have h_34 : (sc0_32 0).toInt = (c0 0).toInt := h_34
          have h_35 : (sc0_32 2).toInt = (c0 2).toInt := h_35
          have h_36 : (sc0_32 1).toInt = (c0 1).toInt + 1 := h_36
          have h_37 : 0 ≤ r_30.toInt := h_37
          have h_38 : r_30.toInt ≤ 59 := h_38
          have h_39 : r_30 = c0 1 := h_39
          have t_41 : r_30.toInt = (c0 1).toInt := by rw [h_39]
          have h_40 : sc0_32 = comS c0 a0 a1 a2 v_28 := h_40
          have lo_r_30 := k_lo r_30
          have hi_r_30 := k_hi r_30
          exact hRet (sc0_32, c4) [1, 2, 0] ⟨h_33, (by (try dsimp only); unfold workR; (repeat (first | rw [if_pos (by omega)] | rw [if_neg (by omega)])); first | done | exact h_39), (by (try dsimp only); unfold workS; (repeat (first | rw [if_pos (by omega)] | rw [if_neg (by omega)])); first | done | exact (by rw [h_40, ev_28]))⟩ hP hD (by decide +kernel) rfl hS rfl dX11_work__66
        · refine lv_aload_n hx hb dX11_work__44 rfl (lv_at hl 0 rfl) ?_
          refine lv_ldc (v := (-1000004)) hx hb hown (hT _ mw_1256) dX11_work__45 ?_
          refine kJi (wr := [(k0, .inl (cI, 1201, .inl c0))]) (va_runV (As := [.int (-1000004)]) (rest := []) ⟨hx, hb, hml, hown, hT⟩ (c_X11_findingG l D cI aK aV k k0 k1 k2 k4 k5 k6 k7 k8 ka kb kl ko H.size c3 c9 cc cd ce cf cg ch ci cj ck cm cn c4 (-1000004) (by first | omega | (simp only [zl_m1000004]; first | done | omega) | decide | assumption | rfl) (by first | omega | (simp only [zl_m1000004]; first | done | omega) | decide | assumption | rfl)) (cwV 1 hT (gV_in mw_1243 mw_1240 mw_1242 mw_p3_8 mw_12) rfl rfl rfl (by decide +kernel) ⟨Nat.le_of_ble_eq_true rfl, Nat.le_of_ble_eq_true rfl⟩) (kRecvX (q0 := 0) (ci := 11) hK hP hD hN hXS hS hA rfl rfl [0, 2] rfl (by decide +kernel)) rfl rfl hl.1 rfl (lv_room (Nat.le_of_ble_eq_true rfl)) dX11_work__47 ⟨Nat.le_of_ble_eq_true rfl, Nat.le_of_ble_eq_true rfl⟩) hP hD hS hA [0, 2] [1] rfl rfl (by decide +kernel) (by decide +kernel) ?_
          clear hP hD hS
          intro r_42 sc4_44 H locs w_43 hP hD hS
          replace hP : va_P D vwCl [(k0, .inl (cI, 1201, .inl c0)), (k, .inr (11, [.ref k0, .ref k1, .ref k2, .int c3, .ref k4, .ref k5, .ref k6, .ref k7, .ref k8, .int c9, .ref ka, .ref kb, .int cc, .int cd, .int ce, .int cf, .int cg, .int ch, .int ci, .int cj, .int ck, .ref kl, .int cm, .int cn, .ref ko])), (k4, .inl (cI, 6, .inl sc4_44))] H := hP
          replace hD : va_D A [(k0, .inl (cI, 1201, .inl c0)), (k, .inr (11, [.ref k0, .ref k1, .ref k2, .int c3, .ref k4, .ref k5, .ref k6, .ref k7, .ref k8, .int c9, .ref ka, .ref kb, .int cc, .int cd, .int ce, .int cf, .int cg, .int ch, .int ci, .int cj, .int ck, .ref kl, .int cm, .int cn, .ref ko])), (k4, .inl (cI, 6, .inl sc4_44))] := hD
          have hr_42 := w_43
          obtain rfl : r_42 = (-1000004) := hr_42.trans (by decide +kernel)
          refine lv_goto (tgt := 66) hx hb dX11_work__50 (by decide +kernel) ?_
          exact hRet (c0, sc4_44) [1, 0, 2] ⟨pre0, (by (try dsimp only); unfold workR; (repeat (first | rw [if_pos (by omega)] | rw [if_neg (by omega)]))), (by (try dsimp only); unfold workS; (repeat (first | rw [if_pos (by omega)] | rw [if_neg (by omega)])))⟩ hP hD (by decide +kernel) rfl hS rfl dX11_work__66
      · try simp only [zl_1, zl_50] at h_23
        have h_23 : a2.toInt < 1 ∨ 50 < a2.toInt := h_23
        obtain rfl : r_18 = 0 := hr_18.trans (by decide +kernel)
        refine b_if_ne hx hb zl_0 (tgt := 33) dX11_work__23 (by decide +kernel) (fun c_45 => by exfalso; omega) (fun c_45 => ?_)
        refine lv_aload_n hx hb dX11_work__26 rfl (lv_at hl 0 rfl) ?_
        refine lv_ldc (v := (-1000001)) hx hb hown (hT _ mw_1239) dX11_work__27 ?_
        refine kJi (wr := [(k0, .inl (cI, 1201, .inl c0))]) (va_runV (As := [.int (-1000001)]) (rest := []) ⟨hx, hb, hml, hown, hT⟩ (c_X11_findingG l D cI aK aV k k0 k1 k2 k4 k5 k6 k7 k8 ka kb kl ko H.size c3 c9 cc cd ce cf cg ch ci cj ck cm cn c4 (-1000001) (by first | omega | (simp only [zl_m1000001]; first | done | omega) | decide | assumption | rfl) (by first | omega | (simp only [zl_m1000001]; first | done | omega) | decide | assumption | rfl)) (cwV 1 hT (gV_in mw_1243 mw_1240 mw_1242 mw_p3_8 mw_12) rfl rfl rfl (by decide +kernel) ⟨Nat.le_of_ble_eq_true rfl, Nat.le_of_ble_eq_true rfl⟩) (kRecvX (q0 := 0) (ci := 11) hK hP hD hN hXS hS hA rfl rfl [0, 2] rfl (by decide +kernel)) rfl rfl hl.1 rfl (lv_room (Nat.le_of_ble_eq_true rfl)) dX11_work__29 ⟨Nat.le_of_ble_eq_true rfl, Nat.le_of_ble_eq_true rfl⟩) hP hD hS hA [0, 2] [1] rfl rfl (by decide +kernel) (by decide +kernel) ?_
        clear hP hD hS
        intro r_46 sc4_48 H locs w_47 hP hD hS
        replace hP : va_P D vwCl [(k0, .inl (cI, 1201, .inl c0)), (k, .inr (11, [.ref k0, .ref k1, .ref k2, .int c3, .ref k4, .ref k5, .ref k6, .ref k7, .ref k8, .int c9, .ref ka, .ref kb, .int cc, .int cd, .int ce, .int cf, .int cg, .int ch, .int ci, .int cj, .int ck, .ref kl, .int cm, .int cn, .ref ko])), (k4, .inl (cI, 6, .inl sc4_48))] H := hP
        replace hD : va_D A [(k0, .inl (cI, 1201, .inl c0)), (k, .inr (11, [.ref k0, .ref k1, .ref k2, .int c3, .ref k4, .ref k5, .ref k6, .ref k7, .ref k8, .int c9, .ref ka, .ref kb, .int cc, .int cd, .int ce, .int cf, .int cg, .int ch, .int ci, .int cj, .int ck, .ref kl, .int cm, .int cn, .ref ko])), (k4, .inl (cI, 6, .inl sc4_48))] := hD
        have hr_46 := w_47
        obtain rfl : r_46 = (-1000001) := hr_46.trans (by decide +kernel)
        exact hRet (c0, sc4_48) [1, 0, 2] ⟨pre0, (by (try dsimp only); unfold workR; (repeat (first | rw [if_pos (by omega)] | rw [if_neg (by omega)]))), (by (try dsimp only); unfold workS; (repeat (first | rw [if_pos (by omega)] | rw [if_neg (by omega)])))⟩ hP hD (by decide +kernel) rfl hS rfl dX11_work__32
    · have h_16 : a1.toInt < 0 ∨ 39 < a1.toInt := h_16
      obtain rfl : r_11 = 0 := hr_11.trans (by decide +kernel)
      refine b_if_eq hx hb zl_0 (tgt := 26) dX11_work__13 (by decide +kernel) (fun c_49 => ?_) (fun c_49 => by exfalso; omega)
      refine lv_aload_n hx hb dX11_work__26 rfl (lv_at hl 0 rfl) ?_
      refine lv_ldc (v := (-1000001)) hx hb hown (hT _ mw_1239) dX11_work__27 ?_
      refine kJi (wr := [(k0, .inl (cI, 1201, .inl c0))]) (va_runV (As := [.int (-1000001)]) (rest := []) ⟨hx, hb, hml, hown, hT⟩ (c_X11_findingG l D cI aK aV k k0 k1 k2 k4 k5 k6 k7 k8 ka kb kl ko H.size c3 c9 cc cd ce cf cg ch ci cj ck cm cn c4 (-1000001) (by first | omega | (simp only [zl_m1000001]; first | done | omega) | decide | assumption | rfl) (by first | omega | (simp only [zl_m1000001]; first | done | omega) | decide | assumption | rfl)) (cwV 1 hT (gV_in mw_1243 mw_1240 mw_1242 mw_p3_8 mw_12) rfl rfl rfl (by decide +kernel) ⟨Nat.le_of_ble_eq_true rfl, Nat.le_of_ble_eq_true rfl⟩) (kRecvX (q0 := 0) (ci := 11) hK hP hD hN hXS hS hA rfl rfl [0, 2] rfl (by decide +kernel)) rfl rfl hl.1 rfl (lv_room (Nat.le_of_ble_eq_true rfl)) dX11_work__29 ⟨Nat.le_of_ble_eq_true rfl, Nat.le_of_ble_eq_true rfl⟩) hP hD hS hA [0, 2] [1] rfl rfl (by decide +kernel) (by decide +kernel) ?_
      clear hP hD hS
      intro r_50 sc4_52 H locs w_51 hP hD hS
      replace hP : va_P D vwCl [(k0, .inl (cI, 1201, .inl c0)), (k, .inr (11, [.ref k0, .ref k1, .ref k2, .int c3, .ref k4, .ref k5, .ref k6, .ref k7, .ref k8, .int c9, .ref ka, .ref kb, .int cc, .int cd, .int ce, .int cf, .int cg, .int ch, .int ci, .int cj, .int ck, .ref kl, .int cm, .int cn, .ref ko])), (k4, .inl (cI, 6, .inl sc4_52))] H := hP
      replace hD : va_D A [(k0, .inl (cI, 1201, .inl c0)), (k, .inr (11, [.ref k0, .ref k1, .ref k2, .int c3, .ref k4, .ref k5, .ref k6, .ref k7, .ref k8, .int c9, .ref ka, .ref kb, .int cc, .int cd, .int ce, .int cf, .int cg, .int ch, .int ci, .int cj, .int ck, .ref kl, .int cm, .int cn, .ref ko])), (k4, .inl (cI, 6, .inl sc4_52))] := hD
      have hr_50 := w_51
      obtain rfl : r_50 = (-1000001) := hr_50.trans (by decide +kernel)
      exact hRet (c0, sc4_52) [1, 0, 2] ⟨pre0, (by (try dsimp only); unfold workR; (repeat (first | rw [if_pos (by omega)] | rw [if_neg (by omega)]))), (by (try dsimp only); unfold workS; (repeat (first | rw [if_pos (by omega)] | rw [if_neg (by omega)])))⟩ hP hD (by decide +kernel) rfl hS rfl dX11_work__32
  · try simp only [zl_0, zl_5] at h_9
    have h_9 : a0.toInt < 0 ∨ 5 < a0.toInt := h_9
    obtain rfl : r_4 = 0 := hr_4.trans (by decide +kernel)
    refine b_if_eq hx hb zl_0 (tgt := 26) dX11_work__6 (by decide +kernel) (fun c_53 => ?_) (fun c_53 => by exfalso; omega)
    refine lv_aload_n hx hb dX11_work__26 rfl (lv_at hl 0 rfl) ?_
    refine lv_ldc (v := (-1000001)) hx hb hown (hT _ mw_1239) dX11_work__27 ?_
    refine kJi (wr := [(k0, .inl (cI, 1201, .inl c0))]) (va_runV (As := [.int (-1000001)]) (rest := []) ⟨hx, hb, hml, hown, hT⟩ (c_X11_findingG l D cI aK aV k k0 k1 k2 k4 k5 k6 k7 k8 ka kb kl ko H.size c3 c9 cc cd ce cf cg ch ci cj ck cm cn c4 (-1000001) (by first | omega | (simp only [zl_m1000001]; first | done | omega) | decide | assumption | rfl) (by first | omega | (simp only [zl_m1000001]; first | done | omega) | decide | assumption | rfl)) (cwV 1 hT (gV_in mw_1243 mw_1240 mw_1242 mw_p3_8 mw_12) rfl rfl rfl (by decide +kernel) ⟨Nat.le_of_ble_eq_true rfl, Nat.le_of_ble_eq_true rfl⟩) (kRecvX (q0 := 0) (ci := 11) hK hP hD hN hXS hS hA rfl rfl [0, 2] rfl (by decide +kernel)) rfl rfl hl.1 rfl (lv_room (Nat.le_of_ble_eq_true rfl)) dX11_work__29 ⟨Nat.le_of_ble_eq_true rfl, Nat.le_of_ble_eq_true rfl⟩) hP hD hS hA [0, 2] [1] rfl rfl (by decide +kernel) (by decide +kernel) ?_
    clear hP hD hS
    intro r_54 sc4_56 H locs w_55 hP hD hS
    replace hP : va_P D vwCl [(k0, .inl (cI, 1201, .inl c0)), (k, .inr (11, [.ref k0, .ref k1, .ref k2, .int c3, .ref k4, .ref k5, .ref k6, .ref k7, .ref k8, .int c9, .ref ka, .ref kb, .int cc, .int cd, .int ce, .int cf, .int cg, .int ch, .int ci, .int cj, .int ck, .ref kl, .int cm, .int cn, .ref ko])), (k4, .inl (cI, 6, .inl sc4_56))] H := hP
    replace hD : va_D A [(k0, .inl (cI, 1201, .inl c0)), (k, .inr (11, [.ref k0, .ref k1, .ref k2, .int c3, .ref k4, .ref k5, .ref k6, .ref k7, .ref k8, .int c9, .ref ka, .ref kb, .int cc, .int cd, .int ce, .int cf, .int cg, .int ch, .int ci, .int cj, .int ck, .ref kl, .int cm, .int cn, .ref ko])), (k4, .inl (cI, 6, .inl sc4_56))] := hD
    have hr_54 := w_55
    obtain rfl : r_54 = (-1000001) := hr_54.trans (by decide +kernel)
    exact hRet (c0, sc4_56) [1, 0, 2] ⟨pre0, (by (try dsimp only); unfold workR; (repeat (first | rw [if_pos (by omega)] | rw [if_neg (by omega)]))), (by (try dsimp only); unfold workS; (repeat (first | rw [if_pos (by omega)] | rw [if_neg (by omega)])))⟩ hP hD (by decide +kernel) rfl hS rfl dX11_work__32
theorem bn_cX11_as_0 : BN cX11_as 0 0xad208056e54098ac1401540e002b703070560d00a6878015c87470015b810382b5690402b72004c560b00a6c60015c824081d06805345100adc382b := by
  unfold BN; decide +kernel
theorem dX11_as_0 : decode cX11_as 0 = .ok (.aload_n 0, 1) := dR0 (k := 0) (i := 0) bn_cX11_as_0 dop_42 (by decide +kernel)
theorem dX11_as_1 : decode cX11_as 1 = .ok (.iload_n 1, 1) := dR0 (k := 0) (i := 1) bn_cX11_as_0 dop_27 (by decide +kernel)
theorem dX11_as_2 : decode cX11_as 2 = .ok (.invokevirtual 80, 3) := dR2 (f := Instr.invokevirtual) (k := 0) (i := 2) bn_cX11_as_0 dop_182 80 (by decide +kernel)
theorem dX11_as_5 : decode cX11_as 5 = .ok (.ifCond .eq 12, 3) := dR2s (f := Instr.ifCond .eq) (k := 0) (i := 5) bn_cX11_as_0 dop_153 12 12 (by decide +kernel)
theorem dX11_as_8 : decode cX11_as 8 = .ok (.iload_n 2, 1) := dR0 (k := 0) (i := 8) bn_cX11_as_0 dop_28 (by decide +kernel)
theorem dX11_as_9 : decode cX11_as 9 = .ok (.iconst 0, 1) := dR0 (k := 0) (i := 9) bn_cX11_as_0 dop_3 (by decide +kernel)
theorem dX11_as_10 : decode cX11_as 10 = .ok (.iconst 5, 1) := dR0 (k := 0) (i := 10) bn_cX11_as_0 dop_8 (by decide +kernel)
theorem dX11_as_11 : decode cX11_as 11 = .ok (.invokestatic 47, 3) := dR2 (f := Instr.invokestatic) (k := 0) (i := 11) bn_cX11_as_0 dop_184 47 (by decide +kernel)
theorem dX11_as_14 : decode cX11_as 14 = .ok (.ifCond .ne 10, 3) := dR2s (f := Instr.ifCond .ne) (k := 0) (i := 14) bn_cX11_as_0 dop_154 10 10 (by decide +kernel)
theorem dX11_as_17 : decode cX11_as 17 = .ok (.aload_n 0, 1) := dR0 (k := 0) (i := 17) bn_cX11_as_0 dop_42 (by decide +kernel)
theorem dX11_as_18 : decode cX11_as 18 = .ok (.ldc 63, 2) := dR1 (f := Instr.ldc) (k := 0) (i := 18) bn_cX11_as_0 dop_18 63 (by decide +kernel)
theorem dX11_as_20 : decode cX11_as 20 = .ok (.invokevirtual 64, 3) := dR2 (f := Instr.invokevirtual) (k := 0) (i := 20) bn_cX11_as_0 dop_182 64 (by decide +kernel)
theorem dX11_as_23 : decode cX11_as 23 = .ok (.ireturn, 1) := dR0 (k := 0) (i := 23) bn_cX11_as_0 dop_172 (by decide +kernel)
theorem dX11_as_24 : decode cX11_as 24 = .ok (.aload_n 0, 1) := dR0 (k := 0) (i := 24) bn_cX11_as_0 dop_42 (by decide +kernel)
theorem dX11_as_25 : decode cX11_as 25 = .ok (.iload_n 1, 1) := dR0 (k := 0) (i := 25) bn_cX11_as_0 dop_27 (by decide +kernel)
theorem dX11_as_26 : decode cX11_as 26 = .ok (.iconst 0, 1) := dR0 (k := 0) (i := 26) bn_cX11_as_0 dop_3 (by decide +kernel)
theorem dX11_as_27 : decode cX11_as 27 = .ok (.invokevirtual 55, 3) := dR2 (f := Instr.invokevirtual) (k := 0) (i := 27) bn_cX11_as_0 dop_182 55 (by decide +kernel)
theorem dX11_as_30 : decode cX11_as 30 = .ok (.iload_n 2, 1) := dR0 (k := 0) (i := 30) bn_cX11_as_0 dop_28 (by decide +kernel)
theorem dX11_as_31 : decode cX11_as 31 = .ok (.invokestatic 59, 3) := dR2 (f := Instr.invokestatic) (k := 0) (i := 31) bn_cX11_as_0 dop_184 59 (by decide +kernel)
theorem dX11_as_34 : decode cX11_as 34 = .ok (.ifCond .eq 12, 3) := dR2s (f := Instr.ifCond .eq) (k := 0) (i := 34) bn_cX11_as_0 dop_153 12 12 (by decide +kernel)
theorem dX11_as_37 : decode cX11_as 37 = .ok (.aload_n 0, 1) := dR0 (k := 0) (i := 37) bn_cX11_as_0 dop_42 (by decide +kernel)
theorem dX11_as_38 : decode cX11_as 38 = .ok (.iload_n 1, 1) := dR0 (k := 0) (i := 38) bn_cX11_as_0 dop_27 (by decide +kernel)
theorem dX11_as_39 : decode cX11_as 39 = .ok (.iconst 2, 1) := dR0 (k := 0) (i := 39) bn_cX11_as_0 dop_5 (by decide +kernel)
theorem dX11_as_40 : decode cX11_as 40 = .ok (.invokevirtual 55, 3) := dR2 (f := Instr.invokevirtual) (k := 0) (i := 40) bn_cX11_as_0 dop_182 55 (by decide +kernel)
theorem dX11_as_43 : decode cX11_as 43 = .ok (.goto 9, 3) := dR2s (f := Instr.goto) (k := 0) (i := 43) bn_cX11_as_0 dop_167 9 9 (by decide +kernel)
theorem dX11_as_46 : decode cX11_as 46 = .ok (.aload_n 0, 1) := dR0 (k := 0) (i := 46) bn_cX11_as_0 dop_42 (by decide +kernel)
theorem dX11_as_47 : decode cX11_as 47 = .ok (.ldc 83, 2) := dR1 (f := Instr.ldc) (k := 0) (i := 47) bn_cX11_as_0 dop_18 83 (by decide +kernel)
theorem dX11_as_49 : decode cX11_as 49 = .ok (.invokevirtual 64, 3) := dR2 (f := Instr.invokevirtual) (k := 0) (i := 49) bn_cX11_as_0 dop_182 64 (by decide +kernel)
theorem dX11_as_52 : decode cX11_as 52 = .ok (.ireturn, 1) := dR0 (k := 0) (i := 52) bn_cX11_as_0 dop_172 (by decide +kernel)
set_option maxHeartbeats 4000000 in
set_option maxRecDepth 100000 in
theorem c_X11_asG (l : Launch) (D : va_G) (cI : ClassId) (aK aV : Nat → Nat) (k k0 k1 k2 k4 k5 k6 k7 k8 ka kb kl ko : Nat) (sz : Nat) (c3 : Int32) (c9 : Int32) (cc : Int32) (cd : Int32) (ce : Int32) (cf : Int32) (cg : Int32) (ch : Int32) (ci : Int32) (cj : Int32) (ck : Int32) (cm : Int32) (cn : Int32) (c0 : Nat → Int32) (c4 : Nat → Int32) (a0 : Int32) (a1 : Int32) (pre0 : SB c0) : Met l yX11_as (gW yX11_as cX11_as 3 (some .int)) ({ frames := 2, cells := 0, slots := 0, locals := 43 } : Room) (kPreX D cI aK aV [.ref k, .int a0, .int a1] [(k, .inr (11, [.ref k0, .ref k1, .ref k2, .int c3, .ref k4, .ref k5, .ref k6, .ref k7, .ref k8, .int c9, .ref ka, .ref kb, .int cc, .int cd, .int ce, .int cf, .int cg, .int ch, .int ci, .int cj, .int ck, .ref kl, .int cm, .int cn, .ref ko])), (k0, .inl (cI, 1201, .inl c0)), (k4, .inl (cI, 6, .inl c4))] sz) (va_Qi (fun (r : Int32) (u : (Nat → Int32)) => r = asR c0 a0 a1) (fun u t => kWd D cI (va_A [(k, .inr (11, [.ref k0, .ref k1, .ref k2, .int c3, .ref k4, .ref k5, .ref k6, .ref k7, .ref k8, .int c9, .ref ka, .ref kb, .int cc, .int cd, .int ce, .int cf, .int cg, .int ch, .int ci, .int cj, .int ck, .ref kl, .int cm, .int cn, .ref ko])), (k0, .inl (cI, 1201, .inl c0)), (k4, .inl (cI, 6, .inl c4))] sz) [(k, .inr (11, [.ref k0, .ref k1, .ref k2, .int c3, .ref k4, .ref k5, .ref k6, .ref k7, .ref k8, .int c9, .ref ka, .ref kb, .int cc, .int cd, .int ce, .int cf, .int cg, .int ch, .int ci, .int cj, .int ck, .ref kl, .int cm, .int cn, .ref ko])), (k0, .inl (cI, 1201, .inl c0)), (k4, .inl (cI, 6, .inl u))] t) (va_A [(k, .inr (11, [.ref k0, .ref k1, .ref k2, .int c3, .ref k4, .ref k5, .ref k6, .ref k7, .ref k8, .int c9, .ref ka, .ref kb, .int cc, .int cd, .int ce, .int cf, .int cg, .int ch, .int ci, .int cj, .int ck, .ref kl, .int cm, .int cn, .ref ko])), (k0, .inl (cI, 1201, .inl c0)), (k4, .inl (cI, 6, .inl c4))] sz)) 0 0 (va_A [(k, .inr (11, [.ref k0, .ref k1, .ref k2, .int c3, .ref k4, .ref k5, .ref k6, .ref k7, .ref k8, .int c9, .ref ka, .ref kb, .int cc, .int cd, .int ce, .int cf, .int cg, .int ch, .int ci, .int cj, .int ck, .ref kl, .int cm, .int cn, .ref ko])), (k0, .inl (cI, 1201, .inl c0)), (k4, .inl (cI, 6, .inl c4))] sz) := by
  refine kMetIX (own := RX11) (by decide +kernel) rfl (Nat.le_of_ble_eq_true rfl) ?_
  intro p e s m args below meth c hx hb hT hown hname hml A Q hK hP hD hS hA hN hXS hRet ls hl
  have hl : lv_has ls 3 [(0, .ref k), (1, .int a0), (2, .int a1)] := hl
  have lo_a0 := k_lo a0
  have hi_a0 := k_hi a0
  have lo_a1 := k_lo a1
  have hi_a1 := k_hi a1
  have lo_ci := k_lo ci
  have hi_ci := k_hi ci
  have pre0 : SB c0 := pre0
  have nb_1 : 0 ≤ (c0 0).toInt ∧ (c0 0).toInt ≤ 2000 := SB.n0 pre0
  have nb_2 : 0 ≤ (c0 1).toInt ∧ (c0 1).toInt ≤ 60 := SB.n1 pre0
  have nb_3 : 0 ≤ (c0 2).toInt ∧ (c0 2).toInt ≤ 4 := SB.n2 pre0
  refine lv_aload_n hx hb dX11_as_0 rfl (lv_at hl 0 rfl) ?_
  refine lv_iload_n hx hb dX11_as_1 rfl (lv_at hl 1 rfl) ?_
  refine kJi (wr := [(k4, .inl (cI, 6, .inl c4))]) (va_runV (As := [.int a0]) (rest := []) ⟨hx, hb, hml, hown, hT⟩ (c_X11_isWorkG l D cI aK aV k k0 k1 k2 k4 k5 k6 k7 k8 ka kb kl ko s.heap.size c3 c9 cc cd ce cf cg ch ci cj ck cm cn c0 a0 pre0) (cwV 1 hT (gV_in mw_1272 mw_1269 mw_1271 mw_p3_11 mw_12) rfl rfl rfl (by decide +kernel) ⟨Nat.le_of_ble_eq_true rfl, Nat.le_of_ble_eq_true rfl⟩) (kRecvX (q0 := 0) (ci := 11) hK hP hD hN hXS hS hA rfl rfl [0, 1] rfl (by decide +kernel)) rfl rfl hl.1 rfl (lv_room (Nat.le_of_ble_eq_true rfl)) dX11_as_2 ⟨Nat.le_of_ble_eq_true rfl, Nat.le_of_ble_eq_true rfl⟩) hP hD hS hA [0, 1] [2] rfl rfl (by decide +kernel) (by decide +kernel) ?_
  clear hP hD hS
  intro r_4 u_6 H locs w_5 hP hD hS
  replace hP : va_P D vwCl [(k4, .inl (cI, 6, .inl c4)), (k, .inr (11, [.ref k0, .ref k1, .ref k2, .int c3, .ref k4, .ref k5, .ref k6, .ref k7, .ref k8, .int c9, .ref ka, .ref kb, .int cc, .int cd, .int ce, .int cf, .int cg, .int ch, .int ci, .int cj, .int ck, .ref kl, .int cm, .int cn, .ref ko])), (k0, .inl (cI, 1201, .inl c0))] H := hP
  replace hD : va_D A [(k4, .inl (cI, 6, .inl c4)), (k, .inr (11, [.ref k0, .ref k1, .ref k2, .int c3, .ref k4, .ref k5, .ref k6, .ref k7, .ref k8, .int c9, .ref ka, .ref kb, .int cc, .int cd, .int ce, .int cf, .int cg, .int ch, .int ci, .int cj, .int ck, .ref kl, .int cm, .int cn, .ref ko])), (k0, .inl (cI, 1201, .inl c0))] := hD
  rcases w_5 with ⟨hr_4, h_7, h_8⟩ | ⟨hr_4, h_9⟩
  · have h_7 : 0 ≤ a0.toInt := h_7
    have h_8 : a0.toInt < (c0 1).toInt := h_8
    obtain rfl : r_4 = 1 := hr_4.trans (by decide +kernel)
    refine b_if_eq hx hb zl_1 (tgt := 17) dX11_as_5 (by decide +kernel) (fun c_10 => by exfalso; omega) (fun c_10 => ?_)
    refine lv_iload_n hx hb dX11_as_8 rfl (lv_at hl 2 rfl) ?_
    refine lv_iconst (v := 0) hx hb dX11_as_9 (by decide +kernel) ?_
    refine lv_iconst (v := 5) hx hb dX11_as_10 (by decide +kernel) ?_
    refine kJi (wr := [(k4, .inl (cI, 6, .inl c4)), (k, .inr (11, [.ref k0, .ref k1, .ref k2, .int c3, .ref k4, .ref k5, .ref k6, .ref k7, .ref k8, .int c9, .ref ka, .ref kb, .int cc, .int cd, .int ce, .int cf, .int cg, .int ch, .int ci, .int cj, .int ck, .ref kl, .int cm, .int cn, .ref ko])), (k0, .inl (cI, 1201, .inl c0))]) (va_runS (As := [.int a1, .int 0, .int 5]) (rest := []) ⟨hx, hb, hml, hown, hT⟩ (c_X11_inG l D cI aK aV H.size a1 0 5) (cwS 3 hT (gS_in mw_1238 mw_1236 mw_1237 mw_12) rfl rfl rfl (by decide +kernel) ⟨Nat.le_of_ble_eq_true rfl, Nat.le_of_ble_eq_true rfl⟩) (kStatX hK hP hD hN hXS hS hA [] rfl (by decide +kernel)) rfl rfl hl.1 rfl (lv_room (Nat.le_of_ble_eq_true rfl)) dX11_as_11 ⟨Nat.le_of_ble_eq_true rfl, Nat.le_of_ble_eq_true rfl⟩) hP hD hS hA [] [0, 1, 2] rfl rfl (by decide +kernel) (by decide +kernel) ?_
    clear hP hD hS
    intro r_11 u_13 H locs w_12 hP hD hS
    replace hP : va_P D vwCl [(k4, .inl (cI, 6, .inl c4)), (k, .inr (11, [.ref k0, .ref k1, .ref k2, .int c3, .ref k4, .ref k5, .ref k6, .ref k7, .ref k8, .int c9, .ref ka, .ref kb, .int cc, .int cd, .int ce, .int cf, .int cg, .int ch, .int ci, .int cj, .int ck, .ref kl, .int cm, .int cn, .ref ko])), (k0, .inl (cI, 1201, .inl c0))] H := hP
    replace hD : va_D A [(k4, .inl (cI, 6, .inl c4)), (k, .inr (11, [.ref k0, .ref k1, .ref k2, .int c3, .ref k4, .ref k5, .ref k6, .ref k7, .ref k8, .int c9, .ref ka, .ref kb, .int cc, .int cd, .int ce, .int cf, .int cg, .int ch, .int ci, .int cj, .int ck, .ref kl, .int cm, .int cn, .ref ko])), (k0, .inl (cI, 1201, .inl c0))] := hD
    rcases w_12 with ⟨hr_11, h_14, h_15⟩ | ⟨hr_11, h_16⟩
    · try simp only [zl_0, zl_5] at h_14
      have h_14 : 0 ≤ a1.toInt := h_14
      try simp only [zl_0, zl_5] at h_15
      have h_15 : a1.toInt ≤ 5 := h_15
      obtain rfl : r_11 = 1 := hr_11.trans (by decide +kernel)
      refine b_if_ne hx hb zl_1 (tgt := 24) dX11_as_14 (by decide +kernel) (fun c_17 => ?_) (fun c_17 => by exfalso; omega)
      refine lv_aload_n hx hb dX11_as_24 rfl (lv_at hl 0 rfl) ?_
      refine lv_iload_n hx hb dX11_as_25 rfl (lv_at hl 1 rfl) ?_
      refine lv_iconst (v := 0) hx hb dX11_as_26 (by decide +kernel) ?_
      refine kJi (wr := [(k4, .inl (cI, 6, .inl c4))]) (va_runV (As := [.int a0, .int 0]) (rest := []) ⟨hx, hb, hml, hown, hT⟩ (c_X11_workG0 l D cI aK aV k k0 k1 k2 k4 k5 k6 k7 k8 ka kb kl ko H.size c3 c9 cc cd ce cf cg ch ci cj ck cm cn c0 a0 0 (by first | omega | (simp only [zl_0]; first | done | omega) | decide | assumption | rfl) (by first | omega | (simp only [zl_0]; first | done | omega) | decide | assumption | rfl) (by first | omega | (simp only [zl_0]; first | done | omega) | decide | assumption | rfl)) (cwV 2 hT (gV_in mw_1276 mw_1273 mw_1275 mw_p3_12 mw_12) rfl rfl rfl (by decide +kernel) ⟨Nat.le_of_ble_eq_true rfl, Nat.le_of_ble_eq_true rfl⟩) (kRecvX (q0 := 1) (ci := 11) hK hP hD hN hXS hS hA rfl rfl [1, 2] rfl (by decide +kernel)) rfl rfl hl.1 rfl (lv_room (Nat.le_of_ble_eq_true rfl)) dX11_as_27 ⟨Nat.le_of_ble_eq_true rfl, Nat.le_of_ble_eq_true rfl⟩) hP hD hS hA [1, 2] [0] rfl rfl (by decide +kernel) (by decide +kernel) ?_
      clear hP hD hS
      intro r_18 u_20 H locs w_19 hP hD hS
      replace hP : va_P D vwCl [(k4, .inl (cI, 6, .inl c4)), (k, .inr (11, [.ref k0, .ref k1, .ref k2, .int c3, .ref k4, .ref k5, .ref k6, .ref k7, .ref k8, .int c9, .ref ka, .ref kb, .int cc, .int cd, .int ce, .int cf, .int cg, .int ch, .int ci, .int cj, .int ck, .ref kl, .int cm, .int cn, .ref ko])), (k0, .inl (cI, 1201, .inl c0))] H := hP
      replace hD : va_D A [(k4, .inl (cI, 6, .inl c4)), (k, .inr (11, [.ref k0, .ref k1, .ref k2, .int c3, .ref k4, .ref k5, .ref k6, .ref k7, .ref k8, .int c9, .ref ka, .ref kb, .int cc, .int cd, .int ce, .int cf, .int cg, .int ch, .int ci, .int cj, .int ck, .ref kl, .int cm, .int cn, .ref ko])), (k0, .inl (cI, 1201, .inl c0))] := hD
      have h_21 := w_19
      have h_21 : r_18 = wW c0 a0 0 := h_21
      have t_22 : r_18.toInt = (wW c0 a0 0).toInt := by rw [h_21]
      have b_23 : 0 ≤ r_18.toInt ∧ r_18.toInt ≤ 5 := by rw [h_21]; exact SB.w0 pre0 (by omega) (by omega)
      have lo_r_18 := k_lo r_18
      have hi_r_18 := k_hi r_18
      refine lv_iload_n hx hb dX11_as_30 rfl (lv_at hl 2 rfl) ?_
      refine kJi (wr := [(k4, .inl (cI, 6, .inl c4)), (k, .inr (11, [.ref k0, .ref k1, .ref k2, .int c3, .ref k4, .ref k5, .ref k6, .ref k7, .ref k8, .int c9, .ref ka, .ref kb, .int cc, .int cd, .int ce, .int cf, .int cg, .int ch, .int ci, .int cj, .int ck, .ref kl, .int cm, .int cn, .ref ko])), (k0, .inl (cI, 1201, .inl c0))]) (va_runS (As := [.int r_18, .int a1]) (rest := []) ⟨hx, hb, hml, hown, hT⟩ (c_X11_isUnderG l D cI aK aV H.size r_18 a1 (by first | omega | decide | assumption | rfl) (by first | omega | decide | assumption | rfl)) (cwS 2 hT (gS_in mw_1279 mw_1277 mw_1278 mw_12) rfl rfl rfl (by decide +kernel) ⟨Nat.le_of_ble_eq_true rfl, Nat.le_of_ble_eq_true rfl⟩) (kStatX hK hP hD hN hXS hS hA [] rfl (by decide +kernel)) rfl rfl hl.1 rfl (lv_room (Nat.le_of_ble_eq_true rfl)) dX11_as_31 ⟨Nat.le_of_ble_eq_true rfl, Nat.le_of_ble_eq_true rfl⟩) hP hD hS hA [] [0, 1, 2] rfl rfl (by decide +kernel) (by decide +kernel) ?_
      clear hP hD hS
      intro r_24 u_26 H locs w_25 hP hD hS
      replace hP : va_P D vwCl [(k4, .inl (cI, 6, .inl c4)), (k, .inr (11, [.ref k0, .ref k1, .ref k2, .int c3, .ref k4, .ref k5, .ref k6, .ref k7, .ref k8, .int c9, .ref ka, .ref kb, .int cc, .int cd, .int ce, .int cf, .int cg, .int ch, .int ci, .int cj, .int ck, .ref kl, .int cm, .int cn, .ref ko])), (k0, .inl (cI, 1201, .inl c0))] H := hP
      replace hD : va_D A [(k4, .inl (cI, 6, .inl c4)), (k, .inr (11, [.ref k0, .ref k1, .ref k2, .int c3, .ref k4, .ref k5, .ref k6, .ref k7, .ref k8, .int c9, .ref ka, .ref kb, .int cc, .int cd, .int ce, .int cf, .int cg, .int ch, .int ci, .int cj, .int ck, .ref kl, .int cm, .int cn, .ref ko])), (k0, .inl (cI, 1201, .inl c0))] := hD
      rcases w_25 with ⟨hr_24, h_27⟩ | ⟨hr_24, h_28⟩
      · have h_27 : mU r_18.toInt a1.toInt = 1 := h_27
        have h_27 : mU r_18.toInt a1.toInt = 1 := h_27
        obtain rfl : r_24 = 1 := hr_24.trans (by decide +kernel)
        refine b_if_eq hx hb zl_1 (tgt := 46) dX11_as_34 (by decide +kernel) (fun c_29 => by exfalso; omega) (fun c_29 => ?_)
        refine lv_aload_n hx hb dX11_as_37 rfl (lv_at hl 0 rfl) ?_
        refine lv_iload_n hx hb dX11_as_38 rfl (lv_at hl 1 rfl) ?_
        refine lv_iconst (v := 2) hx hb dX11_as_39 (by decide +kernel) ?_
        refine kJi (wr := [(k4, .inl (cI, 6, .inl c4))]) (va_runV (As := [.int a0, .int 2]) (rest := []) ⟨hx, hb, hml, hown, hT⟩ (c_X11_workG2 l D cI aK aV k k0 k1 k2 k4 k5 k6 k7 k8 ka kb kl ko H.size c3 c9 cc cd ce cf cg ch ci cj ck cm cn c0 a0 2 (by first | omega | (simp only [zl_2]; first | done | omega) | decide | assumption | rfl) (by first | omega | (simp only [zl_2]; first | done | omega) | decide | assumption | rfl) (by first | omega | (simp only [zl_2]; first | done | omega) | decide | assumption | rfl)) (cwV 2 hT (gV_in mw_1276 mw_1273 mw_1275 mw_p3_12 mw_12) rfl rfl rfl (by decide +kernel) ⟨Nat.le_of_ble_eq_true rfl, Nat.le_of_ble_eq_true rfl⟩) (kRecvX (q0 := 1) (ci := 11) hK hP hD hN hXS hS hA rfl rfl [1, 2] rfl (by decide +kernel)) rfl rfl hl.1 rfl (lv_room (Nat.le_of_ble_eq_true rfl)) dX11_as_40 ⟨Nat.le_of_ble_eq_true rfl, Nat.le_of_ble_eq_true rfl⟩) hP hD hS hA [1, 2] [0] rfl rfl (by decide +kernel) (by decide +kernel) ?_
        clear hP hD hS
        intro r_30 u_32 H locs w_31 hP hD hS
        replace hP : va_P D vwCl [(k4, .inl (cI, 6, .inl c4)), (k, .inr (11, [.ref k0, .ref k1, .ref k2, .int c3, .ref k4, .ref k5, .ref k6, .ref k7, .ref k8, .int c9, .ref ka, .ref kb, .int cc, .int cd, .int ce, .int cf, .int cg, .int ch, .int ci, .int cj, .int ck, .ref kl, .int cm, .int cn, .ref ko])), (k0, .inl (cI, 1201, .inl c0))] H := hP
        replace hD : va_D A [(k4, .inl (cI, 6, .inl c4)), (k, .inr (11, [.ref k0, .ref k1, .ref k2, .int c3, .ref k4, .ref k5, .ref k6, .ref k7, .ref k8, .int c9, .ref ka, .ref kb, .int cc, .int cd, .int ce, .int cf, .int cg, .int ch, .int ci, .int cj, .int ck, .ref kl, .int cm, .int cn, .ref ko])), (k0, .inl (cI, 1201, .inl c0))] := hD
        have h_33 := w_31
        have h_33 : r_30 = wW c0 a0 2 := h_33
        have t_34 : r_30.toInt = (wW c0 a0 2).toInt := by rw [h_33]
        have lo_r_30 := k_lo r_30
        have hi_r_30 := k_hi r_30
        refine lv_goto (tgt := 52) hx hb dX11_as_43 (by decide +kernel) ?_
        exact hRet c4 [1, 2, 0] (by unfold asR; rw [if_pos (by omega), show (wW c0 a0 0) = r_18 from h_21.symm, if_pos h_27]; exact h_33) hP hD (by decide +kernel) rfl hS rfl dX11_as_52
      · have h_28 : mU r_18.toInt a1.toInt = 0 := h_28
        have h_28 : mU r_18.toInt a1.toInt = 0 := h_28
        obtain rfl : r_24 = 0 := hr_24.trans (by decide +kernel)
        refine b_if_eq hx hb zl_0 (tgt := 46) dX11_as_34 (by decide +kernel) (fun c_35 => ?_) (fun c_35 => by exfalso; omega)
        refine lv_aload_n hx hb dX11_as_46 rfl (lv_at hl 0 rfl) ?_
        refine lv_ldc (v := (-1000005)) hx hb hown (hT _ mw_1283) dX11_as_47 ?_
        refine kJi (wr := [(k0, .inl (cI, 1201, .inl c0))]) (va_runV (As := [.int (-1000005)]) (rest := []) ⟨hx, hb, hml, hown, hT⟩ (c_X11_findingG l D cI aK aV k k0 k1 k2 k4 k5 k6 k7 k8 ka kb kl ko H.size c3 c9 cc cd ce cf cg ch ci cj ck cm cn c4 (-1000005) (by first | omega | (simp only [zl_m1000005]; first | done | omega) | decide | assumption | rfl) (by first | omega | (simp only [zl_m1000005]; first | done | omega) | decide | assumption | rfl)) (cwV 1 hT (gV_in mw_1243 mw_1240 mw_1242 mw_p3_8 mw_12) rfl rfl rfl (by decide +kernel) ⟨Nat.le_of_ble_eq_true rfl, Nat.le_of_ble_eq_true rfl⟩) (kRecvX (q0 := 1) (ci := 11) hK hP hD hN hXS hS hA rfl rfl [1, 0] rfl (by decide +kernel)) rfl rfl hl.1 rfl (lv_room (Nat.le_of_ble_eq_true rfl)) dX11_as_49 ⟨Nat.le_of_ble_eq_true rfl, Nat.le_of_ble_eq_true rfl⟩) hP hD hS hA [1, 0] [2] rfl rfl (by decide +kernel) (by decide +kernel) ?_
        clear hP hD hS
        intro r_36 sc4_38 H locs w_37 hP hD hS
        replace hP : va_P D vwCl [(k0, .inl (cI, 1201, .inl c0)), (k, .inr (11, [.ref k0, .ref k1, .ref k2, .int c3, .ref k4, .ref k5, .ref k6, .ref k7, .ref k8, .int c9, .ref ka, .ref kb, .int cc, .int cd, .int ce, .int cf, .int cg, .int ch, .int ci, .int cj, .int ck, .ref kl, .int cm, .int cn, .ref ko])), (k4, .inl (cI, 6, .inl sc4_38))] H := hP
        replace hD : va_D A [(k0, .inl (cI, 1201, .inl c0)), (k, .inr (11, [.ref k0, .ref k1, .ref k2, .int c3, .ref k4, .ref k5, .ref k6, .ref k7, .ref k8, .int c9, .ref ka, .ref kb, .int cc, .int cd, .int ce, .int cf, .int cg, .int ch, .int ci, .int cj, .int ck, .ref kl, .int cm, .int cn, .ref ko])), (k4, .inl (cI, 6, .inl sc4_38))] := hD
        have hr_36 := w_37
        obtain rfl : r_36 = (-1000005) := hr_36.trans (by decide +kernel)
        exact hRet sc4_38 [1, 0, 2] (by unfold asR; rw [if_pos (by omega), show (wW c0 a0 0) = r_18 from h_21.symm, if_neg (by rw [h_28]; decide)]) hP hD (by decide +kernel) rfl hS rfl dX11_as_52
    · try simp only [zl_0, zl_5] at h_16
      have h_16 : a1.toInt < 0 ∨ 5 < a1.toInt := h_16
      obtain rfl : r_11 = 0 := hr_11.trans (by decide +kernel)
      refine b_if_ne hx hb zl_0 (tgt := 24) dX11_as_14 (by decide +kernel) (fun c_39 => by exfalso; omega) (fun c_39 => ?_)
      refine lv_aload_n hx hb dX11_as_17 rfl (lv_at hl 0 rfl) ?_
      refine lv_ldc (v := (-1000001)) hx hb hown (hT _ mw_1239) dX11_as_18 ?_
      refine kJi (wr := [(k0, .inl (cI, 1201, .inl c0))]) (va_runV (As := [.int (-1000001)]) (rest := []) ⟨hx, hb, hml, hown, hT⟩ (c_X11_findingG l D cI aK aV k k0 k1 k2 k4 k5 k6 k7 k8 ka kb kl ko H.size c3 c9 cc cd ce cf cg ch ci cj ck cm cn c4 (-1000001) (by first | omega | (simp only [zl_m1000001]; first | done | omega) | decide | assumption | rfl) (by first | omega | (simp only [zl_m1000001]; first | done | omega) | decide | assumption | rfl)) (cwV 1 hT (gV_in mw_1243 mw_1240 mw_1242 mw_p3_8 mw_12) rfl rfl rfl (by decide +kernel) ⟨Nat.le_of_ble_eq_true rfl, Nat.le_of_ble_eq_true rfl⟩) (kRecvX (q0 := 1) (ci := 11) hK hP hD hN hXS hS hA rfl rfl [1, 0] rfl (by decide +kernel)) rfl rfl hl.1 rfl (lv_room (Nat.le_of_ble_eq_true rfl)) dX11_as_20 ⟨Nat.le_of_ble_eq_true rfl, Nat.le_of_ble_eq_true rfl⟩) hP hD hS hA [1, 0] [2] rfl rfl (by decide +kernel) (by decide +kernel) ?_
      clear hP hD hS
      intro r_40 sc4_42 H locs w_41 hP hD hS
      replace hP : va_P D vwCl [(k0, .inl (cI, 1201, .inl c0)), (k, .inr (11, [.ref k0, .ref k1, .ref k2, .int c3, .ref k4, .ref k5, .ref k6, .ref k7, .ref k8, .int c9, .ref ka, .ref kb, .int cc, .int cd, .int ce, .int cf, .int cg, .int ch, .int ci, .int cj, .int ck, .ref kl, .int cm, .int cn, .ref ko])), (k4, .inl (cI, 6, .inl sc4_42))] H := hP
      replace hD : va_D A [(k0, .inl (cI, 1201, .inl c0)), (k, .inr (11, [.ref k0, .ref k1, .ref k2, .int c3, .ref k4, .ref k5, .ref k6, .ref k7, .ref k8, .int c9, .ref ka, .ref kb, .int cc, .int cd, .int ce, .int cf, .int cg, .int ch, .int ci, .int cj, .int ck, .ref kl, .int cm, .int cn, .ref ko])), (k4, .inl (cI, 6, .inl sc4_42))] := hD
      have hr_40 := w_41
      obtain rfl : r_40 = (-1000001) := hr_40.trans (by decide +kernel)
      exact hRet sc4_42 [1, 0, 2] (by (try dsimp only); unfold asR; (repeat (first | rw [if_pos (by omega)] | rw [if_neg (by omega)]))) hP hD (by decide +kernel) rfl hS rfl dX11_as_23
  · have h_9 : a0.toInt < 0 ∨ (c0 1).toInt ≤ a0.toInt := h_9
    obtain rfl : r_4 = 0 := hr_4.trans (by decide +kernel)
    refine b_if_eq hx hb zl_0 (tgt := 17) dX11_as_5 (by decide +kernel) (fun c_43 => ?_) (fun c_43 => by exfalso; omega)
    refine lv_aload_n hx hb dX11_as_17 rfl (lv_at hl 0 rfl) ?_
    refine lv_ldc (v := (-1000001)) hx hb hown (hT _ mw_1239) dX11_as_18 ?_
    refine kJi (wr := [(k0, .inl (cI, 1201, .inl c0))]) (va_runV (As := [.int (-1000001)]) (rest := []) ⟨hx, hb, hml, hown, hT⟩ (c_X11_findingG l D cI aK aV k k0 k1 k2 k4 k5 k6 k7 k8 ka kb kl ko H.size c3 c9 cc cd ce cf cg ch ci cj ck cm cn c4 (-1000001) (by first | omega | (simp only [zl_m1000001]; first | done | omega) | decide | assumption | rfl) (by first | omega | (simp only [zl_m1000001]; first | done | omega) | decide | assumption | rfl)) (cwV 1 hT (gV_in mw_1243 mw_1240 mw_1242 mw_p3_8 mw_12) rfl rfl rfl (by decide +kernel) ⟨Nat.le_of_ble_eq_true rfl, Nat.le_of_ble_eq_true rfl⟩) (kRecvX (q0 := 1) (ci := 11) hK hP hD hN hXS hS hA rfl rfl [1, 0] rfl (by decide +kernel)) rfl rfl hl.1 rfl (lv_room (Nat.le_of_ble_eq_true rfl)) dX11_as_20 ⟨Nat.le_of_ble_eq_true rfl, Nat.le_of_ble_eq_true rfl⟩) hP hD hS hA [1, 0] [2] rfl rfl (by decide +kernel) (by decide +kernel) ?_
    clear hP hD hS
    intro r_44 sc4_46 H locs w_45 hP hD hS
    replace hP : va_P D vwCl [(k0, .inl (cI, 1201, .inl c0)), (k, .inr (11, [.ref k0, .ref k1, .ref k2, .int c3, .ref k4, .ref k5, .ref k6, .ref k7, .ref k8, .int c9, .ref ka, .ref kb, .int cc, .int cd, .int ce, .int cf, .int cg, .int ch, .int ci, .int cj, .int ck, .ref kl, .int cm, .int cn, .ref ko])), (k4, .inl (cI, 6, .inl sc4_46))] H := hP
    replace hD : va_D A [(k0, .inl (cI, 1201, .inl c0)), (k, .inr (11, [.ref k0, .ref k1, .ref k2, .int c3, .ref k4, .ref k5, .ref k6, .ref k7, .ref k8, .int c9, .ref ka, .ref kb, .int cc, .int cd, .int ce, .int cf, .int cg, .int ch, .int ci, .int cj, .int ck, .ref kl, .int cm, .int cn, .ref ko])), (k4, .inl (cI, 6, .inl sc4_46))] := hD
    have hr_44 := w_45
    obtain rfl : r_44 = (-1000001) := hr_44.trans (by decide +kernel)
    exact hRet sc4_46 [1, 0, 2] (by (try dsimp only); unfold asR; (repeat (first | rw [if_pos (by omega)] | rw [if_neg (by omega)]))) hP hD (by decide +kernel) rfl hS rfl dX11_as_23
