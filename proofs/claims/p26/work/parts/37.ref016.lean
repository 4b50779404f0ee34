theorem bn_cX11_party_0 : BN cX11_party 0 0x568bcc21d309a4380a08b300412050056a2b := by
  unfold BN; decide +kernel
theorem dX11_party_0 : decode cX11_party 0 = .ok (.aload_n 0, 1) := dR0 (k := 0) (i := 0) bn_cX11_party_0 dop_42 (by decide +kernel)
theorem dX11_party_1 : decode cX11_party 1 = .ok (.getfield 9, 3) := dR2 (f := Instr.getfield) (k := 0) (i := 1) bn_cX11_party_0 dop_180 9 (by decide +kernel)
theorem dX11_party_4 : decode cX11_party 4 = .ok (.sipush 459, 3) := dR2s (f := Instr.sipush) (k := 0) (i := 4) bn_cX11_party_0 dop_17 459 459 (by decide +kernel)
theorem dX11_party_7 : decode cX11_party 7 = .ok (.bipush 9, 2) := dR1s (f := Instr.bipush) (k := 0) (i := 7) bn_cX11_party_0 dop_16 9 9 (by decide +kernel)
theorem dX11_party_9 : decode cX11_party 9 = .ok (.iload_n 1, 1) := dR0 (k := 0) (i := 9) bn_cX11_party_0 dop_27 (by decide +kernel)
theorem dX11_party_10 : decode cX11_party 10 = .ok (.imul, 1) := dR0 (k := 0) (i := 10) bn_cX11_party_0 dop_104 (by decide +kernel)
theorem dX11_party_11 : decode cX11_party 11 = .ok (.iadd, 1) := dR0 (k := 0) (i := 11) bn_cX11_party_0 dop_96 (by decide +kernel)
theorem dX11_party_12 : decode cX11_party 12 = .ok (.iload_n 2, 1) := dR0 (k := 0) (i := 12) bn_cX11_party_0 dop_28 (by decide +kernel)
theorem dX11_party_13 : decode cX11_party 13 = .ok (.iadd, 1) := dR0 (k := 0) (i := 13) bn_cX11_party_0 dop_96 (by decide +kernel)
theorem dX11_party_14 : decode cX11_party 14 = .ok (.iaload, 1) := dR0 (k := 0) (i := 14) bn_cX11_party_0 dop_46 (by decide +kernel)
theorem dX11_party_15 : decode cX11_party 15 = .ok (.ireturn, 1) := dR0 (k := 0) (i := 15) bn_cX11_party_0 dop_172 (by decide +kernel)
set_option maxHeartbeats 4000000 in
set_option maxRecDepth 100000 in
theorem c_X11_partyG0 (l : Launch) (D : va_G) (cI : ClassId) (aK aV : Nat → Nat) (k k0 k1 k2 k4 k5 k6 k7 k8 ka kb kl ko : Nat) (sz : Nat) (c3 : Int32) (c9 : Int32) (cc : Int32) (cd : Int32) (ce : Int32) (cf : Int32) (cg : Int32) (ch : Int32) (ci : Int32) (cj : Int32) (ck : Int32) (cm : Int32) (cn : Int32) (c0 : Nat → Int32) (a0 : Int32) (a1 : Int32) (pre0 : 0 ≤ a0.toInt) (pre1 : a0.toInt ≤ 3) (pre2 : a1 = 0) : Met l yX11_party (gW yX11_party cX11_party 3 (some .int)) ({ frames := 0, cells := 0, slots := 0, locals := 0 } : Room) (kPreX D cI aK aV [.ref k, .int a0, .int 0] [(k, .inr (11, [.ref k0, .ref k1, .ref k2, .int c3, .ref k4, .ref k5, .ref k6, .ref k7, .ref k8, .int c9, .ref ka, .ref kb, .int cc, .int cd, .int ce, .int cf, .int cg, .int ch, .int ci, .int cj, .int ck, .ref kl, .int cm, .int cn, .ref ko])), (k0, .inl (cI, 1201, .inl c0))] sz) (va_Qi (fun (r : Int32) (u : Unit) => r = pW c0 a0 0) (fun u t => kWd D cI (va_A [(k, .inr (11, [.ref k0, .ref k1, .ref k2, .int c3, .ref k4, .ref k5, .ref k6, .ref k7, .ref k8, .int c9, .ref ka, .ref kb, .int cc, .int cd, .int ce, .int cf, .int cg, .int ch, .int ci, .int cj, .int ck, .ref kl, .int cm, .int cn, .ref ko])), (k0, .inl (cI, 1201, .inl c0))] sz) [(k, .inr (11, [.ref k0, .ref k1, .ref k2, .int c3, .ref k4, .ref k5, .ref k6, .ref k7, .ref k8, .int c9, .ref ka, .ref kb, .int cc, .int cd, .int ce, .int cf, .int cg, .int ch, .int ci, .int cj, .int ck, .ref kl, .int cm, .int cn, .ref ko])), (k0, .inl (cI, 1201, .inl c0))] t) (va_A [(k, .inr (11, [.ref k0, .ref k1, .ref k2, .int c3, .ref k4, .ref k5, .ref k6, .ref k7, .ref k8, .int c9, .ref ka, .ref kb, .int cc, .int cd, .int ce, .int cf, .int cg, .int ch, .int ci, .int cj, .int ck, .ref kl, .int cm, .int cn, .ref ko])), (k0, .inl (cI, 1201, .inl c0))] sz)) 0 0 (va_A [(k, .inr (11, [.ref k0, .ref k1, .ref k2, .int c3, .ref k4, .ref k5, .ref k6, .ref k7, .ref k8, .int c9, .ref ka, .ref kb, .int cc, .int cd, .int ce, .int cf, .int cg, .int ch, .int ci, .int cj, .int ck, .ref kl, .int cm, .int cn, .ref ko])), (k0, .inl (cI, 1201, .inl c0))] sz) := by
  refine kMetIX (own := RX11) (by decide +kernel) rfl (Nat.le_of_ble_eq_true rfl) ?_
  intro p e s m args below meth c hx hb hT hown hname hml A Q hK hP hD hS hA hN hXS hRet ls hl
  subst pre2
  have hl : lv_has ls 3 [(0, .ref k), (1, .int a0), (2, .int 0)] := hl
  have lo_a0 := k_lo a0
  have hi_a0 := k_hi a0
  have lo_ci := k_lo ci
  have hi_ci := k_hi ci
  refine lv_aload_n hx hb dX11_party_0 rfl (lv_at hl 0 rfl) ?_
  refine va_get (D := D) (ci := 11) (v := .ref k0) (C := RX11) (T := TX11) (N := 25) hx hb hT giX11 hown hK hP 0 rfl rfl 0 (by decide +kernel) (hT (Cond.fieldLink RX11 9 "DesertWireModel" "s" "[I") mw_1156) (fun _ h9 => h9) rfl dX11_party_1 ?_
  refine lv_sipush (v := 459) hx hb dX11_party_4 (by decide +kernel) ?_
  refine lv_bipush (v := 9) hx hb dX11_party_7 (by decide +kernel) ?_
  refine lv_iload_n hx hb dX11_party_9 rfl (lv_at hl 1 rfl) ?_
  refine lv_imul hx hb dX11_party_10 ?_
  refine lv_topi (fun v_1 ev_1 => ?_)
  have tv_1 : v_1.toInt = 9 * a0.toInt := by rw [ev_1]; exact k_mulv zl_9 rfl (by omega) (by omega)
  refine lv_iadd hx hb dX11_party_11 ?_
  refine lv_topi (fun v_2 ev_2 => ?_)
  have tv_2 : v_2.toInt = 459 + v_1.toInt := by rw [ev_2]; exact k_addv zl_459 rfl (by omega) (by omega)
  refine lv_iload_n hx hb dX11_party_12 rfl (lv_at hl 2 rfl) ?_
  refine lv_iadd hx hb dX11_party_13 ?_
  refine lv_topi (fun v_3 ev_3 => ?_)
  have tv_3 : v_3.toInt = v_2.toInt + 0 := by rw [ev_3]; exact k_addv rfl zl_0 (by omega) (by omega)
  refine k_iald (v := (c0 v_3.toNatClampNeg)) hx hb hK hP 1 0 rfl rfl (k_in (by omega) (by omega)) rfl dX11_party_14 ?_
  refine lv_topi (fun v_4 ev_4 => ?_)
  have lo_v_4 := k_lo v_4
  have hi_v_4 := k_hi v_4
  have tv_4 : v_4.toInt = (c0 v_3.toNatClampNeg).toInt := by rw [ev_4]
  exact hRet () [0, 1] (pW_in ev_4 (by omega) (by omega)) hP hD (by decide +kernel) rfl hS rfl dX11_party_15

set_option maxHeartbeats 4000000 in
set_option maxRecDepth 100000 in
theorem c_X11_partyG1 (l : Launch) (D : va_G) (cI : ClassId) (aK aV : Nat → Nat) (k k0 k1 k2 k4 k5 k6 k7 k8 ka kb kl ko : Nat) (sz : Nat) (c3 : Int32) (c9 : Int32) (cc : Int32) (cd : Int32) (ce : Int32) (cf : Int32) (cg : Int32) (ch : Int32) (ci : Int32) (cj : Int32) (ck : Int32) (cm : Int32) (cn : Int32) (c0 : Nat → Int32) (a0 : Int32) (a1 : Int32) (pre0 : 0 ≤ a0.toInt) (pre1 : a0.toInt ≤ 3) (pre2 : a1 = 1) : Met l yX11_party (gW yX11_party cX11_party 3 (some .int)) ({ frames := 0, cells := 0, slots := 0, locals := 0 } : Room) (kPreX D cI aK aV [.ref k, .int a0, .int 1] [(k, .inr (11, [.ref k0, .ref k1, .ref k2, .int c3, .ref k4, .ref k5, .ref k6, .ref k7, .ref k8, .int c9, .ref ka, .ref kb, .int cc, .int cd, .int ce, .int cf, .int cg, .int ch, .int ci, .int cj, .int ck, .ref kl, .int cm, .int cn, .ref ko])), (k0, .inl (cI, 1201, .inl c0))] sz) (va_Qi (fun (r : Int32) (u : Unit) => r = pW c0 a0 1) (fun u t => kWd D cI (va_A [(k, .inr (11, [.ref k0, .ref k1, .ref k2, .int c3, .ref k4, .ref k5, .ref k6, .ref k7, .ref k8, .int c9, .ref ka, .ref kb, .int cc, .int cd, .int ce, .int cf, .int cg, .int ch, .int ci, .int cj, .int ck, .ref kl, .int cm, .int cn, .ref ko])), (k0, .inl (cI, 1201, .inl c0))] sz) [(k, .inr (11, [.ref k0, .ref k1, .ref k2, .int c3, .ref k4, .ref k5, .ref k6, .ref k7, .ref k8, .int c9, .ref ka, .ref kb, .int cc, .int cd, .int ce, .int cf, .int cg, .int ch, .int ci, .int cj, .int ck, .ref kl, .int cm, .int cn, .ref ko])), (k0, .inl (cI, 1201, .inl c0))] t) (va_A [(k, .inr (11, [.ref k0, .ref k1, .ref k2, .int c3, .ref k4, .ref k5, .ref k6, .ref k7, .ref k8, .int c9, .ref ka, .ref kb, .int cc, .int cd, .int ce, .int cf, .int cg, .int ch, .int ci, .int cj, .int ck, .ref kl, .int cm, .int cn, .ref ko])), (k0, .inl (cI, 1201, .inl c0))] sz)) 0 0 (va_A [(k, .inr (11, [.ref k0, .ref k1, .ref k2, .int c3, .ref k4, .ref k5, .ref k6, .ref k7, .ref k8, .int c9, .ref ka, .ref kb, .int cc, .int cd, .int ce, .int cf, .int cg, .int ch, .int ci, .int cj, .int ck, .ref kl, .int cm, .int cn, .ref ko])), (k0, .inl (cI, 1201, .inl c0))] sz) := by
  refine kMetIX (own := RX11) (by decide +kernel) rfl (Nat.le_of_ble_eq_true rfl) ?_
  intro p e s m args below meth c hx hb hT hown hname hml A Q hK hP hD hS hA hN hXS hRet ls hl
  subst pre2
  have hl : lv_has ls 3 [(0, .ref k), (1, .int a0), (2, .int 1)] := hl
  have lo_a0 := k_lo a0
  have hi_a0 := k_hi a0
  have lo_ci := k_lo ci
  have hi_ci := k_hi ci
  refine lv_aload_n hx hb dX11_party_0 rfl (lv_at hl 0 rfl) ?_
  refine va_get (D := D) (ci := 11) (v := .ref k0) (C := RX11) (T := TX11) (N := 25) hx hb hT giX11 hown hK hP 0 rfl rfl 0 (by decide +kernel) (hT (Cond.fieldLink RX11 9 "DesertWireModel" "s" "[I") mw_1156) (fun _ h9 => h9) rfl dX11_party_1 ?_
  refine lv_sipush (v := 459) hx hb dX11_party_4 (by decide +kernel) ?_
  refine lv_bipush (v := 9) hx hb dX11_party_7 (by decide +kernel) ?_
  refine lv_iload_n hx hb dX11_party_9 rfl (lv_at hl 1 rfl) ?_
  refine lv_imul hx hb dX11_party_10 ?_
  refine lv_topi (fun v_1 ev_1 => ?_)
  have tv_1 : v_1.toInt = 9 * a0.toInt := by rw [ev_1]; exact k_mulv zl_9 rfl (by omega) (by omega)
  refine lv_iadd hx hb dX11_party_11 ?_
  refine lv_topi (fun v_2 ev_2 => ?_)
  have tv_2 : v_2.toInt = 459 + v_1.toInt := by rw [ev_2]; exact k_addv zl_459 rfl (by omega) (by omega)
  refine lv_iload_n hx hb dX11_party_12 rfl (lv_at hl 2 rfl) ?_
  refine lv_iadd hx hb dX11_party_13 ?_
  refine lv_topi (fun v_3 ev_3 => ?_)
  have tv_3 : v_3.toInt = v_2.toInt + 1 := by rw [ev_3]; exact k_addv rfl zl_1 (by omega) (by omega)
  refine k_iald (v := (c0 v_3.toNatClampNeg)) hx hb hK hP 1 0 rfl rfl (k_in (by omega) (by omega)) rfl dX11_party_14 ?_
  refine lv_topi (fun v_4 ev_4 => ?_)
  have lo_v_4 := k_lo v_4
  have hi_v_4 := k_hi v_4
  have tv_4 : v_4.toInt = (c0 v_3.toNatClampNeg).toInt := by rw [ev_4]
  exact hRet () [0, 1] (pW_in ev_4 (by omega) (by omega)) hP hD (by decide +kernel) rfl hS rfl dX11_party_15

set_option maxHeartbeats 4000000 in
set_option maxRecDepth 100000 in
theorem c_X11_partyG2 (l : Launch) (D : va_G) (cI : ClassId) (aK aV : Nat → Nat) (k k0 k1 k2 k4 k5 k6 k7 k8 ka kb kl ko : Nat) (sz : Nat) (c3 : Int32) (c9 : Int32) (cc : Int32) (cd : Int32) (ce : Int32) (cf : Int32) (cg : Int32) (ch : Int32) (ci : Int32) (cj : Int32) (ck : Int32) (cm : Int32) (cn : Int32) (c0 : Nat → Int32) (a0 : Int32) (a1 : Int32) (pre0 : 0 ≤ a0.toInt) (pre1 : a0.toInt ≤ 3) (pre2 : a1 = 2) : Met l yX11_party (gW yX11_party cX11_party 3 (some .int)) ({ frames := 0, cells := 0, slots := 0, locals := 0 } : Room) (kPreX D cI aK aV [.ref k, .int a0, .int 2] [(k, .inr (11, [.ref k0, .ref k1, .ref k2, .int c3, .ref k4, .ref k5, .ref k6, .ref k7, .ref k8, .int c9, .ref ka, .ref kb, .int cc, .int cd, .int ce, .int cf, .int cg, .int ch, .int ci, .int cj, .int ck, .ref kl, .int cm, .int cn, .ref ko])), (k0, .inl (cI, 1201, .inl c0))] sz) (va_Qi (fun (r : Int32) (u : Unit) => r = pW c0 a0 2) (fun u t => kWd D cI (va_A [(k, .inr (11, [.ref k0, .ref k1, .ref k2, .int c3, .ref k4, .ref k5, .ref k6, .ref k7, .ref k8, .int c9, .ref ka, .ref kb, .int cc, .int cd, .int ce, .int cf, .int cg, .int ch, .int ci, .int cj, .int ck, .ref kl, .int cm, .int cn, .ref ko])), (k0, .inl (cI, 1201, .inl c0))] sz) [(k, .inr (11, [.ref k0, .ref k1, .ref k2, .int c3, .ref k4, .ref k5, .ref k6, .ref k7, .ref k8, .int c9, .ref ka, .ref kb, .int cc, .int cd, .int ce, .int cf, .int cg, .int ch, .int ci, .int cj, .int ck, .ref kl, .int cm, .int cn, .ref ko])), (k0, .inl (cI, 1201, .inl c0))] t) (va_A [(k, .inr (11, [.ref k0, .ref k1, .ref k2, .int c3, .ref k4, .ref k5, .ref k6, .ref k7, .ref k8, .int c9, .ref ka, .ref kb, .int cc, .int cd, .int ce, .int cf, .int cg, .int ch, .int ci, .int cj, .int ck, .ref kl, .int cm, .int cn, .ref ko])), (k0, .inl (cI, 1201, .inl c0))] sz)) 0 0 (va_A [(k, .inr (11, [.ref k0, .ref k1, .ref k2, .int c3, .ref k4, .ref k5, .ref k6, .ref k7, .ref k8, .int c9, .ref ka, .ref kb, .int cc, .int cd, .int ce, .int cf, .int cg, .int ch, .int ci, .int cj, .int ck, .ref kl, .int cm, .int cn, .ref ko])), (k0, .inl (cI, 1201, .inl c0))] sz) := by
  refine kMetIX (own := RX11) (by decide +kernel) rfl (Nat.le_of_ble_eq_true rfl) ?_
  intro p e s m args below meth c hx hb hT hown hname hml A Q hK hP hD hS hA hN hXS hRet ls hl
  subst pre2
  have hl : lv_has ls 3 [(0, .ref k), (1, .int a0), (2, .int 2)] := hl
  have lo_a0 := k_lo a0
  have hi_a0 := k_hi a0
  have lo_ci := k_lo ci
  have hi_ci := k_hi ci
  refine lv_aload_n hx hb dX11_party_0 rfl (lv_at hl 0 rfl) ?_
  refine va_get (D := D) (ci := 11) (v := .ref k0) (C := RX11) (T := TX11) (N := 25) hx hb hT giX11 hown hK hP 0 rfl rfl 0 (by decide +kernel) (hT (Cond.fieldLink RX11 9 "DesertWireModel" "s" "[I") mw_1156) (fun _ h9 => h9) rfl dX11_party_1 ?_
  refine lv_sipush (v := 459) hx hb dX11_party_4 (by decide +kernel) ?_
  refine lv_bipush (v := 9) hx hb dX11_party_7 (by decide +kernel) ?_
  refine lv_iload_n hx hb dX11_party_9 rfl (lv_at hl 1 rfl) ?_
  refine lv_imul hx hb dX11_party_10 ?_
  refine lv_topi (fun v_1 ev_1 => ?_)
  have tv_1 : v_1.toInt = 9 * a0.toInt := by rw [ev_1]; exact k_mulv zl_9 rfl (by omega) (by omega)
  refine lv_iadd hx hb dX11_party_11 ?_
  refine lv_topi (fun v_2 ev_2 => ?_)
  have tv_2 : v_2.toInt = 459 + v_1.toInt := by rw [ev_2]; exact k_addv zl_459 rfl (by omega) (by omega)
  refine lv_iload_n hx hb dX11_party_12 rfl (lv_at hl 2 rfl) ?_
  refine lv_iadd hx hb dX11_party_13 ?_
  refine lv_topi (fun v_3 ev_3 => ?_)
  have tv_3 : v_3.toInt = v_2.toInt + 2 := by rw [ev_3]; exact k_addv rfl zl_2 (by omega) (by omega)
  refine k_iald (v := (c0 v_3.toNatClampNeg)) hx hb hK hP 1 0 rfl rfl (k_in (by omega) (by omega)) rfl dX11_party_14 ?_
  refine lv_topi (fun v_4 ev_4 => ?_)
  have lo_v_4 := k_lo v_4
  have hi_v_4 := k_hi v_4
  have tv_4 : v_4.toInt = (c0 v_3.toNatClampNeg).toInt := by rw [ev_4]
  exact hRet () [0, 1] (pW_in ev_4 (by omega) (by omega)) hP hD (by decide +kernel) rfl hS rfl dX11_party_15

set_option maxHeartbeats 4000000 in
set_option maxRecDepth 100000 in
theorem c_X11_partyG3 (l : Launch) (D : va_G) (cI : ClassId) (aK aV : Nat → Nat) (k k0 k1 k2 k4 k5 k6 k7 k8 ka kb kl ko : Nat) (sz : Nat) (c3 : Int32) (c9 : Int32) (cc : Int32) (cd : Int32) (ce : Int32) (cf : Int32) (cg : Int32) (ch : Int32) (ci : Int32) (cj : Int32) (ck : Int32) (cm : Int32) (cn : Int32) (c0 : Nat → Int32) (a0 : Int32) (a1 : Int32) (pre0 : 0 ≤ a0.toInt) (pre1 : a0.toInt ≤ 3) (pre2 : a1 = 3) : Met l yX11_party (gW yX11_party cX11_party 3 (some .int)) ({ frames := 0, cells := 0, slots := 0, locals := 0 } : Room) (kPreX D cI aK aV [.ref k, .int a0, .int 3] [(k, .inr (11, [.ref k0, .ref k1, .ref k2, .int c3, .ref k4, .ref k5, .ref k6, .ref k7, .ref k8, .int c9, .ref ka, .ref kb, .int cc, .int cd, .int ce, .int cf, .int cg, .int ch, .int ci, .int cj, .int ck, .ref kl, .int cm, .int cn, .ref ko])), (k0, .inl (cI, 1201, .inl c0))] sz) (va_Qi (fun (r : Int32) (u : Unit) => r = pW c0 a0 3) (fun u t => kWd D cI (va_A [(k, .inr (11, [.ref k0, .ref k1, .ref k2, .int c3, .ref k4, .ref k5, .ref k6, .ref k7, .ref k8, .int c9, .ref ka, .ref kb, .int cc, .int cd, .int ce, .int cf, .int cg, .int ch, .int ci, .int cj, .int ck, .ref kl, .int cm, .int cn, .ref ko])), (k0, .inl (cI, 1201, .inl c0))] sz) [(k, .inr (11, [.ref k0, .ref k1, .ref k2, .int c3, .ref k4, .ref k5, .ref k6, .ref k7, .ref k8, .int c9, .ref ka, .ref kb, .int cc, .int cd, .int ce, .int cf, .int cg, .int ch, .int ci, .int cj, .int ck, .ref kl, .int cm, .int cn, .ref ko])), (k0, .inl (cI, 1201, .inl c0))] t) (va_A [(k, .inr (11, [.ref k0, .ref k1, .ref k2, .int c3, .ref k4, .ref k5, .ref k6, .ref k7, .ref k8, .int c9, .ref ka, .ref kb, .int cc, .int cd, .int ce, .int cf, .int cg, .int ch, .int ci, .int cj, .int ck, .ref kl, .int cm, .int cn, .ref ko])), (k0, .inl (cI, 1201, .inl c0))] sz)) 0 0 (va_A [(k, .inr (11, [.ref k0, .ref k1, .ref k2, .int c3, .ref k4, .ref k5, .ref k6, .ref k7, .ref k8, .int c9, .ref ka, .ref kb, .int cc, .int cd, .int ce, .int cf, .int cg, .int ch, .int ci, .int cj, .int ck, .ref kl, .int cm, .int cn, .ref ko])), (k0, .inl (cI, 1201, .inl c0))] sz) := by
  refine kMetIX (own := RX11) (by decide +kernel) rfl (Nat.le_of_ble_eq_true rfl) ?_
  intro p e s m args below meth c hx hb hT hown hname hml A Q hK hP hD hS hA hN hXS hRet ls hl
  subst pre2
  have hl : lv_has ls 3 [(0, .ref k), (1, .int a0), (2, .int 3)] := hl
  have lo_a0 := k_lo a0
  have hi_a0 := k_hi a0
  have lo_ci := k_lo ci
  have hi_ci := k_hi ci
  refine lv_aload_n hx hb dX11_party_0 rfl (lv_at hl 0 rfl) ?_
  refine va_get (D := D) (ci := 11) (v := .ref k0) (C := RX11) (T := TX11) (N := 25) hx hb hT giX11 hown hK hP 0 rfl rfl 0 (by decide +kernel) (hT (Cond.fieldLink RX11 9 "DesertWireModel" "s" "[I") mw_1156) (fun _ h9 => h9) rfl dX11_party_1 ?_
  refine lv_sipush (v := 459) hx hb dX11_party_4 (by decide +kernel) ?_
  refine lv_bipush (v := 9) hx hb dX11_party_7 (by decide +kernel) ?_
  refine lv_iload_n hx hb dX11_party_9 rfl (lv_at hl 1 rfl) ?_
  refine lv_imul hx hb dX11_party_10 ?_
  refine lv_topi (fun v_1 ev_1 => ?_)
  have tv_1 : v_1.toInt = 9 * a0.toInt := by rw [ev_1]; exact k_mulv zl_9 rfl (by omega) (by omega)
  refine lv_iadd hx hb dX11_party_11 ?_
  refine lv_topi (fun v_2 ev_2 => ?_)
  have tv_2 : v_2.toInt = 459 + v_1.toInt := by rw [ev_2]; exact k_addv zl_459 rfl (by omega) (by omega)
  refine lv_iload_n hx hb dX11_party_12 rfl (lv_at hl 2 rfl) ?_
  refine lv_iadd hx hb dX11_party_13 ?_
  refine lv_topi (fun v_3 ev_3 => ?_)
  have tv_3 : v_3.toInt = v_2.toInt + 3 := by rw [ev_3]; exact k_addv rfl zl_3 (by omega) (by omega)
  refine k_iald (v := (c0 v_3.toNatClampNeg)) hx hb hK hP 1 0 rfl rfl (k_in (by omega) (by omega)) rfl dX11_party_14 ?_
  refine lv_topi (fun v_4 ev_4 => ?_)
  have lo_v_4 := k_lo v_4
  have hi_v_4 := k_hi v_4
  have tv_4 : v_4.toInt = (c0 v_3.toNatClampNeg).toInt := by rw [ev_4]
  exact hRet () [0, 1] (pW_in ev_4 (by omega) (by omega)) hP hD (by decide +kernel) rfl hS rfl dX11_party_15

set_option maxHeartbeats 4000000 in
set_option maxRecDepth 100000 in
theorem c_X11_partyG4 (l : Launch) (D : va_G) (cI : ClassId) (aK aV : Nat → Nat) (k k0 k1 k2 k4 k5 k6 k7 k8 ka kb kl ko : Nat) (sz : Nat) (c3 : Int32) (c9 : Int32) (cc : Int32) (cd : Int32) (ce : Int32) (cf : Int32) (cg : Int32) (ch : Int32) (ci : Int32) (cj : Int32) (ck : Int32) (cm : Int32) (cn : Int32) (c0 : Nat → Int32) (a0 : Int32) (a1 : Int32) (pre0 : 0 ≤ a0.toInt) (pre1 : a0.toInt ≤ 3) (pre2 : a1 = 4) : Met l yX11_party (gW yX11_party cX11_party 3 (some .int)) ({ frames := 0, cells := 0, slots := 0, locals := 0 } : Room) (kPreX D cI aK aV [.ref k, .int a0, .int 4] [(k, .inr (11, [.ref k0, .ref k1, .ref k2, .int c3, .ref k4, .ref k5, .ref k6, .ref k7, .ref k8, .int c9, .ref ka, .ref kb, .int cc, .int cd, .int ce, .int cf, .int cg, .int ch, .int ci, .int cj, .int ck, .ref kl, .int cm, .int cn, .ref ko])), (k0, .inl (cI, 1201, .inl c0))] sz) (va_Qi (fun (r : Int32) (u : Unit) => r = pW c0 a0 4) (fun u t => kWd D cI (va_A [(k, .inr (11, [.ref k0, .ref k1, .ref k2, .int c3, .ref k4, .ref k5, .ref k6, .ref k7, .ref k8, .int c9, .ref ka, .ref kb, .int cc, .int cd, .int ce, .int cf, .int cg, .int ch, .int ci, .int cj, .int ck, .ref kl, .int cm, .int cn, .ref ko])), (k0, .inl (cI, 1201, .inl c0))] sz) [(k, .inr (11, [.ref k0, .ref k1, .ref k2, .int c3, .ref k4, .ref k5, .ref k6, .ref k7, .ref k8, .int c9, .ref ka, .ref kb, .int cc, .int cd, .int ce, .int cf, .int cg, .int ch, .int ci, .int cj, .int ck, .ref kl, .int cm, .int cn, .ref ko])), (k0, .inl (cI, 1201, .inl c0))] t) (va_A [(k, .inr (11, [.ref k0, .ref k1, .ref k2, .int c3, .ref k4, .ref k5, .ref k6, .ref k7, .ref k8, .int c9, .ref ka, .ref kb, .int cc, .int cd, .int ce, .int cf, .int cg, .int ch, .int ci, .int cj, .int ck, .ref kl, .int cm, .int cn, .ref ko])), (k0, .inl (cI, 1201, .inl c0))] sz)) 0 0 (va_A [(k, .inr (11, [.ref k0, .ref k1, .ref k2, .int c3, .ref k4, .ref k5, .ref k6, .ref k7, .ref k8, .int c9, .ref ka, .ref kb, .int cc, .int cd, .int ce, .int cf, .int cg, .int ch, .int ci, .int cj, .int ck, .ref kl, .int cm, .int cn, .ref ko])), (k0, .inl (cI, 1201, .inl c0))] sz) := by
  refine kMetIX (own := RX11) (by decide +kernel) rfl (Nat.le_of_ble_eq_true rfl) ?_
  intro p e s m args below meth c hx hb hT hown hname hml A Q hK hP hD hS hA hN hXS hRet ls hl
  subst pre2
  have hl : lv_has ls 3 [(0, .ref k), (1, .int a0), (2, .int 4)] := hl
  have lo_a0 := k_lo a0
  have hi_a0 := k_hi a0
  have lo_ci := k_lo ci
  have hi_ci := k_hi ci
  refine lv_aload_n hx hb dX11_party_0 rfl (lv_at hl 0 rfl) ?_
  refine va_get (D := D) (ci := 11) (v := .ref k0) (C := RX11) (T := TX11) (N := 25) hx hb hT giX11 hown hK hP 0 rfl rfl 0 (by decide +kernel) (hT (Cond.fieldLink RX11 9 "DesertWireModel" "s" "[I") mw_1156) (fun _ h9 => h9) rfl dX11_party_1 ?_
  refine lv_sipush (v := 459) hx hb dX11_party_4 (by decide +kernel) ?_
  refine lv_bipush (v := 9) hx hb dX11_party_7 (by decide +kernel) ?_
  refine lv_iload_n hx hb dX11_party_9 rfl (lv_at hl 1 rfl) ?_
  refine lv_imul hx hb dX11_party_10 ?_
  refine lv_topi (fun v_1 ev_1 => ?_)
  have tv_1 : v_1.toInt = 9 * a0.toInt := by rw [ev_1]; exact k_mulv zl_9 rfl (by omega) (by omega)
  refine lv_iadd hx hb dX11_party_11 ?_
  refine lv_topi (fun v_2 ev_2 => ?_)
  have tv_2 : v_2.toInt = 459 + v_1.toInt := by rw [ev_2]; exact k_addv zl_459 rfl (by omega) (by omega)
  refine lv_iload_n hx hb dX11_party_12 rfl (lv_at hl 2 rfl) ?_
  refine lv_iadd hx hb dX11_party_13 ?_
  refine lv_topi (fun v_3 ev_3 => ?_)
  have tv_3 : v_3.toInt = v_2.toInt + 4 := by rw [ev_3]; exact k_addv rfl zl_4 (by omega) (by omega)
  refine k_iald (v := (c0 v_3.toNatClampNeg)) hx hb hK hP 1 0 rfl rfl (k_in (by omega) (by omega)) rfl dX11_party_14 ?_
  refine lv_topi (fun v_4 ev_4 => ?_)
  have lo_v_4 := k_lo v_4
  have hi_v_4 := k_hi v_4
  have tv_4 : v_4.toInt = (c0 v_3.toNatClampNeg).toInt := by rw [ev_4]
  exact hRet () [0, 1] (pW_in ev_4 (by omega) (by omega)) hP hD (by decide +kernel) rfl hS rfl dX11_party_15

set_option maxHeartbeats 4000000 in
set_option maxRecDepth 100000 in
theorem c_X11_partyG5 (l : Launch) (D : va_G) (cI : ClassId) (aK aV : Nat → Nat) (k k0 k1 k2 k4 k5 k6 k7 k8 ka kb kl ko : Nat) (sz : Nat) (c3 : Int32) (c9 : Int32) (cc : Int32) (cd : Int32) (ce : Int32) (cf : Int32) (cg : Int32) (ch : Int32) (ci : Int32) (cj : Int32) (ck : Int32) (cm : Int32) (cn : Int32) (c0 : Nat → Int32) (a0 : Int32) (a1 : Int32) (pre0 : 0 ≤ a0.toInt) (pre1 : a0.toInt ≤ 3) (pre2 : a1 = 5) : Met l yX11_party (gW yX11_party cX11_party 3 (some .int)) ({ frames := 0, cells := 0, slots := 0, locals := 0 } : Room) (kPreX D cI aK aV [.ref k, .int a0, .int 5] [(k, .inr (11, [.ref k0, .ref k1, .ref k2, .int c3, .ref k4, .ref k5, .ref k6, .ref k7, .ref k8, .int c9, .ref ka, .ref kb, .int cc, .int cd, .int ce, .int cf, .int cg, .int ch, .int ci, .int cj, .int ck, .ref kl, .int cm, .int cn, .ref ko])), (k0, .inl (cI, 1201, .inl c0))] sz) (va_Qi (fun (r : Int32) (u : Unit) => r = pW c0 a0 5) (fun u t => kWd D cI (va_A [(k, .inr (11, [.ref k0, .ref k1, .ref k2, .int c3, .ref k4, .ref k5, .ref k6, .ref k7, .ref k8, .int c9, .ref ka, .ref kb, .int cc, .int cd, .int ce, .int cf, .int cg, .int ch, .int ci, .int cj, .int ck, .ref kl, .int cm, .int cn, .ref ko])), (k0, .inl (cI, 1201, .inl c0))] sz) [(k, .inr (11, [.ref k0, .ref k1, .ref k2, .int c3, .ref k4, .ref k5, .ref k6, .ref k7, .ref k8, .int c9, .ref ka, .ref kb, .int cc, .int cd, .int ce, .int cf, .int cg, .int ch, .int ci, .int cj, .int ck, .ref kl, .int cm, .int cn, .ref ko])), (k0, .inl (cI, 1201, .inl c0))] t) (va_A [(k, .inr (11, [.ref k0, .ref k1, .ref k2, .int c3, .ref k4, .ref k5, .ref k6, .ref k7, .ref k8, .int c9, .ref ka, .ref kb, .int cc, .int cd, .int ce, .int cf, .int cg, .int ch, .int ci, .int cj, .int ck, .ref kl, .int cm, .int cn, .ref ko])), (k0, .inl (cI, 1201, .inl c0))] sz)) 0 0 (va_A [(k, .inr (11, [.ref k0, .ref k1, .ref k2, .int c3, .ref k4, .ref k5, .ref k6, .ref k7, .ref k8, .int c9, .ref ka, .ref kb, .int cc, .int cd, .int ce, .int cf, .int cg, .int ch, .int ci, .int cj, .int ck, .ref kl, .int cm, .int cn, .ref ko])), (k0, .inl (cI, 1201, .inl c0))] sz) := by
  refine kMetIX (own := RX11) (by decide +kernel) rfl (Nat.le_of_ble_eq_true rfl) ?_
  intro p e s m args below meth c hx hb hT hown hname hml A Q hK hP hD hS hA hN hXS hRet ls hl
  subst pre2
  have hl : lv_has ls 3 [(0, .ref k), (1, .int a0), (2, .int 5)] := hl
  have lo_a0 := k_lo a0
  have hi_a0 := k_hi a0
  have lo_ci := k_lo ci
  have hi_ci := k_hi ci
  refine lv_aload_n hx hb dX11_party_0 rfl (lv_at hl 0 rfl) ?_
  refine va_get (D := D) (ci := 11) (v := .ref k0) (C := RX11) (T := TX11) (N := 25) hx hb hT giX11 hown hK hP 0 rfl rfl 0 (by decide +kernel) (hT (Cond.fieldLink RX11 9 "DesertWireModel" "s" "[I") mw_1156) (fun _ h9 => h9) rfl dX11_party_1 ?_
  refine lv_sipush (v := 459) hx hb dX11_party_4 (by decide +kernel) ?_
  refine lv_bipush (v := 9) hx hb dX11_party_7 (by decide +kernel) ?_
  refine lv_iload_n hx hb dX11_party_9 rfl (lv_at hl 1 rfl) ?_
  refine lv_imul hx hb dX11_party_10 ?_
  refine lv_topi (fun v_1 ev_1 => ?_)
  have tv_1 : v_1.toInt = 9 * a0.toInt := by rw [ev_1]; exact k_mulv zl_9 rfl (by omega) (by omega)
  refine lv_iadd hx hb dX11_party_11 ?_
  refine lv_topi (fun v_2 ev_2 => ?_)
  have tv_2 : v_2.toInt = 459 + v_1.toInt := by rw [ev_2]; exact k_addv zl_459 rfl (by omega) (by omega)
  refine lv_iload_n hx hb dX11_party_12 rfl (lv_at hl 2 rfl) ?_
  refine lv_iadd hx hb dX11_party_13 ?_
  refine lv_topi (fun v_3 ev_3 => ?_)
  have tv_3 : v_3.toInt = v_2.toInt + 5 := by rw [ev_3]; exact k_addv rfl zl_5 (by omega) (by omega)
  refine k_iald (v := (c0 v_3.toNatClampNeg)) hx hb hK hP 1 0 rfl rfl (k_in (by omega) (by omega)) rfl dX11_party_14 ?_
  refine lv_topi (fun v_4 ev_4 => ?_)
  have lo_v_4 := k_lo v_4
  have hi_v_4 := k_hi v_4
  have tv_4 : v_4.toInt = (c0 v_3.toNatClampNeg).toInt := by rw [ev_4]
  exact hRet () [0, 1] (pW_in ev_4 (by omega) (by omega)) hP hD (by decide +kernel) rfl hS rfl dX11_party_15

set_option maxHeartbeats 4000000 in
set_option maxRecDepth 100000 in
theorem c_X11_partyG6 (l : Launch) (D : va_G) (cI : ClassId) (aK aV : Nat → Nat) (k k0 k1 k2 k4 k5 k6 k7 k8 ka kb kl ko : Nat) (sz : Nat) (c3 : Int32) (c9 : Int32) (cc : Int32) (cd : Int32) (ce : Int32) (cf : Int32) (cg : Int32) (ch : Int32) (ci : Int32) (cj : Int32) (ck : Int32) (cm : Int32) (cn : Int32) (c0 : Nat → Int32) (a0 : Int32) (a1 : Int32) (pre0 : 0 ≤ a0.toInt) (pre1 : a0.toInt ≤ 3) (pre2 : a1 = 6) : Met l yX11_party (gW yX11_party cX11_party 3 (some .int)) ({ frames := 0, cells := 0, slots := 0, locals := 0 } : Room) (kPreX D cI aK aV [.ref k, .int a0, .int 6] [(k, .inr (11, [.ref k0, .ref k1, .ref k2, .int c3, .ref k4, .ref k5, .ref k6, .ref k7, .ref k8, .int c9, .ref ka, .ref kb, .int cc, .int cd, .int ce, .int cf, .int cg, .int ch, .int ci, .int cj, .int ck, .ref kl, .int cm, .int cn, .ref ko])), (k0, .inl (cI, 1201, .inl c0))] sz) (va_Qi (fun (r : Int32) (u : Unit) => r = pW c0 a0 6) (fun u t => kWd D cI (va_A [(k, .inr (11, [.ref k0, .ref k1, .ref k2, .int c3, .ref k4, .ref k5, .ref k6, .ref k7, .ref k8, .int c9, .ref ka, .ref kb, .int cc, .int cd, .int ce, .int cf, .int cg, .int ch, .int ci, .int cj, .int ck, .ref kl, .int cm, .int cn, .ref ko])), (k0, .inl (cI, 1201, .inl c0))] sz) [(k, .inr (11, [.ref k0, .ref k1, .ref k2, .int c3, .ref k4, .ref k5, .ref k6, .ref k7, .ref k8, .int c9, .ref ka, .ref kb, .int cc, .int cd, .int ce, .int cf, .int cg, .int ch, .int ci, .int cj, .int ck, .ref kl, .int cm, .int cn, .ref ko])), (k0, .inl (cI, 1201, .inl c0))] t) (va_A [(k, .inr (11, [.ref k0, .ref k1, .ref k2, .int c3, .ref k4, .ref k5, .ref k6, .ref k7, .ref k8, .int c9, .ref ka, .ref kb, .int cc, .int cd, .int ce, .int cf, .int cg, .int ch, .int ci, .int cj, .int ck, .ref kl, .int cm, .int cn, .ref ko])), (k0, .inl (cI, 1201, .inl c0))] sz)) 0 0 (va_A [(k, .inr (11, [.ref k0, .ref k1, .ref k2, .int c3, .ref k4, .ref k5, .ref k6, .ref k7, .ref k8, .int c9, .ref ka, .ref kb, .int cc, .int cd, .int ce, .int cf, .int cg, .int ch, .int ci, .int cj, .int ck, .ref kl, .int cm, .int cn, .ref ko])), (k0, .inl (cI, 1201, .inl c0))] sz) := by
  refine kMetIX (own := RX11) (by decide +kernel) rfl (Nat.le_of_ble_eq_true rfl) ?_
  intro p e s m args below meth c hx hb hT hown hname hml A Q hK hP hD hS hA hN hXS hRet ls hl
  subst pre2
  have hl : lv_has ls 3 [(0, .ref k), (1, .int a0), (2, .int 6)] := hl
  have lo_a0 := k_lo a0
  have hi_a0 := k_hi a0
  have lo_ci := k_lo ci
  have hi_ci := k_hi ci
  refine lv_aload_n hx hb dX11_party_0 rfl (lv_at hl 0 rfl) ?_
  refine va_get (D := D) (ci := 11) (v := .ref k0) (C := RX11) (T := TX11) (N := 25) hx hb hT giX11 hown hK hP 0 rfl rfl 0 (by decide +kernel) (hT (Cond.fieldLink RX11 9 "DesertWireModel" "s" "[I") mw_1156) (fun _ h9 => h9) rfl dX11_party_1 ?_
  refine lv_sipush (v := 459) hx hb dX11_party_4 (by decide +kernel) ?_
  refine lv_bipush (v := 9) hx hb dX11_party_7 (by decide +kernel) ?_
  refine lv_iload_n hx hb dX11_party_9 rfl (lv_at hl 1 rfl) ?_
  refine lv_imul hx hb dX11_party_10 ?_
  refine lv_topi (fun v_1 ev_1 => ?_)
  have tv_1 : v_1.toInt = 9 * a0.toInt := by rw [ev_1]; exact k_mulv zl_9 rfl (by omega) (by omega)
  refine lv_iadd hx hb dX11_party_11 ?_
  refine lv_topi (fun v_2 ev_2 => ?_)
  have tv_2 : v_2.toInt = 459 + v_1.toInt := by rw [ev_2]; exact k_addv zl_459 rfl (by omega) (by omega)
  refine lv_iload_n hx hb dX11_party_12 rfl (lv_at hl 2 rfl) ?_
  refine lv_iadd hx hb dX11_party_13 ?_
  refine lv_topi (fun v_3 ev_3 => ?_)
  have tv_3 : v_3.toInt = v_2.toInt + 6 := by rw [ev_3]; exact k_addv rfl zl_6 (by omega) (by omega)
  refine k_iald (v := (c0 v_3.toNatClampNeg)) hx hb hK hP 1 0 rfl rfl (k_in (by omega) (by omega)) rfl dX11_party_14 ?_
  refine lv_topi (fun v_4 ev_4 => ?_)
  have lo_v_4 := k_lo v_4
  have hi_v_4 := k_hi v_4
  have tv_4 : v_4.toInt = (c0 v_3.toNatClampNeg).toInt := by rw [ev_4]
  exact hRet () [0, 1] (pW_in ev_4 (by omega) (by omega)) hP hD (by decide +kernel) rfl hS rfl dX11_party_15

set_option maxHeartbeats 4000000 in
set_option maxRecDepth 100000 in
theorem c_X11_partyG7 (l : Launch) (D : va_G) (cI : ClassId) (aK aV : Nat → Nat) (k k0 k1 k2 k4 k5 k6 k7 k8 ka kb kl ko : Nat) (sz : Nat) (c3 : Int32) (c9 : Int32) (cc : Int32) (cd : Int32) (ce : Int32) (cf : Int32) (cg : Int32) (ch : Int32) (ci : Int32) (cj : Int32) (ck : Int32) (cm : Int32) (cn : Int32) (c0 : Nat → Int32) (a0 : Int32) (a1 : Int32) (pre0 : 0 ≤ a0.toInt) (pre1 : a0.toInt ≤ 3) (pre2 : a1 = 7) : Met l yX11_party (gW yX11_party cX11_party 3 (some .int)) ({ frames := 0, cells := 0, slots := 0, locals := 0 } : Room) (kPreX D cI aK aV [.ref k, .int a0, .int 7] [(k, .inr (11, [.ref k0, .ref k1, .ref k2, .int c3, .ref k4, .ref k5, .ref k6, .ref k7, .ref k8, .int c9, .ref ka, .ref kb, .int cc, .int cd, .int ce, .int cf, .int cg, .int ch, .int ci, .int cj, .int ck, .ref kl, .int cm, .int cn, .ref ko])), (k0, .inl (cI, 1201, .inl c0))] sz) (va_Qi (fun (r : Int32) (u : Unit) => r = pW c0 a0 7) (fun u t => kWd D cI (va_A [(k, .inr (11, [.ref k0, .ref k1, .ref k2, .int c3, .ref k4, .ref k5, .ref k6, .ref k7, .ref k8, .int c9, .ref ka, .ref kb, .int cc, .int cd, .int ce, .int cf, .int cg, .int ch, .int ci, .int cj, .int ck, .ref kl, .int cm, .int cn, .ref ko])), (k0, .inl (cI, 1201, .inl c0))] sz) [(k, .inr (11, [.ref k0, .ref k1, .ref k2, .int c3, .ref k4, .ref k5, .ref k6, .ref k7, .ref k8, .int c9, .ref ka, .ref kb, .int cc, .int cd, .int ce, .int cf, .int cg, .int ch, .int ci, .int cj, .int ck, .ref kl, .int cm, .int cn, .ref ko])), (k0, .inl (cI, 1201, .inl c0))] t) (va_A [(k, .inr (11, [.ref k0, .ref k1, .ref k2, .int c3, .ref k4, .ref k5, .ref k6, .ref k7, .ref k8, .int c9, .ref ka, .ref kb, .int cc, .int cd, .int ce, .int cf, .int cg, .int ch, .int ci, .int cj, .int ck, .ref kl, .int cm, .int cn, .ref ko])), (k0, .inl (cI, 1201, .inl c0))] sz)) 0 0 (va_A [(k, .inr (11, [.ref k0, .ref k1, .ref k2, .int c3, .ref k4, .ref k5, .ref k6, .ref k7, .ref k8, .int c9, .ref ka, .ref kb, .int cc, .int cd, .int ce, .int cf, .int cg, .int ch, .int ci, .int cj, .int ck, .ref kl, .int cm, .int cn, .ref ko])), (k0, .inl (cI, 1201, .inl c0))] sz) := by
  refine kMetIX (own := RX11) (by decide +kernel) rfl (Nat.le_of_ble_eq_true rfl) ?_
  intro p e s m args below meth c hx hb hT hown hname hml A Q hK hP hD hS hA hN hXS hRet ls hl
  subst pre2
  have hl : lv_has ls 3 [(0, .ref k), (1, .int a0), (2, .int 7)] := hl
  have lo_a0 := k_lo a0
  have hi_a0 := k_hi a0
  have lo_ci := k_lo ci
  have hi_ci := k_hi ci
  refine lv_aload_n hx hb dX11_party_0 rfl (lv_at hl 0 rfl) ?_
  refine va_get (D := D) (ci := 11) (v := .ref k0) (C := RX11) (T := TX11) (N := 25) hx hb hT giX11 hown hK hP 0 rfl rfl 0 (by decide +kernel) (hT (Cond.fieldLink RX11 9 "DesertWireModel" "s" "[I") mw_1156) (fun _ h9 => h9) rfl dX11_party_1 ?_
  refine lv_sipush (v := 459) hx hb dX11_party_4 (by decide +kernel) ?_
  refine lv_bipush (v := 9) hx hb dX11_party_7 (by decide +kernel) ?_
  refine lv_iload_n hx hb dX11_party_9 rfl (lv_at hl 1 rfl) ?_
  refine lv_imul hx hb dX11_party_10 ?_
  refine lv_topi (fun v_1 ev_1 => ?_)
  have tv_1 : v_1.toInt = 9 * a0.toInt := by rw [ev_1]; exact k_mulv zl_9 rfl (by omega) (by omega)
  refine lv_iadd hx hb dX11_party_11 ?_
  refine lv_topi (fun v_2 ev_2 => ?_)
  have tv_2 : v_2.toInt = 459 + v_1.toInt := by rw [ev_2]; exact k_addv zl_459 rfl (by omega) (by omega)
  refine lv_iload_n hx hb dX11_party_12 rfl (lv_at hl 2 rfl) ?_
  refine lv_iadd hx hb dX11_party_13 ?_
  refine lv_topi (fun v_3 ev_3 => ?_)
  have tv_3 : v_3.toInt = v_2.toInt + 7 := by rw [ev_3]; exact k_addv rfl zl_7 (by omega) (by omega)
  refine k_iald (v := (c0 v_3.toNatClampNeg)) hx hb hK hP 1 0 rfl rfl (k_in (by omega) (by omega)) rfl dX11_party_14 ?_
  refine lv_topi (fun v_4 ev_4 => ?_)
  have lo_v_4 := k_lo v_4
  have hi_v_4 := k_hi v_4
  have tv_4 : v_4.toInt = (c0 v_3.toNatClampNeg).toInt := by rw [ev_4]
  exact hRet () [0, 1] (pW_in ev_4 (by omega) (by omega)) hP hD (by decide +kernel) rfl hS rfl dX11_party_15

set_option maxHeartbeats 4000000 in
set_option maxRecDepth 100000 in
theorem c_X11_partyG8 (l : Launch) (D : va_G) (cI : ClassId) (aK aV : Nat → Nat) (k k0 k1 k2 k4 k5 k6 k7 k8 ka kb kl ko : Nat) (sz : Nat) (c3 : Int32) (c9 : Int32) (cc : Int32) (cd : Int32) (ce : Int32) (cf : Int32) (cg : Int32) (ch : Int32) (ci : Int32) (cj : Int32) (ck : Int32) (cm : Int32) (cn : Int32) (c0 : Nat → Int32) (a0 : Int32) (a1 : Int32) (pre0 : 0 ≤ a0.toInt) (pre1 : a0.toInt ≤ 3) (pre2 : a1 = 8) : Met l yX11_party (gW yX11_party cX11_party 3 (some .int)) ({ frames := 0, cells := 0, slots := 0, locals := 0 } : Room) (kPreX D cI aK aV [.ref k, .int a0, .int 8] [(k, .inr (11, [.ref k0, .ref k1, .ref k2, .int c3, .ref k4, .ref k5, .ref k6, .ref k7, .ref k8, .int c9, .ref ka, .ref kb, .int cc, .int cd, .int ce, .int cf, .int cg, .int ch, .int ci, .int cj, .int ck, .ref kl, .int cm, .int cn, .ref ko])), (k0, .inl (cI, 1201, .inl c0))] sz) (va_Qi (fun (r : Int32) (u : Unit) => r = pW c0 a0 8) (fun u t => kWd D cI (va_A [(k, .inr (11, [.ref k0, .ref k1, .ref k2, .int c3, .ref k4, .ref k5, .ref k6, .ref k7, .ref k8, .int c9, .ref ka, .ref kb, .int cc, .int cd, .int ce, .int cf, .int cg, .int ch, .int ci, .int cj, .int ck, .ref kl, .int cm, .int cn, .ref ko])), (k0, .inl (cI, 1201, .inl c0))] sz) [(k, .inr (11, [.ref k0, .ref k1, .ref k2, .int c3, .ref k4, .ref k5, .ref k6, .ref k7, .ref k8, .int c9, .ref ka, .ref kb, .int cc, .int cd, .int ce, .int cf, .int cg, .int ch, .int ci, .int cj, .int ck, .ref kl, .int cm, .int cn, .ref ko])), (k0, .inl (cI, 1201, .inl c0))] t) (va_A [(k, .inr (11, [.ref k0, .ref k1, .ref k2, .int c3, .ref k4, .ref k5, .ref k6, .ref k7, .ref k8, .int c9, .ref ka, .ref kb, .int cc, .int cd, .int ce, .int cf, .int cg, .int ch, .int ci, .int cj, .int ck, .ref kl, .int cm, .int cn, .ref ko])), (k0, .inl (cI, 1201, .inl c0))] sz)) 0 0 (va_A [(k, .inr (11, [.ref k0, .ref k1, .ref k2, .int c3, .ref k4, .ref k5, .ref k6, .ref k7, .ref k8, .int c9, .ref ka, .ref kb, .int cc, .int cd, .int ce, .int cf, .int cg, .int ch, .int ci, .int cj, .int ck, .ref kl, .int cm, .int cn, .ref ko])), (k0, .inl (cI, 1201, .inl c0))] sz) := by
  refine kMetIX (own := RX11) (by decide +kernel) rfl (Nat.le_of_ble_eq_true rfl) ?_
  intro p e s m args below meth c hx hb hT hown hname hml A Q hK hP hD hS hA hN hXS hRet ls hl
  subst pre2
  have hl : lv_has ls 3 [(0, .ref k), (1, .int a0), (2, .int 8)] := hl
  have lo_a0 := k_lo a0
  have hi_a0 := k_hi a0
  have lo_ci := k_lo ci
  have hi_ci := k_hi ci
  refine lv_aload_n hx hb dX11_party_0 rfl (lv_at hl 0 rfl) ?_
  refine va_get (D := D) (ci := 11) (v := .ref k0) (C := RX11) (T := TX11) (N := 25) hx hb hT giX11 hown hK hP 0 rfl rfl 0 (by decide +kernel) (hT (Cond.fieldLink RX11 9 "DesertWireModel" "s" "[I") mw_1156) (fun _ h9 => h9) rfl dX11_party_1 ?_
  refine lv_sipush (v := 459) hx hb dX11_party_4 (by decide +kernel) ?_
  refine lv_bipush (v := 9) hx hb dX11_party_7 (by decide +kernel) ?_
  refine lv_iload_n hx hb dX11_party_9 rfl (lv_at hl 1 rfl) ?_
  refine lv_imul hx hb dX11_party_10 ?_
  refine lv_topi (fun v_1 ev_1 => ?_)
  have tv_1 : v_1.toInt = 9 * a0.toInt := by rw [ev_1]; exact k_mulv zl_9 rfl (by omega) (by omega)
  refine lv_iadd hx hb dX11_party_11 ?_
  refine lv_topi (fun v_2 ev_2 => ?_)
  have tv_2 : v_2.toInt = 459 + v_1.toInt := by rw [ev_2]; exact k_addv zl_459 rfl (by omega) (by omega)
  refine lv_iload_n hx hb dX11_party_12 rfl (lv_at hl 2 rfl) ?_
  refine lv_iadd hx hb dX11_party_13 ?_
  refine lv_topi (fun v_3 ev_3 => ?_)
  have tv_3 : v_3.toInt = v_2.toInt + 8 := by rw [ev_3]; exact k_addv rfl zl_8 (by omega) (by omega)
  refine k_iald (v := (c0 v_3.toNatClampNeg)) hx hb hK hP 1 0 rfl rfl (k_in (by omega) (by omega)) rfl dX11_party_14 ?_
  refine lv_topi (fun v_4 ev_4 => ?_)
  have lo_v_4 := k_lo v_4
  have hi_v_4 := k_hi v_4
  have tv_4 : v_4.toInt = (c0 v_3.toNatClampNeg).toInt := by rw [ev_4]
  exact hRet () [0, 1] (pW_in ev_4 (by omega) (by omega)) hP hD (by decide +kernel) rfl hS rfl dX11_party_15

set_option maxHeartbeats 4000000 in
set_option maxRecDepth 100000 in
theorem c_X11_partyGV (l : Launch) (D : va_G) (cI : ClassId) (aK aV : Nat → Nat) (k k0 k1 k2 k4 k5 k6 k7 k8 ka kb kl ko : Nat) (sz : Nat) (c3 : Int32) (c9 : Int32) (cc : Int32) (cd : Int32) (ce : Int32) (cf : Int32) (cg : Int32) (ch : Int32) (ci : Int32) (cj : Int32) (ck : Int32) (cm : Int32) (cn : Int32) (c0 : Nat → Int32) (a0 : Int32) (a1 : Int32) (pre0 : 0 ≤ a0.toInt) (pre1 : a0.toInt ≤ 3) (pre2 : 0 ≤ a1.toInt) (pre3 : a1.toInt ≤ 8) : Met l yX11_party (gW yX11_party cX11_party 3 (some .int)) ({ frames := 0, cells := 0, slots := 0, locals := 0 } : Room) (kPreX D cI aK aV [.ref k, .int a0, .int a1] [(k, .inr (11, [.ref k0, .ref k1, .ref k2, .int c3, .ref k4, .ref k5, .ref k6, .ref k7, .ref k8, .int c9, .ref ka, .ref kb, .int cc, .int cd, .int ce, .int cf, .int cg, .int ch, .int ci, .int cj, .int ck, .ref kl, .int cm, .int cn, .ref ko])), (k0, .inl (cI, 1201, .inl c0))] sz) (va_Qi (fun (r : Int32) (u : Unit) => r = c0 (459 + 9 * a0.toInt.toNat + a1.toInt.toNat)) (fun u t => kWd D cI (va_A [(k, .inr (11, [.ref k0, .ref k1, .ref k2, .int c3, .ref k4, .ref k5, .ref k6, .ref k7, .ref k8, .int c9, .ref ka, .ref kb, .int cc, .int cd, .int ce, .int cf, .int cg, .int ch, .int ci, .int cj, .int ck, .ref kl, .int cm, .int cn, .ref ko])), (k0, .inl (cI, 1201, .inl c0))] sz) [(k, .inr (11, [.ref k0, .ref k1, .ref k2, .int c3, .ref k4, .ref k5, .ref k6, .ref k7, .ref k8, .int c9, .ref ka, .ref kb, .int cc, .int cd, .int ce, .int cf, .int cg, .int ch, .int ci, .int cj, .int ck, .ref kl, .int cm, .int cn, .ref ko])), (k0, .inl (cI, 1201, .inl c0))] t) (va_A [(k, .inr (11, [.ref k0, .ref k1, .ref k2, .int c3, .ref k4, .ref k5, .ref k6, .ref k7, .ref k8, .int c9, .ref ka, .ref kb, .int cc, .int cd, .int ce, .int cf, .int cg, .int ch, .int ci, .int cj, .int ck, .ref kl, .int cm, .int cn, .ref ko])), (k0, .inl (cI, 1201, .inl c0))] sz)) 0 0 (va_A [(k, .inr (11, [.ref k0, .ref k1, .ref k2, .int c3, .ref k4, .ref k5, .ref k6, .ref k7, .ref k8, .int c9, .ref ka, .ref kb, .int cc, .int cd, .int ce, .int cf, .int cg, .int ch, .int ci, .int cj, .int ck, .ref kl, .int cm, .int cn, .ref ko])), (k0, .inl (cI, 1201, .inl c0))] sz) := by
  refine kMetIX (own := RX11) (by decide +kernel) rfl (Nat.le_of_ble_eq_true rfl) ?_
  intro p e s m args below meth c hx hb hT hown hname hml A Q hK hP hD hS hA hN hXS hRet ls hl
  have hl : lv_has ls 3 [(0, .ref k), (1, .int a0), (2, .int a1)] := hl
  have lo_a0 := k_lo a0
  have hi_a0 := k_hi a0
  have lo_a1 := k_lo a1
  have hi_a1 := k_hi a1
  have lo_ci := k_lo ci
  have hi_ci := k_hi ci
  refine lv_aload_n hx hb dX11_party_0 rfl (lv_at hl 0 rfl) ?_
  refine va_get (D := D) (ci := 11) (v := .ref k0) (C := RX11) (T := TX11) (N := 25) hx hb hT giX11 hown hK hP 0 rfl rfl 0 (by decide +kernel) (hT (Cond.fieldLink RX11 9 "DesertWireModel" "s" "[I") mw_1156) (fun _ h9 => h9) rfl dX11_party_1 ?_
  refine lv_sipush (v := 459) hx hb dX11_party_4 (by decide +kernel) ?_
  refine lv_bipush (v := 9) hx hb dX11_party_7 (by decide +kernel) ?_
  refine lv_iload_n hx hb dX11_party_9 rfl (lv_at hl 1 rfl) ?_
  refine lv_imul hx hb dX11_party_10 ?_
  refine lv_topi (fun v_1 ev_1 => ?_)
  have tv_1 : v_1.toInt = 9 * a0.toInt := by rw [ev_1]; exact k_mulv zl_9 rfl (by omega) (by omega)
  refine lv_iadd hx hb dX11_party_11 ?_
  refine lv_topi (fun v_2 ev_2 => ?_)
  have tv_2 : v_2.toInt = 459 + v_1.toInt := by rw [ev_2]; exact k_addv zl_459 rfl (by omega) (by omega)
  refine lv_iload_n hx hb dX11_party_12 rfl (lv_at hl 2 rfl) ?_
  refine lv_iadd hx hb dX11_party_13 ?_
  refine lv_topi (fun v_3 ev_3 => ?_)
  have tv_3 : v_3.toInt = v_2.toInt + a1.toInt := by rw [ev_3]; exact k_addv rfl rfl (by omega) (by omega)
  refine k_iald (v := (c0 v_3.toNatClampNeg)) hx hb hK hP 1 0 rfl rfl (k_in (by omega) (by omega)) rfl dX11_party_14 ?_
  refine lv_topi (fun v_4 ev_4 => ?_)
  have lo_v_4 := k_lo v_4
  have hi_v_4 := k_hi v_4
  have tv_4 : v_4.toInt = (c0 v_3.toNatClampNeg).toInt := by rw [ev_4]
  exact hRet () [0, 1] (rd_in ev_4 (by omega)) hP hD (by decide +kernel) rfl hS rfl dX11_party_15
theorem bn_cX11_setWork_0 : BN cX11_setWork 0 0x591403c610e984d21c03844c811050056a2b := by
  unfold BN; decide +kernel
theorem dX11_setWork_0 : decode cX11_setWork 0 = .ok (.aload_n 0, 1) := dR0 (k := 0) (i := 0) bn_cX11_setWork_0 dop_42 (by decide +kernel)
theorem dX11_setWork_1 : decode cX11_setWork 1 = .ok (.getfield 9, 3) := dR2 (f := Instr.getfield) (k := 0) (i := 1) bn_cX11_setWork_0 dop_180 9 (by decide +kernel)
theorem dX11_setWork_4 : decode cX11_setWork 4 = .ok (.bipush 99, 2) := dR1s (f := Instr.bipush) (k := 0) (i := 4) bn_cX11_setWork_0 dop_16 99 99 (by decide +kernel)
theorem dX11_setWork_6 : decode cX11_setWork 6 = .ok (.bipush 6, 2) := dR1s (f := Instr.bipush) (k := 0) (i := 6) bn_cX11_setWork_0 dop_16 6 6 (by decide +kernel)
theorem dX11_setWork_8 : decode cX11_setWork 8 = .ok (.iload_n 1, 1) := dR0 (k := 0) (i := 8) bn_cX11_setWork_0 dop_27 (by decide +kernel)
theorem dX11_setWork_9 : decode cX11_setWork 9 = .ok (.imul, 1) := dR0 (k := 0) (i := 9) bn_cX11_setWork_0 dop_104 (by decide +kernel)
theorem dX11_setWork_10 : decode cX11_setWork 10 = .ok (.iadd, 1) := dR0 (k := 0) (i := 10) bn_cX11_setWork_0 dop_96 (by decide +kernel)
theorem dX11_setWork_11 : decode cX11_setWork 11 = .ok (.iload_n 2, 1) := dR0 (k := 0) (i := 11) bn_cX11_setWork_0 dop_28 (by decide +kernel)
theorem dX11_setWork_12 : decode cX11_setWork 12 = .ok (.iadd, 1) := dR0 (k := 0) (i := 12) bn_cX11_setWork_0 dop_96 (by decide +kernel)
theorem dX11_setWork_13 : decode cX11_setWork 13 = .ok (.iload_n 3, 1) := dR0 (k := 0) (i := 13) bn_cX11_setWork_0 dop_29 (by decide +kernel)
theorem dX11_setWork_14 : decode cX11_setWork 14 = .ok (.iastore, 1) := dR0 (k := 0) (i := 14) bn_cX11_setWork_0 dop_79 (by decide +kernel)
theorem dX11_setWork_15 : decode cX11_setWork 15 = .ok (.return_, 1) := dR0 (k := 0) (i := 15) bn_cX11_setWork_0 dop_177 (by decide +kernel)
set_option maxHeartbeats 4000000 in
set_option maxRecDepth 100000 in
theorem c_X11_setWorkG0 (l : Launch) (D : va_G) (cI : ClassId) (aK aV : Nat → Nat) (k k0 k1 k2 k4 k5 k6 k7 k8 ka kb kl ko : Nat) (sz : Nat) (c3 : Int32) (c9 : Int32) (cc : Int32) (cd : Int32) (ce : Int32) (cf : Int32) (cg : Int32) (ch : Int32) (ci : Int32) (cj : Int32) (ck : Int32) (cm : Int32) (cn : Int32) (c0 : Nat → Int32) (a0 : Int32) (a1 : Int32) (a2 : Int32) (pre0 : 0 ≤ a0.toInt) (pre1 : a0.toInt ≤ 59) (pre2 : a1 = 0) : Met l yX11_setWork (gW yX11_setWork cX11_setWork 4 none) ({ frames := 0, cells := 0, slots := 0, locals := 0 } : Room) (kPreX D cI aK aV [.ref k, .int a0, .int 0, .int a2] [(k, .inr (11, [.ref k0, .ref k1, .ref k2, .int c3, .ref k4, .ref k5, .ref k6, .ref k7, .ref k8, .int c9, .ref ka, .ref kb, .int cc, .int cd, .int ce, .int cf, .int cg, .int ch, .int ci, .int cj, .int ck, .ref kl, .int cm, .int cn, .ref ko])), (k0, .inl (cI, 1201, .inl c0))] sz) (va_Qv (fun (u : (Nat → Int32)) => u = upd c0 (99 + 6 * a0.toInt.toNat + 0) a2) (fun u t => kWd D cI (va_A [(k, .inr (11, [.ref k0, .ref k1, .ref k2, .int c3, .ref k4, .ref k5, .ref k6, .ref k7, .ref k8, .int c9, .ref ka, .ref kb, .int cc, .int cd, .int ce, .int cf, .int cg, .int ch, .int ci, .int cj, .int ck, .ref kl, .int cm, .int cn, .ref ko])), (k0, .inl (cI, 1201, .inl c0))] sz) [(k, .inr (11, [.ref k0, .ref k1, .ref k2, .int c3, .ref k4, .ref k5, .ref k6, .ref k7, .ref k8, .int c9, .ref ka, .ref kb, .int cc, .int cd, .int ce, .int cf, .int cg, .int ch, .int ci, .int cj, .int ck, .ref kl, .int cm, .int cn, .ref ko])), (k0, .inl (cI, 1201, .inl u))] t) (va_A [(k, .inr (11, [.ref k0, .ref k1, .ref k2, .int c3, .ref k4, .ref k5, .ref k6, .ref k7, .ref k8, .int c9, .ref ka, .ref kb, .int cc, .int cd, .int ce, .int cf, .int cg, .int ch, .int ci, .int cj, .int ck, .ref kl, .int cm, .int cn, .ref ko])), (k0, .inl (cI, 1201, .inl c0))] sz)) 0 0 (va_A [(k, .inr (11, [.ref k0, .ref k1, .ref k2, .int c3, .ref k4, .ref k5, .ref k6, .ref k7, .ref k8, .int c9, .ref ka, .ref kb, .int cc, .int cd, .int ce, .int cf, .int cg, .int ch, .int ci, .int cj, .int ck, .ref kl, .int cm, .int cn, .ref ko])), (k0, .inl (cI, 1201, .inl c0))] sz) := by
  refine kMetVX (own := RX11) (by decide +kernel) rfl (Nat.le_of_ble_eq_true rfl) ?_
  intro p e s m args below meth c hx hb hT hown hname hml A Q hK hP hD hS hA hN hXS hRet ls hl
  subst pre2
  have hl : lv_has ls 4 [(0, .ref k), (1, .int a0), (2, .int 0), (3, .int a2)] := hl
  have lo_a0 := k_lo a0
  have hi_a0 := k_hi a0
  have lo_ci := k_lo ci
  have hi_ci := k_hi ci
  refine lv_aload_n hx hb dX11_setWork_0 rfl (lv_at hl 0 rfl) ?_
  refine va_get (D := D) (ci := 11) (v := .ref k0) (C := RX11) (T := TX11) (N := 25) hx hb hT giX11 hown hK hP 0 rfl rfl 0 (by decide +kernel) (hT (Cond.fieldLink RX11 9 "DesertWireModel" "s" "[I") mw_1156) (fun _ h9 => h9) rfl dX11_setWork_1 ?_
  refine lv_bipush (v := 99) hx hb dX11_setWork_4 (by decide +kernel) ?_
  refine lv_bipush (v := 6) hx hb dX11_setWork_6 (by decide +kernel) ?_
  refine lv_iload_n hx hb dX11_setWork_8 rfl (lv_at hl 1 rfl) ?_
  refine lv_imul hx hb dX11_setWork_9 ?_
  refine lv_topi (fun v_1 ev_1 => ?_)
  have tv_1 : v_1.toInt = 6 * a0.toInt := by rw [ev_1]; exact k_mulv zl_6 rfl (by omega) (by omega)
  refine lv_iadd hx hb dX11_setWork_10 ?_
  refine lv_topi (fun v_2 ev_2 => ?_)
  have tv_2 : v_2.toInt = 99 + v_1.toInt := by rw [ev_2]; exact k_addv zl_99 rfl (by omega) (by omega)
  refine lv_iload_n hx hb dX11_setWork_11 rfl (lv_at hl 2 rfl) ?_
  refine lv_iadd hx hb dX11_setWork_12 ?_
  refine lv_topi (fun v_3 ev_3 => ?_)
  have tv_3 : v_3.toInt = v_2.toInt + 0 := by rw [ev_3]; exact k_addv rfl zl_0 (by omega) (by omega)
  refine lv_iload_n hx hb dX11_setWork_13 rfl (lv_at hl 3 rfl) ?_
  refine va_iast hx hb hK hP hD hS 1 0 rfl rfl (k_in (by omega) (by omega)) dX11_setWork_14 ?_
  clear hP hD hS
  intro H locs hP hD hS
  replace hP : va_P D vwCl [(k, .inr (11, [.ref k0, .ref k1, .ref k2, .int c3, .ref k4, .ref k5, .ref k6, .ref k7, .ref k8, .int c9, .ref ka, .ref kb, .int cc, .int cd, .int ce, .int cf, .int cg, .int ch, .int ci, .int cj, .int ck, .ref kl, .int cm, .int cn, .ref ko])), (k0, .inl (cI, 1201, .inl (upd c0 v_3.toNatClampNeg a2)))] H := hP
  replace hD : va_D A [(k, .inr (11, [.ref k0, .ref k1, .ref k2, .int c3, .ref k4, .ref k5, .ref k6, .ref k7, .ref k8, .int c9, .ref ka, .ref kb, .int cc, .int cd, .int ce, .int cf, .int cg, .int ch, .int ci, .int cj, .int ck, .ref kl, .int cm, .int cn, .ref ko])), (k0, .inl (cI, 1201, .inl (upd c0 v_3.toNatClampNeg a2)))] := hD
  obtain ⟨f_4, ef_4⟩ : ∃ g : Nat → Int32, g = upd c0 v_3.toNatClampNeg a2 := ⟨_, rfl⟩
  rw [← ef_4] at hP hD
  exact hRet f_4 [0, 1] (by rw [ef_4, k_clamp, show v_3.toInt.toNat = (99 + 6 * a0.toInt.toNat + 0) from by omega]) hP hD (by decide +kernel) rfl hS dX11_setWork_15

set_option maxHeartbeats 4000000 in
set_option maxRecDepth 100000 in
theorem c_X11_setWorkG1 (l : Launch) (D : va_G) (cI : ClassId) (aK aV : Nat → Nat) (k k0 k1 k2 k4 k5 k6 k7 k8 ka kb kl ko : Nat) (sz : Nat) (c3 : Int32) (c9 : Int32) (cc : Int32) (cd : Int32) (ce : Int32) (cf : Int32) (cg : Int32) (ch : Int32) (ci : Int32) (cj : Int32) (ck : Int32) (cm : Int32) (cn : Int32) (c0 : Nat → Int32) (a0 : Int32) (a1 : Int32) (a2 : Int32) (pre0 : 0 ≤ a0.toInt) (pre1 : a0.toInt ≤ 59) (pre2 : a1 = 1) : Met l yX11_setWork (gW yX11_setWork cX11_setWork 4 none) ({ frames := 0, cells := 0, slots := 0, locals := 0 } : Room) (kPreX D cI aK aV [.ref k, .int a0, .int 1, .int a2] [(k, .inr (11, [.ref k0, .ref k1, .ref k2, .int c3, .ref k4, .ref k5, .ref k6, .ref k7, .ref k8, .int c9, .ref ka, .ref kb, .int cc, .int cd, .int ce, .int cf, .int cg, .int ch, .int ci, .int cj, .int ck, .ref kl, .int cm, .int cn, .ref ko])), (k0, .inl (cI, 1201, .inl c0))] sz) (va_Qv (fun (u : (Nat → Int32)) => u = upd c0 (99 + 6 * a0.toInt.toNat + 1) a2) (fun u t => kWd D cI (va_A [(k, .inr (11, [.ref k0, .ref k1, .ref k2, .int c3, .ref k4, .ref k5, .ref k6, .ref k7, .ref k8, .int c9, .ref ka, .ref kb, .int cc, .int cd, .int ce, .int cf, .int cg, .int ch, .int ci, .int cj, .int ck, .ref kl, .int cm, .int cn, .ref ko])), (k0, .inl (cI, 1201, .inl c0))] sz) [(k, .inr (11, [.ref k0, .ref k1, .ref k2, .int c3, .ref k4, .ref k5, .ref k6, .ref k7, .ref k8, .int c9, .ref ka, .ref kb, .int cc, .int cd, .int ce, .int cf, .int cg, .int ch, .int ci, .int cj, .int ck, .ref kl, .int cm, .int cn, .ref ko])), (k0, .inl (cI, 1201, .inl u))] t) (va_A [(k, .inr (11, [.ref k0, .ref k1, .ref k2, .int c3, .ref k4, .ref k5, .ref k6, .ref k7, .ref k8, .int c9, .ref ka, .ref kb, .int cc, .int cd, .int ce, .int cf, .int cg, .int ch, .int ci, .int cj, .int ck, .ref kl, .int cm, .int cn, .ref ko])), (k0, .inl (cI, 1201, .inl c0))] sz)) 0 0 (va_A [(k, .inr (11, [.ref k0, .ref k1, .ref k2, .int c3, .ref k4, .ref k5, .ref k6, .ref k7, .ref k8, .int c9, .ref ka, .ref kb, .int cc, .int cd, .int ce, .int cf, .int cg, .int ch, .int ci, .int cj, .int ck, .ref kl, .int cm, .int cn, .ref ko])), (k0, .inl (cI, 1201, .inl c0))] sz) := by
  refine kMetVX (own := RX11) (by decide +kernel) rfl (Nat.le_of_ble_eq_true rfl) ?_
  intro p e s m args below meth c hx hb hT hown hname hml A Q hK hP hD hS hA hN hXS hRet ls hl
  subst pre2
  have hl : lv_has ls 4 [(0, .ref k), (1, .int a0), (2, .int 1), (3, .int a2)] := hl
  have lo_a0 := k_lo a0
  have hi_a0 := k_hi a0
  have lo_ci := k_lo ci
  have hi_ci := k_hi ci
  refine lv_aload_n hx hb dX11_setWork_0 rfl (lv_at hl 0 rfl) ?_
  refine va_get (D := D) (ci := 11) (v := .ref k0) (C := RX11) (T := TX11) (N := 25) hx hb hT giX11 hown hK hP 0 rfl rfl 0 (by decide +kernel) (hT (Cond.fieldLink RX11 9 "DesertWireModel" "s" "[I") mw_1156) (fun _ h9 => h9) rfl dX11_setWork_1 ?_
  refine lv_bipush (v := 99) hx hb dX11_setWork_4 (by decide +kernel) ?_
  refine lv_bipush (v := 6) hx hb dX11_setWork_6 (by decide +kernel) ?_
  refine lv_iload_n hx hb dX11_setWork_8 rfl (lv_at hl 1 rfl) ?_
  refine lv_imul hx hb dX11_setWork_9 ?_
  refine lv_topi (fun v_1 ev_1 => ?_)
  have tv_1 : v_1.toInt = 6 * a0.toInt := by rw [ev_1]; exact k_mulv zl_6 rfl (by omega) (by omega)
  refine lv_iadd hx hb dX11_setWork_10 ?_
  refine lv_topi (fun v_2 ev_2 => ?_)
  have tv_2 : v_2.toInt = 99 + v_1.toInt := by rw [ev_2]; exact k_addv zl_99 rfl (by omega) (by omega)
  refine lv_iload_n hx hb dX11_setWork_11 rfl (lv_at hl 2 rfl) ?_
  refine lv_iadd hx hb dX11_setWork_12 ?_
  refine lv_topi (fun v_3 ev_3 => ?_)
  have tv_3 : v_3.toInt = v_2.toInt + 1 := by rw [ev_3]; exact k_addv rfl zl_1 (by omega) (by omega)
  refine lv_iload_n hx hb dX11_setWork_13 rfl (lv_at hl 3 rfl) ?_
  refine va_iast hx hb hK hP hD hS 1 0 rfl rfl (k_in (by omega) (by omega)) dX11_setWork_14 ?_
  clear hP hD hS
  intro H locs hP hD hS
  replace hP : va_P D vwCl [(k, .inr (11, [.ref k0, .ref k1, .ref k2, .int c3, .ref k4, .ref k5, .ref k6, .ref k7, .ref k8, .int c9, .ref ka, .ref kb, .int cc, .int cd, .int ce, .int cf, .int cg, .int ch, .int ci, .int cj, .int ck, .ref kl, .int cm, .int cn, .ref ko])), (k0, .inl (cI, 1201, .inl (upd c0 v_3.toNatClampNeg a2)))] H := hP
  replace hD : va_D A [(k, .inr (11, [.ref k0, .ref k1, .ref k2, .int c3, .ref k4, .ref k5, .ref k6, .ref k7, .ref k8, .int c9, .ref ka, .ref kb, .int cc, .int cd, .int ce, .int cf, .int cg, .int ch, .int ci, .int cj, .int ck, .ref kl, .int cm, .int cn, .ref ko])), (k0, .inl (cI, 1201, .inl (upd c0 v_3.toNatClampNeg a2)))] := hD
  obtain ⟨f_4, ef_4⟩ : ∃ g : Nat → Int32, g = upd c0 v_3.toNatClampNeg a2 := ⟨_, rfl⟩
  rw [← ef_4] at hP hD
  exact hRet f_4 [0, 1] (by rw [ef_4, k_clamp, show v_3.toInt.toNat = (99 + 6 * a0.toInt.toNat + 1) from by omega]) hP hD (by decide +kernel) rfl hS dX11_setWork_15

set_option maxHeartbeats 4000000 in
set_option maxRecDepth 100000 in
theorem c_X11_setWorkG2 (l : Launch) (D : va_G) (cI : ClassId) (aK aV : Nat → Nat) (k k0 k1 k2 k4 k5 k6 k7 k8 ka kb kl ko : Nat) (sz : Nat) (c3 : Int32) (c9 : Int32) (cc : Int32) (cd : Int32) (ce : Int32) (cf : Int32) (cg : Int32) (ch : Int32) (ci : Int32) (cj : Int32) (ck : Int32) (cm : Int32) (cn : Int32) (c0 : Nat → Int32) (a0 : Int32) (a1 : Int32) (a2 : Int32) (pre0 : 0 ≤ a0.toInt) (pre1 : a0.toInt ≤ 59) (pre2 : a1 = 2) : Met l yX11_setWork (gW yX11_setWork cX11_setWork 4 none) ({ frames := 0, cells := 0, slots := 0, locals := 0 } : Room) (kPreX D cI aK aV [.ref k, .int a0, .int 2, .int a2] [(k, .inr (11, [.ref k0, .ref k1, .ref k2, .int c3, .ref k4, .ref k5, .ref k6, .ref k7, .ref k8, .int c9, .ref ka, .ref kb, .int cc, .int cd, .int ce, .int cf, .int cg, .int ch, .int ci, .int cj, .int ck, .ref kl, .int cm, .int cn, .ref ko])), (k0, .inl (cI, 1201, .inl c0))] sz) (va_Qv (fun (u : (Nat → Int32)) => u = upd c0 (99 + 6 * a0.toInt.toNat + 2) a2) (fun u t => kWd D cI (va_A [(k, .inr (11, [.ref k0, .ref k1, .ref k2, .int c3, .ref k4, .ref k5, .ref k6, .ref k7, .ref k8, .int c9, .ref ka, .ref kb, .int cc, .int cd, .int ce, .int cf, .int cg, .int ch, .int ci, .int cj, .int ck, .ref kl, .int cm, .int cn, .ref ko])), (k0, .inl (cI, 1201, .inl c0))] sz) [(k, .inr (11, [.ref k0, .ref k1, .ref k2, .int c3, .ref k4, .ref k5, .ref k6, .ref k7, .ref k8, .int c9, .ref ka, .ref kb, .int cc, .int cd, .int ce, .int cf, .int cg, .int ch, .int ci, .int cj, .int ck, .ref kl, .int cm, .int cn, .ref ko])), (k0, .inl (cI, 1201, .inl u))] t) (va_A [(k, .inr (11, [.ref k0, .ref k1, .ref k2, .int c3, .ref k4, .ref k5, .ref k6, .ref k7, .ref k8, .int c9, .ref ka, .ref kb, .int cc, .int cd, .int ce, .int cf, .int cg, .int ch, .int ci, .int cj, .int ck, .ref kl, .int cm, .int cn, .ref ko])), (k0, .inl (cI, 1201, .inl c0))] sz)) 0 0 (va_A [(k, .inr (11, [.ref k0, .ref k1, .ref k2, .int c3, .ref k4, .ref k5, .ref k6, .ref k7, .ref k8, .int c9, .ref ka, .ref kb, .int cc, .int cd, .int ce, .int cf, .int cg, .int ch, .int ci, .int cj, .int ck, .ref kl, .int cm, .int cn, .ref ko])), (k0, .inl (cI, 1201, .inl c0))] sz) := by
  refine kMetVX (own := RX11) (by decide +kernel) rfl (Nat.le_of_ble_eq_true rfl) ?_
  intro p e s m args below meth c hx hb hT hown hname hml A Q hK hP hD hS hA hN hXS hRet ls hl
  subst pre2
  have hl : lv_has ls 4 [(0, .ref k), (1, .int a0), (2, .int 2), (3, .int a2)] := hl
  have lo_a0 := k_lo a0
  have hi_a0 := k_hi a0
  have lo_ci := k_lo ci
  have hi_ci := k_hi ci
  refine lv_aload_n hx hb dX11_setWork_0 rfl (lv_at hl 0 rfl) ?_
  refine va_get (D := D) (ci := 11) (v := .ref k0) (C := RX11) (T := TX11) (N := 25) hx hb hT giX11 hown hK hP 0 rfl rfl 0 (by decide +kernel) (hT (Cond.fieldLink RX11 9 "DesertWireModel" "s" "[I") mw_1156) (fun _ h9 => h9) rfl dX11_setWork_1 ?_
  refine lv_bipush (v := 99) hx hb dX11_setWork_4 (by decide +kernel) ?_
  refine lv_bipush (v := 6) hx hb dX11_setWork_6 (by decide +kernel) ?_
  refine lv_iload_n hx hb dX11_setWork_8 rfl (lv_at hl 1 rfl) ?_
  refine lv_imul hx hb dX11_setWork_9 ?_
  refine lv_topi (fun v_1 ev_1 => ?_)
  have tv_1 : v_1.toInt = 6 * a0.toInt := by rw [ev_1]; exact k_mulv zl_6 rfl (by omega) (by omega)
  refine lv_iadd hx hb dX11_setWork_10 ?_
  refine lv_topi (fun v_2 ev_2 => ?_)
  have tv_2 : v_2.toInt = 99 + v_1.toInt := by rw [ev_2]; exact k_addv zl_99 rfl (by omega) (by omega)
  refine lv_iload_n hx hb dX11_setWork_11 rfl (lv_at hl 2 rfl) ?_
  refine lv_iadd hx hb dX11_setWork_12 ?_
  refine lv_topi (fun v_3 ev_3 => ?_)
  have tv_3 : v_3.toInt = v_2.toInt + 2 := by rw [ev_3]; exact k_addv rfl zl_2 (by omega) (by omega)
  refine lv_iload_n hx hb dX11_setWork_13 rfl (lv_at hl 3 rfl) ?_
  refine va_iast hx hb hK hP hD hS 1 0 rfl rfl (k_in (by omega) (by omega)) dX11_setWork_14 ?_
  clear hP hD hS
  intro H locs hP hD hS
  replace hP : va_P D vwCl [(k, .inr (11, [.ref k0, .ref k1, .ref k2, .int c3, .ref k4, .ref k5, .ref k6, .ref k7, .ref k8, .int c9, .ref ka, .ref kb, .int cc, .int cd, .int ce, .int cf, .int cg, .int ch, .int ci, .int cj, .int ck, .ref kl, .int cm, .int cn, .ref ko])), (k0, .inl (cI, 1201, .inl (upd c0 v_3.toNatClampNeg a2)))] H := hP
  replace hD : va_D A [(k, .inr (11, [.ref k0, .ref k1, .ref k2, .int c3, .ref k4, .ref k5, .ref k6, .ref k7, .ref k8, .int c9, .ref ka, .ref kb, .int cc, .int cd, .int ce, .int cf, .int cg, .int ch, .int ci, .int cj, .int ck, .ref kl, .int cm, .int cn, .ref ko])), (k0, .inl (cI, 1201, .inl (upd c0 v_3.toNatClampNeg a2)))] := hD
  obtain ⟨f_4, ef_4⟩ : ∃ g : Nat → Int32, g = upd c0 v_3.toNatClampNeg a2 := ⟨_, rfl⟩
  rw [← ef_4] at hP hD
  exact hRet f_4 [0, 1] (by rw [ef_4, k_clamp, show v_3.toInt.toNat = (99 + 6 * a0.toInt.toNat + 2) from by omega]) hP hD (by decide +kernel) rfl hS dX11_setWork_15

set_option maxHeartbeats 4000000 in
set_option maxRecDepth 100000 in
theorem c_X11_setWorkG3 (l : Launch) (D : va_G) (cI : ClassId) (aK aV : Nat → Nat) (k k0 k1 k2 k4 k5 k6 k7 k8 ka kb kl ko : Nat) (sz : Nat) (c3 : Int32) (c9 : Int32) (cc : Int32) (cd : Int32) (ce : Int32) (cf : Int32) (cg : Int32) (ch : Int32) (ci : Int32) (cj : Int32) (ck : Int32) (cm : Int32) (cn : Int32) (c0 : Nat → Int32) (a0 : Int32) (a1 : Int32) (a2 : Int32) (pre0 : 0 ≤ a0.toInt) (pre1 : a0.toInt ≤ 59) (pre2 : a1 = 3) : Met l yX11_setWork (gW yX11_setWork cX11_setWork 4 none) ({ frames := 0, cells := 0, slots := 0, locals := 0 } : Room) (kPreX D cI aK aV [.ref k, .int a0, .int 3, .int a2] [(k, .inr (11, [.ref k0, .ref k1, .ref k2, .int c3, .ref k4, .ref k5, .ref k6, .ref k7, .ref k8, .int c9, .ref ka, .ref kb, .int cc, .int cd, .int ce, .int cf, .int cg, .int ch, .int ci, .int cj, .int ck, .ref kl, .int cm, .int cn, .ref ko])), (k0, .inl (cI, 1201, .inl c0))] sz) (va_Qv (fun (u : (Nat → Int32)) => u = upd c0 (99 + 6 * a0.toInt.toNat + 3) a2) (fun u t => kWd D cI (va_A [(k, .inr (11, [.ref k0, .ref k1, .ref k2, .int c3, .ref k4, .ref k5, .ref k6, .ref k7, .ref k8, .int c9, .ref ka, .ref kb, .int cc, .int cd, .int ce, .int cf, .int cg, .int ch, .int ci, .int cj, .int ck, .ref kl, .int cm, .int cn, .ref ko])), (k0, .inl (cI, 1201, .inl c0))] sz) [(k, .inr (11, [.ref k0, .ref k1, .ref k2, .int c3, .ref k4, .ref k5, .ref k6, .ref k7, .ref k8, .int c9, .ref ka, .ref kb, .int cc, .int cd, .int ce, .int cf, .int cg, .int ch, .int ci, .int cj, .int ck, .ref kl, .int cm, .int cn, .ref ko])), (k0, .inl (cI, 1201, .inl u))] t) (va_A [(k, .inr (11, [.ref k0, .ref k1, .ref k2, .int c3, .ref k4, .ref k5, .ref k6, .ref k7, .ref k8, .int c9, .ref ka, .ref kb, .int cc, .int cd, .int ce, .int cf, .int cg, .int ch, .int ci, .int cj, .int ck, .ref kl, .int cm, .int cn, .ref ko])), (k0, .inl (cI, 1201, .inl c0))] sz)) 0 0 (va_A [(k, .inr (11, [.ref k0, .ref k1, .ref k2, .int c3, .ref k4, .ref k5, .ref k6, .ref k7, .ref k8, .int c9, .ref ka, .ref kb, .int cc, .int cd, .int ce, .int cf, .int cg, .int ch, .int ci, .int cj, .int ck, .ref kl, .int cm, .int cn, .ref ko])), (k0, .inl (cI, 1201, .inl c0))] sz) := by
  refine kMetVX (own := RX11) (by decide +kernel) rfl (Nat.le_of_ble_eq_true rfl) ?_
  intro p e s m args below meth c hx hb hT hown hname hml A Q hK hP hD hS hA hN hXS hRet ls hl
  subst pre2
  have hl : lv_has ls 4 [(0, .ref k), (1, .int a0), (2, .int 3), (3, .int a2)] := hl
  have lo_a0 := k_lo a0
  have hi_a0 := k_hi a0
  have lo_ci := k_lo ci
  have hi_ci := k_hi ci
  refine lv_aload_n hx hb dX11_setWork_0 rfl (lv_at hl 0 rfl) ?_
  refine va_get (D := D) (ci := 11) (v := .ref k0) (C := RX11) (T := TX11) (N := 25) hx hb hT giX11 hown hK hP 0 rfl rfl 0 (by decide +kernel) (hT (Cond.fieldLink RX11 9 "DesertWireModel" "s" "[I") mw_1156) (fun _ h9 => h9) rfl dX11_setWork_1 ?_
  refine lv_bipush (v := 99) hx hb dX11_setWork_4 (by decide +kernel) ?_
  refine lv_bipush (v := 6) hx hb dX11_setWork_6 (by decide +kernel) ?_
  refine lv_iload_n hx hb dX11_setWork_8 rfl (lv_at hl 1 rfl) ?_
  refine lv_imul hx hb dX11_setWork_9 ?_
  refine lv_topi (fun v_1 ev_1 => ?_)
  have tv_1 : v_1.toInt = 6 * a0.toInt := by rw [ev_1]; exact k_mulv zl_6 rfl (by omega) (by omega)
  refine lv_iadd hx hb dX11_setWork_10 ?_
  refine lv_topi (fun v_2 ev_2 => ?_)
  have tv_2 : v_2.toInt = 99 + v_1.toInt := by rw [ev_2]; exact k_addv zl_99 rfl (by omega) (by omega)
  refine lv_iload_n hx hb dX11_setWork_11 rfl (lv_at hl 2 rfl) ?_
  refine lv_iadd hx hb dX11_setWork_12 ?_
  refine lv_topi (fun v_3 ev_3 => ?_)
  have tv_3 : v_3.toInt = v_2.toInt + 3 := by rw [ev_3]; exact k_addv rfl zl_3 (by omega) (by omega)
  refine lv_iload_n hx hb dX11_setWork_13 rfl (lv_at hl 3 rfl) ?_
  refine va_iast hx hb hK hP hD hS 1 0 rfl rfl (k_in (by omega) (by omega)) dX11_setWork_14 ?_
  clear hP hD hS
  intro H locs hP hD hS
  replace hP : va_P D vwCl [(k, .inr (11, [.ref k0, .ref k1, .ref k2, .int c3, .ref k4, .ref k5, .ref k6, .ref k7, .ref k8, .int c9, .ref ka, .ref kb, .int cc, .int cd, .int ce, .int cf, .int cg, .int ch, .int ci, .int cj, .int ck, .ref kl, .int cm, .int cn, .ref ko])), (k0, .inl (cI, 1201, .inl (upd c0 v_3.toNatClampNeg a2)))] H := hP
  replace hD : va_D A [(k, .inr (11, [.ref k0, .ref k1, .ref k2, .int c3, .ref k4, .ref k5, .ref k6, .ref k7, .ref k8, .int c9, .ref ka, .ref kb, .int cc, .int cd, .int ce, .int cf, .int cg, .int ch, .int ci, .int cj, .int ck, .ref kl, .int cm, .int cn, .ref ko])), (k0, .inl (cI, 1201, .inl (upd c0 v_3.toNatClampNeg a2)))] := hD
  obtain ⟨f_4, ef_4⟩ : ∃ g : Nat → Int32, g = upd c0 v_3.toNatClampNeg a2 := ⟨_, rfl⟩
  rw [← ef_4] at hP hD
  exact hRet f_4 [0, 1] (by rw [ef_4, k_clamp, show v_3.toInt.toNat = (99 + 6 * a0.toInt.toNat + 3) from by omega]) hP hD (by decide +kernel) rfl hS dX11_setWork_15

set_option maxHeartbeats 4000000 in
set_option maxRecDepth 100000 in
theorem c_X11_setWorkG4 (l : Launch) (D : va_G) (cI : ClassId) (aK aV : Nat → Nat) (k k0 k1 k2 k4 k5 k6 k7 k8 ka kb kl ko : Nat) (sz : Nat) (c3 : Int32) (c9 : Int32) (cc : Int32) (cd : Int32) (ce : Int32) (cf : Int32) (cg : Int32) (ch : Int32) (ci : Int32) (cj : Int32) (ck : Int32) (cm : Int32) (cn : Int32) (c0 : Nat → Int32) (a0 : Int32) (a1 : Int32) (a2 : Int32) (pre0 : 0 ≤ a0.toInt) (pre1 : a0.toInt ≤ 59) (pre2 : a1 = 4) : Met l yX11_setWork (gW yX11_setWork cX11_setWork 4 none) ({ frames := 0, cells := 0, slots := 0, locals := 0 } : Room) (kPreX D cI aK aV [.ref k, .int a0, .int 4, .int a2] [(k, .inr (11, [.ref k0, .ref k1, .ref k2, .int c3, .ref k4, .ref k5, .ref k6, .ref k7, .ref k8, .int c9, .ref ka, .ref kb, .int cc, .int cd, .int ce, .int cf, .int cg, .int ch, .int ci, .int cj, .int ck, .ref kl, .int cm, .int cn, .ref ko])), (k0, .inl (cI, 1201, .inl c0))] sz) (va_Qv (fun (u : (Nat → Int32)) => u = upd c0 (99 + 6 * a0.toInt.toNat + 4) a2) (fun u t => kWd D cI (va_A [(k, .inr (11, [.ref k0, .ref k1, .ref k2, .int c3, .ref k4, .ref k5, .ref k6, .ref k7, .ref k8, .int c9, .ref ka, .ref kb, .int cc, .int cd, .int ce, .int cf, .int cg, .int ch, .int ci, .int cj, .int ck, .ref kl, .int cm, .int cn, .ref ko])), (k0, .inl (cI, 1201, .inl c0))] sz) [(k, .inr (11, [.ref k0, .ref k1, .ref k2, .int c3, .ref k4, .ref k5, .ref k6, .ref k7, .ref k8, .int c9, .ref ka, .ref kb, .int cc, .int cd, .int ce, .int cf, .int cg, .int ch, .int ci, .int cj, .int ck, .ref kl, .int cm, .int cn, .ref ko])), (k0, .inl (cI, 1201, .inl u))] t) (va_A [(k, .inr (11, [.ref k0, .ref k1, .ref k2, .int c3, .ref k4, .ref k5, .ref k6, .ref k7, .ref k8, .int c9, .ref ka, .ref kb, .int cc, .int cd, .int ce, .int cf, .int cg, .int ch, .int ci, .int cj, .int ck, .ref kl, .int cm, .int cn, .ref ko])), (k0, .inl (cI, 1201, .inl c0))] sz)) 0 0 (va_A [(k, .inr (11, [.ref k0, .ref k1, .ref k2, .int c3, .ref k4, .ref k5, .ref k6, .ref k7, .ref k8, .int c9, .ref ka, .ref kb, .int cc, .int cd, .int ce, .int cf, .int cg, .int ch, .int ci, .int cj, .int ck, .ref kl, .int cm, .int cn, .ref ko])), (k0, .inl (cI, 1201, .inl c0))] sz) := by
  refine kMetVX (own := RX11) (by decide +kernel) rfl (Nat.le_of_ble_eq_true rfl) ?_
  intro p e s m args below meth c hx hb hT hown hname hml A Q hK hP hD hS hA hN hXS hRet ls hl
  subst pre2
  have hl : lv_has ls 4 [(0, .ref k), (1, .int a0), (2, .int 4), (3, .int a2)] := hl
  have lo_a0 := k_lo a0
  have hi_a0 := k_hi a0
  have lo_ci := k_lo ci
  have hi_ci := k_hi ci
  refine lv_aload_n hx hb dX11_setWork_0 rfl (lv_at hl 0 rfl) ?_
  refine va_get (D := D) (ci := 11) (v := .ref k0) (C := RX11) (T := TX11) (N := 25) hx hb hT giX11 hown hK hP 0 rfl rfl 0 (by decide +kernel) (hT (Cond.fieldLink RX11 9 "DesertWireModel" "s" "[I") mw_1156) (fun _ h9 => h9) rfl dX11_setWork_1 ?_
  refine lv_bipush (v := 99) hx hb dX11_setWork_4 (by decide +kernel) ?_
  refine lv_bipush (v := 6) hx hb dX11_setWork_6 (by decide +kernel) ?_
  refine lv_iload_n hx hb dX11_setWork_8 rfl (lv_at hl 1 rfl) ?_
  refine lv_imul hx hb dX11_setWork_9 ?_
  refine lv_topi (fun v_1 ev_1 => ?_)
  have tv_1 : v_1.toInt = 6 * a0.toInt := by rw [ev_1]; exact k_mulv zl_6 rfl (by omega) (by omega)
  refine lv_iadd hx hb dX11_setWork_10 ?_
  refine lv_topi (fun v_2 ev_2 => ?_)
  have tv_2 : v_2.toInt = 99 + v_1.toInt := by rw [ev_2]; exact k_addv zl_99 rfl (by omega) (by omega)
  refine lv_iload_n hx hb dX11_setWork_11 rfl (lv_at hl 2 rfl) ?_
  refine lv_iadd hx hb dX11_setWork_12 ?_
  refine lv_topi (fun v_3 ev_3 => ?_)
  have tv_3 : v_3.toInt = v_2.toInt + 4 := by rw [ev_3]; exact k_addv rfl zl_4 (by omega) (by omega)
  refine lv_iload_n hx hb dX11_setWork_13 rfl (lv_at hl 3 rfl) ?_
  refine va_iast hx hb hK hP hD hS 1 0 rfl rfl (k_in (by omega) (by omega)) dX11_setWork_14 ?_
  clear hP hD hS
  intro H locs hP hD hS
  replace hP : va_P D vwCl [(k, .inr (11, [.ref k0, .ref k1, .ref k2, .int c3, .ref k4, .ref k5, .ref k6, .ref k7, .ref k8, .int c9, .ref ka, .ref kb, .int cc, .int cd, .int ce, .int cf, .int cg, .int ch, .int ci, .int cj, .int ck, .ref kl, .int cm, .int cn, .ref ko])), (k0, .inl (cI, 1201, .inl (upd c0 v_3.toNatClampNeg a2)))] H := hP
  replace hD : va_D A [(k, .inr (11, [.ref k0, .ref k1, .ref k2, .int c3, .ref k4, .ref k5, .ref k6, .ref k7, .ref k8, .int c9, .ref ka, .ref kb, .int cc, .int cd, .int ce, .int cf, .int cg, .int ch, .int ci, .int cj, .int ck, .ref kl, .int cm, .int cn, .ref ko])), (k0, .inl (cI, 1201, .inl (upd c0 v_3.toNatClampNeg a2)))] := hD
  obtain ⟨f_4, ef_4⟩ : ∃ g : Nat → Int32, g = upd c0 v_3.toNatClampNeg a2 := ⟨_, rfl⟩
  rw [← ef_4] at hP hD
  exact hRet f_4 [0, 1] (by rw [ef_4, k_clamp, show v_3.toInt.toNat = (99 + 6 * a0.toInt.toNat + 4) from by omega]) hP hD (by decide +kernel) rfl hS dX11_setWork_15

set_option maxHeartbeats 4000000 in
set_option maxRecDepth 100000 in
theorem c_X11_setWorkG5 (l : Launch) (D : va_G) (cI : ClassId) (aK aV : Nat → Nat) (k k0 k1 k2 k4 k5 k6 k7 k8 ka kb kl ko : Nat) (sz : Nat) (c3 : Int32) (c9 : Int32) (cc : Int32) (cd : Int32) (ce : Int32) (cf : Int32) (cg : Int32) (ch : Int32) (ci : Int32) (cj : Int32) (ck : Int32) (cm : Int32) (cn : Int32) (c0 : Nat → Int32) (a0 : Int32) (a1 : Int32) (a2 : Int32) (pre0 : 0 ≤ a0.toInt) (pre1 : a0.toInt ≤ 59) (pre2 : a1 = 5) : Met l yX11_setWork (gW yX11_setWork cX11_setWork 4 none) ({ frames := 0, cells := 0, slots := 0, locals := 0 } : Room) (kPreX D cI aK aV [.ref k, .int a0, .int 5, .int a2] [(k, .inr (11, [.ref k0, .ref k1, .ref k2, .int c3, .ref k4, .ref k5, .ref k6, .ref k7, .ref k8, .int c9, .ref ka, .ref kb, .int cc, .int cd, .int ce, .int cf, .int cg, .int ch, .int ci, .int cj, .int ck, .ref kl, .int cm, .int cn, .ref ko])), (k0, .inl (cI, 1201, .inl c0))] sz) (va_Qv (fun (u : (Nat → Int32)) => u = upd c0 (99 + 6 * a0.toInt.toNat + 5) a2) (fun u t => kWd D cI (va_A [(k, .inr (11, [.ref k0, .ref k1, .ref k2, .int c3, .ref k4, .ref k5, .ref k6, .ref k7, .ref k8, .int c9, .ref ka, .ref kb, .int cc, .int cd, .int ce, .int cf, .int cg, .int ch, .int ci, .int cj, .int ck, .ref kl, .int cm, .int cn, .ref ko])), (k0, .inl (cI, 1201, .inl c0))] sz) [(k, .inr (11, [.ref k0, .ref k1, .ref k2, .int c3, .ref k4, .ref k5, .ref k6, .ref k7, .ref k8, .int c9, .ref ka, .ref kb, .int cc, .int cd, .int ce, .int cf, .int cg, .int ch, .int ci, .int cj, .int ck, .ref kl, .int cm, .int cn, .ref ko])), (k0, .inl (cI, 1201, .inl u))] t) (va_A [(k, .inr (11, [.ref k0, .ref k1, .ref k2, .int c3, .ref k4, .ref k5, .ref k6, .ref k7, .ref k8, .int c9, .ref ka, .ref kb, .int cc, .int cd, .int ce, .int cf, .int cg, .int ch, .int ci, .int cj, .int ck, .ref kl, .int cm, .int cn, .ref ko])), (k0, .inl (cI, 1201, .inl c0))] sz)) 0 0 (va_A [(k, .inr (11, [.ref k0, .ref k1, .ref k2, .int c3, .ref k4, .ref k5, .ref k6, .ref k7, .ref k8, .int c9, .ref ka, .ref kb, .int cc, .int cd, .int ce, .int cf, .int cg, .int ch, .int ci, .int cj, .int ck, .ref kl, .int cm, .int cn, .ref ko])), (k0, .inl (cI, 1201, .inl c0))] sz) := by
  refine kMetVX (own := RX11) (by decide +kernel) rfl (Nat.le_of_ble_eq_true rfl) ?_
  intro p e s m args below meth c hx hb hT hown hname hml A Q hK hP hD hS hA hN hXS hRet ls hl
  subst pre2
  have hl : lv_has ls 4 [(0, .ref k), (1, .int a0), (2, .int 5), (3, .int a2)] := hl
  have lo_a0 := k_lo a0
  have hi_a0 := k_hi a0
  have lo_ci := k_lo ci
  have hi_ci := k_hi ci
  refine lv_aload_n hx hb dX11_setWork_0 rfl (lv_at hl 0 rfl) ?_
  refine va_get (D := D) (ci := 11) (v := .ref k0) (C := RX11) (T := TX11) (N := 25) hx hb hT giX11 hown hK hP 0 rfl rfl 0 (by decide +kernel) (hT (Cond.fieldLink RX11 9 "DesertWireModel" "s" "[I") mw_1156) (fun _ h9 => h9) rfl dX11_setWork_1 ?_
  refine lv_bipush (v := 99) hx hb dX11_setWork_4 (by decide +kernel) ?_
  refine lv_bipush (v := 6) hx hb dX11_setWork_6 (by decide +kernel) ?_
  refine lv_iload_n hx hb dX11_setWork_8 rfl (lv_at hl 1 rfl) ?_
  refine lv_imul hx hb dX11_setWork_9 ?_
  refine lv_topi (fun v_1 ev_1 => ?_)
  have tv_1 : v_1.toInt = 6 * a0.toInt := by rw [ev_1]; exact k_mulv zl_6 rfl (by omega) (by omega)
  refine lv_iadd hx hb dX11_setWork_10 ?_
  refine lv_topi (fun v_2 ev_2 => ?_)
  have tv_2 : v_2.toInt = 99 + v_1.toInt := by rw [ev_2]; exact k_addv zl_99 rfl (by omega) (by omega)
  refine lv_iload_n hx hb dX11_setWork_11 rfl (lv_at hl 2 rfl) ?_
  refine lv_iadd hx hb dX11_setWork_12 ?_
  refine lv_topi (fun v_3 ev_3 => ?_)
  have tv_3 : v_3.toInt = v_2.toInt + 5 := by rw [ev_3]; exact k_addv rfl zl_5 (by omega) (by omega)
  refine lv_iload_n hx hb dX11_setWork_13 rfl (lv_at hl 3 rfl) ?_
  refine va_iast hx hb hK hP hD hS 1 0 rfl rfl (k_in (by omega) (by omega)) dX11_setWork_14 ?_
  clear hP hD hS
  intro H locs hP hD hS
  replace hP : va_P D vwCl [(k, .inr (11, [.ref k0, .ref k1, .ref k2, .int c3, .ref k4, .ref k5, .ref k6, .ref k7, .ref k8, .int c9, .ref ka, .ref kb, .int cc, .int cd, .int ce, .int cf, .int cg, .int ch, .int ci, .int cj, .int ck, .ref kl, .int cm, .int cn, .ref ko])), (k0, .inl (cI, 1201, .inl (upd c0 v_3.toNatClampNeg a2)))] H := hP
  replace hD : va_D A [(k, .inr (11, [.ref k0, .ref k1, .ref k2, .int c3, .ref k4, .ref k5, .ref k6, .ref k7, .ref k8, .int c9, .ref ka, .ref kb, .int cc, .int cd, .int ce, .int cf, .int cg, .int ch, .int ci, .int cj, .int ck, .ref kl, .int cm, .int cn, .ref ko])), (k0, .inl (cI, 1201, .inl (upd c0 v_3.toNatClampNeg a2)))] := hD
  obtain ⟨f_4, ef_4⟩ : ∃ g : Nat → Int32, g = upd c0 v_3.toNatClampNeg a2 := ⟨_, rfl⟩
  rw [← ef_4] at hP hD
  exact hRet f_4 [0, 1] (by rw [ef_4, k_clamp, show v_3.toInt.toNat = (99 + 6 * a0.toInt.toNat + 5) from by omega]) hP hD (by decide +kernel) rfl hS dX11_setWork_15
