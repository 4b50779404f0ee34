theorem bn_cX11_setParty_0 : BN cX11_setParty 0 0xb228078c21d309a4380a08b300412050056a2b := by
  unfold BN; decide +kernel
theorem dX11_setParty_0 : decode cX11_setParty 0 = .ok (.aload_n 0, 1) := dR0 (k := 0) (i := 0) bn_cX11_setParty_0 dop_42 (by decide +kernel)
theorem dX11_setParty_1 : decode cX11_setParty 1 = .ok (.getfield 9, 3) := dR2 (f := Instr.getfield) (k := 0) (i := 1) bn_cX11_setParty_0 dop_180 9 (by decide +kernel)
theorem dX11_setParty_4 : decode cX11_setParty 4 = .ok (.sipush 459, 3) := dR2s (f := Instr.sipush) (k := 0) (i := 4) bn_cX11_setParty_0 dop_17 459 459 (by decide +kernel)
theorem dX11_setParty_7 : decode cX11_setParty 7 = .ok (.bipush 9, 2) := dR1s (f := Instr.bipush) (k := 0) (i := 7) bn_cX11_setParty_0 dop_16 9 9 (by decide +kernel)
theorem dX11_setParty_9 : decode cX11_setParty 9 = .ok (.iload_n 1, 1) := dR0 (k := 0) (i := 9) bn_cX11_setParty_0 dop_27 (by decide +kernel)
theorem dX11_setParty_10 : decode cX11_setParty 10 = .ok (.imul, 1) := dR0 (k := 0) (i := 10) bn_cX11_setParty_0 dop_104 (by decide +kernel)
theorem dX11_setParty_11 : decode cX11_setParty 11 = .ok (.iadd, 1) := dR0 (k := 0) (i := 11) bn_cX11_setParty_0 dop_96 (by decide +kernel)
theorem dX11_setParty_12 : decode cX11_setParty 12 = .ok (.iload_n 2, 1) := dR0 (k := 0) (i := 12) bn_cX11_setParty_0 dop_28 (by decide +kernel)
theorem dX11_setParty_13 : decode cX11_setParty 13 = .ok (.iadd, 1) := dR0 (k := 0) (i := 13) bn_cX11_setParty_0 dop_96 (by decide +kernel)
theorem dX11_setParty_14 : decode cX11_setParty 14 = .ok (.iload_n 3, 1) := dR0 (k := 0) (i := 14) bn_cX11_setParty_0 dop_29 (by decide +kernel)
theorem dX11_setParty_15 : decode cX11_setParty 15 = .ok (.iastore, 1) := dR0 (k := 0) (i := 15) bn_cX11_setParty_0 dop_79 (by decide +kernel)
theorem dX11_setParty_16 : decode cX11_setParty 16 = .ok (.return_, 1) := dR0 (k := 0) (i := 16) bn_cX11_setParty_0 dop_177 (by decide +kernel)
set_option maxHeartbeats 4000000 in
set_option maxRecDepth 100000 in
theorem c_X11_setPartyG0 (l : Launch) (D : va_G) (cI : ClassId) (aK aV : Nat → Nat) (k k0 k1 k2 k4 k5 k6 k7 k8 ka kb kl ko : Nat) (sz : Nat) (c3 : Int32) (c9 : Int32) (cc : Int32) (cd : Int32) (ce : Int32) (cf : Int32) (cg : Int32) (ch : Int32) (ci : Int32) (cj : Int32) (ck : Int32) (cm : Int32) (cn : Int32) (c0 : Nat → Int32) (a0 : Int32) (a1 : Int32) (a2 : Int32) (pre0 : 0 ≤ a0.toInt) (pre1 : a0.toInt ≤ 3) (pre2 : a1 = 0) : Met l yX11_setParty (gW yX11_setParty cX11_setParty 4 none) ({ frames := 0, cells := 0, slots := 0, locals := 0 } : Room) (kPreX D cI aK aV [.ref k, .int a0, .int 0, .int a2] [(k, .inr (11, [.ref k0, .ref k1, .ref k2, .int c3, .ref k4, .ref k5, .ref k6, .ref k7, .ref k8, .int c9, .ref ka, .ref kb, .int cc, .int cd, .int ce, .int cf, .int cg, .int ch, .int ci, .int cj, .int ck, .ref kl, .int cm, .int cn, .ref ko])), (k0, .inl (cI, 1201, .inl c0))] sz) (va_Qv (fun (u : (Nat → Int32)) => u = upd c0 (459 + 9 * a0.toInt.toNat + 0) a2) (fun u t => kWd D cI (va_A [(k, .inr (11, [.ref k0, .ref k1, .ref k2, .int c3, .ref k4, .ref k5, .ref k6, .ref k7, .ref k8, .int c9, .ref ka, .ref kb, .int cc, .int cd, .int ce, .int cf, .int cg, .int ch, .int ci, .int cj, .int ck, .ref kl, .int cm, .int cn, .ref ko])), (k0, .inl (cI, 1201, .inl c0))] sz) [(k, .inr (11, [.ref k0, .ref k1, .ref k2, .int c3, .ref k4, .ref k5, .ref k6, .ref k7, .ref k8, .int c9, .ref ka, .ref kb, .int cc, .int cd, .int ce, .int cf, .int cg, .int ch, .int ci, .int cj, .int ck, .ref kl, .int cm, .int cn, .ref ko])), (k0, .inl (cI, 1201, .inl u))] t) (va_A [(k, .inr (11, [.ref k0, .ref k1, .ref k2, .int c3, .ref k4, .ref k5, .ref k6, .ref k7, .ref k8, .int c9, .ref ka, .ref kb, .int cc, .int cd, .int ce, .int cf, .int cg, .int ch, .int ci, .int cj, .int ck, .ref kl, .int cm, .int cn, .ref ko])), (k0, .inl (cI, 1201, .inl c0))] sz)) 0 0 (va_A [(k, .inr (11, [.ref k0, .ref k1, .ref k2, .int c3, .ref k4, .ref k5, .ref k6, .ref k7, .ref k8, .int c9, .ref ka, .ref kb, .int cc, .int cd, .int ce, .int cf, .int cg, .int ch, .int ci, .int cj, .int ck, .ref kl, .int cm, .int cn, .ref ko])), (k0, .inl (cI, 1201, .inl c0))] sz) := by
  refine kMetVX (own := RX11) (by decide +kernel) rfl (Nat.le_of_ble_eq_true rfl) ?_
  intro p e s m args below meth c hx hb hT hown hname hml A Q hK hP hD hS hA hN hXS hRet ls hl
  subst pre2
  have hl : lv_has ls 4 [(0, .ref k), (1, .int a0), (2, .int 0), (3, .int a2)] := hl
  have lo_a0 := k_lo a0
  have hi_a0 := k_hi a0
  have lo_ci := k_lo ci
  have hi_ci := k_hi ci
  refine lv_aload_n hx hb dX11_setParty_0 rfl (lv_at hl 0 rfl) ?_
  refine va_get (D := D) (ci := 11) (v := .ref k0) (C := RX11) (T := TX11) (N := 25) hx hb hT giX11 hown hK hP 0 rfl rfl 0 (by decide +kernel) (hT (Cond.fieldLink RX11 9 "DesertWireModel" "s" "[I") mw_1156) (fun _ h9 => h9) rfl dX11_setParty_1 ?_
  refine lv_sipush (v := 459) hx hb dX11_setParty_4 (by decide +kernel) ?_
  refine lv_bipush (v := 9) hx hb dX11_setParty_7 (by decide +kernel) ?_
  refine lv_iload_n hx hb dX11_setParty_9 rfl (lv_at hl 1 rfl) ?_
  refine lv_imul hx hb dX11_setParty_10 ?_
  refine lv_topi (fun v_1 ev_1 => ?_)
  have tv_1 : v_1.toInt = 9 * a0.toInt := by rw [ev_1]; exact k_mulv zl_9 rfl (by omega) (by omega)
  refine lv_iadd hx hb dX11_setParty_11 ?_
  refine lv_topi (fun v_2 ev_2 => ?_)
  have tv_2 : v_2.toInt = 459 + v_1.toInt := by rw [ev_2]; exact k_addv zl_459 rfl (by omega) (by omega)
  refine lv_iload_n hx hb dX11_setParty_12 rfl (lv_at hl 2 rfl) ?_
  refine lv_iadd hx hb dX11_setParty_13 ?_
  refine lv_topi (fun v_3 ev_3 => ?_)
  have tv_3 : v_3.toInt = v_2.toInt + 0 := by rw [ev_3]; exact k_addv rfl zl_0 (by omega) (by omega)
  refine lv_iload_n hx hb dX11_setParty_14 rfl (lv_at hl 3 rfl) ?_
  refine va_iast hx hb hK hP hD hS 1 0 rfl rfl (k_in (by omega) (by omega)) dX11_setParty_15 ?_
  clear hP hD hS
  intro H locs hP hD hS
  replace hP : va_P D vwCl [(k, .inr (11, [.ref k0, .ref k1, .ref k2, .int c3, .ref k4, .ref k5, .ref k6, .ref k7, .ref k8, .int c9, .ref ka, .ref kb, .int cc, .int cd, .int ce, .int cf, .int cg, .int ch, .int ci, .int cj, .int ck, .ref kl, .int cm, .int cn, .ref ko])), (k0, .inl (cI, 1201, .inl (upd c0 v_3.toNatClampNeg a2)))] H := hP
  replace hD : va_D A [(k, .inr (11, [.ref k0, .ref k1, .ref k2, .int c3, .ref k4, .ref k5, .ref k6, .ref k7, .ref k8, .int c9, .ref ka, .ref kb, .int cc, .int cd, .int ce, .int cf, .int cg, .int ch, .int ci, .int cj, .int ck, .ref kl, .int cm, .int cn, .ref ko])), (k0, .inl (cI, 1201, .inl (upd c0 v_3.toNatClampNeg a2)))] := hD
  obtain ⟨f_4, ef_4⟩ : ∃ g : Nat → Int32, g = upd c0 v_3.toNatClampNeg a2 := ⟨_, rfl⟩
  rw [← ef_4] at hP hD
  exact hRet f_4 [0, 1] (by rw [ef_4, k_clamp, show v_3.toInt.toNat = (459 + 9 * a0.toInt.toNat + 0) from by omega]) hP hD (by decide +kernel) rfl hS dX11_setParty_16

set_option maxHeartbeats 4000000 in
set_option maxRecDepth 100000 in
theorem c_X11_setPartyG1 (l : Launch) (D : va_G) (cI : ClassId) (aK aV : Nat → Nat) (k k0 k1 k2 k4 k5 k6 k7 k8 ka kb kl ko : Nat) (sz : Nat) (c3 : Int32) (c9 : Int32) (cc : Int32) (cd : Int32) (ce : Int32) (cf : Int32) (cg : Int32) (ch : Int32) (ci : Int32) (cj : Int32) (ck : Int32) (cm : Int32) (cn : Int32) (c0 : Nat → Int32) (a0 : Int32) (a1 : Int32) (a2 : Int32) (pre0 : 0 ≤ a0.toInt) (pre1 : a0.toInt ≤ 3) (pre2 : a1 = 1) : Met l yX11_setParty (gW yX11_setParty cX11_setParty 4 none) ({ frames := 0, cells := 0, slots := 0, locals := 0 } : Room) (kPreX D cI aK aV [.ref k, .int a0, .int 1, .int a2] [(k, .inr (11, [.ref k0, .ref k1, .ref k2, .int c3, .ref k4, .ref k5, .ref k6, .ref k7, .ref k8, .int c9, .ref ka, .ref kb, .int cc, .int cd, .int ce, .int cf, .int cg, .int ch, .int ci, .int cj, .int ck, .ref kl, .int cm, .int cn, .ref ko])), (k0, .inl (cI, 1201, .inl c0))] sz) (va_Qv (fun (u : (Nat → Int32)) => u = upd c0 (459 + 9 * a0.toInt.toNat + 1) a2) (fun u t => kWd D cI (va_A [(k, .inr (11, [.ref k0, .ref k1, .ref k2, .int c3, .ref k4, .ref k5, .ref k6, .ref k7, .ref k8, .int c9, .ref ka, .ref kb, .int cc, .int cd, .int ce, .int cf, .int cg, .int ch, .int ci, .int cj, .int ck, .ref kl, .int cm, .int cn, .ref ko])), (k0, .inl (cI, 1201, .inl c0))] sz) [(k, .inr (11, [.ref k0, .ref k1, .ref k2, .int c3, .ref k4, .ref k5, .ref k6, .ref k7, .ref k8, .int c9, .ref ka, .ref kb, .int cc, .int cd, .int ce, .int cf, .int cg, .int ch, .int ci, .int cj, .int ck, .ref kl, .int cm, .int cn, .ref ko])), (k0, .inl (cI, 1201, .inl u))] t) (va_A [(k, .inr (11, [.ref k0, .ref k1, .ref k2, .int c3, .ref k4, .ref k5, .ref k6, .ref k7, .ref k8, .int c9, .ref ka, .ref kb, .int cc, .int cd, .int ce, .int cf, .int cg, .int ch, .int ci, .int cj, .int ck, .ref kl, .int cm, .int cn, .ref ko])), (k0, .inl (cI, 1201, .inl c0))] sz)) 0 0 (va_A [(k, .inr (11, [.ref k0, .ref k1, .ref k2, .int c3, .ref k4, .ref k5, .ref k6, .ref k7, .ref k8, .int c9, .ref ka, .ref kb, .int cc, .int cd, .int ce, .int cf, .int cg, .int ch, .int ci, .int cj, .int ck, .ref kl, .int cm, .int cn, .ref ko])), (k0, .inl (cI, 1201, .inl c0))] sz) := by
  refine kMetVX (own := RX11) (by decide +kernel) rfl (Nat.le_of_ble_eq_true rfl) ?_
  intro p e s m args below meth c hx hb hT hown hname hml A Q hK hP hD hS hA hN hXS hRet ls hl
  subst pre2
  have hl : lv_has ls 4 [(0, .ref k), (1, .int a0), (2, .int 1), (3, .int a2)] := hl
  have lo_a0 := k_lo a0
  have hi_a0 := k_hi a0
  have lo_ci := k_lo ci
  have hi_ci := k_hi ci
  refine lv_aload_n hx hb dX11_setParty_0 rfl (lv_at hl 0 rfl) ?_
  refine va_get (D := D) (ci := 11) (v := .ref k0) (C := RX11) (T := TX11) (N := 25) hx hb hT giX11 hown hK hP 0 rfl rfl 0 (by decide +kernel) (hT (Cond.fieldLink RX11 9 "DesertWireModel" "s" "[I") mw_1156) (fun _ h9 => h9) rfl dX11_setParty_1 ?_
  refine lv_sipush (v := 459) hx hb dX11_setParty_4 (by decide +kernel) ?_
  refine lv_bipush (v := 9) hx hb dX11_setParty_7 (by decide +kernel) ?_
  refine lv_iload_n hx hb dX11_setParty_9 rfl (lv_at hl 1 rfl) ?_
  refine lv_imul hx hb dX11_setParty_10 ?_
  refine lv_topi (fun v_1 ev_1 => ?_)
  have tv_1 : v_1.toInt = 9 * a0.toInt := by rw [ev_1]; exact k_mulv zl_9 rfl (by omega) (by omega)
  refine lv_iadd hx hb dX11_setParty_11 ?_
  refine lv_topi (fun v_2 ev_2 => ?_)
  have tv_2 : v_2.toInt = 459 + v_1.toInt := by rw [ev_2]; exact k_addv zl_459 rfl (by omega) (by omega)
  refine lv_iload_n hx hb dX11_setParty_12 rfl (lv_at hl 2 rfl) ?_
  refine lv_iadd hx hb dX11_setParty_13 ?_
  refine lv_topi (fun v_3 ev_3 => ?_)
  have tv_3 : v_3.toInt = v_2.toInt + 1 := by rw [ev_3]; exact k_addv rfl zl_1 (by omega) (by omega)
  refine lv_iload_n hx hb dX11_setParty_14 rfl (lv_at hl 3 rfl) ?_
  refine va_iast hx hb hK hP hD hS 1 0 rfl rfl (k_in (by omega) (by omega)) dX11_setParty_15 ?_
  clear hP hD hS
  intro H locs hP hD hS
  replace hP : va_P D vwCl [(k, .inr (11, [.ref k0, .ref k1, .ref k2, .int c3, .ref k4, .ref k5, .ref k6, .ref k7, .ref k8, .int c9, .ref ka, .ref kb, .int cc, .int cd, .int ce, .int cf, .int cg, .int ch, .int ci, .int cj, .int ck, .ref kl, .int cm, .int cn, .ref ko])), (k0, .inl (cI, 1201, .inl (upd c0 v_3.toNatClampNeg a2)))] H := hP
  replace hD : va_D A [(k, .inr (11, [.ref k0, .ref k1, .ref k2, .int c3, .ref k4, .ref k5, .ref k6, .ref k7, .ref k8, .int c9, .ref ka, .ref kb, .int cc, .int cd, .int ce, .int cf, .int cg, .int ch, .int ci, .int cj, .int ck, .ref kl, .int cm, .int cn, .ref ko])), (k0, .inl (cI, 1201, .inl (upd c0 v_3.toNatClampNeg a2)))] := hD
  obtain ⟨f_4, ef_4⟩ : ∃ g : Nat → Int32, g = upd c0 v_3.toNatClampNeg a2 := ⟨_, rfl⟩
  rw [← ef_4] at hP hD
  exact hRet f_4 [0, 1] (by rw [ef_4, k_clamp, show v_3.toInt.toNat = (459 + 9 * a0.toInt.toNat + 1) from by omega]) hP hD (by decide +kernel) rfl hS dX11_setParty_16

set_option maxHeartbeats 4000000 in
set_option maxRecDepth 100000 in
theorem c_X11_setPartyG2 (l : Launch) (D : va_G) (cI : ClassId) (aK aV : Nat → Nat) (k k0 k1 k2 k4 k5 k6 k7 k8 ka kb kl ko : Nat) (sz : Nat) (c3 : Int32) (c9 : Int32) (cc : Int32) (cd : Int32) (ce : Int32) (cf : Int32) (cg : Int32) (ch : Int32) (ci : Int32) (cj : Int32) (ck : Int32) (cm : Int32) (cn : Int32) (c0 : Nat → Int32) (a0 : Int32) (a1 : Int32) (a2 : Int32) (pre0 : 0 ≤ a0.toInt) (pre1 : a0.toInt ≤ 3) (pre2 : a1 = 2) : Met l yX11_setParty (gW yX11_setParty cX11_setParty 4 none) ({ frames := 0, cells := 0, slots := 0, locals := 0 } : Room) (kPreX D cI aK aV [.ref k, .int a0, .int 2, .int a2] [(k, .inr (11, [.ref k0, .ref k1, .ref k2, .int c3, .ref k4, .ref k5, .ref k6, .ref k7, .ref k8, .int c9, .ref ka, .ref kb, .int cc, .int cd, .int ce, .int cf, .int cg, .int ch, .int ci, .int cj, .int ck, .ref kl, .int cm, .int cn, .ref ko])), (k0, .inl (cI, 1201, .inl c0))] sz) (va_Qv (fun (u : (Nat → Int32)) => u = upd c0 (459 + 9 * a0.toInt.toNat + 2) a2) (fun u t => kWd D cI (va_A [(k, .inr (11, [.ref k0, .ref k1, .ref k2, .int c3, .ref k4, .ref k5, .ref k6, .ref k7, .ref k8, .int c9, .ref ka, .ref kb, .int cc, .int cd, .int ce, .int cf, .int cg, .int ch, .int ci, .int cj, .int ck, .ref kl, .int cm, .int cn, .ref ko])), (k0, .inl (cI, 1201, .inl c0))] sz) [(k, .inr (11, [.ref k0, .ref k1, .ref k2, .int c3, .ref k4, .ref k5, .ref k6, .ref k7, .ref k8, .int c9, .ref ka, .ref kb, .int cc, .int cd, .int ce, .int cf, .int cg, .int ch, .int ci, .int cj, .int ck, .ref kl, .int cm, .int cn, .ref ko])), (k0, .inl (cI, 1201, .inl u))] t) (va_A [(k, .inr (11, [.ref k0, .ref k1, .ref k2, .int c3, .ref k4, .ref k5, .ref k6, .ref k7, .ref k8, .int c9, .ref ka, .ref kb, .int cc, .int cd, .int ce, .int cf, .int cg, .int ch, .int ci, .int cj, .int ck, .ref kl, .int cm, .int cn, .ref ko])), (k0, .inl (cI, 1201, .inl c0))] sz)) 0 0 (va_A [(k, .inr (11, [.ref k0, .ref k1, .ref k2, .int c3, .ref k4, .ref k5, .ref k6, .ref k7, .ref k8, .int c9, .ref ka, .ref kb, .int cc, .int cd, .int ce, .int cf, .int cg, .int ch, .int ci, .int cj, .int ck, .ref kl, .int cm, .int cn, .ref ko])), (k0, .inl (cI, 1201, .inl c0))] sz) := by
  refine kMetVX (own := RX11) (by decide +kernel) rfl (Nat.le_of_ble_eq_true rfl) ?_
  intro p e s m args below meth c hx hb hT hown hname hml A Q hK hP hD hS hA hN hXS hRet ls hl
  subst pre2
  have hl : lv_has ls 4 [(0, .ref k), (1, .int a0), (2, .int 2), (3, .int a2)] := hl
  have lo_a0 := k_lo a0
  have hi_a0 := k_hi a0
  have lo_ci := k_lo ci
  have hi_ci := k_hi ci
  refine lv_aload_n hx hb dX11_setParty_0 rfl (lv_at hl 0 rfl) ?_
  refine va_get (D := D) (ci := 11) (v := .ref k0) (C := RX11) (T := TX11) (N := 25) hx hb hT giX11 hown hK hP 0 rfl rfl 0 (by decide +kernel) (hT (Cond.fieldLink RX11 9 "DesertWireModel" "s" "[I") mw_1156) (fun _ h9 => h9) rfl dX11_setParty_1 ?_
  refine lv_sipush (v := 459) hx hb dX11_setParty_4 (by decide +kernel) ?_
  refine lv_bipush (v := 9) hx hb dX11_setParty_7 (by decide +kernel) ?_
  refine lv_iload_n hx hb dX11_setParty_9 rfl (lv_at hl 1 rfl) ?_
  refine lv_imul hx hb dX11_setParty_10 ?_
  refine lv_topi (fun v_1 ev_1 => ?_)
  have tv_1 : v_1.toInt = 9 * a0.toInt := by rw [ev_1]; exact k_mulv zl_9 rfl (by omega) (by omega)
  refine lv_iadd hx hb dX11_setParty_11 ?_
  refine lv_topi (fun v_2 ev_2 => ?_)
  have tv_2 : v_2.toInt = 459 + v_1.toInt := by rw [ev_2]; exact k_addv zl_459 rfl (by omega) (by omega)
  refine lv_iload_n hx hb dX11_setParty_12 rfl (lv_at hl 2 rfl) ?_
  refine lv_iadd hx hb dX11_setParty_13 ?_
  refine lv_topi (fun v_3 ev_3 => ?_)
  have tv_3 : v_3.toInt = v_2.toInt + 2 := by rw [ev_3]; exact k_addv rfl zl_2 (by omega) (by omega)
  refine lv_iload_n hx hb dX11_setParty_14 rfl (lv_at hl 3 rfl) ?_
  refine va_iast hx hb hK hP hD hS 1 0 rfl rfl (k_in (by omega) (by omega)) dX11_setParty_15 ?_
  clear hP hD hS
  intro H locs hP hD hS
  replace hP : va_P D vwCl [(k, .inr (11, [.ref k0, .ref k1, .ref k2, .int c3, .ref k4, .ref k5, .ref k6, .ref k7, .ref k8, .int c9, .ref ka, .ref kb, .int cc, .int cd, .int ce, .int cf, .int cg, .int ch, .int ci, .int cj, .int ck, .ref kl, .int cm, .int cn, .ref ko])), (k0, .inl (cI, 1201, .inl (upd c0 v_3.toNatClampNeg a2)))] H := hP
  replace hD : va_D A [(k, .inr (11, [.ref k0, .ref k1, .ref k2, .int c3, .ref k4, .ref k5, .ref k6, .ref k7, .ref k8, .int c9, .ref ka, .ref kb, .int cc, .int cd, .int ce, .int cf, .int cg, .int ch, .int ci, .int cj, .int ck, .ref kl, .int cm, .int cn, .ref ko])), (k0, .inl (cI, 1201, .inl (upd c0 v_3.toNatClampNeg a2)))] := hD
  obtain ⟨f_4, ef_4⟩ : ∃ g : Nat → Int32, g = upd c0 v_3.toNatClampNeg a2 := ⟨_, rfl⟩
  rw [← ef_4] at hP hD
  exact hRet f_4 [0, 1] (by rw [ef_4, k_clamp, show v_3.toInt.toNat = (459 + 9 * a0.toInt.toNat + 2) from by omega]) hP hD (by decide +kernel) rfl hS dX11_setParty_16

set_option maxHeartbeats 4000000 in
set_option maxRecDepth 100000 in
theorem c_X11_setPartyG3 (l : Launch) (D : va_G) (cI : ClassId) (aK aV : Nat → Nat) (k k0 k1 k2 k4 k5 k6 k7 k8 ka kb kl ko : Nat) (sz : Nat) (c3 : Int32) (c9 : Int32) (cc : Int32) (cd : Int32) (ce : Int32) (cf : Int32) (cg : Int32) (ch : Int32) (ci : Int32) (cj : Int32) (ck : Int32) (cm : Int32) (cn : Int32) (c0 : Nat → Int32) (a0 : Int32) (a1 : Int32) (a2 : Int32) (pre0 : 0 ≤ a0.toInt) (pre1 : a0.toInt ≤ 3) (pre2 : a1 = 3) : Met l yX11_setParty (gW yX11_setParty cX11_setParty 4 none) ({ frames := 0, cells := 0, slots := 0, locals := 0 } : Room) (kPreX D cI aK aV [.ref k, .int a0, .int 3, .int a2] [(k, .inr (11, [.ref k0, .ref k1, .ref k2, .int c3, .ref k4, .ref k5, .ref k6, .ref k7, .ref k8, .int c9, .ref ka, .ref kb, .int cc, .int cd, .int ce, .int cf, .int cg, .int ch, .int ci, .int cj, .int ck, .ref kl, .int cm, .int cn, .ref ko])), (k0, .inl (cI, 1201, .inl c0))] sz) (va_Qv (fun (u : (Nat → Int32)) => u = upd c0 (459 + 9 * a0.toInt.toNat + 3) a2) (fun u t => kWd D cI (va_A [(k, .inr (11, [.ref k0, .ref k1, .ref k2, .int c3, .ref k4, .ref k5, .ref k6, .ref k7, .ref k8, .int c9, .ref ka, .ref kb, .int cc, .int cd, .int ce, .int cf, .int cg, .int ch, .int ci, .int cj, .int ck, .ref kl, .int cm, .int cn, .ref ko])), (k0, .inl (cI, 1201, .inl c0))] sz) [(k, .inr (11, [.ref k0, .ref k1, .ref k2, .int c3, .ref k4, .ref k5, .ref k6, .ref k7, .ref k8, .int c9, .ref ka, .ref kb, .int cc, .int cd, .int ce, .int cf, .int cg, .int ch, .int ci, .int cj, .int ck, .ref kl, .int cm, .int cn, .ref ko])), (k0, .inl (cI, 1201, .inl u))] t) (va_A [(k, .inr (11, [.ref k0, .ref k1, .ref k2, .int c3, .ref k4, .ref k5, .ref k6, .ref k7, .ref k8, .int c9, .ref ka, .ref kb, .int cc, .int cd, .int ce, .int cf, .int cg, .int ch, .int ci, .int cj, .int ck, .ref kl, .int cm, .int cn, .ref ko])), (k0, .inl (cI, 1201, .inl c0))] sz)) 0 0 (va_A [(k, .inr (11, [.ref k0, .ref k1, .ref k2, .int c3, .ref k4, .ref k5, .ref k6, .ref k7, .ref k8, .int c9, .ref ka, .ref kb, .int cc, .int cd, .int ce, .int cf, .int cg, .int ch, .int ci, .int cj, .int ck, .ref kl, .int cm, .int cn, .ref ko])), (k0, .inl (cI, 1201, .inl c0))] sz) := by
  refine kMetVX (own := RX11) (by decide +kernel) rfl (Nat.le_of_ble_eq_true rfl) ?_
  intro p e s m args below meth c hx hb hT hown hname hml A Q hK hP hD hS hA hN hXS hRet ls hl
  subst pre2
  have hl : lv_has ls 4 [(0, .ref k), (1, .int a0), (2, .int 3), (3, .int a2)] := hl
  have lo_a0 := k_lo a0
  have hi_a0 := k_hi a0
  have lo_ci := k_lo ci
  have hi_ci := k_hi ci
  refine lv_aload_n hx hb dX11_setParty_0 rfl (lv_at hl 0 rfl) ?_
  refine va_get (D := D) (ci := 11) (v := .ref k0) (C := RX11) (T := TX11) (N := 25) hx hb hT giX11 hown hK hP 0 rfl rfl 0 (by decide +kernel) (hT (Cond.fieldLink RX11 9 "DesertWireModel" "s" "[I") mw_1156) (fun _ h9 => h9) rfl dX11_setParty_1 ?_
  refine lv_sipush (v := 459) hx hb dX11_setParty_4 (by decide +kernel) ?_
  refine lv_bipush (v := 9) hx hb dX11_setParty_7 (by decide +kernel) ?_
  refine lv_iload_n hx hb dX11_setParty_9 rfl (lv_at hl 1 rfl) ?_
  refine lv_imul hx hb dX11_setParty_10 ?_
  refine lv_topi (fun v_1 ev_1 => ?_)
  have tv_1 : v_1.toInt = 9 * a0.toInt := by rw [ev_1]; exact k_mulv zl_9 rfl (by omega) (by omega)
  refine lv_iadd hx hb dX11_setParty_11 ?_
  refine lv_topi (fun v_2 ev_2 => ?_)
  have tv_2 : v_2.toInt = 459 + v_1.toInt := by rw [ev_2]; exact k_addv zl_459 rfl (by omega) (by omega)
  refine lv_iload_n hx hb dX11_setParty_12 rfl (lv_at hl 2 rfl) ?_
  refine lv_iadd hx hb dX11_setParty_13 ?_
  refine lv_topi (fun v_3 ev_3 => ?_)
  have tv_3 : v_3.toInt = v_2.toInt + 3 := by rw [ev_3]; exact k_addv rfl zl_3 (by omega) (by omega)
  refine lv_iload_n hx hb dX11_setParty_14 rfl (lv_at hl 3 rfl) ?_
  refine va_iast hx hb hK hP hD hS 1 0 rfl rfl (k_in (by omega) (by omega)) dX11_setParty_15 ?_
  clear hP hD hS
  intro H locs hP hD hS
  replace hP : va_P D vwCl [(k, .inr (11, [.ref k0, .ref k1, .ref k2, .int c3, .ref k4, .ref k5, .ref k6, .ref k7, .ref k8, .int c9, .ref ka, .ref kb, .int cc, .int cd, .int ce, .int cf, .int cg, .int ch, .int ci, .int cj, .int ck, .ref kl, .int cm, .int cn, .ref ko])), (k0, .inl (cI, 1201, .inl (upd c0 v_3.toNatClampNeg a2)))] H := hP
  replace hD : va_D A [(k, .inr (11, [.ref k0, .ref k1, .ref k2, .int c3, .ref k4, .ref k5, .ref k6, .ref k7, .ref k8, .int c9, .ref ka, .ref kb, .int cc, .int cd, .int ce, .int cf, .int cg, .int ch, .int ci, .int cj, .int ck, .ref kl, .int cm, .int cn, .ref ko])), (k0, .inl (cI, 1201, .inl (upd c0 v_3.toNatClampNeg a2)))] := hD
  obtain ⟨f_4, ef_4⟩ : ∃ g : Nat → Int32, g = upd c0 v_3.toNatClampNeg a2 := ⟨_, rfl⟩
  rw [← ef_4] at hP hD
  exact hRet f_4 [0, 1] (by rw [ef_4, k_clamp, show v_3.toInt.toNat = (459 + 9 * a0.toInt.toNat + 3) from by omega]) hP hD (by decide +kernel) rfl hS dX11_setParty_16

set_option maxHeartbeats 4000000 in
set_option maxRecDepth 100000 in
theorem c_X11_setPartyG4 (l : Launch) (D : va_G) (cI : ClassId) (aK aV : Nat → Nat) (k k0 k1 k2 k4 k5 k6 k7 k8 ka kb kl ko : Nat) (sz : Nat) (c3 : Int32) (c9 : Int32) (cc : Int32) (cd : Int32) (ce : Int32) (cf : Int32) (cg : Int32) (ch : Int32) (ci : Int32) (cj : Int32) (ck : Int32) (cm : Int32) (cn : Int32) (c0 : Nat → Int32) (a0 : Int32) (a1 : Int32) (a2 : Int32) (pre0 : 0 ≤ a0.toInt) (pre1 : a0.toInt ≤ 3) (pre2 : a1 = 4) : Met l yX11_setParty (gW yX11_setParty cX11_setParty 4 none) ({ frames := 0, cells := 0, slots := 0, locals := 0 } : Room) (kPreX D cI aK aV [.ref k, .int a0, .int 4, .int a2] [(k, .inr (11, [.ref k0, .ref k1, .ref k2, .int c3, .ref k4, .ref k5, .ref k6, .ref k7, .ref k8, .int c9, .ref ka, .ref kb, .int cc, .int cd, .int ce, .int cf, .int cg, .int ch, .int ci, .int cj, .int ck, .ref kl, .int cm, .int cn, .ref ko])), (k0, .inl (cI, 1201, .inl c0))] sz) (va_Qv (fun (u : (Nat → Int32)) => u = upd c0 (459 + 9 * a0.toInt.toNat + 4) a2) (fun u t => kWd D cI (va_A [(k, .inr (11, [.ref k0, .ref k1, .ref k2, .int c3, .ref k4, .ref k5, .ref k6, .ref k7, .ref k8, .int c9, .ref ka, .ref kb, .int cc, .int cd, .int ce, .int cf, .int cg, .int ch, .int ci, .int cj, .int ck, .ref kl, .int cm, .int cn, .ref ko])), (k0, .inl (cI, 1201, .inl c0))] sz) [(k, .inr (11, [.ref k0, .ref k1, .ref k2, .int c3, .ref k4, .ref k5, .ref k6, .ref k7, .ref k8, .int c9, .ref ka, .ref kb, .int cc, .int cd, .int ce, .int cf, .int cg, .int ch, .int ci, .int cj, .int ck, .ref kl, .int cm, .int cn, .ref ko])), (k0, .inl (cI, 1201, .inl u))] t) (va_A [(k, .inr (11, [.ref k0, .ref k1, .ref k2, .int c3, .ref k4, .ref k5, .ref k6, .ref k7, .ref k8, .int c9, .ref ka, .ref kb, .int cc, .int cd, .int ce, .int cf, .int cg, .int ch, .int ci, .int cj, .int ck, .ref kl, .int cm, .int cn, .ref ko])), (k0, .inl (cI, 1201, .inl c0))] sz)) 0 0 (va_A [(k, .inr (11, [.ref k0, .ref k1, .ref k2, .int c3, .ref k4, .ref k5, .ref k6, .ref k7, .ref k8, .int c9, .ref ka, .ref kb, .int cc, .int cd, .int ce, .int cf, .int cg, .int ch, .int ci, .int cj, .int ck, .ref kl, .int cm, .int cn, .ref ko])), (k0, .inl (cI, 1201, .inl c0))] sz) := by
  refine kMetVX (own := RX11) (by decide +kernel) rfl (Nat.le_of_ble_eq_true rfl) ?_
  intro p e s m args below meth c hx hb hT hown hname hml A Q hK hP hD hS hA hN hXS hRet ls hl
  subst pre2
  have hl : lv_has ls 4 [(0, .ref k), (1, .int a0), (2, .int 4), (3, .int a2)] := hl
  have lo_a0 := k_lo a0
  have hi_a0 := k_hi a0
  have lo_ci := k_lo ci
  have hi_ci := k_hi ci
  refine lv_aload_n hx hb dX11_setParty_0 rfl (lv_at hl 0 rfl) ?_
  refine va_get (D := D) (ci := 11) (v := .ref k0) (C := RX11) (T := TX11) (N := 25) hx hb hT giX11 hown hK hP 0 rfl rfl 0 (by decide +kernel) (hT (Cond.fieldLink RX11 9 "DesertWireModel" "s" "[I") mw_1156) (fun _ h9 => h9) rfl dX11_setParty_1 ?_
  refine lv_sipush (v := 459) hx hb dX11_setParty_4 (by decide +kernel) ?_
  refine lv_bipush (v := 9) hx hb dX11_setParty_7 (by decide +kernel) ?_
  refine lv_iload_n hx hb dX11_setParty_9 rfl (lv_at hl 1 rfl) ?_
  refine lv_imul hx hb dX11_setParty_10 ?_
  refine lv_topi (fun v_1 ev_1 => ?_)
  have tv_1 : v_1.toInt = 9 * a0.toInt := by rw [ev_1]; exact k_mulv zl_9 rfl (by omega) (by omega)
  refine lv_iadd hx hb dX11_setParty_11 ?_
  refine lv_topi (fun v_2 ev_2 => ?_)
  have tv_2 : v_2.toInt = 459 + v_1.toInt := by rw [ev_2]; exact k_addv zl_459 rfl (by omega) (by omega)
  refine lv_iload_n hx hb dX11_setParty_12 rfl (lv_at hl 2 rfl) ?_
  refine lv_iadd hx hb dX11_setParty_13 ?_
  refine lv_topi (fun v_3 ev_3 => ?_)
  have tv_3 : v_3.toInt = v_2.toInt + 4 := by rw [ev_3]; exact k_addv rfl zl_4 (by omega) (by omega)
  refine lv_iload_n hx hb dX11_setParty_14 rfl (lv_at hl 3 rfl) ?_
  refine va_iast hx hb hK hP hD hS 1 0 rfl rfl (k_in (by omega) (by omega)) dX11_setParty_15 ?_
  clear hP hD hS
  intro H locs hP hD hS
  replace hP : va_P D vwCl [(k, .inr (11, [.ref k0, .ref k1, .ref k2, .int c3, .ref k4, .ref k5, .ref k6, .ref k7, .ref k8, .int c9, .ref ka, .ref kb, .int cc, .int cd, .int ce, .int cf, .int cg, .int ch, .int ci, .int cj, .int ck, .ref kl, .int cm, .int cn, .ref ko])), (k0, .inl (cI, 1201, .inl (upd c0 v_3.toNatClampNeg a2)))] H := hP
  replace hD : va_D A [(k, .inr (11, [.ref k0, .ref k1, .ref k2, .int c3, .ref k4, .ref k5, .ref k6, .ref k7, .ref k8, .int c9, .ref ka, .ref kb, .int cc, .int cd, .int ce, .int cf, .int cg, .int ch, .int ci, .int cj, .int ck, .ref kl, .int cm, .int cn, .ref ko])), (k0, .inl (cI, 1201, .inl (upd c0 v_3.toNatClampNeg a2)))] := hD
  obtain ⟨f_4, ef_4⟩ : ∃ g : Nat → Int32, g = upd c0 v_3.toNatClampNeg a2 := ⟨_, rfl⟩
  rw [← ef_4] at hP hD
  exact hRet f_4 [0, 1] (by rw [ef_4, k_clamp, show v_3.toInt.toNat = (459 + 9 * a0.toInt.toNat + 4) from by omega]) hP hD (by decide +kernel) rfl hS dX11_setParty_16

set_option maxHeartbeats 4000000 in
set_option maxRecDepth 100000 in
theorem c_X11_setPartyG5 (l : Launch) (D : va_G) (cI : ClassId) (aK aV : Nat → Nat) (k k0 k1 k2 k4 k5 k6 k7 k8 ka kb kl ko : Nat) (sz : Nat) (c3 : Int32) (c9 : Int32) (cc : Int32) (cd : Int32) (ce : Int32) (cf : Int32) (cg : Int32) (ch : Int32) (ci : Int32) (cj : Int32) (ck : Int32) (cm : Int32) (cn : Int32) (c0 : Nat → Int32) (a0 : Int32) (a1 : Int32) (a2 : Int32) (pre0 : 0 ≤ a0.toInt) (pre1 : a0.toInt ≤ 3) (pre2 : a1 = 5) : Met l yX11_setParty (gW yX11_setParty cX11_setParty 4 none) ({ frames := 0, cells := 0, slots := 0, locals := 0 } : Room) (kPreX D cI aK aV [.ref k, .int a0, .int 5, .int a2] [(k, .inr (11, [.ref k0, .ref k1, .ref k2, .int c3, .ref k4, .ref k5, .ref k6, .ref k7, .ref k8, .int c9, .ref ka, .ref kb, .int cc, .int cd, .int ce, .int cf, .int cg, .int ch, .int ci, .int cj, .int ck, .ref kl, .int cm, .int cn, .ref ko])), (k0, .inl (cI, 1201, .inl c0))] sz) (va_Qv (fun (u : (Nat → Int32)) => u = upd c0 (459 + 9 * a0.toInt.toNat + 5) a2) (fun u t => kWd D cI (va_A [(k, .inr (11, [.ref k0, .ref k1, .ref k2, .int c3, .ref k4, .ref k5, .ref k6, .ref k7, .ref k8, .int c9, .ref ka, .ref kb, .int cc, .int cd, .int ce, .int cf, .int cg, .int ch, .int ci, .int cj, .int ck, .ref kl, .int cm, .int cn, .ref ko])), (k0, .inl (cI, 1201, .inl c0))] sz) [(k, .inr (11, [.ref k0, .ref k1, .ref k2, .int c3, .ref k4, .ref k5, .ref k6, .ref k7, .ref k8, .int c9, .ref ka, .ref kb, .int cc, .int cd, .int ce, .int cf, .int cg, .int ch, .int ci, .int cj, .int ck, .ref kl, .int cm, .int cn, .ref ko])), (k0, .inl (cI, 1201, .inl u))] t) (va_A [(k, .inr (11, [.ref k0, .ref k1, .ref k2, .int c3, .ref k4, .ref k5, .ref k6, .ref k7, .ref k8, .int c9, .ref ka, .ref kb, .int cc, .int cd, .int ce, .int cf, .int cg, .int ch, .int ci, .int cj, .int ck, .ref kl, .int cm, .int cn, .ref ko])), (k0, .inl (cI, 1201, .inl c0))] sz)) 0 0 (va_A [(k, .inr (11, [.ref k0, .ref k1, .ref k2, .int c3, .ref k4, .ref k5, .ref k6, .ref k7, .ref k8, .int c9, .ref ka, .ref kb, .int cc, .int cd, .int ce, .int cf, .int cg, .int ch, .int ci, .int cj, .int ck, .ref kl, .int cm, .int cn, .ref ko])), (k0, .inl (cI, 1201, .inl c0))] sz) := by
  refine kMetVX (own := RX11) (by decide +kernel) rfl (Nat.le_of_ble_eq_true rfl) ?_
  intro p e s m args below meth c hx hb hT hown hname hml A Q hK hP hD hS hA hN hXS hRet ls hl
  subst pre2
  have hl : lv_has ls 4 [(0, .ref k), (1, .int a0), (2, .int 5), (3, .int a2)] := hl
  have lo_a0 := k_lo a0
  have hi_a0 := k_hi a0
  have lo_ci := k_lo ci
  have hi_ci := k_hi ci
  refine lv_aload_n hx hb dX11_setParty_0 rfl (lv_at hl 0 rfl) ?_
  refine va_get (D := D) (ci := 11) (v := .ref k0) (C := RX11) (T := TX11) (N := 25) hx hb hT giX11 hown hK hP 0 rfl rfl 0 (by decide +kernel) (hT (Cond.fieldLink RX11 9 "DesertWireModel" "s" "[I") mw_1156) (fun _ h9 => h9) rfl dX11_setParty_1 ?_
  refine lv_sipush (v := 459) hx hb dX11_setParty_4 (by decide +kernel) ?_
  refine lv_bipush (v := 9) hx hb dX11_setParty_7 (by decide +kernel) ?_
  refine lv_iload_n hx hb dX11_setParty_9 rfl (lv_at hl 1 rfl) ?_
  refine lv_imul hx hb dX11_setParty_10 ?_
  refine lv_topi (fun v_1 ev_1 => ?_)
  have tv_1 : v_1.toInt = 9 * a0.toInt := by rw [ev_1]; exact k_mulv zl_9 rfl (by omega) (by omega)
  refine lv_iadd hx hb dX11_setParty_11 ?_
  refine lv_topi (fun v_2 ev_2 => ?_)
  have tv_2 : v_2.toInt = 459 + v_1.toInt := by rw [ev_2]; exact k_addv zl_459 rfl (by omega) (by omega)
  refine lv_iload_n hx hb dX11_setParty_12 rfl (lv_at hl 2 rfl) ?_
  refine lv_iadd hx hb dX11_setParty_13 ?_
  refine lv_topi (fun v_3 ev_3 => ?_)
  have tv_3 : v_3.toInt = v_2.toInt + 5 := by rw [ev_3]; exact k_addv rfl zl_5 (by omega) (by omega)
  refine lv_iload_n hx hb dX11_setParty_14 rfl (lv_at hl 3 rfl) ?_
  refine va_iast hx hb hK hP hD hS 1 0 rfl rfl (k_in (by omega) (by omega)) dX11_setParty_15 ?_
  clear hP hD hS
  intro H locs hP hD hS
  replace hP : va_P D vwCl [(k, .inr (11, [.ref k0, .ref k1, .ref k2, .int c3, .ref k4, .ref k5, .ref k6, .ref k7, .ref k8, .int c9, .ref ka, .ref kb, .int cc, .int cd, .int ce, .int cf, .int cg, .int ch, .int ci, .int cj, .int ck, .ref kl, .int cm, .int cn, .ref ko])), (k0, .inl (cI, 1201, .inl (upd c0 v_3.toNatClampNeg a2)))] H := hP
  replace hD : va_D A [(k, .inr (11, [.ref k0, .ref k1, .ref k2, .int c3, .ref k4, .ref k5, .ref k6, .ref k7, .ref k8, .int c9, .ref ka, .ref kb, .int cc, .int cd, .int ce, .int cf, .int cg, .int ch, .int ci, .int cj, .int ck, .ref kl, .int cm, .int cn, .ref ko])), (k0, .inl (cI, 1201, .inl (upd c0 v_3.toNatClampNeg a2)))] := hD
  obtain ⟨f_4, ef_4⟩ : ∃ g : Nat → Int32, g = upd c0 v_3.toNatClampNeg a2 := ⟨_, rfl⟩
  rw [← ef_4] at hP hD
  exact hRet f_4 [0, 1] (by rw [ef_4, k_clamp, show v_3.toInt.toNat = (459 + 9 * a0.toInt.toNat + 5) from by omega]) hP hD (by decide +kernel) rfl hS dX11_setParty_16

set_option maxHeartbeats 4000000 in
set_option maxRecDepth 100000 in
theorem c_X11_setPartyG6 (l : Launch) (D : va_G) (cI : ClassId) (aK aV : Nat → Nat) (k k0 k1 k2 k4 k5 k6 k7 k8 ka kb kl ko : Nat) (sz : Nat) (c3 : Int32) (c9 : Int32) (cc : Int32) (cd : Int32) (ce : Int32) (cf : Int32) (cg : Int32) (ch : Int32) (ci : Int32) (cj : Int32) (ck : Int32) (cm : Int32) (cn : Int32) (c0 : Nat → Int32) (a0 : Int32) (a1 : Int32) (a2 : Int32) (pre0 : 0 ≤ a0.toInt) (pre1 : a0.toInt ≤ 3) (pre2 : a1 = 6) : Met l yX11_setParty (gW yX11_setParty cX11_setParty 4 none) ({ frames := 0, cells := 0, slots := 0, locals := 0 } : Room) (kPreX D cI aK aV [.ref k, .int a0, .int 6, .int a2] [(k, .inr (11, [.ref k0, .ref k1, .ref k2, .int c3, .ref k4, .ref k5, .ref k6, .ref k7, .ref k8, .int c9, .ref ka, .ref kb, .int cc, .int cd, .int ce, .int cf, .int cg, .int ch, .int ci, .int cj, .int ck, .ref kl, .int cm, .int cn, .ref ko])), (k0, .inl (cI, 1201, .inl c0))] sz) (va_Qv (fun (u : (Nat → Int32)) => u = upd c0 (459 + 9 * a0.toInt.toNat + 6) a2) (fun u t => kWd D cI (va_A [(k, .inr (11, [.ref k0, .ref k1, .ref k2, .int c3, .ref k4, .ref k5, .ref k6, .ref k7, .ref k8, .int c9, .ref ka, .ref kb, .int cc, .int cd, .int ce, .int cf, .int cg, .int ch, .int ci, .int cj, .int ck, .ref kl, .int cm, .int cn, .ref ko])), (k0, .inl (cI, 1201, .inl c0))] sz) [(k, .inr (11, [.ref k0, .ref k1, .ref k2, .int c3, .ref k4, .ref k5, .ref k6, .ref k7, .ref k8, .int c9, .ref ka, .ref kb, .int cc, .int cd, .int ce, .int cf, .int cg, .int ch, .int ci, .int cj, .int ck, .ref kl, .int cm, .int cn, .ref ko])), (k0, .inl (cI, 1201, .inl u))] t) (va_A [(k, .inr (11, [.ref k0, .ref k1, .ref k2, .int c3, .ref k4, .ref k5, .ref k6, .ref k7, .ref k8, .int c9, .ref ka, .ref kb, .int cc, .int cd, .int ce, .int cf, .int cg, .int ch, .int ci, .int cj, .int ck, .ref kl, .int cm, .int cn, .ref ko])), (k0, .inl (cI, 1201, .inl c0))] sz)) 0 0 (va_A [(k, .inr (11, [.ref k0, .ref k1, .ref k2, .int c3, .ref k4, .ref k5, .ref k6, .ref k7, .ref k8, .int c9, .ref ka, .ref kb, .int cc, .int cd, .int ce, .int cf, .int cg, .int ch, .int ci, .int cj, .int ck, .ref kl, .int cm, .int cn, .ref ko])), (k0, .inl (cI, 1201, .inl c0))] sz) := by
  refine kMetVX (own := RX11) (by decide +kernel) rfl (Nat.le_of_ble_eq_true rfl) ?_
  intro p e s m args below meth c hx hb hT hown hname hml A Q hK hP hD hS hA hN hXS hRet ls hl
  subst pre2
  have hl : lv_has ls 4 [(0, .ref k), (1, .int a0), (2, .int 6), (3, .int a2)] := hl
  have lo_a0 := k_lo a0
  have hi_a0 := k_hi a0
  have lo_ci := k_lo ci
  have hi_ci := k_hi ci
  refine lv_aload_n hx hb dX11_setParty_0 rfl (lv_at hl 0 rfl) ?_
  refine va_get (D := D) (ci := 11) (v := .ref k0) (C := RX11) (T := TX11) (N := 25) hx hb hT giX11 hown hK hP 0 rfl rfl 0 (by decide +kernel) (hT (Cond.fieldLink RX11 9 "DesertWireModel" "s" "[I") mw_1156) (fun _ h9 => h9) rfl dX11_setParty_1 ?_
  refine lv_sipush (v := 459) hx hb dX11_setParty_4 (by decide +kernel) ?_
  refine lv_bipush (v := 9) hx hb dX11_setParty_7 (by decide +kernel) ?_
  refine lv_iload_n hx hb dX11_setParty_9 rfl (lv_at hl 1 rfl) ?_
  refine lv_imul hx hb dX11_setParty_10 ?_
  refine lv_topi (fun v_1 ev_1 => ?_)
  have tv_1 : v_1.toInt = 9 * a0.toInt := by rw [ev_1]; exact k_mulv zl_9 rfl (by omega) (by omega)
  refine lv_iadd hx hb dX11_setParty_11 ?_
  refine lv_topi (fun v_2 ev_2 => ?_)
  have tv_2 : v_2.toInt = 459 + v_1.toInt := by rw [ev_2]; exact k_addv zl_459 rfl (by omega) (by omega)
  refine lv_iload_n hx hb dX11_setParty_12 rfl (lv_at hl 2 rfl) ?_
  refine lv_iadd hx hb dX11_setParty_13 ?_
  refine lv_topi (fun v_3 ev_3 => ?_)
  have tv_3 : v_3.toInt = v_2.toInt + 6 := by rw [ev_3]; exact k_addv rfl zl_6 (by omega) (by omega)
  refine lv_iload_n hx hb dX11_setParty_14 rfl (lv_at hl 3 rfl) ?_
  refine va_iast hx hb hK hP hD hS 1 0 rfl rfl (k_in (by omega) (by omega)) dX11_setParty_15 ?_
  clear hP hD hS
  intro H locs hP hD hS
  replace hP : va_P D vwCl [(k, .inr (11, [.ref k0, .ref k1, .ref k2, .int c3, .ref k4, .ref k5, .ref k6, .ref k7, .ref k8, .int c9, .ref ka, .ref kb, .int cc, .int cd, .int ce, .int cf, .int cg, .int ch, .int ci, .int cj, .int ck, .ref kl, .int cm, .int cn, .ref ko])), (k0, .inl (cI, 1201, .inl (upd c0 v_3.toNatClampNeg a2)))] H := hP
  replace hD : va_D A [(k, .inr (11, [.ref k0, .ref k1, .ref k2, .int c3, .ref k4, .ref k5, .ref k6, .ref k7, .ref k8, .int c9, .ref ka, .ref kb, .int cc, .int cd, .int ce, .int cf, .int cg, .int ch, .int ci, .int cj, .int ck, .ref kl, .int cm, .int cn, .ref ko])), (k0, .inl (cI, 1201, .inl (upd c0 v_3.toNatClampNeg a2)))] := hD
  obtain ⟨f_4, ef_4⟩ : ∃ g : Nat → Int32, g = upd c0 v_3.toNatClampNeg a2 := ⟨_, rfl⟩
  rw [← ef_4] at hP hD
  exact hRet f_4 [0, 1] (by rw [ef_4, k_clamp, show v_3.toInt.toNat = (459 + 9 * a0.toInt.toNat + 6) from by omega]) hP hD (by decide +kernel) rfl hS dX11_setParty_16

set_option maxHeartbeats 4000000 in
set_option maxRecDepth 100000 in
theorem c_X11_setPartyG7 (l : Launch) (D : va_G) (cI : ClassId) (aK aV : Nat → Nat) (k k0 k1 k2 k4 k5 k6 k7 k8 ka kb kl ko : Nat) (sz : Nat) (c3 : Int32) (c9 : Int32) (cc : Int32) (cd : Int32) (ce : Int32) (cf : Int32) (cg : Int32) (ch : Int32) (ci : Int32) (cj : Int32) (ck : Int32) (cm : Int32) (cn : Int32) (c0 : Nat → Int32) (a0 : Int32) (a1 : Int32) (a2 : Int32) (pre0 : 0 ≤ a0.toInt) (pre1 : a0.toInt ≤ 3) (pre2 : a1 = 7) : Met l yX11_setParty (gW yX11_setParty cX11_setParty 4 none) ({ frames := 0, cells := 0, slots := 0, locals := 0 } : Room) (kPreX D cI aK aV [.ref k, .int a0, .int 7, .int a2] [(k, .inr (11, [.ref k0, .ref k1, .ref k2, .int c3, .ref k4, .ref k5, .ref k6, .ref k7, .ref k8, .int c9, .ref ka, .ref kb, .int cc, .int cd, .int ce, .int cf, .int cg, .int ch, .int ci, .int cj, .int ck, .ref kl, .int cm, .int cn, .ref ko])), (k0, .inl (cI, 1201, .inl c0))] sz) (va_Qv (fun (u : (Nat → Int32)) => u = upd c0 (459 + 9 * a0.toInt.toNat + 7) a2) (fun u t => kWd D cI (va_A [(k, .inr (11, [.ref k0, .ref k1, .ref k2, .int c3, .ref k4, .ref k5, .ref k6, .ref k7, .ref k8, .int c9, .ref ka, .ref kb, .int cc, .int cd, .int ce, .int cf, .int cg, .int ch, .int ci, .int cj, .int ck, .ref kl, .int cm, .int cn, .ref ko])), (k0, .inl (cI, 1201, .inl c0))] sz) [(k, .inr (11, [.ref k0, .ref k1, .ref k2, .int c3, .ref k4, .ref k5, .ref k6, .ref k7, .ref k8, .int c9, .ref ka, .ref kb, .int cc, .int cd, .int ce, .int cf, .int cg, .int ch, .int ci, .int cj, .int ck, .ref kl, .int cm, .int cn, .ref ko])), (k0, .inl (cI, 1201, .inl u))] t) (va_A [(k, .inr (11, [.ref k0, .ref k1, .ref k2, .int c3, .ref k4, .ref k5, .ref k6, .ref k7, .ref k8, .int c9, .ref ka, .ref kb, .int cc, .int cd, .int ce, .int cf, .int cg, .int ch, .int ci, .int cj, .int ck, .ref kl, .int cm, .int cn, .ref ko])), (k0, .inl (cI, 1201, .inl c0))] sz)) 0 0 (va_A [(k, .inr (11, [.ref k0, .ref k1, .ref k2, .int c3, .ref k4, .ref k5, .ref k6, .ref k7, .ref k8, .int c9, .ref ka, .ref kb, .int cc, .int cd, .int ce, .int cf, .int cg, .int ch, .int ci, .int cj, .int ck, .ref kl, .int cm, .int cn, .ref ko])), (k0, .inl (cI, 1201, .inl c0))] sz) := by
  refine kMetVX (own := RX11) (by decide +kernel) rfl (Nat.le_of_ble_eq_true rfl) ?_
  intro p e s m args below meth c hx hb hT hown hname hml A Q hK hP hD hS hA hN hXS hRet ls hl
  subst pre2
  have hl : lv_has ls 4 [(0, .ref k), (1, .int a0), (2, .int 7), (3, .int a2)] := hl
  have lo_a0 := k_lo a0
  have hi_a0 := k_hi a0
  have lo_ci := k_lo ci
  have hi_ci := k_hi ci
  refine lv_aload_n hx hb dX11_setParty_0 rfl (lv_at hl 0 rfl) ?_
  refine va_get (D := D) (ci := 11) (v := .ref k0) (C := RX11) (T := TX11) (N := 25) hx hb hT giX11 hown hK hP 0 rfl rfl 0 (by decide +kernel) (hT (Cond.fieldLink RX11 9 "DesertWireModel" "s" "[I") mw_1156) (fun _ h9 => h9) rfl dX11_setParty_1 ?_
  refine lv_sipush (v := 459) hx hb dX11_setParty_4 (by decide +kernel) ?_
  refine lv_bipush (v := 9) hx hb dX11_setParty_7 (by decide +kernel) ?_
  refine lv_iload_n hx hb dX11_setParty_9 rfl (lv_at hl 1 rfl) ?_
  refine lv_imul hx hb dX11_setParty_10 ?_
  refine lv_topi (fun v_1 ev_1 => ?_)
  have tv_1 : v_1.toInt = 9 * a0.toInt := by rw [ev_1]; exact k_mulv zl_9 rfl (by omega) (by omega)
  refine lv_iadd hx hb dX11_setParty_11 ?_
  refine lv_topi (fun v_2 ev_2 => ?_)
  have tv_2 : v_2.toInt = 459 + v_1.toInt := by rw [ev_2]; exact k_addv zl_459 rfl (by omega) (by omega)
  refine lv_iload_n hx hb dX11_setParty_12 rfl (lv_at hl 2 rfl) ?_
  refine lv_iadd hx hb dX11_setParty_13 ?_
  refine lv_topi (fun v_3 ev_3 => ?_)
  have tv_3 : v_3.toInt = v_2.toInt + 7 := by rw [ev_3]; exact k_addv rfl zl_7 (by omega) (by omega)
  refine lv_iload_n hx hb dX11_setParty_14 rfl (lv_at hl 3 rfl) ?_
  refine va_iast hx hb hK hP hD hS 1 0 rfl rfl (k_in (by omega) (by omega)) dX11_setParty_15 ?_
  clear hP hD hS
  intro H locs hP hD hS
  replace hP : va_P D vwCl [(k, .inr (11, [.ref k0, .ref k1, .ref k2, .int c3, .ref k4, .ref k5, .ref k6, .ref k7, .ref k8, .int c9, .ref ka, .ref kb, .int cc, .int cd, .int ce, .int cf, .int cg, .int ch, .int ci, .int cj, .int ck, .ref kl, .int cm, .int cn, .ref ko])), (k0, .inl (cI, 1201, .inl (upd c0 v_3.toNatClampNeg a2)))] H := hP
  replace hD : va_D A [(k, .inr (11, [.ref k0, .ref k1, .ref k2, .int c3, .ref k4, .ref k5, .ref k6, .ref k7, .ref k8, .int c9, .ref ka, .ref kb, .int cc, .int cd, .int ce, .int cf, .int cg, .int ch, .int ci, .int cj, .int ck, .ref kl, .int cm, .int cn, .ref ko])), (k0, .inl (cI, 1201, .inl (upd c0 v_3.toNatClampNeg a2)))] := hD
  obtain ⟨f_4, ef_4⟩ : ∃ g : Nat → Int32, g = upd c0 v_3.toNatClampNeg a2 := ⟨_, rfl⟩
  rw [← ef_4] at hP hD
  exact hRet f_4 [0, 1] (by rw [ef_4, k_clamp, show v_3.toInt.toNat = (459 + 9 * a0.toInt.toNat + 7) from by omega]) hP hD (by decide +kernel) rfl hS dX11_setParty_16

set_option maxHeartbeats 4000000 in
set_option maxRecDepth 100000 in
theorem c_X11_setPartyG8 (l : Launch) (D : va_G) (cI : ClassId) (aK aV : Nat → Nat) (k k0 k1 k2 k4 k5 k6 k7 k8 ka kb kl ko : Nat) (sz : Nat) (c3 : Int32) (c9 : Int32) (cc : Int32) (cd : Int32) (ce : Int32) (cf : Int32) (cg : Int32) (ch : Int32) (ci : Int32) (cj : Int32) (ck : Int32) (cm : Int32) (cn : Int32) (c0 : Nat → Int32) (a0 : Int32) (a1 : Int32) (a2 : Int32) (pre0 : 0 ≤ a0.toInt) (pre1 : a0.toInt ≤ 3) (pre2 : a1 = 8) : Met l yX11_setParty (gW yX11_setParty cX11_setParty 4 none) ({ frames := 0, cells := 0, slots := 0, locals := 0 } : Room) (kPreX D cI aK aV [.ref k, .int a0, .int 8, .int a2] [(k, .inr (11, [.ref k0, .ref k1, .ref k2, .int c3, .ref k4, .ref k5, .ref k6, .ref k7, .ref k8, .int c9, .ref ka, .ref kb, .int cc, .int cd, .int ce, .int cf, .int cg, .int ch, .int ci, .int cj, .int ck, .ref kl, .int cm, .int cn, .ref ko])), (k0, .inl (cI, 1201, .inl c0))] sz) (va_Qv (fun (u : (Nat → Int32)) => u = upd c0 (459 + 9 * a0.toInt.toNat + 8) a2) (fun u t => kWd D cI (va_A [(k, .inr (11, [.ref k0, .ref k1, .ref k2, .int c3, .ref k4, .ref k5, .ref k6, .ref k7, .ref k8, .int c9, .ref ka, .ref kb, .int cc, .int cd, .int ce, .int cf, .int cg, .int ch, .int ci, .int cj, .int ck, .ref kl, .int cm, .int cn, .ref ko])), (k0, .inl (cI, 1201, .inl c0))] sz) [(k, .inr (11, [.ref k0, .ref k1, .ref k2, .int c3, .ref k4, .ref k5, .ref k6, .ref k7, .ref k8, .int c9, .ref ka, .ref kb, .int cc, .int cd, .int ce, .int cf, .int cg, .int ch, .int ci, .int cj, .int ck, .ref kl, .int cm, .int cn, .ref ko])), (k0, .inl (cI, 1201, .inl u))] t) (va_A [(k, .inr (11, [.ref k0, .ref k1, .ref k2, .int c3, .ref k4, .ref k5, .ref k6, .ref k7, .ref k8, .int c9, .ref ka, .ref kb, .int cc, .int cd, .int ce, .int cf, .int cg, .int ch, .int ci, .int cj, .int ck, .ref kl, .int cm, .int cn, .ref ko])), (k0, .inl (cI, 1201, .inl c0))] sz)) 0 0 (va_A [(k, .inr (11, [.ref k0, .ref k1, .ref k2, .int c3, .ref k4, .ref k5, .ref k6, .ref k7, .ref k8, .int c9, .ref ka, .ref kb, .int cc, .int cd, .int ce, .int cf, .int cg, .int ch, .int ci, .int cj, .int ck, .ref kl, .int cm, .int cn, .ref ko])), (k0, .inl (cI, 1201, .inl c0))] sz) := by
  refine kMetVX (own := RX11) (by decide +kernel) rfl (Nat.le_of_ble_eq_true rfl) ?_
  intro p e s m args below meth c hx hb hT hown hname hml A Q hK hP hD hS hA hN hXS hRet ls hl
  subst pre2
  have hl : lv_has ls 4 [(0, .ref k), (1, .int a0), (2, .int 8), (3, .int a2)] := hl
  have lo_a0 := k_lo a0
  have hi_a0 := k_hi a0
  have lo_ci := k_lo ci
  have hi_ci := k_hi ci
  refine lv_aload_n hx hb dX11_setParty_0 rfl (lv_at hl 0 rfl) ?_
  refine va_get (D := D) (ci := 11) (v := .ref k0) (C := RX11) (T := TX11) (N := 25) hx hb hT giX11 hown hK hP 0 rfl rfl 0 (by decide +kernel) (hT (Cond.fieldLink RX11 9 "DesertWireModel" "s" "[I") mw_1156) (fun _ h9 => h9) rfl dX11_setParty_1 ?_
  refine lv_sipush (v := 459) hx hb dX11_setParty_4 (by decide +kernel) ?_
  refine lv_bipush (v := 9) hx hb dX11_setParty_7 (by decide +kernel) ?_
  refine lv_iload_n hx hb dX11_setParty_9 rfl (lv_at hl 1 rfl) ?_
  refine lv_imul hx hb dX11_setParty_10 ?_
  refine lv_topi (fun v_1 ev_1 => ?_)
  have tv_1 : v_1.toInt = 9 * a0.toInt := by rw [ev_1]; exact k_mulv zl_9 rfl (by omega) (by omega)
  refine lv_iadd hx hb dX11_setParty_11 ?_
  refine lv_topi (fun v_2 ev_2 => ?_)
  have tv_2 : v_2.toInt = 459 + v_1.toInt := by rw [ev_2]; exact k_addv zl_459 rfl (by omega) (by omega)
  refine lv_iload_n hx hb dX11_setParty_12 rfl (lv_at hl 2 rfl) ?_
  refine lv_iadd hx hb dX11_setParty_13 ?_
  refine lv_topi (fun v_3 ev_3 => ?_)
  have tv_3 : v_3.toInt = v_2.toInt + 8 := by rw [ev_3]; exact k_addv rfl zl_8 (by omega) (by omega)
  refine lv_iload_n hx hb dX11_setParty_14 rfl (lv_at hl 3 rfl) ?_
  refine va_iast hx hb hK hP hD hS 1 0 rfl rfl (k_in (by omega) (by omega)) dX11_setParty_15 ?_
  clear hP hD hS
  intro H locs hP hD hS
  replace hP : va_P D vwCl [(k, .inr (11, [.ref k0, .ref k1, .ref k2, .int c3, .ref k4, .ref k5, .ref k6, .ref k7, .ref k8, .int c9, .ref ka, .ref kb, .int cc, .int cd, .int ce, .int cf, .int cg, .int ch, .int ci, .int cj, .int ck, .ref kl, .int cm, .int cn, .ref ko])), (k0, .inl (cI, 1201, .inl (upd c0 v_3.toNatClampNeg a2)))] H := hP
  replace hD : va_D A [(k, .inr (11, [.ref k0, .ref k1, .ref k2, .int c3, .ref k4, .ref k5, .ref k6, .ref k7, .ref k8, .int c9, .ref ka, .ref kb, .int cc, .int cd, .int ce, .int cf, .int cg, .int ch, .int ci, .int cj, .int ck, .ref kl, .int cm, .int cn, .ref ko])), (k0, .inl (cI, 1201, .inl (upd c0 v_3.toNatClampNeg a2)))] := hD
  obtain ⟨f_4, ef_4⟩ : ∃ g : Nat → Int32, g = upd c0 v_3.toNatClampNeg a2 := ⟨_, rfl⟩
  rw [← ef_4] at hP hD
  exact hRet f_4 [0, 1] (by rw [ef_4, k_clamp, show v_3.toInt.toNat = (459 + 9 * a0.toInt.toNat + 8) from by omega]) hP hD (by decide +kernel) rfl hS dX11_setParty_16

set_option maxHeartbeats 4000000 in
set_option maxRecDepth 100000 in
theorem c_X11_setPartyGZ (l : Launch) (D : va_G) (cI : ClassId) (aK aV : Nat → Nat) (k k0 k1 k2 k4 k5 k6 k7 k8 ka kb kl ko : Nat) (sz : Nat) (c3 : Int32) (c9 : Int32) (cc : Int32) (cd : Int32) (ce : Int32) (cf : Int32) (cg : Int32) (ch : Int32) (ci : Int32) (cj : Int32) (ck : Int32) (cm : Int32) (cn : Int32) (c0 : Nat → Int32) (a0 : Int32) (a1 : Int32) (a2 : Int32) (pre0 : 0 ≤ a0.toInt) (pre1 : a0.toInt ≤ 3) (pre2 : 0 ≤ a1.toInt) (pre3 : a1.toInt ≤ 8) (pre4 : a2 = 0) (pre5 : SIX c0 a0.toInt) : Met l yX11_setParty (gW yX11_setParty cX11_setParty 4 none) ({ frames := 0, cells := 0, slots := 0, locals := 0 } : Room) (kPreX D cI aK aV [.ref k, .int a0, .int a1, .int 0] [(k, .inr (11, [.ref k0, .ref k1, .ref k2, .int c3, .ref k4, .ref k5, .ref k6, .ref k7, .ref k8, .int c9, .ref ka, .ref kb, .int cc, .int cd, .int ce, .int cf, .int cg, .int ch, .int ci, .int cj, .int ck, .ref kl, .int cm, .int cn, .ref ko])), (k0, .inl (cI, 1201, .inl c0))] sz) (va_Qv (fun (u : (Nat → Int32)) => SIX u a0.toInt ∧ u = upd c0 (459 + 9 * a0.toInt.toNat + a1.toInt.toNat) 0 ∧ (u 0).toInt = (c0 0).toInt ∧ (u 1).toInt = (c0 1).toInt ∧ (u 2).toInt = (c0 2).toInt) (fun u t => kWd D cI (va_A [(k, .inr (11, [.ref k0, .ref k1, .ref k2, .int c3, .ref k4, .ref k5, .ref k6, .ref k7, .ref k8, .int c9, .ref ka, .ref kb, .int cc, .int cd, .int ce, .int cf, .int cg, .int ch, .int ci, .int cj, .int ck, .ref kl, .int cm, .int cn, .ref ko])), (k0, .inl (cI, 1201, .inl c0))] sz) [(k, .inr (11, [.ref k0, .ref k1, .ref k2, .int c3, .ref k4, .ref k5, .ref k6, .ref k7, .ref k8, .int c9, .ref ka, .ref kb, .int cc, .int cd, .int ce, .int cf, .int cg, .int ch, .int ci, .int cj, .int ck, .ref kl, .int cm, .int cn, .ref ko])), (k0, .inl (cI, 1201, .inl u))] t) (va_A [(k, .inr (11, [.ref k0, .ref k1, .ref k2, .int c3, .ref k4, .ref k5, .ref k6, .ref k7, .ref k8, .int c9, .ref ka, .ref kb, .int cc, .int cd, .int ce, .int cf, .int cg, .int ch, .int ci, .int cj, .int ck, .ref kl, .int cm, .int cn, .ref ko])), (k0, .inl (cI, 1201, .inl c0))] sz)) 0 0 (va_A [(k, .inr (11, [.ref k0, .ref k1, .ref k2, .int c3, .ref k4, .ref k5, .ref k6, .ref k7, .ref k8, .int c9, .ref ka, .ref kb, .int cc, .int cd, .int ce, .int cf, .int cg, .int ch, .int ci, .int cj, .int ck, .ref kl, .int cm, .int cn, .ref ko])), (k0, .inl (cI, 1201, .inl c0))] sz) := by
  refine kMetVX (own := RX11) (by decide +kernel) rfl (Nat.le_of_ble_eq_true rfl) ?_
  intro p e s m args below meth c hx hb hT hown hname hml A Q hK hP hD hS hA hN hXS hRet ls hl
  subst pre4
  have hl : lv_has ls 4 [(0, .ref k), (1, .int a0), (2, .int a1), (3, .int 0)] := hl
  have lo_a0 := k_lo a0
  have hi_a0 := k_hi a0
  have lo_a1 := k_lo a1
  have hi_a1 := k_hi a1
  have lo_ci := k_lo ci
  have hi_ci := k_hi ci
  have pre5 : SIX c0 a0.toInt := pre5
  have nb_1 : 0 ≤ (c0 0).toInt ∧ (c0 0).toInt ≤ 2000 := SB.n0 (And.left pre5)
  have nb_2 : 0 ≤ (c0 1).toInt ∧ (c0 1).toInt ≤ 60 := SB.n1 (And.left pre5)
  have nb_3 : 0 ≤ (c0 2).toInt ∧ (c0 2).toInt ≤ 4 := SB.n2 (And.left pre5)
  refine lv_aload_n hx hb dX11_setParty_0 rfl (lv_at hl 0 rfl) ?_
  refine va_get (D := D) (ci := 11) (v := .ref k0) (C := RX11) (T := TX11) (N := 25) hx hb hT giX11 hown hK hP 0 rfl rfl 0 (by decide +kernel) (hT (Cond.fieldLink RX11 9 "DesertWireModel" "s" "[I") mw_1156) (fun _ h9 => h9) rfl dX11_setParty_1 ?_
  refine lv_sipush (v := 459) hx hb dX11_setParty_4 (by decide +kernel) ?_
  refine lv_bipush (v := 9) hx hb dX11_setParty_7 (by decide +kernel) ?_
  refine lv_iload_n hx hb dX11_setParty_9 rfl (lv_at hl 1 rfl) ?_
  refine lv_imul hx hb dX11_setParty_10 ?_
  refine lv_topi (fun v_4 ev_4 => ?_)
  have tv_4 : v_4.toInt = 9 * a0.toInt := by rw [ev_4]; exact k_mulv zl_9 rfl (by omega) (by omega)
  refine lv_iadd hx hb dX11_setParty_11 ?_
  refine lv_topi (fun v_5 ev_5 => ?_)
  have tv_5 : v_5.toInt = 459 + v_4.toInt := by rw [ev_5]; exact k_addv zl_459 rfl (by omega) (by omega)
  refine lv_iload_n hx hb dX11_setParty_12 rfl (lv_at hl 2 rfl) ?_
  refine lv_iadd hx hb dX11_setParty_13 ?_
  refine lv_topi (fun v_6 ev_6 => ?_)
  have tv_6 : v_6.toInt = v_5.toInt + a1.toInt := by rw [ev_6]; exact k_addv rfl rfl (by omega) (by omega)
  refine lv_iload_n hx hb dX11_setParty_14 rfl (lv_at hl 3 rfl) ?_
  refine va_iast hx hb hK hP hD hS 1 0 rfl rfl (k_in (by omega) (by omega)) dX11_setParty_15 ?_
  clear hP hD hS
  intro H locs hP hD hS
  replace hP : va_P D vwCl [(k, .inr (11, [.ref k0, .ref k1, .ref k2, .int c3, .ref k4, .ref k5, .ref k6, .ref k7, .ref k8, .int c9, .ref ka, .ref kb, .int cc, .int cd, .int ce, .int cf, .int cg, .int ch, .int ci, .int cj, .int ck, .ref kl, .int cm, .int cn, .ref ko])), (k0, .inl (cI, 1201, .inl (upd c0 v_6.toNatClampNeg 0)))] H := hP
  replace hD : va_D A [(k, .inr (11, [.ref k0, .ref k1, .ref k2, .int c3, .ref k4, .ref k5, .ref k6, .ref k7, .ref k8, .int c9, .ref ka, .ref kb, .int cc, .int cd, .int ce, .int cf, .int cg, .int ch, .int ci, .int cj, .int ck, .ref kl, .int cm, .int cn, .ref ko])), (k0, .inl (cI, 1201, .inl (upd c0 v_6.toNatClampNeg 0)))] := hD
  obtain ⟨f_7, ef_7⟩ : ∃ g : Nat → Int32, g = upd c0 v_6.toNatClampNeg 0 := ⟨_, rfl⟩
  rw [← ef_7] at hP hD
  exact hRet f_7 [0, 1] ⟨(SIX.zero pre5 ef_7 (by rw [k_clamp]; omega) (by omega) (by omega) zl_0), (by rw [ef_7, k_clamp]; exact congrArg (fun z => upd c0 z 0) (by omega)), (by rw [updN ef_7 (by rw [k_clamp]; omega)]), (by rw [updN ef_7 (by rw [k_clamp]; omega)]), (by rw [updN ef_7 (by rw [k_clamp]; omega)])⟩ hP hD (by decide +kernel) rfl hS dX11_setParty_16
theorem bn_cX11_isUnder_0 : BN cX11_isUnder 0 0xad0201402a802820029c0ebce00a81f0d002b90e83002a00e07422014e0747c1b := by
  unfold BN; decide +kernel
theorem dX11_isUnder_0 : decode cX11_isUnder 0 = .ok (.iload_n 0, 1) := dR0 (k := 0) (i := 0) bn_cX11_isUnder_0 dop_26 (by decide +kernel)
theorem dX11_isUnder_1 : decode cX11_isUnder 1 = .ok (.istore_n 2, 1) := dR0 (k := 0) (i := 1) bn_cX11_isUnder_0 dop_61 (by decide +kernel)
theorem dX11_isUnder_2 : decode cX11_isUnder 2 = .ok (.iload_n 2, 1) := dR0 (k := 0) (i := 2) bn_cX11_isUnder_0 dop_28 (by decide +kernel)
theorem dX11_isUnder_3 : decode cX11_isUnder 3 = .ok (.ifCond .lt 16, 3) := dR2s (f := Instr.ifCond .lt) (k := 0) (i := 3) bn_cX11_isUnder_0 dop_155 16 16 (by decide +kernel)
theorem dX11_isUnder_6 : decode cX11_isUnder 6 = .ok (.iload_n 2, 1) := dR0 (k := 0) (i := 6) bn_cX11_isUnder_0 dop_28 (by decide +kernel)
theorem dX11_isUnder_7 : decode cX11_isUnder 7 = .ok (.iload_n 1, 1) := dR0 (k := 0) (i := 7) bn_cX11_isUnder_0 dop_27 (by decide +kernel)
theorem dX11_isUnder_8 : decode cX11_isUnder 8 = .ok (.if_icmp .eq 11, 3) := dR2s (f := Instr.if_icmp .eq) (k := 0) (i := 8) bn_cX11_isUnder_0 dop_159 11 11 (by decide +kernel)
theorem dX11_isUnder_11 : decode cX11_isUnder 11 = .ok (.iload_n 2, 1) := dR0 (k := 0) (i := 11) bn_cX11_isUnder_0 dop_28 (by decide +kernel)
theorem dX11_isUnder_12 : decode cX11_isUnder 12 = .ok (.invokestatic 51, 3) := dR2 (f := Instr.invokestatic) (k := 0) (i := 12) bn_cX11_isUnder_0 dop_184 51 (by decide +kernel)
theorem dX11_isUnder_15 : decode cX11_isUnder 15 = .ok (.istore_n 2, 1) := dR0 (k := 0) (i := 15) bn_cX11_isUnder_0 dop_61 (by decide +kernel)
theorem dX11_isUnder_16 : decode cX11_isUnder 16 = .ok (.goto (-14), 3) := dR2s (f := Instr.goto) (k := 0) (i := 16) bn_cX11_isUnder_0 dop_167 65522 (-14) (by decide +kernel)
theorem dX11_isUnder_19 : decode cX11_isUnder 19 = .ok (.iload_n 2, 1) := dR0 (k := 0) (i := 19) bn_cX11_isUnder_0 dop_28 (by decide +kernel)
theorem dX11_isUnder_20 : decode cX11_isUnder 20 = .ok (.ifCond .lt 7, 3) := dR2s (f := Instr.ifCond .lt) (k := 0) (i := 20) bn_cX11_isUnder_0 dop_155 7 7 (by decide +kernel)
theorem dX11_isUnder_23 : decode cX11_isUnder 23 = .ok (.iconst 1, 1) := dR0 (k := 0) (i := 23) bn_cX11_isUnder_0 dop_4 (by decide +kernel)
theorem dX11_isUnder_24 : decode cX11_isUnder 24 = .ok (.goto 4, 3) := dR2s (f := Instr.goto) (k := 0) (i := 24) bn_cX11_isUnder_0 dop_167 4 4 (by decide +kernel)
theorem dX11_isUnder_27 : decode cX11_isUnder 27 = .ok (.iconst 0, 1) := dR0 (k := 0) (i := 27) bn_cX11_isUnder_0 dop_3 (by decide +kernel)
theorem dX11_isUnder_28 : decode cX11_isUnder 28 = .ok (.ireturn, 1) := dR0 (k := 0) (i := 28) bn_cX11_isUnder_0 dop_172 (by decide +kernel)
set_option maxHeartbeats 4000000 in
set_option maxRecDepth 100000 in
theorem c_X11_isUnderG (l : Launch) (D : va_G) (cI : ClassId) (aK aV : Nat → Nat) (sz : Nat) (a0 : Int32) (a1 : Int32) (pre0 : 0 ≤ a0.toInt) (pre1 : a0.toInt ≤ 5) : Met l yX11_isUnder (gW yX11_isUnder cX11_isUnder 3 (some .boolean)) ({ frames := 1, cells := 0, slots := 0, locals := 20 } : Room) (kPreX D cI aK aV [.int a0, .int a1] [] sz) (va_Qi (fun (r : Int32) (u : Unit) => (r = 1 ∧ mU a0.toInt a1.toInt = 1) ∨ (r = 0 ∧ mU a0.toInt a1.toInt = 0)) (fun u t => kWd D cI (va_A [] sz) [] t) (va_A [] sz)) 0 0 (va_A [] sz) := by
  refine kMetIX (own := RX11) (by decide +kernel) rfl (Nat.le_of_ble_eq_true rfl) ?_
  intro p e s m args below meth c hx hb hT hown hname hml A Q hK hP hD hS hA hN hXS hRet ls hl
  have hl : lv_has ls 3 [(0, .int a0), (1, .int a1)] := hl
  have lo_a0 := k_lo a0
  have hi_a0 := k_hi a0
  have lo_a1 := k_lo a1
  have hi_a1 := k_hi a1
  refine lv_iload_n hx hb dX11_isUnder_0 rfl (lv_at hl 0 rfl) ?_
  refine lv_istore_n (lv' := [(2, .int a0), (0, .int a0), (1, .int a1)]) hx hb dX11_isUnder_1 rfl hl (by decide +kernel) rfl ?_
  clear hl
  intro ls hl
  refine lv_iload_n hx hb dX11_isUnder_2 rfl (lv_at hl 0 rfl) ?_
  refine b_if_lt hx hb rfl (tgt := 19) dX11_isUnder_3 (by decide +kernel) (fun c_1 => by exfalso; omega) (fun c_1 => ?_)
  refine lv_iload_n hx hb dX11_isUnder_6 rfl (lv_at hl 0 rfl) ?_
  refine lv_iload_n hx hb dX11_isUnder_7 rfl (lv_at hl 2 rfl) ?_
  refine b_icmp_eq hx hb rfl rfl (tgt := 19) dX11_isUnder_8 (by decide +kernel) (fun c_2 => ?_) (fun c_2 => ?_)
  · refine lv_iload_n hx hb dX11_isUnder_19 rfl (lv_at hl 0 rfl) ?_
    refine b_if_lt hx hb rfl (tgt := 27) dX11_isUnder_20 (by decide +kernel) (fun c_3 => by exfalso; omega) (fun c_3 => ?_)
    refine lv_iconst (v := 1) hx hb dX11_isUnder_23 (by decide +kernel) ?_
    refine lv_goto (tgt := 28) hx hb dX11_isUnder_24 (by decide +kernel) ?_
    exact hRet () [] (Or.inl ⟨rfl, (by unfold mU; first | rw [if_pos (by omega)] | rw [if_neg (by omega)])⟩) hP hD (by decide +kernel) rfl hS rfl dX11_isUnder_28
  · refine lv_iload_n hx hb dX11_isUnder_11 rfl (lv_at hl 0 rfl) ?_
    refine kJi (wr := []) (va_runS (As := [.int a0]) (rest := []) ⟨hx, hb, hml, hown, hT⟩ (c_X11_parentG l D cI aK aV s.heap.size a0 (by first | omega | decide | assumption | rfl) (by first | omega | decide | assumption | rfl)) (cwS 1 hT (gS_in mw_1282 mw_1280 mw_1281 mw_12) rfl rfl rfl (by decide +kernel) ⟨Nat.le_of_ble_eq_true rfl, Nat.le_of_ble_eq_true rfl⟩) (kStatX hK hP hD hN hXS hS hA [] rfl (by decide +kernel)) rfl rfl hl.1 rfl (lv_room (Nat.le_of_ble_eq_true rfl)) dX11_isUnder_12 ⟨Nat.le_of_ble_eq_true rfl, Nat.le_of_ble_eq_true rfl⟩) hP hD hS hA [] [] rfl rfl (by decide +kernel) (by decide +kernel) ?_
    clear hP hD hS
    intro r_4 u_6 H locs w_5 hP hD hS
    replace hP : va_P D vwCl [] H := hP
    replace hD : va_D A [] := hD
    rcases w_5 with ⟨hr_4, h_7⟩ | ⟨hr_4, h_8⟩ | ⟨hr_4, h_9⟩ | ⟨hr_4, h_10⟩ | ⟨hr_4, h_11⟩
    · have h_7 : a0.toInt = 0 := h_7
      obtain rfl : r_4 = (-1) := hr_4.trans (by decide +kernel)
      refine lv_istore_n (lv' := [(2, .int (-1)), (0, .int a0), (1, .int a1)]) hx hb dX11_isUnder_15 rfl hl (by decide +kernel) rfl ?_
      clear hl
      intro ls hl
      refine lv_goto (tgt := 2) hx hb dX11_isUnder_16 (by decide +kernel) ?_
      refine lv_iload_n hx hb dX11_isUnder_2 rfl (lv_at hl 0 rfl) ?_
      refine b_if_lt hx hb zl_m1 (tgt := 19) dX11_isUnder_3 (by decide +kernel) (fun c_12 => ?_) (fun c_12 => by exfalso; omega)
      refine lv_iload_n hx hb dX11_isUnder_19 rfl (lv_at hl 0 rfl) ?_
      refine b_if_lt hx hb zl_m1 (tgt := 27) dX11_isUnder_20 (by decide +kernel) (fun c_13 => ?_) (fun c_13 => by exfalso; omega)
      refine lv_iconst (v := 0) hx hb dX11_isUnder_27 (by decide +kernel) ?_
      exact hRet () [] (Or.inr (⟨rfl, (by unfold mU; first | rw [if_pos (by omega)] | rw [if_neg (by omega)])⟩)) hP hD (by decide +kernel) rfl hS rfl dX11_isUnder_28
    · have h_8 : a0.toInt = 1 ∨ a0.toInt = 4 := h_8
      obtain rfl : r_4 = 0 := hr_4.trans (by decide +kernel)
      refine lv_istore_n (lv' := [(2, .int 0), (0, .int a0), (1, .int a1)]) hx hb dX11_isUnder_15 rfl hl (by decide +kernel) rfl ?_
      clear hl
      intro ls hl
      refine lv_goto (tgt := 2) hx hb dX11_isUnder_16 (by decide +kernel) ?_
      refine lv_iload_n hx hb dX11_isUnder_2 rfl (lv_at hl 0 rfl) ?_
      refine b_if_lt hx hb zl_0 (tgt := 19) dX11_isUnder_3 (by decide +kernel) (fun c_14 => by exfalso; omega) (fun c_14 => ?_)
      refine lv_iload_n hx hb dX11_isUnder_6 rfl (lv_at hl 0 rfl) ?_
      refine lv_iload_n hx hb dX11_isUnder_7 rfl (lv_at hl 2 rfl) ?_
      refine b_icmp_eq hx hb zl_0 rfl (tgt := 19) dX11_isUnder_8 (by decide +kernel) (fun c_15 => ?_) (fun c_15 => ?_)
      · refine lv_iload_n hx hb dX11_isUnder_19 rfl (lv_at hl 0 rfl) ?_
        refine b_if_lt hx hb zl_0 (tgt := 27) dX11_isUnder_20 (by decide +kernel) (fun c_16 => by exfalso; omega) (fun c_16 => ?_)
        refine lv_iconst (v := 1) hx hb dX11_isUnder_23 (by decide +kernel) ?_
        refine lv_goto (tgt := 28) hx hb dX11_isUnder_24 (by decide +kernel) ?_
        exact hRet () [] (Or.inl ⟨rfl, (by unfold mU; first | rw [if_pos (by omega)] | rw [if_neg (by omega)])⟩) hP hD (by decide +kernel) rfl hS rfl dX11_isUnder_28
      · refine lv_iload_n hx hb dX11_isUnder_11 rfl (lv_at hl 0 rfl) ?_
        refine kJi (wr := []) (va_runS (As := [.int 0]) (rest := []) ⟨hx, hb, hml, hown, hT⟩ (c_X11_parentG l D cI aK aV H.size 0 (by first | omega | (simp only [zl_0]; first | done | omega) | decide | assumption | rfl) (by first | omega | (simp only [zl_0]; first | done | omega) | decide | assumption | rfl)) (cwS 1 hT (gS_in mw_1282 mw_1280 mw_1281 mw_12) rfl rfl rfl (by decide +kernel) ⟨Nat.le_of_ble_eq_true rfl, Nat.le_of_ble_eq_true rfl⟩) (kStatX hK hP hD hN hXS hS hA [] rfl (by decide +kernel)) rfl rfl hl.1 rfl (lv_room (Nat.le_of_ble_eq_true rfl)) dX11_isUnder_12 ⟨Nat.le_of_ble_eq_true rfl, Nat.le_of_ble_eq_true rfl⟩) hP hD hS hA [] [] rfl rfl (by decide +kernel) (by decide +kernel) ?_
        clear hP hD hS
        intro r_17 u_19 H locs w_18 hP hD hS
        replace hP : va_P D vwCl [] H := hP
        replace hD : va_D A [] := hD
        rcases w_18 with ⟨hr_17, h_20⟩ | ⟨hr_17, h_21⟩ | ⟨hr_17, h_22⟩ | ⟨hr_17, h_23⟩ | ⟨hr_17, h_24⟩
        · try simp only [zl_0] at h_20
          obtain rfl : r_17 = (-1) := hr_17.trans (by decide +kernel)
          refine lv_istore_n (lv' := [(2, .int (-1)), (0, .int a0), (1, .int a1)]) hx hb dX11_isUnder_15 rfl hl (by decide +kernel) rfl ?_
          clear hl
          intro ls hl
          refine lv_goto (tgt := 2) hx hb dX11_isUnder_16 (by decide +kernel) ?_
          refine lv_iload_n hx hb dX11_isUnder_2 rfl (lv_at hl 0 rfl) ?_
          refine b_if_lt hx hb zl_m1 (tgt := 19) dX11_isUnder_3 (by decide +kernel) (fun c_25 => ?_) (fun c_25 => by exfalso; omega)
          refine lv_iload_n hx hb dX11_isUnder_19 rfl (lv_at hl 0 rfl) ?_
          refine b_if_lt hx hb zl_m1 (tgt := 27) dX11_isUnder_20 (by decide +kernel) (fun c_26 => ?_) (fun c_26 => by exfalso; omega)
          refine lv_iconst (v := 0) hx hb dX11_isUnder_27 (by decide +kernel) ?_
          exact hRet () [] (Or.inr (⟨rfl, (by unfold mU; first | rw [if_pos (by omega)] | rw [if_neg (by omega)])⟩)) hP hD (by decide +kernel) rfl hS rfl dX11_isUnder_28
        · (try simp only [zl_0] at h_21); exfalso; omega
        · (try simp only [zl_0] at h_22); exfalso; omega
        · (try simp only [zl_0] at h_23); exfalso; omega
        · (try simp only [zl_0] at h_24); exfalso; omega
    · have h_9 : a0.toInt = 2 := h_9
      obtain rfl : r_4 = 1 := hr_4.trans (by decide +kernel)
      refine lv_istore_n (lv' := [(2, .int 1), (0, .int a0), (1, .int a1)]) hx hb dX11_isUnder_15 rfl hl (by decide +kernel) rfl ?_
      clear hl
      intro ls hl
      refine lv_goto (tgt := 2) hx hb dX11_isUnder_16 (by decide +kernel) ?_
      refine lv_iload_n hx hb dX11_isUnder_2 rfl (lv_at hl 0 rfl) ?_
      refine b_if_lt hx hb zl_1 (tgt := 19) dX11_isUnder_3 (by decide +kernel) (fun c_27 => by exfalso; omega) (fun c_27 => ?_)
      refine lv_iload_n hx hb dX11_isUnder_6 rfl (lv_at hl 0 rfl) ?_
      refine lv_iload_n hx hb dX11_isUnder_7 rfl (lv_at hl 2 rfl) ?_
      refine b_icmp_eq hx hb zl_1 rfl (tgt := 19) dX11_isUnder_8 (by decide +kernel) (fun c_28 => ?_) (fun c_28 => ?_)
      · refine lv_iload_n hx hb dX11_isUnder_19 rfl (lv_at hl 0 rfl) ?_
        refine b_if_lt hx hb zl_1 (tgt := 27) dX11_isUnder_20 (by decide +kernel) (fun c_29 => by exfalso; omega) (fun c_29 => ?_)
        refine lv_iconst (v := 1) hx hb dX11_isUnder_23 (by decide +kernel) ?_
        refine lv_goto (tgt := 28) hx hb dX11_isUnder_24 (by decide +kernel) ?_
        exact hRet () [] (Or.inl ⟨rfl, (by unfold mU; first | rw [if_pos (by omega)] | rw [if_neg (by omega)])⟩) hP hD (by decide +kernel) rfl hS rfl dX11_isUnder_28
      · refine lv_iload_n hx hb dX11_isUnder_11 rfl (lv_at hl 0 rfl) ?_
        refine kJi (wr := []) (va_runS (As := [.int 1]) (rest := []) ⟨hx, hb, hml, hown, hT⟩ (c_X11_parentG l D cI aK aV H.size 1 (by first | omega | (simp only [zl_1]; first | done | omega) | decide | assumption | rfl) (by first | omega | (simp only [zl_1]; first | done | omega) | decide | assumption | rfl)) (cwS 1 hT (gS_in mw_1282 mw_1280 mw_1281 mw_12) rfl rfl rfl (by decide +kernel) ⟨Nat.le_of_ble_eq_true rfl, Nat.le_of_ble_eq_true rfl⟩) (kStatX hK hP hD hN hXS hS hA [] rfl (by decide +kernel)) rfl rfl hl.1 rfl (lv_room (Nat.le_of_ble_eq_true rfl)) dX11_isUnder_12 ⟨Nat.le_of_ble_eq_true rfl, Nat.le_of_ble_eq_true rfl⟩) hP hD hS hA [] [] rfl rfl (by decide +kernel) (by decide +kernel) ?_
        clear hP hD hS
        intro r_30 u_32 H locs w_31 hP hD hS
        replace hP : va_P D vwCl [] H := hP
        replace hD : va_D A [] := hD
        rcases w_31 with ⟨hr_30, h_33⟩ | ⟨hr_30, h_34⟩ | ⟨hr_30, h_35⟩ | ⟨hr_30, h_36⟩ | ⟨hr_30, h_37⟩
        · (try simp only [zl_1] at h_33); exfalso; omega
        · try simp only [zl_1] at h_34
          obtain rfl : r_30 = 0 := hr_30.trans (by decide +kernel)
          refine lv_istore_n (lv' := [(2, .int 0), (0, .int a0), (1, .int a1)]) hx hb dX11_isUnder_15 rfl hl (by decide +kernel) rfl ?_
          clear hl
          intro ls hl
          refine lv_goto (tgt := 2) hx hb dX11_isUnder_16 (by decide +kernel) ?_
          refine lv_iload_n hx hb dX11_isUnder_2 rfl (lv_at hl 0 rfl) ?_
          refine b_if_lt hx hb zl_0 (tgt := 19) dX11_isUnder_3 (by decide +kernel) (fun c_38 => by exfalso; omega) (fun c_38 => ?_)
          refine lv_iload_n hx hb dX11_isUnder_6 rfl (lv_at hl 0 rfl) ?_
          refine lv_iload_n hx hb dX11_isUnder_7 rfl (lv_at hl 2 rfl) ?_
          refine b_icmp_eq hx hb zl_0 rfl (tgt := 19) dX11_isUnder_8 (by decide +kernel) (fun c_39 => ?_) (fun c_39 => ?_)
          · refine lv_iload_n hx hb dX11_isUnder_19 rfl (lv_at hl 0 rfl) ?_
            refine b_if_lt hx hb zl_0 (tgt := 27) dX11_isUnder_20 (by decide +kernel) (fun c_40 => by exfalso; omega) (fun c_40 => ?_)
            refine lv_iconst (v := 1) hx hb dX11_isUnder_23 (by decide +kernel) ?_
            refine lv_goto (tgt := 28) hx hb dX11_isUnder_24 (by decide +kernel) ?_
            exact hRet () [] (Or.inl ⟨rfl, (by unfold mU; first | rw [if_pos (by omega)] | rw [if_neg (by omega)])⟩) hP hD (by decide +kernel) rfl hS rfl dX11_isUnder_28
          · refine lv_iload_n hx hb dX11_isUnder_11 rfl (lv_at hl 0 rfl) ?_
            refine kJi (wr := []) (va_runS (As := [.int 0]) (rest := []) ⟨hx, hb, hml, hown, hT⟩ (c_X11_parentG l D cI aK aV H.size 0 (by first | omega | (simp only [zl_0]; first | done | omega) | decide | assumption | rfl) (by first | omega | (simp only [zl_0]; first | done | omega) | decide | assumption | rfl)) (cwS 1 hT (gS_in mw_1282 mw_1280 mw_1281 mw_12) rfl rfl rfl (by decide +kernel) ⟨Nat.le_of_ble_eq_true rfl, Nat.le_of_ble_eq_true rfl⟩) (kStatX hK hP hD hN hXS hS hA [] rfl (by decide +kernel)) rfl rfl hl.1 rfl (lv_room (Nat.le_of_ble_eq_true rfl)) dX11_isUnder_12 ⟨Nat.le_of_ble_eq_true rfl, Nat.le_of_ble_eq_true rfl⟩) hP hD hS hA [] [] rfl rfl (by decide +kernel) (by decide +kernel) ?_
            clear hP hD hS
            intro r_41 u_43 H locs w_42 hP hD hS
            replace hP : va_P D vwCl [] H := hP
            replace hD : va_D A [] := hD
            rcases w_42 with ⟨hr_41, h_44⟩ | ⟨hr_41, h_45⟩ | ⟨hr_41, h_46⟩ | ⟨hr_41, h_47⟩ | ⟨hr_41, h_48⟩
            · try simp only [zl_0] at h_44
              obtain rfl : r_41 = (-1) := hr_41.trans (by decide +kernel)
              refine lv_istore_n (lv' := [(2, .int (-1)), (0, .int a0), (1, .int a1)]) hx hb dX11_isUnder_15 rfl hl (by decide +kernel) rfl ?_
              clear hl
              intro ls hl
              refine lv_goto (tgt := 2) hx hb dX11_isUnder_16 (by decide +kernel) ?_
              refine lv_iload_n hx hb dX11_isUnder_2 rfl (lv_at hl 0 rfl) ?_
              refine b_if_lt hx hb zl_m1 (tgt := 19) dX11_isUnder_3 (by decide +kernel) (fun c_49 => ?_) (fun c_49 => by exfalso; omega)
              refine lv_iload_n hx hb dX11_isUnder_19 rfl (lv_at hl 0 rfl) ?_
              refine b_if_lt hx hb zl_m1 (tgt := 27) dX11_isUnder_20 (by decide +kernel) (fun c_50 => ?_) (fun c_50 => by exfalso; omega)
              refine lv_iconst (v := 0) hx hb dX11_isUnder_27 (by decide +kernel) ?_
              exact hRet () [] (Or.inr (⟨rfl, (by unfold mU; first | rw [if_pos (by omega)] | rw [if_neg (by omega)])⟩)) hP hD (by decide +kernel) rfl hS rfl dX11_isUnder_28
            · (try simp only [zl_0] at h_45); exfalso; omega
            · (try simp only [zl_0] at h_46); exfalso; omega
            · (try simp only [zl_0] at h_47); exfalso; omega
            · (try simp only [zl_0] at h_48); exfalso; omega
        · (try simp only [zl_1] at h_35); exfalso; omega
        · (try simp only [zl_1] at h_36); exfalso; omega
        · (try simp only [zl_1] at h_37); exfalso; omega
    · have h_10 : a0.toInt = 3 := h_10
      obtain rfl : r_4 = 2 := hr_4.trans (by decide +kernel)
      refine lv_istore_n (lv' := [(2, .int 2), (0, .int a0), (1, .int a1)]) hx hb dX11_isUnder_15 rfl hl (by decide +kernel) rfl ?_
      clear hl
      intro ls hl
      refine lv_goto (tgt := 2) hx hb dX11_isUnder_16 (by decide +kernel) ?_
      refine lv_iload_n hx hb dX11_isUnder_2 rfl (lv_at hl 0 rfl) ?_
      refine b_if_lt hx hb zl_2 (tgt := 19) dX11_isUnder_3 (by decide +kernel) (fun c_51 => by exfalso; omega) (fun c_51 => ?_)
      refine lv_iload_n hx hb dX11_isUnder_6 rfl (lv_at hl 0 rfl) ?_
      refine lv_iload_n hx hb dX11_isUnder_7 rfl (lv_at hl 2 rfl) ?_
      refine b_icmp_eq hx hb zl_2 rfl (tgt := 19) dX11_isUnder_8 (by decide +kernel) (fun c_52 => ?_) (fun c_52 => ?_)
      · refine lv_iload_n hx hb dX11_isUnder_19 rfl (lv_at hl 0 rfl) ?_
        refine b_if_lt hx hb zl_2 (tgt := 27) dX11_isUnder_20 (by decide +kernel) (fun c_53 => by exfalso; omega) (fun c_53 => ?_)
        refine lv_iconst (v := 1) hx hb dX11_isUnder_23 (by decide +kernel) ?_
        refine lv_goto (tgt := 28) hx hb dX11_isUnder_24 (by decide +kernel) ?_
        exact hRet () [] (Or.inl ⟨rfl, (by unfold mU; first | rw [if_pos (by omega)] | rw [if_neg (by omega)])⟩) hP hD (by decide +kernel) rfl hS rfl dX11_isUnder_28
      · refine lv_iload_n hx hb dX11_isUnder_11 rfl (lv_at hl 0 rfl) ?_
        refine kJi (wr := []) (va_runS (As := [.int 2]) (rest := []) ⟨hx, hb, hml, hown, hT⟩ (c_X11_parentG l D cI aK aV H.size 2 (by first | omega | (simp only [zl_2]; first | done | omega) | decide | assumption | rfl) (by first | omega | (simp only [zl_2]; first | done | omega) | decide | assumption | rfl)) (cwS 1 hT (gS_in mw_1282 mw_1280 mw_1281 mw_12) rfl rfl rfl (by decide +kernel) ⟨Nat.le_of_ble_eq_true rfl, Nat.le_of_ble_eq_true rfl⟩) (kStatX hK hP hD hN hXS hS hA [] rfl (by decide +kernel)) rfl rfl hl.1 rfl (lv_room (Nat.le_of_ble_eq_true rfl)) dX11_isUnder_12 ⟨Nat.le_of_ble_eq_true rfl, Nat.le_of_ble_eq_true rfl⟩) hP hD hS hA [] [] rfl rfl (by decide +kernel) (by decide +kernel) ?_
        clear hP hD hS
        intro r_54 u_56 H locs w_55 hP hD hS
        replace hP : va_P D vwCl [] H := hP
        replace hD : va_D A [] := hD
        rcases w_55 with ⟨hr_54, h_57⟩ | ⟨hr_54, h_58⟩ | ⟨hr_54, h_59⟩ | ⟨hr_54, h_60⟩ | ⟨hr_54, h_61⟩
        · (try simp only [zl_2] at h_57); exfalso; omega
        · (try simp only [zl_2] at h_58); exfalso; omega
        · try simp only [zl_2] at h_59
          obtain rfl : r_54 = 1 := hr_54.trans (by decide +kernel)
          refine lv_istore_n (lv' := [(2, .int 1), (0, .int a0), (1, .int a1)]) hx hb dX11_isUnder_15 rfl hl (by decide +kernel) rfl ?_
          clear hl
          intro ls hl
          refine lv_goto (tgt := 2) hx hb dX11_isUnder_16 (by decide +kernel) ?_
          refine lv_iload_n hx hb dX11_isUnder_2 rfl (lv_at hl 0 rfl) ?_
          refine b_if_lt hx hb zl_1 (tgt := 19) dX11_isUnder_3 (by decide +kernel) (fun c_62 => by exfalso; omega) (fun c_62 => ?_)
          refine lv_iload_n hx hb dX11_isUnder_6 rfl (lv_at hl 0 rfl) ?_
          refine lv_iload_n hx hb dX11_isUnder_7 rfl (lv_at hl 2 rfl) ?_
          refine b_icmp_eq hx hb zl_1 rfl (tgt := 19) dX11_isUnder_8 (by decide +kernel) (fun c_63 => ?_) (fun c_63 => ?_)
          · refine lv_iload_n hx hb dX11_isUnder_19 rfl (lv_at hl 0 rfl) ?_
            refine b_if_lt hx hb zl_1 (tgt := 27) dX11_isUnder_20 (by decide +kernel) (fun c_64 => by exfalso; omega) (fun c_64 => ?_)
            refine lv_iconst (v := 1) hx hb dX11_isUnder_23 (by decide +kernel) ?_
            refine lv_goto (tgt := 28) hx hb dX11_isUnder_24 (by decide +kernel) ?_
            exact hRet () [] (Or.inl ⟨rfl, (by unfold mU; first | rw [if_pos (by omega)] | rw [if_neg (by omega)])⟩) hP hD (by decide +kernel) rfl hS rfl dX11_isUnder_28
          · refine lv_iload_n hx hb dX11_isUnder_11 rfl (lv_at hl 0 rfl) ?_
            refine kJi (wr := []) (va_runS (As := [.int 1]) (rest := []) ⟨hx, hb, hml, hown, hT⟩ (c_X11_parentG l D cI aK aV H.size 1 (by first | omega | (simp only [zl_1]; first | done | omega) | decide | assumption | rfl) (by first | omega | (simp only [zl_1]; first | done | omega) | decide | assumption | rfl)) (cwS 1 hT (gS_in mw_1282 mw_1280 mw_1281 mw_12) rfl rfl rfl (by decide +kernel) ⟨Nat.le_of_ble_eq_true rfl, Nat.le_of_ble_eq_true rfl⟩) (kStatX hK hP hD hN hXS hS hA [] rfl (by decide +kernel)) rfl rfl hl.1 rfl (lv_room (Nat.le_of_ble_eq_true rfl)) dX11_isUnder_12 ⟨Nat.le_of_ble_eq_true rfl, Nat.le_of_ble_eq_true rfl⟩) hP hD hS hA [] [] rfl rfl (by decide +kernel) (by decide +kernel) ?_
            clear hP hD hS
            intro r_65 u_67 H locs w_66 hP hD hS
            replace hP : va_P D vwCl [] H := hP
            replace hD : va_D A [] := hD
            rcases w_66 with ⟨hr_65, h_68⟩ | ⟨hr_65, h_69⟩ | ⟨hr_65, h_70⟩ | ⟨hr_65, h_71⟩ | ⟨hr_65, h_72⟩
            · (try simp only [zl_1] at h_68); exfalso; omega
            · try simp only [zl_1] at h_69
              obtain rfl : r_65 = 0 := hr_65.trans (by decide +kernel)
              refine lv_istore_n (lv' := [(2, .int 0), (0, .int a0), (1, .int a1)]) hx hb dX11_isUnder_15 rfl hl (by decide +kernel) rfl ?_
              clear hl
              intro ls hl
              refine lv_goto (tgt := 2) hx hb dX11_isUnder_16 (by decide +kernel) ?_
              refine lv_iload_n hx hb dX11_isUnder_2 rfl (lv_at hl 0 rfl) ?_
              refine b_if_lt hx hb zl_0 (tgt := 19) dX11_isUnder_3 (by decide +kernel) (fun c_73 => by exfalso; omega) (fun c_73 => ?_)
              refine lv_iload_n hx hb dX11_isUnder_6 rfl (lv_at hl 0 rfl) ?_
              refine lv_iload_n hx hb dX11_isUnder_7 rfl (lv_at hl 2 rfl) ?_
              refine b_icmp_eq hx hb zl_0 rfl (tgt := 19) dX11_isUnder_8 (by decide +kernel) (fun c_74 => ?_) (fun c_74 => ?_)
              · refine lv_iload_n hx hb dX11_isUnder_19 rfl (lv_at hl 0 rfl) ?_
                refine b_if_lt hx hb zl_0 (tgt := 27) dX11_isUnder_20 (by decide +kernel) (fun c_75 => by exfalso; omega) (fun c_75 => ?_)
                refine lv_iconst (v := 1) hx hb dX11_isUnder_23 (by decide +kernel) ?_
                refine lv_goto (tgt := 28) hx hb dX11_isUnder_24 (by decide +kernel) ?_
                exact hRet () [] (Or.inl ⟨rfl, (by unfold mU; first | rw [if_pos (by omega)] | rw [if_neg (by omega)])⟩) hP hD (by decide +kernel) rfl hS rfl dX11_isUnder_28
              · refine lv_iload_n hx hb dX11_isUnder_11 rfl (lv_at hl 0 rfl) ?_
                refine kJi (wr := []) (va_runS (As := [.int 0]) (rest := []) ⟨hx, hb, hml, hown, hT⟩ (c_X11_parentG l D cI aK aV H.size 0 (by first | omega | (simp only [zl_0]; first | done | omega) | decide | assumption | rfl) (by first | omega | (simp only [zl_0]; first | done | omega) | decide | assumption | rfl)) (cwS 1 hT (gS_in mw_1282 mw_1280 mw_1281 mw_12) rfl rfl rfl (by decide +kernel) ⟨Nat.le_of_ble_eq_true rfl, Nat.le_of_ble_eq_true rfl⟩) (kStatX hK hP hD hN hXS hS hA [] rfl (by decide +kernel)) rfl rfl hl.1 rfl (lv_room (Nat.le_of_ble_eq_true rfl)) dX11_isUnder_12 ⟨Nat.le_of_ble_eq_true rfl, Nat.le_of_ble_eq_true rfl⟩) hP hD hS hA [] [] rfl rfl (by decide +kernel) (by decide +kernel) ?_
                clear hP hD hS
                intro r_76 u_78 H locs w_77 hP hD hS
                replace hP : va_P D vwCl [] H := hP
                replace hD : va_D A [] := hD
                rcases w_77 with ⟨hr_76, h_79⟩ | ⟨hr_76, h_80⟩ | ⟨hr_76, h_81⟩ | ⟨hr_76, h_82⟩ | ⟨hr_76, h_83⟩
                · try simp only [zl_0] at h_79
                  obtain rfl : r_76 = (-1) := hr_76.trans (by decide +kernel)
                  refine lv_istore_n (lv' := [(2, .int (-1)), (0, .int a0), (1, .int a1)]) hx hb dX11_isUnder_15 rfl hl (by decide +kernel) rfl ?_
                  clear hl
                  intro ls hl
                  refine lv_goto (tgt := 2) hx hb dX11_isUnder_16 (by decide +kernel) ?_
                  refine lv_iload_n hx hb dX11_isUnder_2 rfl (lv_at hl 0 rfl) ?_
                  refine b_if_lt hx hb zl_m1 (tgt := 19) dX11_isUnder_3 (by decide +kernel) (fun c_84 => ?_) (fun c_84 => by exfalso; omega)
                  refine lv_iload_n hx hb dX11_isUnder_19 rfl (lv_at hl 0 rfl) ?_
                  refine b_if_lt hx hb zl_m1 (tgt := 27) dX11_isUnder_20 (by decide +kernel) (fun c_85 => ?_) (fun c_85 => by exfalso; omega)
                  refine lv_iconst (v := 0) hx hb dX11_isUnder_27 (by decide +kernel) ?_
                  exact hRet () [] (Or.inr (⟨rfl, (by unfold mU; first | rw [if_pos (by omega)] | rw [if_neg (by omega)])⟩)) hP hD (by decide +kernel) rfl hS rfl dX11_isUnder_28
                · (try simp only [zl_0] at h_80); exfalso; omega
                · (try simp only [zl_0] at h_81); exfalso; omega
                · (try simp only [zl_0] at h_82); exfalso; omega
                · (try simp only [zl_0] at h_83); exfalso; omega
            · (try simp only [zl_1] at h_70); exfalso; omega
            · (try simp only [zl_1] at h_71); exfalso; omega
            · (try simp only [zl_1] at h_72); exfalso; omega
        · (try simp only [zl_2] at h_60); exfalso; omega
        · (try simp only [zl_2] at h_61); exfalso; omega
    · have h_11 : a0.toInt = 5 := h_11
      obtain rfl : r_4 = 4 := hr_4.trans (by decide +kernel)
      refine lv_istore_n (lv' := [(2, .int 4), (0, .int a0), (1, .int a1)]) hx hb dX11_isUnder_15 rfl hl (by decide +kernel) rfl ?_
      clear hl
      intro ls hl
      refine lv_goto (tgt := 2) hx hb dX11_isUnder_16 (by decide +kernel) ?_
      refine lv_iload_n hx hb dX11_isUnder_2 rfl (lv_at hl 0 rfl) ?_
      refine b_if_lt hx hb zl_4 (tgt := 19) dX11_isUnder_3 (by decide +kernel) (fun c_86 => by exfalso; omega) (fun c_86 => ?_)
      refine lv_iload_n hx hb dX11_isUnder_6 rfl (lv_at hl 0 rfl) ?_
      refine lv_iload_n hx hb dX11_isUnder_7 rfl (lv_at hl 2 rfl) ?_
      refine b_icmp_eq hx hb zl_4 rfl (tgt := 19) dX11_isUnder_8 (by decide +kernel) (fun c_87 => ?_) (fun c_87 => ?_)
      · refine lv_iload_n hx hb dX11_isUnder_19 rfl (lv_at hl 0 rfl) ?_
        refine b_if_lt hx hb zl_4 (tgt := 27) dX11_isUnder_20 (by decide +kernel) (fun c_88 => by exfalso; omega) (fun c_88 => ?_)
        refine lv_iconst (v := 1) hx hb dX11_isUnder_23 (by decide +kernel) ?_
        refine lv_goto (tgt := 28) hx hb dX11_isUnder_24 (by decide +kernel) ?_
        exact hRet () [] (Or.inl ⟨rfl, (by unfold mU; first | rw [if_pos (by omega)] | rw [if_neg (by omega)])⟩) hP hD (by decide +kernel) rfl hS rfl dX11_isUnder_28
      · refine lv_iload_n hx hb dX11_isUnder_11 rfl (lv_at hl 0 rfl) ?_
        refine kJi (wr := []) (va_runS (As := [.int 4]) (rest := []) ⟨hx, hb, hml, hown, hT⟩ (c_X11_parentG l D cI aK aV H.size 4 (by first | omega | (simp only [zl_4]; first | done | omega) | decide | assumption | rfl) (by first | omega | (simp only [zl_4]; first | done | omega) | decide | assumption | rfl)) (cwS 1 hT (gS_in mw_1282 mw_1280 mw_1281 mw_12) rfl rfl rfl (by decide +kernel) ⟨Nat.le_of_ble_eq_true rfl, Nat.le_of_ble_eq_true rfl⟩) (kStatX hK hP hD hN hXS hS hA [] rfl (by decide +kernel)) rfl rfl hl.1 rfl (lv_room (Nat.le_of_ble_eq_true rfl)) dX11_isUnder_12 ⟨Nat.le_of_ble_eq_true rfl, Nat.le_of_ble_eq_true rfl⟩) hP hD hS hA [] [] rfl rfl (by decide +kernel) (by decide +kernel) ?_
        clear hP hD hS
        intro r_89 u_91 H locs w_90 hP hD hS
        replace hP : va_P D vwCl [] H := hP
        replace hD : va_D A [] := hD
        rcases w_90 with ⟨hr_89, h_92⟩ | ⟨hr_89, h_93⟩ | ⟨hr_89, h_94⟩ | ⟨hr_89, h_95⟩ | ⟨hr_89, h_96⟩
        · (try simp only [zl_4] at h_92); exfalso; omega
        · try simp only [zl_4] at h_93
          obtain rfl : r_89 = 0 := hr_89.trans (by decide +kernel)
          refine lv_istore_n (lv' := [(2, .int 0), (0, .int a0), (1, .int a1)]) hx hb dX11_isUnder_15 rfl hl (by decide +kernel) rfl ?_
          clear hl
          intro ls hl
          refine lv_goto (tgt := 2) hx hb dX11_isUnder_16 (by decide +kernel) ?_
          refine lv_iload_n hx hb dX11_isUnder_2 rfl (lv_at hl 0 rfl) ?_
          refine b_if_lt hx hb zl_0 (tgt := 19) dX11_isUnder_3 (by decide +kernel) (fun c_97 => by exfalso; omega) (fun c_97 => ?_)
          refine lv_iload_n hx hb dX11_isUnder_6 rfl (lv_at hl 0 rfl) ?_
          refine lv_iload_n hx hb dX11_isUnder_7 rfl (lv_at hl 2 rfl) ?_
          refine b_icmp_eq hx hb zl_0 rfl (tgt := 19) dX11_isUnder_8 (by decide +kernel) (fun c_98 => ?_) (fun c_98 => ?_)
          · refine lv_iload_n hx hb dX11_isUnder_19 rfl (lv_at hl 0 rfl) ?_
            refine b_if_lt hx hb zl_0 (tgt := 27) dX11_isUnder_20 (by decide +kernel) (fun c_99 => by exfalso; omega) (fun c_99 => ?_)
            refine lv_iconst (v := 1) hx hb dX11_isUnder_23 (by decide +kernel) ?_
            refine lv_goto (tgt := 28) hx hb dX11_isUnder_24 (by decide +kernel) ?_
            exact hRet () [] (Or.inl ⟨rfl, (by unfold mU; first | rw [if_pos (by omega)] | rw [if_neg (by omega)])⟩) hP hD (by decide +kernel) rfl hS rfl dX11_isUnder_28
          · refine lv_iload_n hx hb dX11_isUnder_11 rfl (lv_at hl 0 rfl) ?_
            refine kJi (wr := []) (va_runS (As := [.int 0]) (rest := []) ⟨hx, hb, hml, hown, hT⟩ (c_X11_parentG l D cI aK aV H.size 0 (by first | omega | (simp only [zl_0]; first | done | omega) | decide | assumption | rfl) (by first | omega | (simp only [zl_0]; first | done | omega) | decide | assumption | rfl)) (cwS 1 hT (gS_in mw_1282 mw_1280 mw_1281 mw_12) rfl rfl rfl (by decide +kernel) ⟨Nat.le_of_ble_eq_true rfl, Nat.le_of_ble_eq_true rfl⟩) (kStatX hK hP hD hN hXS hS hA [] rfl (by decide +kernel)) rfl rfl hl.1 rfl (lv_room (Nat.le_of_ble_eq_true rfl)) dX11_isUnder_12 ⟨Nat.le_of_ble_eq_true rfl, Nat.le_of_ble_eq_true rfl⟩) hP hD hS hA [] [] rfl rfl (by decide +kernel) (by decide +kernel) ?_
            clear hP hD hS
            intro r_100 u_102 H locs w_101 hP hD hS
            replace hP : va_P D vwCl [] H := hP
            replace hD : va_D A [] := hD
            rcases w_101 with ⟨hr_100, h_103⟩ | ⟨hr_100, h_104⟩ | ⟨hr_100, h_105⟩ | ⟨hr_100, h_106⟩ | ⟨hr_100, h_107⟩
            · try simp only [zl_0] at h_103
              obtain rfl : r_100 = (-1) := hr_100.trans (by decide +kernel)
              refine lv_istore_n (lv' := [(2, .int (-1)), (0, .int a0), (1, .int a1)]) hx hb dX11_isUnder_15 rfl hl (by decide +kernel) rfl ?_
              clear hl
              intro ls hl
              refine lv_goto (tgt := 2) hx hb dX11_isUnder_16 (by decide +kernel) ?_
              refine lv_iload_n hx hb dX11_isUnder_2 rfl (lv_at hl 0 rfl) ?_
              refine b_if_lt hx hb zl_m1 (tgt := 19) dX11_isUnder_3 (by decide +kernel) (fun c_108 => ?_) (fun c_108 => by exfalso; omega)
              refine lv_iload_n hx hb dX11_isUnder_19 rfl (lv_at hl 0 rfl) ?_
              refine b_if_lt hx hb zl_m1 (tgt := 27) dX11_isUnder_20 (by decide +kernel) (fun c_109 => ?_) (fun c_109 => by exfalso; omega)
              refine lv_iconst (v := 0) hx hb dX11_isUnder_27 (by decide +kernel) ?_
              exact hRet () [] (Or.inr (⟨rfl, (by unfold mU; first | rw [if_pos (by omega)] | rw [if_neg (by omega)])⟩)) hP hD (by decide +kernel) rfl hS rfl dX11_isUnder_28
            · (try simp only [zl_0] at h_104); exfalso; omega
            · (try simp only [zl_0] at h_105); exfalso; omega
            · (try simp only [zl_0] at h_106); exfalso; omega
            · (try simp only [zl_0] at h_107); exfalso; omega
        · (try simp only [zl_4] at h_94); exfalso; omega
        · (try simp only [zl_4] at h_95); exfalso; omega
        · (try simp only [zl_4] at h_96); exfalso; omega
theorem bn_cX11_stands_0 : BN cX11_stands 0 0x568100a015401410014d0f002b90e8e002b702070561500a6c70015b820382b := by
  unfold BN; decide +kernel
theorem dX11_stands_0 : decode cX11_stands 0 = .ok (.aload_n 0, 1) := dR0 (k := 0) (i := 0) bn_cX11_stands_0 dop_42 (by decide +kernel)
theorem dX11_stands_1 : decode cX11_stands 1 = .ok (.iload_n 1, 1) := dR0 (k := 0) (i := 1) bn_cX11_stands_0 dop_27 (by decide +kernel)
theorem dX11_stands_2 : decode cX11_stands 2 = .ok (.iconst 4, 1) := dR0 (k := 0) (i := 2) bn_cX11_stands_0 dop_7 (by decide +kernel)
theorem dX11_stands_3 : decode cX11_stands 3 = .ok (.invokevirtual 55, 3) := dR2 (f := Instr.invokevirtual) (k := 0) (i := 3) bn_cX11_stands_0 dop_182 55 (by decide +kernel)
theorem dX11_stands_6 : decode cX11_stands 6 = .ok (.ifCond .ne 20, 3) := dR2s (f := Instr.ifCond .ne) (k := 0) (i := 6) bn_cX11_stands_0 dop_154 20 20 (by decide +kernel)
theorem dX11_stands_9 : decode cX11_stands 9 = .ok (.aload_n 0, 1) := dR0 (k := 0) (i := 9) bn_cX11_stands_0 dop_42 (by decide +kernel)
theorem dX11_stands_10 : decode cX11_stands 10 = .ok (.iload_n 1, 1) := dR0 (k := 0) (i := 10) bn_cX11_stands_0 dop_27 (by decide +kernel)
theorem dX11_stands_11 : decode cX11_stands 11 = .ok (.iconst 0, 1) := dR0 (k := 0) (i := 11) bn_cX11_stands_0 dop_3 (by decide +kernel)
theorem dX11_stands_12 : decode cX11_stands 12 = .ok (.invokevirtual 55, 3) := dR2 (f := Instr.invokevirtual) (k := 0) (i := 12) bn_cX11_stands_0 dop_182 55 (by decide +kernel)
theorem dX11_stands_15 : decode cX11_stands 15 = .ok (.iload_n 2, 1) := dR0 (k := 0) (i := 15) bn_cX11_stands_0 dop_28 (by decide +kernel)
theorem dX11_stands_16 : decode cX11_stands 16 = .ok (.invokestatic 59, 3) := dR2 (f := Instr.invokestatic) (k := 0) (i := 16) bn_cX11_stands_0 dop_184 59 (by decide +kernel)
theorem dX11_stands_19 : decode cX11_stands 19 = .ok (.ifCond .eq 7, 3) := dR2s (f := Instr.ifCond .eq) (k := 0) (i := 19) bn_cX11_stands_0 dop_153 7 7 (by decide +kernel)
theorem dX11_stands_22 : decode cX11_stands 22 = .ok (.iconst 1, 1) := dR0 (k := 0) (i := 22) bn_cX11_stands_0 dop_4 (by decide +kernel)
theorem dX11_stands_23 : decode cX11_stands 23 = .ok (.goto 4, 3) := dR2s (f := Instr.goto) (k := 0) (i := 23) bn_cX11_stands_0 dop_167 4 4 (by decide +kernel)
theorem dX11_stands_26 : decode cX11_stands 26 = .ok (.iconst 0, 1) := dR0 (k := 0) (i := 26) bn_cX11_stands_0 dop_3 (by decide +kernel)
theorem dX11_stands_27 : decode cX11_stands 27 = .ok (.ireturn, 1) := dR0 (k := 0) (i := 27) bn_cX11_stands_0 dop_172 (by decide +kernel)
set_option maxHeartbeats 4000000 in
set_option maxRecDepth 100000 in
theorem c_X11_standsG (l : Launch) (D : va_G) (cI : ClassId) (aK aV : Nat → Nat) (k k0 k1 k2 k4 k5 k6 k7 k8 ka kb kl ko : Nat) (sz : Nat) (c3 : Int32) (c9 : Int32) (cc : Int32) (cd : Int32) (ce : Int32) (cf : Int32) (cg : Int32) (ch : Int32) (ci : Int32) (cj : Int32) (ck : Int32) (cm : Int32) (cn : Int32) (c0 : Nat → Int32) (a0 : Int32) (a1 : Int32) (pre0 : 0 ≤ a0.toInt) (pre1 : a0.toInt ≤ 59) (pre2 : SB c0) : Met l yX11_stands (gW yX11_stands cX11_stands 3 (some .boolean)) ({ frames := 2, cells := 0, slots := 0, locals := 42 } : Room) (kPreX D cI aK aV [.ref k, .int a0, .int a1] [(k, .inr (11, [.ref k0, .ref k1, .ref k2, .int c3, .ref k4, .ref k5, .ref k6, .ref k7, .ref k8, .int c9, .ref ka, .ref kb, .int cc, .int cd, .int ce, .int cf, .int cg, .int ch, .int ci, .int cj, .int ck, .ref kl, .int cm, .int cn, .ref ko])), (k0, .inl (cI, 1201, .inl c0))] sz) (va_Qi (fun (r : Int32) (u : Unit) => (r = 1 ∧ stF c0 a0 a1.toInt = 1) ∨ (r = 0 ∧ stF c0 a0 a1.toInt = 0)) (fun u t => kWd D cI (va_A [(k, .inr (11, [.ref k0, .ref k1, .ref k2, .int c3, .ref k4, .ref k5, .ref k6, .ref k7, .ref k8, .int c9, .ref ka, .ref kb, .int cc, .int cd, .int ce, .int cf, .int cg, .int ch, .int ci, .int cj, .int ck, .ref kl, .int cm, .int cn, .ref ko])), (k0, .inl (cI, 1201, .inl c0))] sz) [(k, .inr (11, [.ref k0, .ref k1, .ref k2, .int c3, .ref k4, .ref k5, .ref k6, .ref k7, .ref k8, .int c9, .ref ka, .ref kb, .int cc, .int cd, .int ce, .int cf, .int cg, .int ch, .int ci, .int cj, .int ck, .ref kl, .int cm, .int cn, .ref ko])), (k0, .inl (cI, 1201, .inl c0))] t) (va_A [(k, .inr (11, [.ref k0, .ref k1, .ref k2, .int c3, .ref k4, .ref k5, .ref k6, .ref k7, .ref k8, .int c9, .ref ka, .ref kb, .int cc, .int cd, .int ce, .int cf, .int cg, .int ch, .int ci, .int cj, .int ck, .ref kl, .int cm, .int cn, .ref ko])), (k0, .inl (cI, 1201, .inl c0))] sz)) 0 0 (va_A [(k, .inr (11, [.ref k0, .ref k1, .ref k2, .int c3, .ref k4, .ref k5, .ref k6, .ref k7, .ref k8, .int c9, .ref ka, .ref kb, .int cc, .int cd, .int ce, .int cf, .int cg, .int ch, .int ci, .int cj, .int ck, .ref kl, .int cm, .int cn, .ref ko])), (k0, .inl (cI, 1201, .inl c0))] sz) := by
  refine kMetIX (own := RX11) (by decide +kernel) rfl (Nat.le_of_ble_eq_true rfl) ?_
  intro p e s m args below meth c hx hb hT hown hname hml A Q hK hP hD hS hA hN hXS hRet ls hl
  have hl : lv_has ls 3 [(0, .ref k), (1, .int a0), (2, .int a1)] := hl
  have lo_a0 := k_lo a0
  have hi_a0 := k_hi a0
  have lo_a1 := k_lo a1
  have hi_a1 := k_hi a1
  have lo_ci := k_lo ci
  have hi_ci := k_hi ci
  have pre2 : SB c0 := pre2
  have nb_1 : 0 ≤ (c0 0).toInt ∧ (c0 0).toInt ≤ 2000 := SB.n0 pre2
  have nb_2 : 0 ≤ (c0 1).toInt ∧ (c0 1).toInt ≤ 60 := SB.n1 pre2
  have nb_3 : 0 ≤ (c0 2).toInt ∧ (c0 2).toInt ≤ 4 := SB.n2 pre2
  refine lv_aload_n hx hb dX11_stands_0 rfl (lv_at hl 0 rfl) ?_
  refine lv_iload_n hx hb dX11_stands_1 rfl (lv_at hl 1 rfl) ?_
  refine lv_iconst (v := 4) hx hb dX11_stands_2 (by decide +kernel) ?_
  refine kJi (wr := []) (va_runV (As := [.int a0, .int 4]) (rest := []) ⟨hx, hb, hml, hown, hT⟩ (c_X11_workG4 l D cI aK aV k k0 k1 k2 k4 k5 k6 k7 k8 ka kb kl ko s.heap.size c3 c9 cc cd ce cf cg ch ci cj ck cm cn c0 a0 4 (by first | omega | (simp only [zl_4]; first | done | omega) | decide | assumption | rfl) (by first | omega | (simp only [zl_4]; first | done | omega) | decide | assumption | rfl) (by first | omega | (simp only [zl_4]; first | done | omega) | decide | assumption | rfl)) (cwV 2 hT (gV_in mw_1276 mw_1273 mw_1275 mw_p3_12 mw_12) rfl rfl rfl (by decide +kernel) ⟨Nat.le_of_ble_eq_true rfl, Nat.le_of_ble_eq_true rfl⟩) (kRecvX (q0 := 0) (ci := 11) hK hP hD hN hXS hS hA rfl rfl [0, 1] rfl (by decide +kernel)) rfl rfl hl.1 rfl (lv_room (Nat.le_of_ble_eq_true rfl)) dX11_stands_3 ⟨Nat.le_of_ble_eq_true rfl, Nat.le_of_ble_eq_true rfl⟩) hP hD hS hA [0, 1] [] rfl rfl (by decide +kernel) (by decide +kernel) ?_
  clear hP hD hS
  intro r_4 u_6 H locs w_5 hP hD hS
  replace hP : va_P D vwCl [(k, .inr (11, [.ref k0, .ref k1, .ref k2, .int c3, .ref k4, .ref k5, .ref k6, .ref k7, .ref k8, .int c9, .ref ka, .ref kb, .int cc, .int cd, .int ce, .int cf, .int cg, .int ch, .int ci, .int cj, .int ck, .ref kl, .int cm, .int cn, .ref ko])), (k0, .inl (cI, 1201, .inl c0))] H := hP
  replace hD : va_D A [(k, .inr (11, [.ref k0, .ref k1, .ref k2, .int c3, .ref k4, .ref k5, .ref k6, .ref k7, .ref k8, .int c9, .ref ka, .ref kb, .int cc, .int cd, .int ce, .int cf, .int cg, .int ch, .int ci, .int cj, .int ck, .ref kl, .int cm, .int cn, .ref ko])), (k0, .inl (cI, 1201, .inl c0))] := hD
  have h_7 := w_5
  have h_7 : r_4 = wW c0 a0 4 := h_7
  have t_8 : r_4.toInt = (wW c0 a0 4).toInt := by rw [h_7]
  have b_9 : 0 ≤ r_4.toInt ∧ r_4.toInt ≤ 1 := by rw [h_7]; exact SB.w4 pre2 (by omega) (by omega)
  have lo_r_4 := k_lo r_4
  have hi_r_4 := k_hi r_4
  refine b_if_ne hx hb rfl (tgt := 26) dX11_stands_6 (by decide +kernel) (fun c_10 => ?_) (fun c_10 => ?_)
  · refine lv_iconst (v := 0) hx hb dX11_stands_26 (by decide +kernel) ?_
    exact hRet () [0, 1] (Or.inr (⟨rfl, (stF_n h_7 (by omega))⟩)) hP hD (by decide +kernel) rfl hS rfl dX11_stands_27
  · refine lv_aload_n hx hb dX11_stands_9 rfl (lv_at hl 0 rfl) ?_
    refine lv_iload_n hx hb dX11_stands_10 rfl (lv_at hl 1 rfl) ?_
    refine lv_iconst (v := 0) hx hb dX11_stands_11 (by decide +kernel) ?_
    refine kJi (wr := []) (va_runV (As := [.int a0, .int 0]) (rest := []) ⟨hx, hb, hml, hown, hT⟩ (c_X11_workG0 l D cI aK aV k k0 k1 k2 k4 k5 k6 k7 k8 ka kb kl ko H.size c3 c9 cc cd ce cf cg ch ci cj ck cm cn c0 a0 0 (by first | omega | (simp only [zl_0]; first | done | omega) | decide | assumption | rfl) (by first | omega | (simp only [zl_0]; first | done | omega) | decide | assumption | rfl) (by first | omega | (simp only [zl_0]; first | done | omega) | decide | assumption | rfl)) (cwV 2 hT (gV_in mw_1276 mw_1273 mw_1275 mw_p3_12 mw_12) rfl rfl rfl (by decide +kernel) ⟨Nat.le_of_ble_eq_true rfl, Nat.le_of_ble_eq_true rfl⟩) (kRecvX (q0 := 0) (ci := 11) hK hP hD hN hXS hS hA rfl rfl [0, 1] rfl (by decide +kernel)) rfl rfl hl.1 rfl (lv_room (Nat.le_of_ble_eq_true rfl)) dX11_stands_12 ⟨Nat.le_of_ble_eq_true rfl, Nat.le_of_ble_eq_true rfl⟩) hP hD hS hA [0, 1] [] rfl rfl (by decide +kernel) (by decide +kernel) ?_
    clear hP hD hS
    intro r_11 u_13 H locs w_12 hP hD hS
    replace hP : va_P D vwCl [(k, .inr (11, [.ref k0, .ref k1, .ref k2, .int c3, .ref k4, .ref k5, .ref k6, .ref k7, .ref k8, .int c9, .ref ka, .ref kb, .int cc, .int cd, .int ce, .int cf, .int cg, .int ch, .int ci, .int cj, .int ck, .ref kl, .int cm, .int cn, .ref ko])), (k0, .inl (cI, 1201, .inl c0))] H := hP
    replace hD : va_D A [(k, .inr (11, [.ref k0, .ref k1, .ref k2, .int c3, .ref k4, .ref k5, .ref k6, .ref k7, .ref k8, .int c9, .ref ka, .ref kb, .int cc, .int cd, .int ce, .int cf, .int cg, .int ch, .int ci, .int cj, .int ck, .ref kl, .int cm, .int cn, .ref ko])), (k0, .inl (cI, 1201, .inl c0))] := hD
    have h_14 := w_12
    have h_14 : r_11 = wW c0 a0 0 := h_14
    have t_15 : r_11.toInt = (wW c0 a0 0).toInt := by rw [h_14]
    have b_16 : 0 ≤ r_11.toInt ∧ r_11.toInt ≤ 5 := by rw [h_14]; exact SB.w0 pre2 (by omega) (by omega)
    have lo_r_11 := k_lo r_11
    have hi_r_11 := k_hi r_11
    refine lv_iload_n hx hb dX11_stands_15 rfl (lv_at hl 2 rfl) ?_
    refine kJi (wr := [(k, .inr (11, [.ref k0, .ref k1, .ref k2, .int c3, .ref k4, .ref k5, .ref k6, .ref k7, .ref k8, .int c9, .ref ka, .ref kb, .int cc, .int cd, .int ce, .int cf, .int cg, .int ch, .int ci, .int cj, .int ck, .ref kl, .int cm, .int cn, .ref ko])), (k0, .inl (cI, 1201, .inl c0))]) (va_runS (As := [.int r_11, .int a1]) (rest := []) ⟨hx, hb, hml, hown, hT⟩ (c_X11_isUnderG l D cI aK aV H.size r_11 a1 (by first | omega | decide | assumption | rfl) (by first | omega | decide | assumption | rfl)) (cwS 2 hT (gS_in mw_1279 mw_1277 mw_1278 mw_12) rfl rfl rfl (by decide +kernel) ⟨Nat.le_of_ble_eq_true rfl, Nat.le_of_ble_eq_true rfl⟩) (kStatX hK hP hD hN hXS hS hA [] rfl (by decide +kernel)) rfl rfl hl.1 rfl (lv_room (Nat.le_of_ble_eq_true rfl)) dX11_stands_16 ⟨Nat.le_of_ble_eq_true rfl, Nat.le_of_ble_eq_true rfl⟩) hP hD hS hA [] [0, 1] rfl rfl (by decide +kernel) (by decide +kernel) ?_
    clear hP hD hS
    intro r_17 u_19 H locs w_18 hP hD hS
    replace hP : va_P D vwCl [(k, .inr (11, [.ref k0, .ref k1, .ref k2, .int c3, .ref k4, .ref k5, .ref k6, .ref k7, .ref k8, .int c9, .ref ka, .ref kb, .int cc, .int cd, .int ce, .int cf, .int cg, .int ch, .int ci, .int cj, .int ck, .ref kl, .int cm, .int cn, .ref ko])), (k0, .inl (cI, 1201, .inl c0))] H := hP
    replace hD : va_D A [(k, .inr (11, [.ref k0, .ref k1, .ref k2, .int c3, .ref k4, .ref k5, .ref k6, .ref k7, .ref k8, .int c9, .ref ka, .ref kb, .int cc, .int cd, .int ce, .int cf, .int cg, .int ch, .int ci, .int cj, .int ck, .ref kl, .int cm, .int cn, .ref ko])), (k0, .inl (cI, 1201, .inl c0))] := hD
    rcases w_18 with ⟨hr_17, h_20⟩ | ⟨hr_17, h_21⟩
    · have h_20 : mU r_11.toInt a1.toInt = 1 := h_20
      obtain rfl : r_17 = 1 := hr_17.trans (by decide +kernel)
      refine b_if_eq hx hb zl_1 (tgt := 26) dX11_stands_19 (by decide +kernel) (fun c_22 => by exfalso; omega) (fun c_22 => ?_)
      refine lv_iconst (v := 1) hx hb dX11_stands_22 (by decide +kernel) ?_
      refine lv_goto (tgt := 27) hx hb dX11_stands_23 (by decide +kernel) ?_
      exact hRet () [0, 1] (Or.inl ⟨rfl, (stF_y h_7 (by omega) h_14 (by assumption))⟩) hP hD (by decide +kernel) rfl hS rfl dX11_stands_27
    · have h_21 : mU r_11.toInt a1.toInt = 0 := h_21
      obtain rfl : r_17 = 0 := hr_17.trans (by decide +kernel)
      refine b_if_eq hx hb zl_0 (tgt := 26) dX11_stands_19 (by decide +kernel) (fun c_23 => ?_) (fun c_23 => by exfalso; omega)
      refine lv_iconst (v := 0) hx hb dX11_stands_26 (by decide +kernel) ?_
      exact hRet () [0, 1] (Or.inr (⟨rfl, (stF_y h_7 (by omega) h_14 (by assumption))⟩)) hP hD (by decide +kernel) rfl hS rfl dX11_stands_27
theorem bn_cX11_rainNow_0 : BN cX11_rainNow 0 0xad17984e20d089b43e111781014015a8ac1011050056a2b := by
  unfold BN; decide +kernel
theorem dX11_rainNow_0 : decode cX11_rainNow 0 = .ok (.aload_n 0, 1) := dR0 (k := 0) (i := 0) bn_cX11_rainNow_0 dop_42 (by decide +kernel)
theorem dX11_rainNow_1 : decode cX11_rainNow 1 = .ok (.getfield 9, 3) := dR2 (f := Instr.getfield) (k := 0) (i := 1) bn_cX11_rainNow_0 dop_180 9 (by decide +kernel)
theorem dX11_rainNow_4 : decode cX11_rainNow 4 = .ok (.bipush 7, 2) := dR1s (f := Instr.bipush) (k := 0) (i := 4) bn_cX11_rainNow_0 dop_16 7 7 (by decide +kernel)
theorem dX11_rainNow_6 : decode cX11_rainNow 6 = .ok (.aload_n 0, 1) := dR0 (k := 0) (i := 6) bn_cX11_rainNow_0 dop_42 (by decide +kernel)
theorem dX11_rainNow_7 : decode cX11_rainNow 7 = .ok (.getfield 9, 3) := dR2 (f := Instr.getfield) (k := 0) (i := 7) bn_cX11_rainNow_0 dop_180 9 (by decide +kernel)
theorem dX11_rainNow_10 : decode cX11_rainNow 10 = .ok (.iconst 0, 1) := dR0 (k := 0) (i := 10) bn_cX11_rainNow_0 dop_3 (by decide +kernel)
theorem dX11_rainNow_11 : decode cX11_rainNow 11 = .ok (.iaload, 1) := dR0 (k := 0) (i := 11) bn_cX11_rainNow_0 dop_46 (by decide +kernel)
theorem dX11_rainNow_12 : decode cX11_rainNow 12 = .ok (.bipush 30, 2) := dR1s (f := Instr.bipush) (k := 0) (i := 12) bn_cX11_rainNow_0 dop_16 30 30 (by decide +kernel)
theorem dX11_rainNow_14 : decode cX11_rainNow 14 = .ok (.idiv, 1) := dR0 (k := 0) (i := 14) bn_cX11_rainNow_0 dop_108 (by decide +kernel)
theorem dX11_rainNow_15 : decode cX11_rainNow 15 = .ok (.bipush 12, 2) := dR1s (f := Instr.bipush) (k := 0) (i := 15) bn_cX11_rainNow_0 dop_16 12 12 (by decide +kernel)
theorem dX11_rainNow_17 : decode cX11_rainNow 17 = .ok (.irem, 1) := dR0 (k := 0) (i := 17) bn_cX11_rainNow_0 dop_112 (by decide +kernel)
theorem dX11_rainNow_18 : decode cX11_rainNow 18 = .ok (.iadd, 1) := dR0 (k := 0) (i := 18) bn_cX11_rainNow_0 dop_96 (by decide +kernel)
theorem dX11_rainNow_19 : decode cX11_rainNow 19 = .ok (.iaload, 1) := dR0 (k := 0) (i := 19) bn_cX11_rainNow_0 dop_46 (by decide +kernel)
theorem dX11_rainNow_20 : decode cX11_rainNow 20 = .ok (.ireturn, 1) := dR0 (k := 0) (i := 20) bn_cX11_rainNow_0 dop_172 (by decide +kernel)
set_option maxHeartbeats 4000000 in
set_option maxRecDepth 100000 in
theorem c_X11_rainNowG (l : Launch) (D : va_G) (cI : ClassId) (aK aV : Nat → Nat) (k k0 k1 k2 k4 k5 k6 k7 k8 ka kb kl ko : Nat) (sz : Nat) (c3 : Int32) (c9 : Int32) (cc : Int32) (cd : Int32) (ce : Int32) (cf : Int32) (cg : Int32) (ch : Int32) (ci : Int32) (cj : Int32) (ck : Int32) (cm : Int32) (cn : Int32) (c0 : Nat → Int32) (pre0 : SB c0) : Met l yX11_rainNow (gW yX11_rainNow cX11_rainNow 1 (some .int)) ({ frames := 0, cells := 0, slots := 0, locals := 0 } : Room) (kPreX D cI aK aV [.ref k] [(k, .inr (11, [.ref k0, .ref k1, .ref k2, .int c3, .ref k4, .ref k5, .ref k6, .ref k7, .ref k8, .int c9, .ref ka, .ref kb, .int cc, .int cd, .int ce, .int cf, .int cg, .int ch, .int ci, .int cj, .int ck, .ref kl, .int cm, .int cn, .ref ko])), (k0, .inl (cI, 1201, .inl c0))] sz) (va_Qi (fun (r : Int32) (u : Unit) => r = rnF c0) (fun u t => kWd D cI (va_A [(k, .inr (11, [.ref k0, .ref k1, .ref k2, .int c3, .ref k4, .ref k5, .ref k6, .ref k7, .ref k8, .int c9, .ref ka, .ref kb, .int cc, .int cd, .int ce, .int cf, .int cg, .int ch, .int ci, .int cj, .int ck, .ref kl, .int cm, .int cn, .ref ko])), (k0, .inl (cI, 1201, .inl c0))] sz) [(k, .inr (11, [.ref k0, .ref k1, .ref k2, .int c3, .ref k4, .ref k5, .ref k6, .ref k7, .ref k8, .int c9, .ref ka, .ref kb, .int cc, .int cd, .int ce, .int cf, .int cg, .int ch, .int ci, .int cj, .int ck, .ref kl, .int cm, .int cn, .ref ko])), (k0, .inl (cI, 1201, .inl c0))] t) (va_A [(k, .inr (11, [.ref k0, .ref k1, .ref k2, .int c3, .ref k4, .ref k5, .ref k6, .ref k7, .ref k8, .int c9, .ref ka, .ref kb, .int cc, .int cd, .int ce, .int cf, .int cg, .int ch, .int ci, .int cj, .int ck, .ref kl, .int cm, .int cn, .ref ko])), (k0, .inl (cI, 1201, .inl c0))] sz)) 0 0 (va_A [(k, .inr (11, [.ref k0, .ref k1, .ref k2, .int c3, .ref k4, .ref k5, .ref k6, .ref k7, .ref k8, .int c9, .ref ka, .ref kb, .int cc, .int cd, .int ce, .int cf, .int cg, .int ch, .int ci, .int cj, .int ck, .ref kl, .int cm, .int cn, .ref ko])), (k0, .inl (cI, 1201, .inl c0))] sz) := by
  refine kMetIX (own := RX11) (by decide +kernel) rfl (Nat.le_of_ble_eq_true rfl) ?_
  intro p e s m args below meth c hx hb hT hown hname hml A Q hK hP hD hS hA hN hXS hRet ls hl
  have hl : lv_has ls 1 [(0, .ref k)] := hl
  have lo_ci := k_lo ci
  have hi_ci := k_hi ci
  have pre0 : SB c0 := pre0
  have nb_1 : 0 ≤ (c0 0).toInt ∧ (c0 0).toInt ≤ 2000 := SB.n0 pre0
  have nb_2 : 0 ≤ (c0 1).toInt ∧ (c0 1).toInt ≤ 60 := SB.n1 pre0
  have nb_3 : 0 ≤ (c0 2).toInt ∧ (c0 2).toInt ≤ 4 := SB.n2 pre0
  refine lv_aload_n hx hb dX11_rainNow_0 rfl (lv_at hl 0 rfl) ?_
  refine va_get (D := D) (ci := 11) (v := .ref k0) (C := RX11) (T := TX11) (N := 25) hx hb hT giX11 hown hK hP 0 rfl rfl 0 (by decide +kernel) (hT (Cond.fieldLink RX11 9 "DesertWireModel" "s" "[I") mw_1156) (fun _ h9 => h9) rfl dX11_rainNow_1 ?_
  refine lv_bipush (v := 7) hx hb dX11_rainNow_4 (by decide +kernel) ?_
  refine lv_aload_n hx hb dX11_rainNow_6 rfl (lv_at hl 0 rfl) ?_
  refine va_get (D := D) (ci := 11) (v := .ref k0) (C := RX11) (T := TX11) (N := 25) hx hb hT giX11 hown hK hP 0 rfl rfl 0 (by decide +kernel) (hT (Cond.fieldLink RX11 9 "DesertWireModel" "s" "[I") mw_1156) (fun _ h9 => h9) rfl dX11_rainNow_7 ?_
  refine lv_iconst (v := 0) hx hb dX11_rainNow_10 (by decide +kernel) ?_
  refine k_iald (v := (c0 0)) hx hb hK hP 1 0 rfl rfl (k_inl (by decide +kernel)) rfl dX11_rainNow_11 ?_
  refine lv_topi (fun v_4 ev_4 => ?_)
  have lo_v_4 := k_lo v_4
  have hi_v_4 := k_hi v_4
  have tv_4 : v_4.toInt = (c0 0).toInt := by rw [ev_4]
  have b_5 : 0 ≤ v_4.toInt ∧ v_4.toInt ≤ 2000 := by first | (rw [tv_4]; exact SB.n0 pre0) | exact SB.n0 pre0 | omega
  refine lv_bipush (v := 30) hx hb dX11_rainNow_12 (by decide +kernel) ?_
  refine lv_idiv hx hb dX11_rainNow_14 (by decide +kernel) ?_
  refine lv_topi (fun v_6 ev_6 => ?_)
  have tv_6 : v_6.toInt = v_4.toInt / 30 := k_divv (w := 0) ev_6 zl_30 (by omega) (by decide +kernel)
  have lo_v_6 := k_lo v_6
  have hi_v_6 := k_hi v_6
  refine lv_bipush (v := 12) hx hb dX11_rainNow_15 (by decide +kernel) ?_
  refine lv_irem hx hb dX11_rainNow_17 (by decide +kernel) ?_
  refine lv_topi (fun v_7 ev_7 => ?_)
  have tv_7 : v_7.toInt = v_6.toInt % 12 := k_remv (w := 0) ev_7 zl_12 (by omega) (by decide +kernel)
  have lo_v_7 := k_lo v_7
  have hi_v_7 := k_hi v_7
  refine lv_iadd hx hb dX11_rainNow_18 ?_
  refine lv_topi (fun v_8 ev_8 => ?_)
  have tv_8 : v_8.toInt = 7 + v_7.toInt := by rw [ev_8]; exact k_addv zl_7 rfl (by omega) (by omega)
  refine k_iald (v := (c0 v_8.toNatClampNeg)) hx hb hK hP 1 0 rfl rfl (k_in (by omega) (by omega)) rfl dX11_rainNow_19 ?_
  refine lv_topi (fun v_9 ev_9 => ?_)
  have lo_v_9 := k_lo v_9
  have hi_v_9 := k_hi v_9
  have tv_9 : v_9.toInt = (c0 v_8.toNatClampNeg).toInt := by rw [ev_9]
  exact hRet () [0, 1] (by unfold rnF; rw [ev_9, k_clamp]; congr 1; omega) hP hD (by decide +kernel) rfl hS rfl dX11_rainNow_20
theorem bn_cX11_leakOf_0 : BN cX11_leakOf 0 0x15a1d484015002022147c1d0280550050b02402a30e8142c0a00a703a051b8142c0600aa0da060285816014d15402b70307856051b8142c0600aa01411048054a0a088142c051b984da1f0899470015b81c3c2b1781014015a8acc26300adc560529005500700a6caa015b8143c2b2f005421c1c0056e050f0acdc01518bc0a0a00ad4561e1f8107c03 := by
  unfold BN; decide +kernel
theorem dX11_leakOf_0 : decode cX11_leakOf 0 = .ok (.iconst (-1), 1) := dR0 (k := 0) (i := 0) bn_cX11_leakOf_0 dop_2 (by decide +kernel)
theorem dX11_leakOf_1 : decode cX11_leakOf 1 = .ok (.istore_n 2, 1) := dR0 (k := 0) (i := 1) bn_cX11_leakOf_0 dop_61 (by decide +kernel)
theorem dX11_leakOf_2 : decode cX11_leakOf 2 = .ok (.iconst 0, 1) := dR0 (k := 0) (i := 2) bn_cX11_leakOf_0 dop_3 (by decide +kernel)
theorem dX11_leakOf_3 : decode cX11_leakOf 3 = .ok (.istore_n 3, 1) := dR0 (k := 0) (i := 3) bn_cX11_leakOf_0 dop_62 (by decide +kernel)
theorem dX11_leakOf_4 : decode cX11_leakOf 4 = .ok (.iload_n 3, 1) := dR0 (k := 0) (i := 4) bn_cX11_leakOf_0 dop_29 (by decide +kernel)
theorem dX11_leakOf_5 : decode cX11_leakOf 5 = .ok (.aload_n 0, 1) := dR0 (k := 0) (i := 5) bn_cX11_leakOf_0 dop_42 (by decide +kernel)
theorem dX11_leakOf_6 : decode cX11_leakOf 6 = .ok (.getfield 9, 3) := dR2 (f := Instr.getfield) (k := 0) (i := 6) bn_cX11_leakOf_0 dop_180 9 (by decide +kernel)
theorem dX11_leakOf_9 : decode cX11_leakOf 9 = .ok (.iconst 1, 1) := dR0 (k := 0) (i := 9) bn_cX11_leakOf_0 dop_4 (by decide +kernel)
theorem dX11_leakOf_10 : decode cX11_leakOf 10 = .ok (.iaload, 1) := dR0 (k := 0) (i := 10) bn_cX11_leakOf_0 dop_46 (by decide +kernel)
theorem dX11_leakOf_11 : decode cX11_leakOf 11 = .ok (.if_icmp .ge 109, 3) := dR2s (f := Instr.if_icmp .ge) (k := 0) (i := 11) bn_cX11_leakOf_0 dop_162 109 109 (by decide +kernel)
theorem dX11_leakOf_14 : decode cX11_leakOf 14 = .ok (.aload_n 0, 1) := dR0 (k := 0) (i := 14) bn_cX11_leakOf_0 dop_42 (by decide +kernel)
theorem dX11_leakOf_15 : decode cX11_leakOf 15 = .ok (.iload_n 3, 1) := dR0 (k := 0) (i := 15) bn_cX11_leakOf_0 dop_29 (by decide +kernel)
theorem dX11_leakOf_16 : decode cX11_leakOf 16 = .ok (.iconst 1, 1) := dR0 (k := 0) (i := 16) bn_cX11_leakOf_0 dop_4 (by decide +kernel)
theorem dX11_leakOf_17 : decode cX11_leakOf 17 = .ok (.invokevirtual 55, 3) := dR2 (f := Instr.invokevirtual) (k := 0) (i := 17) bn_cX11_leakOf_0 dop_182 55 (by decide +kernel)
theorem dX11_leakOf_20 : decode cX11_leakOf 20 = .ok (.iload_n 1, 1) := dR0 (k := 0) (i := 20) bn_cX11_leakOf_0 dop_27 (by decide +kernel)
theorem dX11_leakOf_21 : decode cX11_leakOf 21 = .ok (.if_icmp .ne 93, 3) := dR2s (f := Instr.if_icmp .ne) (k := 0) (i := 21) bn_cX11_leakOf_0 dop_160 93 93 (by decide +kernel)
theorem dX11_leakOf_24 : decode cX11_leakOf 24 = .ok (.aload_n 0, 1) := dR0 (k := 0) (i := 24) bn_cX11_leakOf_0 dop_42 (by decide +kernel)
theorem dX11_leakOf_25 : decode cX11_leakOf 25 = .ok (.iload_n 3, 1) := dR0 (k := 0) (i := 25) bn_cX11_leakOf_0 dop_29 (by decide +kernel)
theorem dX11_leakOf_26 : decode cX11_leakOf 26 = .ok (.iconst 1, 1) := dR0 (k := 0) (i := 26) bn_cX11_leakOf_0 dop_4 (by decide +kernel)
theorem dX11_leakOf_27 : decode cX11_leakOf 27 = .ok (.invokevirtual 84, 3) := dR2 (f := Instr.invokevirtual) (k := 0) (i := 27) bn_cX11_leakOf_0 dop_182 84 (by decide +kernel)
theorem dX11_leakOf_30 : decode cX11_leakOf 30 = .ok (.ifCond .ne 6, 3) := dR2s (f := Instr.ifCond .ne) (k := 0) (i := 30) bn_cX11_leakOf_0 dop_154 6 6 (by decide +kernel)
theorem dX11_leakOf_33 : decode cX11_leakOf 33 = .ok (.goto 81, 3) := dR2s (f := Instr.goto) (k := 0) (i := 33) bn_cX11_leakOf_0 dop_167 81 81 (by decide +kernel)
theorem dX11_leakOf_36 : decode cX11_leakOf 36 = .ok (.iconst 1, 1) := dR0 (k := 0) (i := 36) bn_cX11_leakOf_0 dop_4 (by decide +kernel)
theorem dX11_leakOf_37 : decode cX11_leakOf 37 = .ok (.aload_n 0, 1) := dR0 (k := 0) (i := 37) bn_cX11_leakOf_0 dop_42 (by decide +kernel)
theorem dX11_leakOf_38 : decode cX11_leakOf 38 = .ok (.invokevirtual 98, 3) := dR2 (f := Instr.invokevirtual) (k := 0) (i := 38) bn_cX11_leakOf_0 dop_182 98 (by decide +kernel)
theorem dX11_leakOf_41 : decode cX11_leakOf 41 = .ok (.iadd, 1) := dR0 (k := 0) (i := 41) bn_cX11_leakOf_0 dop_96 (by decide +kernel)
theorem dX11_leakOf_42 : decode cX11_leakOf 42 = .ok (.aload_n 0, 1) := dR0 (k := 0) (i := 42) bn_cX11_leakOf_0 dop_42 (by decide +kernel)
theorem dX11_leakOf_43 : decode cX11_leakOf 43 = .ok (.getfield 9, 3) := dR2 (f := Instr.getfield) (k := 0) (i := 43) bn_cX11_leakOf_0 dop_180 9 (by decide +kernel)
theorem dX11_leakOf_46 : decode cX11_leakOf 46 = .ok (.iconst 0, 1) := dR0 (k := 0) (i := 46) bn_cX11_leakOf_0 dop_3 (by decide +kernel)
theorem dX11_leakOf_47 : decode cX11_leakOf 47 = .ok (.iaload, 1) := dR0 (k := 0) (i := 47) bn_cX11_leakOf_0 dop_46 (by decide +kernel)
theorem dX11_leakOf_48 : decode cX11_leakOf 48 = .ok (.aload_n 0, 1) := dR0 (k := 0) (i := 48) bn_cX11_leakOf_0 dop_42 (by decide +kernel)
theorem dX11_leakOf_49 : decode cX11_leakOf 49 = .ok (.iload_n 3, 1) := dR0 (k := 0) (i := 49) bn_cX11_leakOf_0 dop_29 (by decide +kernel)
theorem dX11_leakOf_50 : decode cX11_leakOf 50 = .ok (.iconst 3, 1) := dR0 (k := 0) (i := 50) bn_cX11_leakOf_0 dop_6 (by decide +kernel)
theorem dX11_leakOf_51 : decode cX11_leakOf 51 = .ok (.invokevirtual 55, 3) := dR2 (f := Instr.invokevirtual) (k := 0) (i := 51) bn_cX11_leakOf_0 dop_182 55 (by decide +kernel)
theorem dX11_leakOf_54 : decode cX11_leakOf 54 = .ok (.isub, 1) := dR0 (k := 0) (i := 54) bn_cX11_leakOf_0 dop_100 (by decide +kernel)
theorem dX11_leakOf_55 : decode cX11_leakOf 55 = .ok (.bipush 30, 2) := dR1s (f := Instr.bipush) (k := 0) (i := 55) bn_cX11_leakOf_0 dop_16 30 30 (by decide +kernel)
theorem dX11_leakOf_57 : decode cX11_leakOf 57 = .ok (.idiv, 1) := dR0 (k := 0) (i := 57) bn_cX11_leakOf_0 dop_108 (by decide +kernel)
theorem dX11_leakOf_58 : decode cX11_leakOf 58 = .ok (.iadd, 1) := dR0 (k := 0) (i := 58) bn_cX11_leakOf_0 dop_96 (by decide +kernel)
theorem dX11_leakOf_59 : decode cX11_leakOf 59 = .ok (.istore 4, 2) := dR1 (f := Instr.istore) (k := 0) (i := 59) bn_cX11_leakOf_0 dop_54 4 (by decide +kernel)
theorem dX11_leakOf_61 : decode cX11_leakOf 61 = .ok (.iload 4, 2) := dR1 (f := Instr.iload) (k := 0) (i := 61) bn_cX11_leakOf_0 dop_21 4 (by decide +kernel)
theorem dX11_leakOf_63 : decode cX11_leakOf 63 = .ok (.bipush 9, 2) := dR1s (f := Instr.bipush) (k := 0) (i := 63) bn_cX11_leakOf_0 dop_16 9 9 (by decide +kernel)
theorem dX11_leakOf_65 : decode cX11_leakOf 65 = .ok (.if_icmp .le 8, 3) := dR2s (f := Instr.if_icmp .le) (k := 0) (i := 65) bn_cX11_leakOf_0 dop_164 8 8 (by decide +kernel)
theorem dX11_leakOf_68 : decode cX11_leakOf 68 = .ok (.bipush 9, 2) := dR1s (f := Instr.bipush) (k := 0) (i := 68) bn_cX11_leakOf_0 dop_16 9 9 (by decide +kernel)
theorem dX11_leakOf_70 : decode cX11_leakOf 70 = .ok (.goto 5, 3) := dR2s (f := Instr.goto) (k := 0) (i := 70) bn_cX11_leakOf_0 dop_167 5 5 (by decide +kernel)
theorem dX11_leakOf_73 : decode cX11_leakOf 73 = .ok (.iload 4, 2) := dR1 (f := Instr.iload) (k := 0) (i := 73) bn_cX11_leakOf_0 dop_21 4 (by decide +kernel)
theorem dX11_leakOf_75 : decode cX11_leakOf 75 = .ok (.istore 4, 2) := dR1 (f := Instr.istore) (k := 0) (i := 75) bn_cX11_leakOf_0 dop_54 4 (by decide +kernel)
theorem dX11_leakOf_77 : decode cX11_leakOf 77 = .ok (.aload_n 0, 1) := dR0 (k := 0) (i := 77) bn_cX11_leakOf_0 dop_42 (by decide +kernel)
theorem dX11_leakOf_78 : decode cX11_leakOf 78 = .ok (.iload_n 3, 1) := dR0 (k := 0) (i := 78) bn_cX11_leakOf_0 dop_29 (by decide +kernel)
theorem dX11_leakOf_79 : decode cX11_leakOf 79 = .ok (.iconst 2, 1) := dR0 (k := 0) (i := 79) bn_cX11_leakOf_0 dop_5 (by decide +kernel)
theorem dX11_leakOf_80 : decode cX11_leakOf 80 = .ok (.invokevirtual 84, 3) := dR2 (f := Instr.invokevirtual) (k := 0) (i := 80) bn_cX11_leakOf_0 dop_182 84 (by decide +kernel)
theorem dX11_leakOf_83 : decode cX11_leakOf 83 = .ok (.ifCond .eq 10, 3) := dR2s (f := Instr.ifCond .eq) (k := 0) (i := 83) bn_cX11_leakOf_0 dop_153 10 10 (by decide +kernel)
theorem dX11_leakOf_86 : decode cX11_leakOf 86 = .ok (.iload 4, 2) := dR1 (f := Instr.iload) (k := 0) (i := 86) bn_cX11_leakOf_0 dop_21 4 (by decide +kernel)
theorem dX11_leakOf_88 : decode cX11_leakOf 88 = .ok (.iconst 2, 1) := dR0 (k := 0) (i := 88) bn_cX11_leakOf_0 dop_5 (by decide +kernel)
theorem dX11_leakOf_89 : decode cX11_leakOf 89 = .ok (.idiv, 1) := dR0 (k := 0) (i := 89) bn_cX11_leakOf_0 dop_108 (by decide +kernel)
theorem dX11_leakOf_90 : decode cX11_leakOf 90 = .ok (.goto 5, 3) := dR2s (f := Instr.goto) (k := 0) (i := 90) bn_cX11_leakOf_0 dop_167 5 5 (by decide +kernel)
theorem dX11_leakOf_93 : decode cX11_leakOf 93 = .ok (.iload 4, 2) := dR1 (f := Instr.iload) (k := 0) (i := 93) bn_cX11_leakOf_0 dop_21 4 (by decide +kernel)
theorem dX11_leakOf_95 : decode cX11_leakOf 95 = .ok (.istore 4, 2) := dR1 (f := Instr.istore) (k := 0) (i := 95) bn_cX11_leakOf_0 dop_54 4 (by decide +kernel)
theorem dX11_leakOf_97 : decode cX11_leakOf 97 = .ok (.iload_n 2, 1) := dR0 (k := 0) (i := 97) bn_cX11_leakOf_0 dop_28 (by decide +kernel)
theorem dX11_leakOf_98 : decode cX11_leakOf 98 = .ok (.ifCond .lt 9, 3) := dR2s (f := Instr.ifCond .lt) (k := 0) (i := 98) bn_cX11_leakOf_0 dop_155 9 9 (by decide +kernel)
theorem dX11_leakOf_101 : decode cX11_leakOf 101 = .ok (.iload 4, 2) := dR1 (f := Instr.iload) (k := 0) (i := 101) bn_cX11_leakOf_0 dop_21 4 (by decide +kernel)
theorem dX11_leakOf_103 : decode cX11_leakOf 103 = .ok (.iload_n 2, 1) := dR0 (k := 0) (i := 103) bn_cX11_leakOf_0 dop_28 (by decide +kernel)
theorem dX11_leakOf_104 : decode cX11_leakOf 104 = .ok (.if_icmp .ge 8, 3) := dR2s (f := Instr.if_icmp .ge) (k := 0) (i := 104) bn_cX11_leakOf_0 dop_162 8 8 (by decide +kernel)
theorem dX11_leakOf_107 : decode cX11_leakOf 107 = .ok (.iload 4, 2) := dR1 (f := Instr.iload) (k := 0) (i := 107) bn_cX11_leakOf_0 dop_21 4 (by decide +kernel)
theorem dX11_leakOf_109 : decode cX11_leakOf 109 = .ok (.goto 4, 3) := dR2s (f := Instr.goto) (k := 0) (i := 109) bn_cX11_leakOf_0 dop_167 4 4 (by decide +kernel)
theorem dX11_leakOf_112 : decode cX11_leakOf 112 = .ok (.iload_n 2, 1) := dR0 (k := 0) (i := 112) bn_cX11_leakOf_0 dop_28 (by decide +kernel)
theorem dX11_leakOf_113 : decode cX11_leakOf 113 = .ok (.istore_n 2, 1) := dR0 (k := 0) (i := 113) bn_cX11_leakOf_0 dop_61 (by decide +kernel)
theorem dX11_leakOf_114 : decode cX11_leakOf 114 = .ok (.iinc 3 1, 3) := dRii (f := Instr.iinc) (k := 0) (i := 114) bn_cX11_leakOf_0 dop_132 3 1 1 (by decide +kernel)
theorem dX11_leakOf_117 : decode cX11_leakOf 117 = .ok (.goto (-113), 3) := dR2s (f := Instr.goto) (k := 0) (i := 117) bn_cX11_leakOf_0 dop_167 65423 (-113) (by decide +kernel)
theorem dX11_leakOf_120 : decode cX11_leakOf 120 = .ok (.iload_n 2, 1) := dR0 (k := 0) (i := 120) bn_cX11_leakOf_0 dop_28 (by decide +kernel)
theorem dX11_leakOf_121 : decode cX11_leakOf 121 = .ok (.ireturn, 1) := dR0 (k := 0) (i := 121) bn_cX11_leakOf_0 dop_172 (by decide +kernel)
set_option maxHeartbeats 4000000 in
set_option maxRecDepth 100000 in
theorem c_X11_leakOfG (l : Launch) (D : va_G) (cI : ClassId) (aK aV : Nat → Nat) (k k0 k1 k2 k4 k5 k6 k7 k8 ka kb kl ko : Nat) (sz : Nat) (c3 : Int32) (c9 : Int32) (cc : Int32) (cd : Int32) (ce : Int32) (cf : Int32) (cg : Int32) (ch : Int32) (ci : Int32) (cj : Int32) (ck : Int32) (cm : Int32) (cn : Int32) (c0 : Nat → Int32) (a0 : Int32) (pre0 : SB c0) : Met l yX11_leakOf (gW yX11_leakOf cX11_leakOf 5 (some .int)) ({ frames := 3, cells := 0, slots := 0, locals := 64 } : Room) (kPreX D cI aK aV [.ref k, .int a0] [(k, .inr (11, [.ref k0, .ref k1, .ref k2, .int c3, .ref k4, .ref k5, .ref k6, .ref k7, .ref k8, .int c9, .ref ka, .ref kb, .int cc, .int cd, .int ce, .int cf, .int cg, .int ch, .int ci, .int cj, .int ck, .ref kl, .int cm, .int cn, .ref ko])), (k0, .inl (cI, 1201, .inl c0))] sz) (va_Qi (fun (r : Int32) (u : Unit) => r = lkF c0 a0.toInt) (fun u t => kWd D cI (va_A [(k, .inr (11, [.ref k0, .ref k1, .ref k2, .int c3, .ref k4, .ref k5, .ref k6, .ref k7, .ref k8, .int c9, .ref ka, .ref kb, .int cc, .int cd, .int ce, .int cf, .int cg, .int ch, .int ci, .int cj, .int ck, .ref kl, .int cm, .int cn, .ref ko])), (k0, .inl (cI, 1201, .inl c0))] sz) [(k, .inr (11, [.ref k0, .ref k1, .ref k2, .int c3, .ref k4, .ref k5, .ref k6, .ref k7, .ref k8, .int c9, .ref ka, .ref kb, .int cc, .int cd, .int ce, .int cf, .int cg, .int ch, .int ci, .int cj, .int ck, .ref kl, .int cm, .int cn, .ref ko])), (k0, .inl (cI, 1201, .inl c0))] t) (va_A [(k, .inr (11, [.ref k0, .ref k1, .ref k2, .int c3, .ref k4, .ref k5, .ref k6, .ref k7, .ref k8, .int c9, .ref ka, .ref kb, .int cc, .int cd, .int ce, .int cf, .int cg, .int ch, .int ci, .int cj, .int ck, .ref kl, .int cm, .int cn, .ref ko])), (k0, .inl (cI, 1201, .inl c0))] sz)) 0 0 (va_A [(k, .inr (11, [.ref k0, .ref k1, .ref k2, .int c3, .ref k4, .ref k5, .ref k6, .ref k7, .ref k8, .int c9, .ref ka, .ref kb, .int cc, .int cd, .int ce, .int cf, .int cg, .int ch, .int ci, .int cj, .int ck, .ref kl, .int cm, .int cn, .ref ko])), (k0, .inl (cI, 1201, .inl c0))] sz) := by
  refine kMetIX (own := RX11) (by decide +kernel) rfl (Nat.le_of_ble_eq_true rfl) ?_
  intro p e s m args below meth c hx hb hT hown hname hml A Q hK hP hD hS hA hN hXS hRet ls hl
  have hl : lv_has ls 5 [(0, .ref k), (1, .int a0)] := hl
  have lo_a0 := k_lo a0
  have hi_a0 := k_hi a0
  have lo_ci := k_lo ci
  have hi_ci := k_hi ci
  have pre0 : SB c0 := pre0
  have nb_1 : 0 ≤ (c0 0).toInt ∧ (c0 0).toInt ≤ 2000 := SB.n0 pre0
  have nb_2 : 0 ≤ (c0 1).toInt ∧ (c0 1).toInt ≤ 60 := SB.n1 pre0
  have nb_3 : 0 ≤ (c0 2).toInt ∧ (c0 2).toInt ≤ 4 := SB.n2 pre0
  refine lv_iconst (v := (-1)) hx hb dX11_leakOf_0 (by decide +kernel) ?_
  refine lv_istore_n (lv' := [(2, .int (-1)), (0, .ref k), (1, .int a0)]) hx hb dX11_leakOf_1 rfl hl (by decide +kernel) rfl ?_
  clear hl
  intro ls hl
  refine lv_iconst (v := 0) hx hb dX11_leakOf_2 (by decide +kernel) ?_
  refine lv_istore_n (lv' := [(3, .int 0), (2, .int (-1)), (0, .ref k), (1, .int a0)]) hx hb dX11_leakOf_3 rfl hl (by decide +kernel) rfl ?_
  clear hl
  intro ls hl
  have hloop_4 : ∀ (fu_ : Nat) (l4_2 : Int32) (l4_3 : Int32), 0 ≤ l4_3.toInt → l4_2 = LK c0 a0.toInt l4_3.toInt.toNat → l4_3.toInt ≤ (c0 1).toInt → ((c0 1).toInt - l4_3.toInt).toNat < fu_ → ∀ (ls : Array Slot) (H : Heap) (locs : List Loc), lv_has ls 5 [(3, .int l4_3), (2, .int l4_2), (0, .ref k), (1, .int a0)] → va_P D vwCl [(k, .inr (11, [.ref k0, .ref k1, .ref k2, .int c3, .ref k4, .ref k5, .ref k6, .ref k7, .ref k8, .int c9, .ref ka, .ref kb, .int cc, .int cd, .int ce, .int cf, .int cg, .int ch, .int ci, .int cj, .int ck, .ref kl, .int cm, .int cn, .ref ko])), (k0, .inl (cI, 1201, .inl c0))] H → va_D A [(k, .inr (11, [.ref k0, .ref k1, .ref k2, .int c3, .ref k4, .ref k5, .ref k6, .ref k7, .ref k8, .int c9, .ref ka, .ref kb, .int cc, .int cd, .int ce, .int cf, .int cg, .int ch, .int ci, .int cj, .int ck, .ref kl, .int cm, .int cn, .ref ko])), (k0, .inl (cI, 1201, .inl c0))] → va_S A s.heap H locs → W p l e ({ frames := 3, cells := 0, slots := 0, locals := 64 } : Room) s m args below meth c H locs 0 0 Q (F0 m 4 ls []) := by
    intro fu_; induction fu_ with
    | zero => intro l4_2 l4_3 i4_0 i4_1 i4_2 hm; exact absurd hm (by omega)
    | succ fu_ ih4 =>
        intro l4_2 l4_3 i4_0 i4_1 i4_2 hm ls H locs hl hP hD hS
        have lo_l4_2 := k_lo l4_2
        have hi_l4_2 := k_hi l4_2
        have lo_l4_3 := k_lo l4_3
        have hi_l4_3 := k_hi l4_3
        refine lv_iload_n hx hb dX11_leakOf_4 rfl (lv_at hl 0 rfl) ?_
        refine lv_aload_n hx hb dX11_leakOf_5 rfl (lv_at hl 2 rfl) ?_
        refine va_get (D := D) (ci := 11) (v := .ref k0) (C := RX11) (T := TX11) (N := 25) hx hb hT giX11 hown hK hP 0 rfl rfl 0 (by decide +kernel) (hT (Cond.fieldLink RX11 9 "DesertWireModel" "s" "[I") mw_1156) (fun _ h9 => h9) rfl dX11_leakOf_6 ?_
        refine lv_iconst (v := 1) hx hb dX11_leakOf_9 (by decide +kernel) ?_
        refine k_iald (v := (c0 1)) hx hb hK hP 1 0 rfl rfl (k_inl (by decide +kernel)) rfl dX11_leakOf_10 ?_
        refine lv_topi (fun v_4 ev_4 => ?_)
        have lo_v_4 := k_lo v_4
        have hi_v_4 := k_hi v_4
        have tv_4 : v_4.toInt = (c0 1).toInt := by rw [ev_4]
        have b_5 : 0 ≤ v_4.toInt ∧ v_4.toInt ≤ 60 := by first | (rw [tv_4]; exact SB.n1 pre0) | exact SB.n1 pre0 | omega
        refine b_icmp_ge hx hb rfl rfl (tgt := 120) dX11_leakOf_11 (by decide +kernel) (fun c_6 => ?_) (fun c_6 => ?_)
        · refine lv_iload_n hx hb dX11_leakOf_120 rfl (lv_at hl 1 rfl) ?_
          exact hRet () [0, 1] (by unfold lkF; rw [i4_1, show l4_3.toInt.toNat = (c0 1).toInt.toNat from by omega]) hP hD (by decide +kernel) rfl hS rfl dX11_leakOf_121
        · refine lv_aload_n hx hb dX11_leakOf_14 rfl (lv_at hl 2 rfl) ?_
          refine lv_iload_n hx hb dX11_leakOf_15 rfl (lv_at hl 0 rfl) ?_
          refine lv_iconst (v := 1) hx hb dX11_leakOf_16 (by decide +kernel) ?_
          refine kJi (wr := []) (va_runV (As := [.int l4_3, .int 1]) (rest := []) ⟨hx, hb, hml, hown, hT⟩ (c_X11_workG1 l D cI aK aV k k0 k1 k2 k4 k5 k6 k7 k8 ka kb kl ko H.size c3 c9 cc cd ce cf cg ch ci cj ck cm cn c0 l4_3 1 (by first | omega | (simp only [zl_1]; first | done | omega) | decide | assumption | rfl) (by first | omega | (simp only [zl_1]; first | done | omega) | decide | assumption | rfl) (by first | omega | (simp only [zl_1]; first | done | omega) | decide | assumption | rfl)) (cwV 2 hT (gV_in mw_1276 mw_1273 mw_1275 mw_p3_12 mw_12) rfl rfl rfl (by decide +kernel) ⟨Nat.le_of_ble_eq_true rfl, Nat.le_of_ble_eq_true rfl⟩) (kRecvX (q0 := 0) (ci := 11) hK hP hD hN hXS hS hA rfl rfl [0, 1] rfl (by decide +kernel)) rfl rfl hl.1 rfl (lv_room (Nat.le_of_ble_eq_true rfl)) dX11_leakOf_17 ⟨Nat.le_of_ble_eq_true rfl, Nat.le_of_ble_eq_true rfl⟩) hP hD hS hA [0, 1] [] rfl rfl (by decide +kernel) (by decide +kernel) ?_
          clear hP hD hS
          intro r_7 u_9 H locs w_8 hP hD hS
          replace hP : va_P D vwCl [(k, .inr (11, [.ref k0, .ref k1, .ref k2, .int c3, .ref k4, .ref k5, .ref k6, .ref k7, .ref k8, .int c9, .ref ka, .ref kb, .int cc, .int cd, .int ce, .int cf, .int cg, .int ch, .int ci, .int cj, .int ck, .ref kl, .int cm, .int cn, .ref ko])), (k0, .inl (cI, 1201, .inl c0))] H := hP
          replace hD : va_D A [(k, .inr (11, [.ref k0, .ref k1, .ref k2, .int c3, .ref k4, .ref k5, .ref k6, .ref k7, .ref k8, .int c9, .ref ka, .ref kb, .int cc, .int cd, .int ce, .int cf, .int cg, .int ch, .int ci, .int cj, .int ck, .ref kl, .int cm, .int cn, .ref ko])), (k0, .inl (cI, 1201, .inl c0))] := hD
          have h_10 := w_8
          have h_10 : r_7 = wW c0 l4_3 1 := h_10
          have t_11 : r_7.toInt = (wW c0 l4_3 1).toInt := by rw [h_10]
          have b_12 : 0 ≤ r_7.toInt ∧ r_7.toInt ≤ 39 := by rw [h_10]; exact SB.w1 pre0 (by omega) (by omega)
          have lo_r_7 := k_lo r_7
          have hi_r_7 := k_hi r_7
          refine lv_iload_n hx hb dX11_leakOf_20 rfl (lv_at hl 3 rfl) ?_
          refine b_icmp_ne hx hb rfl rfl (tgt := 114) dX11_leakOf_21 (by decide +kernel) (fun c_13 => ?_) (fun c_13 => ?_)
          · obtain ⟨v_14, ev_14⟩ : ∃ y : Int32, y = l4_3 + 1 := ⟨_, rfl⟩
            have tv_14 : v_14.toInt = l4_3.toInt + 1 := by rw [ev_14]; exact k_addv rfl zl_1 (by omega) (by omega)
            refine lv_iinc (v := v_14) (lv' := [(3, .int v_14), (2, .int l4_2), (0, .ref k), (1, .int a0)]) hx hb dX11_leakOf_114 hl (k := 0) rfl (by rw [ev_14]; rfl) (by decide +kernel) rfl ?_
            clear hl
            intro ls hl
            refine lv_goto (tgt := 4) hx hb dX11_leakOf_117 (by decide +kernel) ?_
            exact ih4 l4_2 v_14 (by first | omega | decide | assumption | rfl) (LK_step i4_1 (by omega) (by omega) (lkStep_m h_10 (by omega))) (by first | omega | decide | assumption | rfl) (by omega) ls _ _ (lv_sub hl [0, 1, 2, 3] rfl) (hP.sub [0, 1] rfl) (hD.sub [0, 1] (by decide +kernel) rfl) hS
          · refine lv_aload_n hx hb dX11_leakOf_24 rfl (lv_at hl 2 rfl) ?_
            refine lv_iload_n hx hb dX11_leakOf_25 rfl (lv_at hl 0 rfl) ?_
            refine lv_iconst (v := 1) hx hb dX11_leakOf_26 (by decide +kernel) ?_
            refine kJi (wr := []) (va_runV (As := [.int l4_3, .int 1]) (rest := []) ⟨hx, hb, hml, hown, hT⟩ (c_X11_standsG l D cI aK aV k k0 k1 k2 k4 k5 k6 k7 k8 ka kb kl ko H.size c3 c9 cc cd ce cf cg ch ci cj ck cm cn c0 l4_3 1 (by first | omega | (simp only [zl_1]; first | done | omega) | decide | assumption | rfl) (by first | omega | (simp only [zl_1]; first | done | omega) | decide | assumption | rfl) pre0) (cwV 2 hT (gV_in mw_1295 mw_1292 mw_1294 mw_p3_14 mw_12) rfl rfl rfl (by decide +kernel) ⟨Nat.le_of_ble_eq_true rfl, Nat.le_of_ble_eq_true rfl⟩) (kRecvX (q0 := 0) (ci := 11) hK hP hD hN hXS hS hA rfl rfl [0, 1] rfl (by decide +kernel)) rfl rfl hl.1 rfl (lv_room (Nat.le_of_ble_eq_true rfl)) dX11_leakOf_27 ⟨Nat.le_of_ble_eq_true rfl, Nat.le_of_ble_eq_true rfl⟩) hP hD hS hA [0, 1] [] rfl rfl (by decide +kernel) (by decide +kernel) ?_
            clear hP hD hS
            intro r_15 u_17 H locs w_16 hP hD hS
            replace hP : va_P D vwCl [(k, .inr (11, [.ref k0, .ref k1, .ref k2, .int c3, .ref k4, .ref k5, .ref k6, .ref k7, .ref k8, .int c9, .ref ka, .ref kb, .int cc, .int cd, .int ce, .int cf, .int cg, .int ch, .int ci, .int cj, .int ck, .ref kl, .int cm, .int cn, .ref ko])), (k0, .inl (cI, 1201, .inl c0))] H := hP
            replace hD : va_D A [(k, .inr (11, [.ref k0, .ref k1, .ref k2, .int c3, .ref k4, .ref k5, .ref k6, .ref k7, .ref k8, .int c9, .ref ka, .ref kb, .int cc, .int cd, .int ce, .int cf, .int cg, .int ch, .int ci, .int cj, .int ck, .ref kl, .int cm, .int cn, .ref ko])), (k0, .inl (cI, 1201, .inl c0))] := hD
            rcases w_16 with ⟨hr_15, h_18⟩ | ⟨hr_15, h_19⟩
            · try simp only [zl_1] at h_18
              have h_18 : stF c0 l4_3 1 = 1 := h_18
              obtain rfl : r_15 = 1 := hr_15.trans (by decide +kernel)
              refine b_if_ne hx hb zl_1 (tgt := 36) dX11_leakOf_30 (by decide +kernel) (fun c_20 => ?_) (fun c_20 => by exfalso; omega)
              refine lv_iconst (v := 1) hx hb dX11_leakOf_36 (by decide +kernel) ?_
              refine lv_aload_n hx hb dX11_leakOf_37 rfl (lv_at hl 2 rfl) ?_
              refine kJi (wr := []) (va_runV (As := []) (rest := [.int 1]) ⟨hx, hb, hml, hown, hT⟩ (c_X11_rainNowG l D cI aK aV k k0 k1 k2 k4 k5 k6 k7 k8 ka kb kl ko H.size c3 c9 cc cd ce cf cg ch ci cj ck cm cn c0 pre0) (cwV 0 hT (gV_in mw_1376 mw_1373 mw_1375 mw_p4_15 mw_12) rfl rfl rfl (by decide +kernel) ⟨Nat.le_of_ble_eq_true rfl, Nat.le_of_ble_eq_true rfl⟩) (kRecvX (q0 := 0) (ci := 11) hK hP hD hN hXS hS hA rfl rfl [0, 1] rfl (by decide +kernel)) rfl rfl hl.1 rfl (lv_room (Nat.le_of_ble_eq_true rfl)) dX11_leakOf_38 ⟨Nat.le_of_ble_eq_true rfl, Nat.le_of_ble_eq_true rfl⟩) hP hD hS hA [0, 1] [] rfl rfl (by decide +kernel) (by decide +kernel) ?_
              clear hP hD hS
              intro r_21 u_23 H locs w_22 hP hD hS
              replace hP : va_P D vwCl [(k, .inr (11, [.ref k0, .ref k1, .ref k2, .int c3, .ref k4, .ref k5, .ref k6, .ref k7, .ref k8, .int c9, .ref ka, .ref kb, .int cc, .int cd, .int ce, .int cf, .int cg, .int ch, .int ci, .int cj, .int ck, .ref kl, .int cm, .int cn, .ref ko])), (k0, .inl (cI, 1201, .inl c0))] H := hP
              replace hD : va_D A [(k, .inr (11, [.ref k0, .ref k1, .ref k2, .int c3, .ref k4, .ref k5, .ref k6, .ref k7, .ref k8, .int c9, .ref ka, .ref kb, .int cc, .int cd, .int ce, .int cf, .int cg, .int ch, .int ci, .int cj, .int ck, .ref kl, .int cm, .int cn, .ref ko])), (k0, .inl (cI, 1201, .inl c0))] := hD
              have h_24 := w_22
              have h_24 : r_21 = rnF c0 := h_24
              have lo_r_21 := k_lo r_21
              have hi_r_21 := k_hi r_21
              refine lv_iadd hx hb dX11_leakOf_41 ?_
              refine lv_topi (fun v_25 ev_25 => ?_)
              have lo_v_25 := k_lo v_25
              have hi_v_25 := k_hi v_25
              refine lv_aload_n hx hb dX11_leakOf_42 rfl (lv_at hl 2 rfl) ?_
              refine va_get (D := D) (ci := 11) (v := .ref k0) (C := RX11) (T := TX11) (N := 25) hx hb hT giX11 hown hK hP 0 rfl rfl 0 (by decide +kernel) (hT (Cond.fieldLink RX11 9 "DesertWireModel" "s" "[I") mw_1156) (fun _ h9 => h9) rfl dX11_leakOf_43 ?_
              refine lv_iconst (v := 0) hx hb dX11_leakOf_46 (by decide +kernel) ?_
              refine k_iald (v := (c0 0)) hx hb hK hP 1 0 rfl rfl (k_inl (by decide +kernel)) rfl dX11_leakOf_47 ?_
              refine lv_topi (fun v_26 ev_26 => ?_)
              have lo_v_26 := k_lo v_26
              have hi_v_26 := k_hi v_26
              have tv_26 : v_26.toInt = (c0 0).toInt := by rw [ev_26]
              have b_27 : 0 ≤ v_26.toInt ∧ v_26.toInt ≤ 2000 := by first | (rw [tv_26]; exact SB.n0 pre0) | exact SB.n0 pre0 | omega
              refine lv_aload_n hx hb dX11_leakOf_48 rfl (lv_at hl 2 rfl) ?_
              refine lv_iload_n hx hb dX11_leakOf_49 rfl (lv_at hl 0 rfl) ?_
              refine lv_iconst (v := 3) hx hb dX11_leakOf_50 (by decide +kernel) ?_
              refine kJi (wr := []) (va_runV (As := [.int l4_3, .int 3]) (rest := [.int v_26, .int v_25]) ⟨hx, hb, hml, hown, hT⟩ (c_X11_workG3 l D cI aK aV k k0 k1 k2 k4 k5 k6 k7 k8 ka kb kl ko H.size c3 c9 cc cd ce cf cg ch ci cj ck cm cn c0 l4_3 3 (by first | omega | (simp only [zl_3]; first | done | omega) | decide | assumption | rfl) (by first | omega | (simp only [zl_3]; first | done | omega) | decide | assumption | rfl) (by first | omega | (simp only [zl_3]; first | done | omega) | decide | assumption | rfl)) (cwV 2 hT (gV_in mw_1276 mw_1273 mw_1275 mw_p3_12 mw_12) rfl rfl rfl (by decide +kernel) ⟨Nat.le_of_ble_eq_true rfl, Nat.le_of_ble_eq_true rfl⟩) (kRecvX (q0 := 0) (ci := 11) hK hP hD hN hXS hS hA rfl rfl [0, 1] rfl (by decide +kernel)) rfl rfl hl.1 rfl (lv_room (Nat.le_of_ble_eq_true rfl)) dX11_leakOf_51 ⟨Nat.le_of_ble_eq_true rfl, Nat.le_of_ble_eq_true rfl⟩) hP hD hS hA [0, 1] [] rfl rfl (by decide +kernel) (by decide +kernel) ?_
              clear hP hD hS
              intro r_28 u_30 H locs w_29 hP hD hS
              replace hP : va_P D vwCl [(k, .inr (11, [.ref k0, .ref k1, .ref k2, .int c3, .ref k4, .ref k5, .ref k6, .ref k7, .ref k8, .int c9, .ref ka, .ref kb, .int cc, .int cd, .int ce, .int cf, .int cg, .int ch, .int ci, .int cj, .int ck, .ref kl, .int cm, .int cn, .ref ko])), (k0, .inl (cI, 1201, .inl c0))] H := hP
              replace hD : va_D A [(k, .inr (11, [.ref k0, .ref k1, .ref k2, .int c3, .ref k4, .ref k5, .ref k6, .ref k7, .ref k8, .int c9, .ref ka, .ref kb, .int cc, .int cd, .int ce, .int cf, .int cg, .int ch, .int ci, .int cj, .int ck, .ref kl, .int cm, .int cn, .ref ko])), (k0, .inl (cI, 1201, .inl c0))] := hD
              have h_31 := w_29
              have h_31 : r_28 = wW c0 l4_3 3 := h_31
              have t_32 : r_28.toInt = (wW c0 l4_3 3).toInt := by rw [h_31]
              have b_33 : 0 ≤ r_28.toInt ∧ r_28.toInt ≤ 2001 := by rw [h_31]; exact SB.w3 pre0 (by omega) (by omega)
              have lo_r_28 := k_lo r_28
              have hi_r_28 := k_hi r_28
              refine lv_isub hx hb dX11_leakOf_54 ?_
              refine lv_topi (fun v_34 ev_34 => ?_)
              have tv_34 : v_34.toInt = v_26.toInt - r_28.toInt := by rw [ev_34]; exact k_subv rfl rfl (by omega) (by omega)
              refine lv_bipush (v := 30) hx hb dX11_leakOf_55 (by decide +kernel) ?_
              refine lv_idiv hx hb dX11_leakOf_57 (by decide +kernel) ?_
              refine lv_topi (fun v_35 ev_35 => ?_)
              have lo_v_35 := k_lo v_35
              have hi_v_35 := k_hi v_35
              refine lv_iadd hx hb dX11_leakOf_58 ?_
              refine lv_topi (fun v_36 ev_36 => ?_)
              have lo_v_36 := k_lo v_36
              have hi_v_36 := k_hi v_36
              refine lv_istore (lv' := [(4, .int v_36), (3, .int l4_3), (2, .int l4_2), (0, .ref k), (1, .int a0)]) hx hb dX11_leakOf_59 hl (by decide +kernel) rfl ?_
              clear hl
              intro ls hl
              refine lv_iload hx hb dX11_leakOf_61 (lv_at hl 0 rfl) ?_
              refine lv_bipush (v := 9) hx hb dX11_leakOf_63 (by decide +kernel) ?_
              refine b_icmp_le hx hb rfl zl_9 (tgt := 73) dX11_leakOf_65 (by decide +kernel) (fun c_37 => ?_) (fun c_37 => ?_)
              · refine lv_iload hx hb dX11_leakOf_73 (lv_at hl 0 rfl) ?_
                refine lv_istore (lv' := [(4, .int v_36), (3, .int l4_3), (2, .int l4_2), (0, .ref k), (1, .int a0)]) hx hb dX11_leakOf_75 hl (by decide +kernel) rfl ?_
                clear hl
                intro ls hl
                refine lv_aload_n hx hb dX11_leakOf_77 rfl (lv_at hl 3 rfl) ?_
                refine lv_iload_n hx hb dX11_leakOf_78 rfl (lv_at hl 1 rfl) ?_
                refine lv_iconst (v := 2) hx hb dX11_leakOf_79 (by decide +kernel) ?_
                refine kJi (wr := []) (va_runV (As := [.int l4_3, .int 2]) (rest := []) ⟨hx, hb, hml, hown, hT⟩ (c_X11_standsG l D cI aK aV k k0 k1 k2 k4 k5 k6 k7 k8 ka kb kl ko H.size c3 c9 cc cd ce cf cg ch ci cj ck cm cn c0 l4_3 2 (by first | omega | (simp only [zl_2]; first | done | omega) | decide | assumption | rfl) (by first | omega | (simp only [zl_2]; first | done | omega) | decide | assumption | rfl) pre0) (cwV 2 hT (gV_in mw_1295 mw_1292 mw_1294 mw_p3_14 mw_12) rfl rfl rfl (by decide +kernel) ⟨Nat.le_of_ble_eq_true rfl, Nat.le_of_ble_eq_true rfl⟩) (kRecvX (q0 := 0) (ci := 11) hK hP hD hN hXS hS hA rfl rfl [0, 1] rfl (by decide +kernel)) rfl rfl hl.1 rfl (lv_room (Nat.le_of_ble_eq_true rfl)) dX11_leakOf_80 ⟨Nat.le_of_ble_eq_true rfl, Nat.le_of_ble_eq_true rfl⟩) hP hD hS hA [0, 1] [] rfl rfl (by decide +kernel) (by decide +kernel) ?_
                clear hP hD hS
                intro r_38 u_40 H locs w_39 hP hD hS
                replace hP : va_P D vwCl [(k, .inr (11, [.ref k0, .ref k1, .ref k2, .int c3, .ref k4, .ref k5, .ref k6, .ref k7, .ref k8, .int c9, .ref ka, .ref kb, .int cc, .int cd, .int ce, .int cf, .int cg, .int ch, .int ci, .int cj, .int ck, .ref kl, .int cm, .int cn, .ref ko])), (k0, .inl (cI, 1201, .inl c0))] H := hP
                replace hD : va_D A [(k, .inr (11, [.ref k0, .ref k1, .ref k2, .int c3, .ref k4, .ref k5, .ref k6, .ref k7, .ref k8, .int c9, .ref ka, .ref kb, .int cc, .int cd, .int ce, .int cf, .int cg, .int ch, .int ci, .int cj, .int ck, .ref kl, .int cm, .int cn, .ref ko])), (k0, .inl (cI, 1201, .inl c0))] := hD
                rcases w_39 with ⟨hr_38, h_41⟩ | ⟨hr_38, h_42⟩
                · try simp only [zl_2] at h_41
                  have h_41 : stF c0 l4_3 2 = 1 := h_41
                  obtain rfl : r_38 = 1 := hr_38.trans (by decide +kernel)
                  refine b_if_eq hx hb zl_1 (tgt := 93) dX11_leakOf_83 (by decide +kernel) (fun c_43 => by exfalso; omega) (fun c_43 => ?_)
                  refine lv_iload hx hb dX11_leakOf_86 (lv_at hl 0 rfl) ?_
                  refine lv_iconst (v := 2) hx hb dX11_leakOf_88 (by decide +kernel) ?_
                  refine lv_idiv hx hb dX11_leakOf_89 (by decide +kernel) ?_
                  refine lv_topi (fun v_44 ev_44 => ?_)
                  have lo_v_44 := k_lo v_44
                  have hi_v_44 := k_hi v_44
                  refine lv_goto (tgt := 95) hx hb dX11_leakOf_90 (by decide +kernel) ?_
                  refine lv_istore (lv' := [(4, .int v_44), (3, .int l4_3), (2, .int l4_2), (0, .ref k), (1, .int a0)]) hx hb dX11_leakOf_95 hl (by decide +kernel) rfl ?_
                  clear hl
                  intro ls hl
                  refine lv_iload_n hx hb dX11_leakOf_97 rfl (lv_at hl 2 rfl) ?_
                  refine b_if_lt hx hb rfl (tgt := 107) dX11_leakOf_98 (by decide +kernel) (fun c_45 => ?_) (fun c_45 => ?_)
                  · refine lv_iload hx hb dX11_leakOf_107 (lv_at hl 0 rfl) ?_
                    refine lv_goto (tgt := 113) hx hb dX11_leakOf_109 (by decide +kernel) ?_
                    refine lv_istore_n (lv' := [(2, .int v_44), (4, .int v_44), (3, .int l4_3), (0, .ref k), (1, .int a0)]) hx hb dX11_leakOf_113 rfl hl (by decide +kernel) rfl ?_
                    clear hl
                    intro ls hl
                    obtain ⟨v_46, ev_46⟩ : ∃ y : Int32, y = l4_3 + 1 := ⟨_, rfl⟩
                    have tv_46 : v_46.toInt = l4_3.toInt + 1 := by rw [ev_46]; exact k_addv rfl zl_1 (by omega) (by omega)
                    refine lv_iinc (v := v_46) (lv' := [(3, .int v_46), (2, .int v_44), (4, .int v_44), (0, .ref k), (1, .int a0)]) hx hb dX11_leakOf_114 hl (k := 2) rfl (by rw [ev_46]; rfl) (by decide +kernel) rfl ?_
                    clear hl
                    intro ls hl
                    refine lv_goto (tgt := 4) hx hb dX11_leakOf_117 (by decide +kernel) ?_
                    exact ih4 v_44 v_46 (by first | omega | decide | assumption | rfl) (LK_step i4_1 (by omega) (by omega) (lkStep_in (v1 := v_36) (v2 := v_36) (v3 := v_44) h_10 (by omega) h_18 (by subst_vars; rfl) (by first | exact Or.inl ⟨by omega, rfl⟩ | exact Or.inr ⟨by omega, rfl⟩) (Or.inl ⟨h_41, by first | decide | assumption⟩) (by first | exact Or.inl ⟨by omega, rfl⟩ | exact Or.inr ⟨by omega, by omega, rfl⟩ | exact Or.inl ⟨by simp only [zl_0]; omega, rfl⟩ | exact Or.inr ⟨by first | omega | (simp only [zl_0]; omega), by first | omega | (simp only [zl_0]; omega), rfl⟩))) (by first | omega | decide | assumption | rfl) (by omega) ls _ _ (lv_sub hl [0, 1, 3, 4] rfl) (hP.sub [0, 1] rfl) (hD.sub [0, 1] (by decide +kernel) rfl) hS
                  · refine lv_iload hx hb dX11_leakOf_101 (lv_at hl 0 rfl) ?_
                    refine lv_iload_n hx hb dX11_leakOf_103 rfl (lv_at hl 2 rfl) ?_
                    refine b_icmp_ge hx hb rfl rfl (tgt := 112) dX11_leakOf_104 (by decide +kernel) (fun c_47 => ?_) (fun c_47 => ?_)
                    · refine lv_iload_n hx hb dX11_leakOf_112 rfl (lv_at hl 2 rfl) ?_
                      refine lv_istore_n (lv' := [(2, .int l4_2), (4, .int v_44), (3, .int l4_3), (0, .ref k), (1, .int a0)]) hx hb dX11_leakOf_113 rfl hl (by decide +kernel) rfl ?_
                      clear hl
                      intro ls hl
                      obtain ⟨v_48, ev_48⟩ : ∃ y : Int32, y = l4_3 + 1 := ⟨_, rfl⟩
                      have tv_48 : v_48.toInt = l4_3.toInt + 1 := by rw [ev_48]; exact k_addv rfl zl_1 (by omega) (by omega)
                      refine lv_iinc (v := v_48) (lv' := [(3, .int v_48), (2, .int l4_2), (4, .int v_44), (0, .ref k), (1, .int a0)]) hx hb dX11_leakOf_114 hl (k := 2) rfl (by rw [ev_48]; rfl) (by decide +kernel) rfl ?_
                      clear hl
                      intro ls hl
                      refine lv_goto (tgt := 4) hx hb dX11_leakOf_117 (by decide +kernel) ?_
                      exact ih4 l4_2 v_48 (by first | omega | decide | assumption | rfl) (LK_step i4_1 (by omega) (by omega) (lkStep_in (v1 := v_36) (v2 := v_36) (v3 := v_44) h_10 (by omega) h_18 (by subst_vars; rfl) (by first | exact Or.inl ⟨by omega, rfl⟩ | exact Or.inr ⟨by omega, rfl⟩) (Or.inl ⟨h_41, by first | decide | assumption⟩) (by first | exact Or.inl ⟨by omega, rfl⟩ | exact Or.inr ⟨by omega, by omega, rfl⟩ | exact Or.inl ⟨by simp only [zl_0]; omega, rfl⟩ | exact Or.inr ⟨by first | omega | (simp only [zl_0]; omega), by first | omega | (simp only [zl_0]; omega), rfl⟩))) (by first | omega | decide | assumption | rfl) (by omega) ls _ _ (lv_sub hl [0, 1, 3, 4] rfl) (hP.sub [0, 1] rfl) (hD.sub [0, 1] (by decide +kernel) rfl) hS
                    · refine lv_iload hx hb dX11_leakOf_107 (lv_at hl 0 rfl) ?_
                      refine lv_goto (tgt := 113) hx hb dX11_leakOf_109 (by decide +kernel) ?_
                      refine lv_istore_n (lv' := [(2, .int v_44), (4, .int v_44), (3, .int l4_3), (0, .ref k), (1, .int a0)]) hx hb dX11_leakOf_113 rfl hl (by decide +kernel) rfl ?_
                      clear hl
                      intro ls hl
                      obtain ⟨v_49, ev_49⟩ : ∃ y : Int32, y = l4_3 + 1 := ⟨_, rfl⟩
                      have tv_49 : v_49.toInt = l4_3.toInt + 1 := by rw [ev_49]; exact k_addv rfl zl_1 (by omega) (by omega)
                      refine lv_iinc (v := v_49) (lv' := [(3, .int v_49), (2, .int v_44), (4, .int v_44), (0, .ref k), (1, .int a0)]) hx hb dX11_leakOf_114 hl (k := 2) rfl (by rw [ev_49]; rfl) (by decide +kernel) rfl ?_
                      clear hl
                      intro ls hl
                      refine lv_goto (tgt := 4) hx hb dX11_leakOf_117 (by decide +kernel) ?_
                      exact ih4 v_44 v_49 (by first | omega | decide | assumption | rfl) (LK_step i4_1 (by omega) (by omega) (lkStep_in (v1 := v_36) (v2 := v_36) (v3 := v_44) h_10 (by omega) h_18 (by subst_vars; rfl) (by first | exact Or.inl ⟨by omega, rfl⟩ | exact Or.inr ⟨by omega, rfl⟩) (Or.inl ⟨h_41, by first | decide | assumption⟩) (by first | exact Or.inl ⟨by omega, rfl⟩ | exact Or.inr ⟨by omega, by omega, rfl⟩ | exact Or.inl ⟨by simp only [zl_0]; omega, rfl⟩ | exact Or.inr ⟨by first | omega | (simp only [zl_0]; omega), by first | omega | (simp only [zl_0]; omega), rfl⟩))) (by first | omega | decide | assumption | rfl) (by omega) ls _ _ (lv_sub hl [0, 1, 3, 4] rfl) (hP.sub [0, 1] rfl) (hD.sub [0, 1] (by decide +kernel) rfl) hS
                · try simp only [zl_2] at h_42
                  have h_42 : stF c0 l4_3 2 = 0 := h_42
                  obtain rfl : r_38 = 0 := hr_38.trans (by decide +kernel)
                  refine b_if_eq hx hb zl_0 (tgt := 93) dX11_leakOf_83 (by decide +kernel) (fun c_50 => ?_) (fun c_50 => by exfalso; omega)
                  refine lv_iload hx hb dX11_leakOf_93 (lv_at hl 0 rfl) ?_
                  refine lv_istore (lv' := [(4, .int v_36), (3, .int l4_3), (2, .int l4_2), (0, .ref k), (1, .int a0)]) hx hb dX11_leakOf_95 hl (by decide +kernel) rfl ?_
                  clear hl
                  intro ls hl
                  refine lv_iload_n hx hb dX11_leakOf_97 rfl (lv_at hl 2 rfl) ?_
                  refine b_if_lt hx hb rfl (tgt := 107) dX11_leakOf_98 (by decide +kernel) (fun c_51 => ?_) (fun c_51 => ?_)
                  · refine lv_iload hx hb dX11_leakOf_107 (lv_at hl 0 rfl) ?_
                    refine lv_goto (tgt := 113) hx hb dX11_leakOf_109 (by decide +kernel) ?_
                    refine lv_istore_n (lv' := [(2, .int v_36), (4, .int v_36), (3, .int l4_3), (0, .ref k), (1, .int a0)]) hx hb dX11_leakOf_113 rfl hl (by decide +kernel) rfl ?_
                    clear hl
                    intro ls hl
                    obtain ⟨v_52, ev_52⟩ : ∃ y : Int32, y = l4_3 + 1 := ⟨_, rfl⟩
                    have tv_52 : v_52.toInt = l4_3.toInt + 1 := by rw [ev_52]; exact k_addv rfl zl_1 (by omega) (by omega)
                    refine lv_iinc (v := v_52) (lv' := [(3, .int v_52), (2, .int v_36), (4, .int v_36), (0, .ref k), (1, .int a0)]) hx hb dX11_leakOf_114 hl (k := 2) rfl (by rw [ev_52]; rfl) (by decide +kernel) rfl ?_
                    clear hl
                    intro ls hl
                    refine lv_goto (tgt := 4) hx hb dX11_leakOf_117 (by decide +kernel) ?_
                    exact ih4 v_36 v_52 (by first | omega | decide | assumption | rfl) (LK_step i4_1 (by omega) (by omega) (lkStep_in (v1 := v_36) (v2 := v_36) (v3 := v_36) h_10 (by omega) h_18 (by subst_vars; rfl) (by first | exact Or.inl ⟨by omega, rfl⟩ | exact Or.inr ⟨by omega, rfl⟩) (Or.inr ⟨h_42, rfl⟩) (by first | exact Or.inl ⟨by omega, rfl⟩ | exact Or.inr ⟨by omega, by omega, rfl⟩ | exact Or.inl ⟨by simp only [zl_0]; omega, rfl⟩ | exact Or.inr ⟨by first | omega | (simp only [zl_0]; omega), by first | omega | (simp only [zl_0]; omega), rfl⟩))) (by first | omega | decide | assumption | rfl) (by omega) ls _ _ (lv_sub hl [0, 1, 3, 4] rfl) (hP.sub [0, 1] rfl) (hD.sub [0, 1] (by decide +kernel) rfl) hS
                  · refine lv_iload hx hb dX11_leakOf_101 (lv_at hl 0 rfl) ?_
                    refine lv_iload_n hx hb dX11_leakOf_103 rfl (lv_at hl 2 rfl) ?_
                    refine b_icmp_ge hx hb rfl rfl (tgt := 112) dX11_leakOf_104 (by decide +kernel) (fun c_53 => ?_) (fun c_53 => ?_)
                    · refine lv_iload_n hx hb dX11_leakOf_112 rfl (lv_at hl 2 rfl) ?_
                      refine lv_istore_n (lv' := [(2, .int l4_2), (4, .int v_36), (3, .int l4_3), (0, .ref k), (1, .int a0)]) hx hb dX11_leakOf_113 rfl hl (by decide +kernel) rfl ?_
                      clear hl
                      intro ls hl
                      obtain ⟨v_54, ev_54⟩ : ∃ y : Int32, y = l4_3 + 1 := ⟨_, rfl⟩
                      have tv_54 : v_54.toInt = l4_3.toInt + 1 := by rw [ev_54]; exact k_addv rfl zl_1 (by omega) (by omega)
                      refine lv_iinc (v := v_54) (lv' := [(3, .int v_54), (2, .int l4_2), (4, .int v_36), (0, .ref k), (1, .int a0)]) hx hb dX11_leakOf_114 hl (k := 2) rfl (by rw [ev_54]; rfl) (by decide +kernel) rfl ?_
                      clear hl
                      intro ls hl
                      refine lv_goto (tgt := 4) hx hb dX11_leakOf_117 (by decide +kernel) ?_
                      exact ih4 l4_2 v_54 (by first | omega | decide | assumption | rfl) (LK_step i4_1 (by omega) (by omega) (lkStep_in (v1 := v_36) (v2 := v_36) (v3 := v_36) h_10 (by omega) h_18 (by subst_vars; rfl) (by first | exact Or.inl ⟨by omega, rfl⟩ | exact Or.inr ⟨by omega, rfl⟩) (Or.inr ⟨h_42, rfl⟩) (by first | exact Or.inl ⟨by omega, rfl⟩ | exact Or.inr ⟨by omega, by omega, rfl⟩ | exact Or.inl ⟨by simp only [zl_0]; omega, rfl⟩ | exact Or.inr ⟨by first | omega | (simp only [zl_0]; omega), by first | omega | (simp only [zl_0]; omega), rfl⟩))) (by first | omega | decide | assumption | rfl) (by omega) ls _ _ (lv_sub hl [0, 1, 3, 4] rfl) (hP.sub [0, 1] rfl) (hD.sub [0, 1] (by decide +kernel) rfl) hS
                    · refine lv_iload hx hb dX11_leakOf_107 (lv_at hl 0 rfl) ?_
                      refine lv_goto (tgt := 113) hx hb dX11_leakOf_109 (by decide +kernel) ?_
                      refine lv_istore_n (lv' := [(2, .int v_36), (4, .int v_36), (3, .int l4_3), (0, .ref k), (1, .int a0)]) hx hb dX11_leakOf_113 rfl hl (by decide +kernel) rfl ?_
                      clear hl
                      intro ls hl
                      obtain ⟨v_55, ev_55⟩ : ∃ y : Int32, y = l4_3 + 1 := ⟨_, rfl⟩
                      have tv_55 : v_55.toInt = l4_3.toInt + 1 := by rw [ev_55]; exact k_addv rfl zl_1 (by omega) (by omega)
                      refine lv_iinc (v := v_55) (lv' := [(3, .int v_55), (2, .int v_36), (4, .int v_36), (0, .ref k), (1, .int a0)]) hx hb dX11_leakOf_114 hl (k := 2) rfl (by rw [ev_55]; rfl) (by decide +kernel) rfl ?_
                      clear hl
                      intro ls hl
                      refine lv_goto (tgt := 4) hx hb dX11_leakOf_117 (by decide +kernel) ?_
                      exact ih4 v_36 v_55 (by first | omega | decide | assumption | rfl) (LK_step i4_1 (by omega) (by omega) (lkStep_in (v1 := v_36) (v2 := v_36) (v3 := v_36) h_10 (by omega) h_18 (by subst_vars; rfl) (by first | exact Or.inl ⟨by omega, rfl⟩ | exact Or.inr ⟨by omega, rfl⟩) (Or.inr ⟨h_42, rfl⟩) (by first | exact Or.inl ⟨by omega, rfl⟩ | exact Or.inr ⟨by omega, by omega, rfl⟩ | exact Or.inl ⟨by simp only [zl_0]; omega, rfl⟩ | exact Or.inr ⟨by first | omega | (simp only [zl_0]; omega), by first | omega | (simp only [zl_0]; omega), rfl⟩))) (by first | omega | decide | assumption | rfl) (by omega) ls _ _ (lv_sub hl [0, 1, 3, 4] rfl) (hP.sub [0, 1] rfl) (hD.sub [0, 1] (by decide +kernel) rfl) hS
              · refine lv_bipush (v := 9) hx hb dX11_leakOf_68 (by decide +kernel) ?_
                refine lv_goto (tgt := 75) hx hb dX11_leakOf_70 (by decide +kernel) ?_
                refine lv_istore (lv' := [(4, .int 9), (3, .int l4_3), (2, .int l4_2), (0, .ref k), (1, .int a0)]) hx hb dX11_leakOf_75 hl (by decide +kernel) rfl ?_
                clear hl
                intro ls hl
                refine lv_aload_n hx hb dX11_leakOf_77 rfl (lv_at hl 3 rfl) ?_
                refine lv_iload_n hx hb dX11_leakOf_78 rfl (lv_at hl 1 rfl) ?_
                refine lv_iconst (v := 2) hx hb dX11_leakOf_79 (by decide +kernel) ?_
                refine kJi (wr := []) (va_runV (As := [.int l4_3, .int 2]) (rest := []) ⟨hx, hb, hml, hown, hT⟩ (c_X11_standsG l D cI aK aV k k0 k1 k2 k4 k5 k6 k7 k8 ka kb kl ko H.size c3 c9 cc cd ce cf cg ch ci cj ck cm cn c0 l4_3 2 (by first | omega | (simp only [zl_2]; first | done | omega) | decide | assumption | rfl) (by first | omega | (simp only [zl_2]; first | done | omega) | decide | assumption | rfl) pre0) (cwV 2 hT (gV_in mw_1295 mw_1292 mw_1294 mw_p3_14 mw_12) rfl rfl rfl (by decide +kernel) ⟨Nat.le_of_ble_eq_true rfl, Nat.le_of_ble_eq_true rfl⟩) (kRecvX (q0 := 0) (ci := 11) hK hP hD hN hXS hS hA rfl rfl [0, 1] rfl (by decide +kernel)) rfl rfl hl.1 rfl (lv_room (Nat.le_of_ble_eq_true rfl)) dX11_leakOf_80 ⟨Nat.le_of_ble_eq_true rfl, Nat.le_of_ble_eq_true rfl⟩) hP hD hS hA [0, 1] [] rfl rfl (by decide +kernel) (by decide +kernel) ?_
                clear hP hD hS
                intro r_56 u_58 H locs w_57 hP hD hS
                replace hP : va_P D vwCl [(k, .inr (11, [.ref k0, .ref k1, .ref k2, .int c3, .ref k4, .ref k5, .ref k6, .ref k7, .ref k8, .int c9, .ref ka, .ref kb, .int cc, .int cd, .int ce, .int cf, .int cg, .int ch, .int ci, .int cj, .int ck, .ref kl, .int cm, .int cn, .ref ko])), (k0, .inl (cI, 1201, .inl c0))] H := hP
                replace hD : va_D A [(k, .inr (11, [.ref k0, .ref k1, .ref k2, .int c3, .ref k4, .ref k5, .ref k6, .ref k7, .ref k8, .int c9, .ref ka, .ref kb, .int cc, .int cd, .int ce, .int cf, .int cg, .int ch, .int ci, .int cj, .int ck, .ref kl, .int cm, .int cn, .ref ko])), (k0, .inl (cI, 1201, .inl c0))] := hD
                rcases w_57 with ⟨hr_56, h_59⟩ | ⟨hr_56, h_60⟩
                · try simp only [zl_2] at h_59
                  have h_59 : stF c0 l4_3 2 = 1 := h_59
                  obtain rfl : r_56 = 1 := hr_56.trans (by decide +kernel)
                  refine b_if_eq hx hb zl_1 (tgt := 93) dX11_leakOf_83 (by decide +kernel) (fun c_61 => by exfalso; omega) (fun c_61 => ?_)
                  refine lv_iload hx hb dX11_leakOf_86 (lv_at hl 0 rfl) ?_
                  refine lv_iconst (v := 2) hx hb dX11_leakOf_88 (by decide +kernel) ?_
                  refine k_idiv (v := 4) hx hb dX11_leakOf_89 (by decide +kernel) (by decide +kernel) ?_
                  refine lv_goto (tgt := 95) hx hb dX11_leakOf_90 (by decide +kernel) ?_
                  refine lv_istore (lv' := [(4, .int 4), (3, .int l4_3), (2, .int l4_2), (0, .ref k), (1, .int a0)]) hx hb dX11_leakOf_95 hl (by decide +kernel) rfl ?_
                  clear hl
                  intro ls hl
                  refine lv_iload_n hx hb dX11_leakOf_97 rfl (lv_at hl 2 rfl) ?_
                  refine b_if_lt hx hb rfl (tgt := 107) dX11_leakOf_98 (by decide +kernel) (fun c_62 => ?_) (fun c_62 => ?_)
                  · refine lv_iload hx hb dX11_leakOf_107 (lv_at hl 0 rfl) ?_
                    refine lv_goto (tgt := 113) hx hb dX11_leakOf_109 (by decide +kernel) ?_
                    refine lv_istore_n (lv' := [(2, .int 4), (4, .int 4), (3, .int l4_3), (0, .ref k), (1, .int a0)]) hx hb dX11_leakOf_113 rfl hl (by decide +kernel) rfl ?_
                    clear hl
                    intro ls hl
                    obtain ⟨v_63, ev_63⟩ : ∃ y : Int32, y = l4_3 + 1 := ⟨_, rfl⟩
                    have tv_63 : v_63.toInt = l4_3.toInt + 1 := by rw [ev_63]; exact k_addv rfl zl_1 (by omega) (by omega)
                    refine lv_iinc (v := v_63) (lv' := [(3, .int v_63), (2, .int 4), (4, .int 4), (0, .ref k), (1, .int a0)]) hx hb dX11_leakOf_114 hl (k := 2) rfl (by rw [ev_63]; rfl) (by decide +kernel) rfl ?_
                    clear hl
                    intro ls hl
                    refine lv_goto (tgt := 4) hx hb dX11_leakOf_117 (by decide +kernel) ?_
                    exact ih4 4 v_63 (by first | omega | (simp only [zl_4]; first | done | omega) | decide | assumption | rfl) (LK_step i4_1 (by omega) (by omega) (lkStep_in (v1 := v_36) (v2 := 9) (v3 := 4) h_10 (by omega) h_18 (by subst_vars; rfl) (by first | exact Or.inl ⟨by omega, rfl⟩ | exact Or.inr ⟨by omega, rfl⟩) (Or.inl ⟨h_59, by first | decide | assumption⟩) (by first | exact Or.inl ⟨by omega, rfl⟩ | exact Or.inr ⟨by omega, by omega, rfl⟩ | exact Or.inl ⟨by simp only [zl_0, zl_4, zl_9]; omega, rfl⟩ | exact Or.inr ⟨by first | omega | (simp only [zl_0, zl_4, zl_9]; omega), by first | omega | (simp only [zl_0, zl_4, zl_9]; omega), rfl⟩))) (by first | omega | (simp only [zl_4]; first | done | omega) | decide | assumption | rfl) (by omega) ls _ _ (lv_sub hl [0, 1, 3, 4] rfl) (hP.sub [0, 1] rfl) (hD.sub [0, 1] (by decide +kernel) rfl) hS
                  · refine lv_iload hx hb dX11_leakOf_101 (lv_at hl 0 rfl) ?_
                    refine lv_iload_n hx hb dX11_leakOf_103 rfl (lv_at hl 2 rfl) ?_
                    refine b_icmp_ge hx hb zl_4 rfl (tgt := 112) dX11_leakOf_104 (by decide +kernel) (fun c_64 => ?_) (fun c_64 => ?_)
                    · refine lv_iload_n hx hb dX11_leakOf_112 rfl (lv_at hl 2 rfl) ?_
                      refine lv_istore_n (lv' := [(2, .int l4_2), (4, .int 4), (3, .int l4_3), (0, .ref k), (1, .int a0)]) hx hb dX11_leakOf_113 rfl hl (by decide +kernel) rfl ?_
                      clear hl
                      intro ls hl
                      obtain ⟨v_65, ev_65⟩ : ∃ y : Int32, y = l4_3 + 1 := ⟨_, rfl⟩
                      have tv_65 : v_65.toInt = l4_3.toInt + 1 := by rw [ev_65]; exact k_addv rfl zl_1 (by omega) (by omega)
                      refine lv_iinc (v := v_65) (lv' := [(3, .int v_65), (2, .int l4_2), (4, .int 4), (0, .ref k), (1, .int a0)]) hx hb dX11_leakOf_114 hl (k := 2) rfl (by rw [ev_65]; rfl) (by decide +kernel) rfl ?_
                      clear hl
                      intro ls hl
                      refine lv_goto (tgt := 4) hx hb dX11_leakOf_117 (by decide +kernel) ?_
                      exact ih4 l4_2 v_65 (by first | omega | decide | assumption | rfl) (LK_step i4_1 (by omega) (by omega) (lkStep_in (v1 := v_36) (v2 := 9) (v3 := 4) h_10 (by omega) h_18 (by subst_vars; rfl) (by first | exact Or.inl ⟨by omega, rfl⟩ | exact Or.inr ⟨by omega, rfl⟩) (Or.inl ⟨h_59, by first | decide | assumption⟩) (by first | exact Or.inl ⟨by omega, rfl⟩ | exact Or.inr ⟨by omega, by omega, rfl⟩ | exact Or.inl ⟨by simp only [zl_0, zl_4, zl_9]; omega, rfl⟩ | exact Or.inr ⟨by first | omega | (simp only [zl_0, zl_4, zl_9]; omega), by first | omega | (simp only [zl_0, zl_4, zl_9]; omega), rfl⟩))) (by first | omega | decide | assumption | rfl) (by omega) ls _ _ (lv_sub hl [0, 1, 3, 4] rfl) (hP.sub [0, 1] rfl) (hD.sub [0, 1] (by decide +kernel) rfl) hS
                    · refine lv_iload hx hb dX11_leakOf_107 (lv_at hl 0 rfl) ?_
                      refine lv_goto (tgt := 113) hx hb dX11_leakOf_109 (by decide +kernel) ?_
                      refine lv_istore_n (lv' := [(2, .int 4), (4, .int 4), (3, .int l4_3), (0, .ref k), (1, .int a0)]) hx hb dX11_leakOf_113 rfl hl (by decide +kernel) rfl ?_
                      clear hl
                      intro ls hl
                      obtain ⟨v_66, ev_66⟩ : ∃ y : Int32, y = l4_3 + 1 := ⟨_, rfl⟩
                      have tv_66 : v_66.toInt = l4_3.toInt + 1 := by rw [ev_66]; exact k_addv rfl zl_1 (by omega) (by omega)
                      refine lv_iinc (v := v_66) (lv' := [(3, .int v_66), (2, .int 4), (4, .int 4), (0, .ref k), (1, .int a0)]) hx hb dX11_leakOf_114 hl (k := 2) rfl (by rw [ev_66]; rfl) (by decide +kernel) rfl ?_
                      clear hl
                      intro ls hl
                      refine lv_goto (tgt := 4) hx hb dX11_leakOf_117 (by decide +kernel) ?_
                      exact ih4 4 v_66 (by first | omega | (simp only [zl_4]; first | done | omega) | decide | assumption | rfl) (LK_step i4_1 (by omega) (by omega) (lkStep_in (v1 := v_36) (v2 := 9) (v3 := 4) h_10 (by omega) h_18 (by subst_vars; rfl) (by first | exact Or.inl ⟨by omega, rfl⟩ | exact Or.inr ⟨by omega, rfl⟩) (Or.inl ⟨h_59, by first | decide | assumption⟩) (by first | exact Or.inl ⟨by omega, rfl⟩ | exact Or.inr ⟨by omega, by omega, rfl⟩ | exact Or.inl ⟨by simp only [zl_0, zl_4, zl_9]; omega, rfl⟩ | exact Or.inr ⟨by first | omega | (simp only [zl_0, zl_4, zl_9]; omega), by first | omega | (simp only [zl_0, zl_4, zl_9]; omega), rfl⟩))) (by first | omega | (simp only [zl_4]; first | done | omega) | decide | assumption | rfl) (by omega) ls _ _ (lv_sub hl [0, 1, 3, 4] rfl) (hP.sub [0, 1] rfl) (hD.sub [0, 1] (by decide +kernel) rfl) hS
                · try simp only [zl_2] at h_60
                  have h_60 : stF c0 l4_3 2 = 0 := h_60
                  obtain rfl : r_56 = 0 := hr_56.trans (by decide +kernel)
                  refine b_if_eq hx hb zl_0 (tgt := 93) dX11_leakOf_83 (by decide +kernel) (fun c_67 => ?_) (fun c_67 => by exfalso; omega)
                  refine lv_iload hx hb dX11_leakOf_93 (lv_at hl 0 rfl) ?_
                  refine lv_istore (lv' := [(4, .int 9), (3, .int l4_3), (2, .int l4_2), (0, .ref k), (1, .int a0)]) hx hb dX11_leakOf_95 hl (by decide +kernel) rfl ?_
                  clear hl
                  intro ls hl
                  refine lv_iload_n hx hb dX11_leakOf_97 rfl (lv_at hl 2 rfl) ?_
                  refine b_if_lt hx hb rfl (tgt := 107) dX11_leakOf_98 (by decide +kernel) (fun c_68 => ?_) (fun c_68 => ?_)
                  · refine lv_iload hx hb dX11_leakOf_107 (lv_at hl 0 rfl) ?_
                    refine lv_goto (tgt := 113) hx hb dX11_leakOf_109 (by decide +kernel) ?_
                    refine lv_istore_n (lv' := [(2, .int 9), (4, .int 9), (3, .int l4_3), (0, .ref k), (1, .int a0)]) hx hb dX11_leakOf_113 rfl hl (by decide +kernel) rfl ?_
                    clear hl
                    intro ls hl
                    obtain ⟨v_69, ev_69⟩ : ∃ y : Int32, y = l4_3 + 1 := ⟨_, rfl⟩
                    have tv_69 : v_69.toInt = l4_3.toInt + 1 := by rw [ev_69]; exact k_addv rfl zl_1 (by omega) (by omega)
                    refine lv_iinc (v := v_69) (lv' := [(3, .int v_69), (2, .int 9), (4, .int 9), (0, .ref k), (1, .int a0)]) hx hb dX11_leakOf_114 hl (k := 2) rfl (by rw [ev_69]; rfl) (by decide +kernel) rfl ?_
                    clear hl
                    intro ls hl
                    refine lv_goto (tgt := 4) hx hb dX11_leakOf_117 (by decide +kernel) ?_
                    exact ih4 9 v_69 (by first | omega | (simp only [zl_9]; first | done | omega) | decide | assumption | rfl) (LK_step i4_1 (by omega) (by omega) (lkStep_in (v1 := v_36) (v2 := 9) (v3 := 9) h_10 (by omega) h_18 (by subst_vars; rfl) (by first | exact Or.inl ⟨by omega, rfl⟩ | exact Or.inr ⟨by omega, rfl⟩) (Or.inr ⟨h_60, rfl⟩) (by first | exact Or.inl ⟨by omega, rfl⟩ | exact Or.inr ⟨by omega, by omega, rfl⟩ | exact Or.inl ⟨by simp only [zl_0, zl_9]; omega, rfl⟩ | exact Or.inr ⟨by first | omega | (simp only [zl_0, zl_9]; omega), by first | omega | (simp only [zl_0, zl_9]; omega), rfl⟩))) (by first | omega | (simp only [zl_9]; first | done | omega) | decide | assumption | rfl) (by omega) ls _ _ (lv_sub hl [0, 1, 3, 4] rfl) (hP.sub [0, 1] rfl) (hD.sub [0, 1] (by decide +kernel) rfl) hS
                  · refine lv_iload hx hb dX11_leakOf_101 (lv_at hl 0 rfl) ?_
                    refine lv_iload_n hx hb dX11_leakOf_103 rfl (lv_at hl 2 rfl) ?_
                    refine b_icmp_ge hx hb zl_9 rfl (tgt := 112) dX11_leakOf_104 (by decide +kernel) (fun c_70 => ?_) (fun c_70 => ?_)
                    · refine lv_iload_n hx hb dX11_leakOf_112 rfl (lv_at hl 2 rfl) ?_
                      refine lv_istore_n (lv' := [(2, .int l4_2), (4, .int 9), (3, .int l4_3), (0, .ref k), (1, .int a0)]) hx hb dX11_leakOf_113 rfl hl (by decide +kernel) rfl ?_
                      clear hl
                      intro ls hl
                      obtain ⟨v_71, ev_71⟩ : ∃ y : Int32, y = l4_3 + 1 := ⟨_, rfl⟩
                      have tv_71 : v_71.toInt = l4_3.toInt + 1 := by rw [ev_71]; exact k_addv rfl zl_1 (by omega) (by omega)
                      refine lv_iinc (v := v_71) (lv' := [(3, .int v_71), (2, .int l4_2), (4, .int 9), (0, .ref k), (1, .int a0)]) hx hb dX11_leakOf_114 hl (k := 2) rfl (by rw [ev_71]; rfl) (by decide +kernel) rfl ?_
                      clear hl
                      intro ls hl
                      refine lv_goto (tgt := 4) hx hb dX11_leakOf_117 (by decide +kernel) ?_
                      exact ih4 l4_2 v_71 (by first | omega | decide | assumption | rfl) (LK_step i4_1 (by omega) (by omega) (lkStep_in (v1 := v_36) (v2 := 9) (v3 := 9) h_10 (by omega) h_18 (by subst_vars; rfl) (by first | exact Or.inl ⟨by omega, rfl⟩ | exact Or.inr ⟨by omega, rfl⟩) (Or.inr ⟨h_60, rfl⟩) (by first | exact Or.inl ⟨by omega, rfl⟩ | exact Or.inr ⟨by omega, by omega, rfl⟩ | exact Or.inl ⟨by simp only [zl_0, zl_9]; omega, rfl⟩ | exact Or.inr ⟨by first | omega | (simp only [zl_0, zl_9]; omega), by first | omega | (simp only [zl_0, zl_9]; omega), rfl⟩))) (by first | omega | decide | assumption | rfl) (by omega) ls _ _ (lv_sub hl [0, 1, 3, 4] rfl) (hP.sub [0, 1] rfl) (hD.sub [0, 1] (by decide +kernel) rfl) hS
                    · refine lv_iload hx hb dX11_leakOf_107 (lv_at hl 0 rfl) ?_
                      refine lv_goto (tgt := 113) hx hb dX11_leakOf_109 (by decide +kernel) ?_
                      refine lv_istore_n (lv' := [(2, .int 9), (4, .int 9), (3, .int l4_3), (0, .ref k), (1, .int a0)]) hx hb dX11_leakOf_113 rfl hl (by decide +kernel) rfl ?_
                      clear hl
                      intro ls hl
                      obtain ⟨v_72, ev_72⟩ : ∃ y : Int32, y = l4_3 + 1 := ⟨_, rfl⟩
                      have tv_72 : v_72.toInt = l4_3.toInt + 1 := by rw [ev_72]; exact k_addv rfl zl_1 (by omega) (by omega)
                      refine lv_iinc (v := v_72) (lv' := [(3, .int v_72), (2, .int 9), (4, .int 9), (0, .ref k), (1, .int a0)]) hx hb dX11_leakOf_114 hl (k := 2) rfl (by rw [ev_72]; rfl) (by decide +kernel) rfl ?_
                      clear hl
                      intro ls hl
                      refine lv_goto (tgt := 4) hx hb dX11_leakOf_117 (by decide +kernel) ?_
                      exact ih4 9 v_72 (by first | omega | (simp only [zl_9]; first | done | omega) | decide | assumption | rfl) (LK_step i4_1 (by omega) (by omega) (lkStep_in (v1 := v_36) (v2 := 9) (v3 := 9) h_10 (by omega) h_18 (by subst_vars; rfl) (by first | exact Or.inl ⟨by omega, rfl⟩ | exact Or.inr ⟨by omega, rfl⟩) (Or.inr ⟨h_60, rfl⟩) (by first | exact Or.inl ⟨by omega, rfl⟩ | exact Or.inr ⟨by omega, by omega, rfl⟩ | exact Or.inl ⟨by simp only [zl_0, zl_9]; omega, rfl⟩ | exact Or.inr ⟨by first | omega | (simp only [zl_0, zl_9]; omega), by first | omega | (simp only [zl_0, zl_9]; omega), rfl⟩))) (by first | omega | (simp only [zl_9]; first | done | omega) | decide | assumption | rfl) (by omega) ls _ _ (lv_sub hl [0, 1, 3, 4] rfl) (hP.sub [0, 1] rfl) (hD.sub [0, 1] (by decide +kernel) rfl) hS
            · try simp only [zl_1] at h_19
              have h_19 : stF c0 l4_3 1 = 0 := h_19
              obtain rfl : r_15 = 0 := hr_15.trans (by decide +kernel)
              refine b_if_ne hx hb zl_0 (tgt := 36) dX11_leakOf_30 (by decide +kernel) (fun c_73 => by exfalso; omega) (fun c_73 => ?_)
              refine lv_goto (tgt := 114) hx hb dX11_leakOf_33 (by decide +kernel) ?_
              obtain ⟨v_74, ev_74⟩ : ∃ y : Int32, y = l4_3 + 1 := ⟨_, rfl⟩
              have tv_74 : v_74.toInt = l4_3.toInt + 1 := by rw [ev_74]; exact k_addv rfl zl_1 (by omega) (by omega)
              refine lv_iinc (v := v_74) (lv' := [(3, .int v_74), (2, .int l4_2), (0, .ref k), (1, .int a0)]) hx hb dX11_leakOf_114 hl (k := 0) rfl (by rw [ev_74]; rfl) (by decide +kernel) rfl ?_
              clear hl
              intro ls hl
              refine lv_goto (tgt := 4) hx hb dX11_leakOf_117 (by decide +kernel) ?_
              exact ih4 l4_2 v_74 (by first | omega | decide | assumption | rfl) (LK_step i4_1 (by omega) (by omega) (lkStep_s h_19)) (by first | omega | decide | assumption | rfl) (by omega) ls _ _ (lv_sub hl [0, 1, 2, 3] rfl) (hP.sub [0, 1] rfl) (hD.sub [0, 1] (by decide +kernel) rfl) hS
  exact hloop_4 _ (-1) 0 (by first | omega | (simp only [zl_m1, zl_0]; first | done | omega) | decide | assumption | rfl) (LK_zero (by decide +kernel)) (by first | omega | (simp only [zl_m1, zl_0]; first | done | omega) | decide | assumption | rfl) (Nat.lt_succ_self _) ls _ _ (lv_sub hl [0, 1, 2, 3] rfl) hP hD hS
theorem bn_cX11_isWired_0 : BN cX11_isWired 0 0x2b43ad7802a00404428f8080500aa00a0800a68aa015b8143c2b08805421c1c0056e050f0ac2e014d8744e01518bc0a0a00ad4561e1f8107c04 := by
  unfold BN; decide +kernel
theorem dX11_isWired_0 : decode cX11_isWired 0 = .ok (.iconst 0, 1) := dR0 (k := 0) (i := 0) bn_cX11_isWired_0 dop_3 (by decide +kernel)
theorem dX11_isWired_1 : decode cX11_isWired 1 = .ok (.istore_n 2, 1) := dR0 (k := 0) (i := 1) bn_cX11_isWired_0 dop_61 (by decide +kernel)
theorem dX11_isWired_2 : decode cX11_isWired 2 = .ok (.iconst 0, 1) := dR0 (k := 0) (i := 2) bn_cX11_isWired_0 dop_3 (by decide +kernel)
theorem dX11_isWired_3 : decode cX11_isWired 3 = .ok (.istore_n 3, 1) := dR0 (k := 0) (i := 3) bn_cX11_isWired_0 dop_62 (by decide +kernel)
theorem dX11_isWired_4 : decode cX11_isWired 4 = .ok (.iload_n 3, 1) := dR0 (k := 0) (i := 4) bn_cX11_isWired_0 dop_29 (by decide +kernel)
theorem dX11_isWired_5 : decode cX11_isWired 5 = .ok (.aload_n 0, 1) := dR0 (k := 0) (i := 5) bn_cX11_isWired_0 dop_42 (by decide +kernel)
theorem dX11_isWired_6 : decode cX11_isWired 6 = .ok (.getfield 9, 3) := dR2 (f := Instr.getfield) (k := 0) (i := 6) bn_cX11_isWired_0 dop_180 9 (by decide +kernel)
theorem dX11_isWired_9 : decode cX11_isWired 9 = .ok (.iconst 1, 1) := dR0 (k := 0) (i := 9) bn_cX11_isWired_0 dop_4 (by decide +kernel)
theorem dX11_isWired_10 : decode cX11_isWired 10 = .ok (.iaload, 1) := dR0 (k := 0) (i := 10) bn_cX11_isWired_0 dop_46 (by decide +kernel)
theorem dX11_isWired_11 : decode cX11_isWired 11 = .ok (.if_icmp .ge 38, 3) := dR2s (f := Instr.if_icmp .ge) (k := 0) (i := 11) bn_cX11_isWired_0 dop_162 38 38 (by decide +kernel)
theorem dX11_isWired_14 : decode cX11_isWired 14 = .ok (.iload_n 2, 1) := dR0 (k := 0) (i := 14) bn_cX11_isWired_0 dop_28 (by decide +kernel)
theorem dX11_isWired_15 : decode cX11_isWired 15 = .ok (.ifCond .ne 22, 3) := dR2s (f := Instr.ifCond .ne) (k := 0) (i := 15) bn_cX11_isWired_0 dop_154 22 22 (by decide +kernel)
theorem dX11_isWired_18 : decode cX11_isWired 18 = .ok (.aload_n 0, 1) := dR0 (k := 0) (i := 18) bn_cX11_isWired_0 dop_42 (by decide +kernel)
theorem dX11_isWired_19 : decode cX11_isWired 19 = .ok (.iload_n 3, 1) := dR0 (k := 0) (i := 19) bn_cX11_isWired_0 dop_29 (by decide +kernel)
theorem dX11_isWired_20 : decode cX11_isWired 20 = .ok (.iconst 1, 1) := dR0 (k := 0) (i := 20) bn_cX11_isWired_0 dop_4 (by decide +kernel)
theorem dX11_isWired_21 : decode cX11_isWired 21 = .ok (.invokevirtual 55, 3) := dR2 (f := Instr.invokevirtual) (k := 0) (i := 21) bn_cX11_isWired_0 dop_182 55 (by decide +kernel)
theorem dX11_isWired_24 : decode cX11_isWired 24 = .ok (.iload_n 1, 1) := dR0 (k := 0) (i := 24) bn_cX11_isWired_0 dop_27 (by decide +kernel)
theorem dX11_isWired_25 : decode cX11_isWired 25 = .ok (.if_icmp .ne 16, 3) := dR2s (f := Instr.if_icmp .ne) (k := 0) (i := 25) bn_cX11_isWired_0 dop_160 16 16 (by decide +kernel)
theorem dX11_isWired_28 : decode cX11_isWired 28 = .ok (.aload_n 0, 1) := dR0 (k := 0) (i := 28) bn_cX11_isWired_0 dop_42 (by decide +kernel)
theorem dX11_isWired_29 : decode cX11_isWired 29 = .ok (.iload_n 3, 1) := dR0 (k := 0) (i := 29) bn_cX11_isWired_0 dop_29 (by decide +kernel)
theorem dX11_isWired_30 : decode cX11_isWired 30 = .ok (.iconst 1, 1) := dR0 (k := 0) (i := 30) bn_cX11_isWired_0 dop_4 (by decide +kernel)
theorem dX11_isWired_31 : decode cX11_isWired 31 = .ok (.invokevirtual 84, 3) := dR2 (f := Instr.invokevirtual) (k := 0) (i := 31) bn_cX11_isWired_0 dop_182 84 (by decide +kernel)
theorem dX11_isWired_34 : decode cX11_isWired 34 = .ok (.ifCond .eq 7, 3) := dR2s (f := Instr.ifCond .eq) (k := 0) (i := 34) bn_cX11_isWired_0 dop_153 7 7 (by decide +kernel)
theorem dX11_isWired_37 : decode cX11_isWired 37 = .ok (.iconst 1, 1) := dR0 (k := 0) (i := 37) bn_cX11_isWired_0 dop_4 (by decide +kernel)
theorem dX11_isWired_38 : decode cX11_isWired 38 = .ok (.goto 4, 3) := dR2s (f := Instr.goto) (k := 0) (i := 38) bn_cX11_isWired_0 dop_167 4 4 (by decide +kernel)
theorem dX11_isWired_41 : decode cX11_isWired 41 = .ok (.iconst 0, 1) := dR0 (k := 0) (i := 41) bn_cX11_isWired_0 dop_3 (by decide +kernel)
theorem dX11_isWired_42 : decode cX11_isWired 42 = .ok (.istore_n 2, 1) := dR0 (k := 0) (i := 42) bn_cX11_isWired_0 dop_61 (by decide +kernel)
theorem dX11_isWired_43 : decode cX11_isWired 43 = .ok (.iinc 3 1, 3) := dRii (f := Instr.iinc) (k := 0) (i := 43) bn_cX11_isWired_0 dop_132 3 1 1 (by decide +kernel)
theorem dX11_isWired_46 : decode cX11_isWired 46 = .ok (.goto (-42), 3) := dR2s (f := Instr.goto) (k := 0) (i := 46) bn_cX11_isWired_0 dop_167 65494 (-42) (by decide +kernel)
theorem dX11_isWired_49 : decode cX11_isWired 49 = .ok (.iload_n 2, 1) := dR0 (k := 0) (i := 49) bn_cX11_isWired_0 dop_28 (by decide +kernel)
theorem dX11_isWired_50 : decode cX11_isWired 50 = .ok (.ireturn, 1) := dR0 (k := 0) (i := 50) bn_cX11_isWired_0 dop_172 (by decide +kernel)
set_option maxHeartbeats 4000000 in
set_option maxRecDepth 100000 in
theorem c_X11_isWiredG (l : Launch) (D : va_G) (cI : ClassId) (aK aV : Nat → Nat) (k k0 k1 k2 k4 k5 k6 k7 k8 ka kb kl ko : Nat) (sz : Nat) (c3 : Int32) (c9 : Int32) (cc : Int32) (cd : Int32) (ce : Int32) (cf : Int32) (cg : Int32) (ch : Int32) (ci : Int32) (cj : Int32) (ck : Int32) (cm : Int32) (cn : Int32) (c0 : Nat → Int32) (a0 : Int32) (pre0 : SB c0) : Met l yX11_isWired (gW yX11_isWired cX11_isWired 4 (some .boolean)) ({ frames := 3, cells := 0, slots := 0, locals := 64 } : Room) (kPreX D cI aK aV [.ref k, .int a0] [(k, .inr (11, [.ref k0, .ref k1, .ref k2, .int c3, .ref k4, .ref k5, .ref k6, .ref k7, .ref k8, .int c9, .ref ka, .ref kb, .int cc, .int cd, .int ce, .int cf, .int cg, .int ch, .int ci, .int cj, .int ck, .ref kl, .int cm, .int cn, .ref ko])), (k0, .inl (cI, 1201, .inl c0))] sz) (va_Qi (fun (r : Int32) (u : Unit) => (r = 1 ∧ wdF c0 a0.toInt = 1) ∨ (r = 0 ∧ wdF c0 a0.toInt = 0)) (fun u t => kWd D cI (va_A [(k, .inr (11, [.ref k0, .ref k1, .ref k2, .int c3, .ref k4, .ref k5, .ref k6, .ref k7, .ref k8, .int c9, .ref ka, .ref kb, .int cc, .int cd, .int ce, .int cf, .int cg, .int ch, .int ci, .int cj, .int ck, .ref kl, .int cm, .int cn, .ref ko])), (k0, .inl (cI, 1201, .inl c0))] sz) [(k, .inr (11, [.ref k0, .ref k1, .ref k2, .int c3, .ref k4, .ref k5, .ref k6, .ref k7, .ref k8, .int c9, .ref ka, .ref kb, .int cc, .int cd, .int ce, .int cf, .int cg, .int ch, .int ci, .int cj, .int ck, .ref kl, .int cm, .int cn, .ref ko])), (k0, .inl (cI, 1201, .inl c0))] t) (va_A [(k, .inr (11, [.ref k0, .ref k1, .ref k2, .int c3, .ref k4, .ref k5, .ref k6, .ref k7, .ref k8, .int c9, .ref ka, .ref kb, .int cc, .int cd, .int ce, .int cf, .int cg, .int ch, .int ci, .int cj, .int ck, .ref kl, .int cm, .int cn, .ref ko])), (k0, .inl (cI, 1201, .inl c0))] sz)) 0 0 (va_A [(k, .inr (11, [.ref k0, .ref k1, .ref k2, .int c3, .ref k4, .ref k5, .ref k6, .ref k7, .ref k8, .int c9, .ref ka, .ref kb, .int cc, .int cd, .int ce, .int cf, .int cg, .int ch, .int ci, .int cj, .int ck, .ref kl, .int cm, .int cn, .ref ko])), (k0, .inl (cI, 1201, .inl c0))] sz) := by
  refine kMetIX (own := RX11) (by decide +kernel) rfl (Nat.le_of_ble_eq_true rfl) ?_
  intro p e s m args below meth c hx hb hT hown hname hml A Q hK hP hD hS hA hN hXS hRet ls hl
  have hl : lv_has ls 4 [(0, .ref k), (1, .int a0)] := hl
  have lo_a0 := k_lo a0
  have hi_a0 := k_hi a0
  have lo_ci := k_lo ci
  have hi_ci := k_hi ci
  have pre0 : SB c0 := pre0
  have nb_1 : 0 ≤ (c0 0).toInt ∧ (c0 0).toInt ≤ 2000 := SB.n0 pre0
  have nb_2 : 0 ≤ (c0 1).toInt ∧ (c0 1).toInt ≤ 60 := SB.n1 pre0
  have nb_3 : 0 ≤ (c0 2).toInt ∧ (c0 2).toInt ≤ 4 := SB.n2 pre0
  refine lv_iconst (v := 0) hx hb dX11_isWired_0 (by decide +kernel) ?_
  refine lv_istore_n (lv' := [(2, .int 0), (0, .ref k), (1, .int a0)]) hx hb dX11_isWired_1 rfl hl (by decide +kernel) rfl ?_
  clear hl
  intro ls hl
  refine lv_iconst (v := 0) hx hb dX11_isWired_2 (by decide +kernel) ?_
  refine lv_istore_n (lv' := [(3, .int 0), (2, .int 0), (0, .ref k), (1, .int a0)]) hx hb dX11_isWired_3 rfl hl (by decide +kernel) rfl ?_
  clear hl
  intro ls hl
  have hloop_4 : ∀ (fu_ : Nat) (l4_2 : Int32) (l4_3 : Int32), 0 ≤ l4_2.toInt → 0 ≤ l4_3.toInt → l4_3.toInt ≤ (c0 1).toInt → l4_2.toInt ≤ 1 → l4_2 = WD c0 a0.toInt l4_3.toInt.toNat → ((c0 1).toInt - l4_3.toInt).toNat < fu_ → ∀ (ls : Array Slot) (H : Heap) (locs : List Loc), lv_has ls 4 [(3, .int l4_3), (2, .int l4_2), (0, .ref k), (1, .int a0)] → va_P D vwCl [(k, .inr (11, [.ref k0, .ref k1, .ref k2, .int c3, .ref k4, .ref k5, .ref k6, .ref k7, .ref k8, .int c9, .ref ka, .ref kb, .int cc, .int cd, .int ce, .int cf, .int cg, .int ch, .int ci, .int cj, .int ck, .ref kl, .int cm, .int cn, .ref ko])), (k0, .inl (cI, 1201, .inl c0))] H → va_D A [(k, .inr (11, [.ref k0, .ref k1, .ref k2, .int c3, .ref k4, .ref k5, .ref k6, .ref k7, .ref k8, .int c9, .ref ka, .ref kb, .int cc, .int cd, .int ce, .int cf, .int cg, .int ch, .int ci, .int cj, .int ck, .ref kl, .int cm, .int cn, .ref ko])), (k0, .inl (cI, 1201, .inl c0))] → va_S A s.heap H locs → W p l e ({ frames := 3, cells := 0, slots := 0, locals := 64 } : Room) s m args below meth c H locs 0 0 Q (F0 m 4 ls []) := by
    intro fu_; induction fu_ with
    | zero => intro l4_2 l4_3 i4_0 i4_1 i4_2 i4_3 i4_4 hm; exact absurd hm (by omega)
    | succ fu_ ih4 =>
        intro l4_2 l4_3 i4_0 i4_1 i4_2 i4_3 i4_4 hm ls H locs hl hP hD hS
        have lo_l4_2 := k_lo l4_2
        have hi_l4_2 := k_hi l4_2
        have lo_l4_3 := k_lo l4_3
        have hi_l4_3 := k_hi l4_3
        refine lv_iload_n hx hb dX11_isWired_4 rfl (lv_at hl 0 rfl) ?_
        refine lv_aload_n hx hb dX11_isWired_5 rfl (lv_at hl 2 rfl) ?_
        refine va_get (D := D) (ci := 11) (v := .ref k0) (C := RX11) (T := TX11) (N := 25) hx hb hT giX11 hown hK hP 0 rfl rfl 0 (by decide +kernel) (hT (Cond.fieldLink RX11 9 "DesertWireModel" "s" "[I") mw_1156) (fun _ h9 => h9) rfl dX11_isWired_6 ?_
        refine lv_iconst (v := 1) hx hb dX11_isWired_9 (by decide +kernel) ?_
        refine k_iald (v := (c0 1)) hx hb hK hP 1 0 rfl rfl (k_inl (by decide +kernel)) rfl dX11_isWired_10 ?_
        refine lv_topi (fun v_4 ev_4 => ?_)
        have lo_v_4 := k_lo v_4
        have hi_v_4 := k_hi v_4
        have tv_4 : v_4.toInt = (c0 1).toInt := by rw [ev_4]
        have b_5 : 0 ≤ v_4.toInt ∧ v_4.toInt ≤ 60 := by first | (rw [tv_4]; exact SB.n1 pre0) | exact SB.n1 pre0 | omega
        refine b_icmp_ge hx hb rfl rfl (tgt := 49) dX11_isWired_11 (by decide +kernel) (fun c_6 => ?_) (fun c_6 => ?_)
        · refine lv_iload_n hx hb dX11_isWired_49 rfl (lv_at hl 1 rfl) ?_
          rcases (show l4_2.toInt = 0 ∨ l4_2.toInt = 1 by omega) with h_z | h_z
          · obtain rfl : l4_2 = 0 := k_inj (by rw [zl_0]; omega)
            exact hRet () [0, 1] (Or.inr (⟨rfl, (by unfold wdF; rw [show (c0 1).toInt.toNat = l4_3.toInt.toNat from by omega]; exact i4_4.symm)⟩)) hP hD (by decide +kernel) rfl hS rfl dX11_isWired_50
          · obtain rfl : l4_2 = 1 := k_inj (by rw [zl_1]; omega)
            exact hRet () [0, 1] (Or.inl ⟨rfl, (by unfold wdF; rw [show (c0 1).toInt.toNat = l4_3.toInt.toNat from by omega]; exact i4_4.symm)⟩) hP hD (by decide +kernel) rfl hS rfl dX11_isWired_50
        · refine lv_iload_n hx hb dX11_isWired_14 rfl (lv_at hl 1 rfl) ?_
          refine b_if_ne hx hb rfl (tgt := 37) dX11_isWired_15 (by decide +kernel) (fun c_7 => ?_) (fun c_7 => ?_)
          · refine lv_iconst (v := 1) hx hb dX11_isWired_37 (by decide +kernel) ?_
            refine lv_goto (tgt := 42) hx hb dX11_isWired_38 (by decide +kernel) ?_
            refine lv_istore_n (lv' := [(2, .int 1), (3, .int l4_3), (0, .ref k), (1, .int a0)]) hx hb dX11_isWired_42 rfl hl (by decide +kernel) rfl ?_
            clear hl
            intro ls hl
            obtain ⟨v_8, ev_8⟩ : ∃ y : Int32, y = l4_3 + 1 := ⟨_, rfl⟩
            have tv_8 : v_8.toInt = l4_3.toInt + 1 := by rw [ev_8]; exact k_addv rfl zl_1 (by omega) (by omega)
            refine lv_iinc (v := v_8) (lv' := [(3, .int v_8), (2, .int 1), (0, .ref k), (1, .int a0)]) hx hb dX11_isWired_43 hl (k := 1) rfl (by rw [ev_8]; rfl) (by decide +kernel) rfl ?_
            clear hl
            intro ls hl
            refine lv_goto (tgt := 4) hx hb dX11_isWired_46 (by decide +kernel) ?_
            exact ih4 1 v_8 (by first | omega | (simp only [zl_1]; first | done | omega) | decide | assumption | rfl) (by first | omega | (simp only [zl_1]; first | done | omega) | decide | assumption | rfl) (by first | omega | (simp only [zl_1]; first | done | omega) | decide | assumption | rfl) (by first | omega | (simp only [zl_1]; first | done | omega) | decide | assumption | rfl) (WD_s i4_4 (by omega) (by omega) (Or.inl ⟨by omega, rfl⟩)) (by omega) ls _ _ (lv_sub hl [0, 1, 2, 3] rfl) (hP.sub [0, 1] rfl) (hD.sub [0, 1] (by decide +kernel) rfl) hS
          · refine lv_aload_n hx hb dX11_isWired_18 rfl (lv_at hl 2 rfl) ?_
            refine lv_iload_n hx hb dX11_isWired_19 rfl (lv_at hl 0 rfl) ?_
            refine lv_iconst (v := 1) hx hb dX11_isWired_20 (by decide +kernel) ?_
            refine kJi (wr := []) (va_runV (As := [.int l4_3, .int 1]) (rest := []) ⟨hx, hb, hml, hown, hT⟩ (c_X11_workG1 l D cI aK aV k k0 k1 k2 k4 k5 k6 k7 k8 ka kb kl ko H.size c3 c9 cc cd ce cf cg ch ci cj ck cm cn c0 l4_3 1 (by first | omega | (simp only [zl_1]; first | done | omega) | decide | assumption | rfl) (by first | omega | (simp only [zl_1]; first | done | omega) | decide | assumption | rfl) (by first | omega | (simp only [zl_1]; first | done | omega) | decide | assumption | rfl)) (cwV 2 hT (gV_in mw_1276 mw_1273 mw_1275 mw_p3_12 mw_12) rfl rfl rfl (by decide +kernel) ⟨Nat.le_of_ble_eq_true rfl, Nat.le_of_ble_eq_true rfl⟩) (kRecvX (q0 := 0) (ci := 11) hK hP hD hN hXS hS hA rfl rfl [0, 1] rfl (by decide +kernel)) rfl rfl hl.1 rfl (lv_room (Nat.le_of_ble_eq_true rfl)) dX11_isWired_21 ⟨Nat.le_of_ble_eq_true rfl, Nat.le_of_ble_eq_true rfl⟩) hP hD hS hA [0, 1] [] rfl rfl (by decide +kernel) (by decide +kernel) ?_
            clear hP hD hS
            intro r_9 u_11 H locs w_10 hP hD hS
            replace hP : va_P D vwCl [(k, .inr (11, [.ref k0, .ref k1, .ref k2, .int c3, .ref k4, .ref k5, .ref k6, .ref k7, .ref k8, .int c9, .ref ka, .ref kb, .int cc, .int cd, .int ce, .int cf, .int cg, .int ch, .int ci, .int cj, .int ck, .ref kl, .int cm, .int cn, .ref ko])), (k0, .inl (cI, 1201, .inl c0))] H := hP
            replace hD : va_D A [(k, .inr (11, [.ref k0, .ref k1, .ref k2, .int c3, .ref k4, .ref k5, .ref k6, .ref k7, .ref k8, .int c9, .ref ka, .ref kb, .int cc, .int cd, .int ce, .int cf, .int cg, .int ch, .int ci, .int cj, .int ck, .ref kl, .int cm, .int cn, .ref ko])), (k0, .inl (cI, 1201, .inl c0))] := hD
            have h_12 := w_10
            have h_12 : r_9 = wW c0 l4_3 1 := h_12
            have t_13 : r_9.toInt = (wW c0 l4_3 1).toInt := by rw [h_12]
            have b_14 : 0 ≤ r_9.toInt ∧ r_9.toInt ≤ 39 := by rw [h_12]; exact SB.w1 pre0 (by omega) (by omega)
            have lo_r_9 := k_lo r_9
            have hi_r_9 := k_hi r_9
            refine lv_iload_n hx hb dX11_isWired_24 rfl (lv_at hl 3 rfl) ?_
            refine b_icmp_ne hx hb rfl rfl (tgt := 41) dX11_isWired_25 (by decide +kernel) (fun c_15 => ?_) (fun c_15 => ?_)
            · refine lv_iconst (v := 0) hx hb dX11_isWired_41 (by decide +kernel) ?_
              refine lv_istore_n (lv' := [(2, .int 0), (3, .int l4_3), (0, .ref k), (1, .int a0)]) hx hb dX11_isWired_42 rfl hl (by decide +kernel) rfl ?_
              clear hl
              intro ls hl
              obtain ⟨v_16, ev_16⟩ : ∃ y : Int32, y = l4_3 + 1 := ⟨_, rfl⟩
              have tv_16 : v_16.toInt = l4_3.toInt + 1 := by rw [ev_16]; exact k_addv rfl zl_1 (by omega) (by omega)
              refine lv_iinc (v := v_16) (lv' := [(3, .int v_16), (2, .int 0), (0, .ref k), (1, .int a0)]) hx hb dX11_isWired_43 hl (k := 1) rfl (by rw [ev_16]; rfl) (by decide +kernel) rfl ?_
              clear hl
              intro ls hl
              refine lv_goto (tgt := 4) hx hb dX11_isWired_46 (by decide +kernel) ?_
              exact ih4 0 v_16 (by first | omega | (simp only [zl_0]; first | done | omega) | decide | assumption | rfl) (by first | omega | (simp only [zl_0]; first | done | omega) | decide | assumption | rfl) (by first | omega | (simp only [zl_0]; first | done | omega) | decide | assumption | rfl) (by first | omega | (simp only [zl_0]; first | done | omega) | decide | assumption | rfl) (WD_s i4_4 (by omega) (by omega) (Or.inr (Or.inr (Or.inl ⟨by omega, by rw [← h_12]; omega, rfl⟩)))) (by omega) ls _ _ (lv_sub hl [0, 1, 2, 3] rfl) (hP.sub [0, 1] rfl) (hD.sub [0, 1] (by decide +kernel) rfl) hS
            · refine lv_aload_n hx hb dX11_isWired_28 rfl (lv_at hl 2 rfl) ?_
              refine lv_iload_n hx hb dX11_isWired_29 rfl (lv_at hl 0 rfl) ?_
              refine lv_iconst (v := 1) hx hb dX11_isWired_30 (by decide +kernel) ?_
              refine kJi (wr := []) (va_runV (As := [.int l4_3, .int 1]) (rest := []) ⟨hx, hb, hml, hown, hT⟩ (c_X11_standsG l D cI aK aV k k0 k1 k2 k4 k5 k6 k7 k8 ka kb kl ko H.size c3 c9 cc cd ce cf cg ch ci cj ck cm cn c0 l4_3 1 (by first | omega | (simp only [zl_1]; first | done | omega) | decide | assumption | rfl) (by first | omega | (simp only [zl_1]; first | done | omega) | decide | assumption | rfl) pre0) (cwV 2 hT (gV_in mw_1295 mw_1292 mw_1294 mw_p3_14 mw_12) rfl rfl rfl (by decide +kernel) ⟨Nat.le_of_ble_eq_true rfl, Nat.le_of_ble_eq_true rfl⟩) (kRecvX (q0 := 0) (ci := 11) hK hP hD hN hXS hS hA rfl rfl [0, 1] rfl (by decide +kernel)) rfl rfl hl.1 rfl (lv_room (Nat.le_of_ble_eq_true rfl)) dX11_isWired_31 ⟨Nat.le_of_ble_eq_true rfl, Nat.le_of_ble_eq_true rfl⟩) hP hD hS hA [0, 1] [] rfl rfl (by decide +kernel) (by decide +kernel) ?_
              clear hP hD hS
              intro r_17 u_19 H locs w_18 hP hD hS
              replace hP : va_P D vwCl [(k, .inr (11, [.ref k0, .ref k1, .ref k2, .int c3, .ref k4, .ref k5, .ref k6, .ref k7, .ref k8, .int c9, .ref ka, .ref kb, .int cc, .int cd, .int ce, .int cf, .int cg, .int ch, .int ci, .int cj, .int ck, .ref kl, .int cm, .int cn, .ref ko])), (k0, .inl (cI, 1201, .inl c0))] H := hP
              replace hD : va_D A [(k, .inr (11, [.ref k0, .ref k1, .ref k2, .int c3, .ref k4, .ref k5, .ref k6, .ref k7, .ref k8, .int c9, .ref ka, .ref kb, .int cc, .int cd, .int ce, .int cf, .int cg, .int ch, .int ci, .int cj, .int ck, .ref kl, .int cm, .int cn, .ref ko])), (k0, .inl (cI, 1201, .inl c0))] := hD
              rcases w_18 with ⟨hr_17, h_20⟩ | ⟨hr_17, h_21⟩
              · try simp only [zl_1] at h_20
                have h_20 : stF c0 l4_3 1 = 1 := h_20
                obtain rfl : r_17 = 1 := hr_17.trans (by decide +kernel)
                refine b_if_eq hx hb zl_1 (tgt := 41) dX11_isWired_34 (by decide +kernel) (fun c_22 => by exfalso; omega) (fun c_22 => ?_)
                refine lv_iconst (v := 1) hx hb dX11_isWired_37 (by decide +kernel) ?_
                refine lv_goto (tgt := 42) hx hb dX11_isWired_38 (by decide +kernel) ?_
                refine lv_istore_n (lv' := [(2, .int 1), (3, .int l4_3), (0, .ref k), (1, .int a0)]) hx hb dX11_isWired_42 rfl hl (by decide +kernel) rfl ?_
                clear hl
                intro ls hl
                obtain ⟨v_23, ev_23⟩ : ∃ y : Int32, y = l4_3 + 1 := ⟨_, rfl⟩
                have tv_23 : v_23.toInt = l4_3.toInt + 1 := by rw [ev_23]; exact k_addv rfl zl_1 (by omega) (by omega)
                refine lv_iinc (v := v_23) (lv' := [(3, .int v_23), (2, .int 1), (0, .ref k), (1, .int a0)]) hx hb dX11_isWired_43 hl (k := 1) rfl (by rw [ev_23]; rfl) (by decide +kernel) rfl ?_
                clear hl
                intro ls hl
                refine lv_goto (tgt := 4) hx hb dX11_isWired_46 (by decide +kernel) ?_
                exact ih4 1 v_23 (by first | omega | (simp only [zl_1]; first | done | omega) | decide | assumption | rfl) (by first | omega | (simp only [zl_1]; first | done | omega) | decide | assumption | rfl) (by first | omega | (simp only [zl_1]; first | done | omega) | decide | assumption | rfl) (by first | omega | (simp only [zl_1]; first | done | omega) | decide | assumption | rfl) (WD_s i4_4 (by omega) (by omega) (Or.inr (Or.inl ⟨by omega, by rw [← h_12]; omega, h_20, rfl⟩))) (by omega) ls _ _ (lv_sub hl [0, 1, 2, 3] rfl) (hP.sub [0, 1] rfl) (hD.sub [0, 1] (by decide +kernel) rfl) hS
              · try simp only [zl_1] at h_21
                have h_21 : stF c0 l4_3 1 = 0 := h_21
                obtain rfl : r_17 = 0 := hr_17.trans (by decide +kernel)
                refine b_if_eq hx hb zl_0 (tgt := 41) dX11_isWired_34 (by decide +kernel) (fun c_24 => ?_) (fun c_24 => by exfalso; omega)
                refine lv_iconst (v := 0) hx hb dX11_isWired_41 (by decide +kernel) ?_
                refine lv_istore_n (lv' := [(2, .int 0), (3, .int l4_3), (0, .ref k), (1, .int a0)]) hx hb dX11_isWired_42 rfl hl (by decide +kernel) rfl ?_
                clear hl
                intro ls hl
                obtain ⟨v_25, ev_25⟩ : ∃ y : Int32, y = l4_3 + 1 := ⟨_, rfl⟩
                have tv_25 : v_25.toInt = l4_3.toInt + 1 := by rw [ev_25]; exact k_addv rfl zl_1 (by omega) (by omega)
                refine lv_iinc (v := v_25) (lv' := [(3, .int v_25), (2, .int 0), (0, .ref k), (1, .int a0)]) hx hb dX11_isWired_43 hl (k := 1) rfl (by rw [ev_25]; rfl) (by decide +kernel) rfl ?_
                clear hl
                intro ls hl
                refine lv_goto (tgt := 4) hx hb dX11_isWired_46 (by decide +kernel) ?_
                exact ih4 0 v_25 (by first | omega | (simp only [zl_0]; first | done | omega) | decide | assumption | rfl) (by first | omega | (simp only [zl_0]; first | done | omega) | decide | assumption | rfl) (by first | omega | (simp only [zl_0]; first | done | omega) | decide | assumption | rfl) (by first | omega | (simp only [zl_0]; first | done | omega) | decide | assumption | rfl) (WD_s i4_4 (by omega) (by omega) (Or.inr (Or.inr (Or.inr ⟨by omega, h_21, rfl⟩)))) (by omega) ls _ _ (lv_sub hl [0, 1, 2, 3] rfl) (hP.sub [0, 1] rfl) (hD.sub [0, 1] (by decide +kernel) rfl) hS
  exact hloop_4 _ 0 0 (by first | omega | (simp only [zl_0]; first | done | omega) | decide | assumption | rfl) (by first | omega | (simp only [zl_0]; first | done | omega) | decide | assumption | rfl) (by first | omega | (simp only [zl_0]; first | done | omega) | decide | assumption | rfl) (by first | omega | (simp only [zl_0]; first | done | omega) | decide | assumption | rfl) (by rw [zl_0]; rfl) (Nat.lt_succ_self _) ls _ _ (lv_sub hl [0, 1, 2, 3] rfl) hP hD hS
theorem bn_cX11_wired_0 : BN cX11_wired 0 0x15a1c74401500201a147a610201402a802820029a300056e1d158703401518a4221d1f0107a04 := by
  unfold BN; decide +kernel
theorem dX11_wired_0 : decode cX11_wired 0 = .ok (.iconst 0, 1) := dR0 (k := 0) (i := 0) bn_cX11_wired_0 dop_3 (by decide +kernel)
theorem dX11_wired_1 : decode cX11_wired 1 = .ok (.istore_n 1, 1) := dR0 (k := 0) (i := 1) bn_cX11_wired_0 dop_60 (by decide +kernel)
theorem dX11_wired_2 : decode cX11_wired 2 = .ok (.iconst 0, 1) := dR0 (k := 0) (i := 2) bn_cX11_wired_0 dop_3 (by decide +kernel)
theorem dX11_wired_3 : decode cX11_wired 3 = .ok (.istore_n 2, 1) := dR0 (k := 0) (i := 3) bn_cX11_wired_0 dop_61 (by decide +kernel)
theorem dX11_wired_4 : decode cX11_wired 4 = .ok (.iload_n 2, 1) := dR0 (k := 0) (i := 4) bn_cX11_wired_0 dop_28 (by decide +kernel)
theorem dX11_wired_5 : decode cX11_wired 5 = .ok (.bipush 40, 2) := dR1s (f := Instr.bipush) (k := 0) (i := 5) bn_cX11_wired_0 dop_16 40 40 (by decide +kernel)
theorem dX11_wired_7 : decode cX11_wired 7 = .ok (.if_icmp .ge 25, 3) := dR2s (f := Instr.if_icmp .ge) (k := 0) (i := 7) bn_cX11_wired_0 dop_162 25 25 (by decide +kernel)
theorem dX11_wired_10 : decode cX11_wired 10 = .ok (.iload_n 1, 1) := dR0 (k := 0) (i := 10) bn_cX11_wired_0 dop_27 (by decide +kernel)
theorem dX11_wired_11 : decode cX11_wired 11 = .ok (.aload_n 0, 1) := dR0 (k := 0) (i := 11) bn_cX11_wired_0 dop_42 (by decide +kernel)
theorem dX11_wired_12 : decode cX11_wired 12 = .ok (.iload_n 2, 1) := dR0 (k := 0) (i := 12) bn_cX11_wired_0 dop_28 (by decide +kernel)
theorem dX11_wired_13 : decode cX11_wired 13 = .ok (.invokevirtual 95, 3) := dR2 (f := Instr.invokevirtual) (k := 0) (i := 13) bn_cX11_wired_0 dop_182 95 (by decide +kernel)
theorem dX11_wired_16 : decode cX11_wired 16 = .ok (.ifCond .eq 7, 3) := dR2s (f := Instr.ifCond .eq) (k := 0) (i := 16) bn_cX11_wired_0 dop_153 7 7 (by decide +kernel)
theorem dX11_wired_19 : decode cX11_wired 19 = .ok (.iconst 1, 1) := dR0 (k := 0) (i := 19) bn_cX11_wired_0 dop_4 (by decide +kernel)
theorem dX11_wired_20 : decode cX11_wired 20 = .ok (.goto 4, 3) := dR2s (f := Instr.goto) (k := 0) (i := 20) bn_cX11_wired_0 dop_167 4 4 (by decide +kernel)
theorem dX11_wired_23 : decode cX11_wired 23 = .ok (.iconst 0, 1) := dR0 (k := 0) (i := 23) bn_cX11_wired_0 dop_3 (by decide +kernel)
theorem dX11_wired_24 : decode cX11_wired 24 = .ok (.iadd, 1) := dR0 (k := 0) (i := 24) bn_cX11_wired_0 dop_96 (by decide +kernel)
theorem dX11_wired_25 : decode cX11_wired 25 = .ok (.istore_n 1, 1) := dR0 (k := 0) (i := 25) bn_cX11_wired_0 dop_60 (by decide +kernel)
theorem dX11_wired_26 : decode cX11_wired 26 = .ok (.iinc 2 1, 3) := dRii (f := Instr.iinc) (k := 0) (i := 26) bn_cX11_wired_0 dop_132 2 1 1 (by decide +kernel)
theorem dX11_wired_29 : decode cX11_wired 29 = .ok (.goto (-25), 3) := dR2s (f := Instr.goto) (k := 0) (i := 29) bn_cX11_wired_0 dop_167 65511 (-25) (by decide +kernel)
theorem dX11_wired_32 : decode cX11_wired 32 = .ok (.iload_n 1, 1) := dR0 (k := 0) (i := 32) bn_cX11_wired_0 dop_27 (by decide +kernel)
theorem dX11_wired_33 : decode cX11_wired 33 = .ok (.ireturn, 1) := dR0 (k := 0) (i := 33) bn_cX11_wired_0 dop_172 (by decide +kernel)
set_option maxHeartbeats 4000000 in
set_option maxRecDepth 100000 in
theorem c_X11_wiredG (l : Launch) (D : va_G) (cI : ClassId) (aK aV : Nat → Nat) (k k0 k1 k2 k4 k5 k6 k7 k8 ka kb kl ko : Nat) (sz : Nat) (c3 : Int32) (c9 : Int32) (cc : Int32) (cd : Int32) (ce : Int32) (cf : Int32) (cg : Int32) (ch : Int32) (ci : Int32) (cj : Int32) (ck : Int32) (cm : Int32) (cn : Int32) (c0 : Nat → Int32) (pre0 : SB c0) : Met l yX11_wired (gW yX11_wired cX11_wired 3 (some .int)) ({ frames := 4, cells := 0, slots := 0, locals := 87 } : Room) (kPreX D cI aK aV [.ref k] [(k, .inr (11, [.ref k0, .ref k1, .ref k2, .int c3, .ref k4, .ref k5, .ref k6, .ref k7, .ref k8, .int c9, .ref ka, .ref kb, .int cc, .int cd, .int ce, .int cf, .int cg, .int ch, .int ci, .int cj, .int ck, .ref kl, .int cm, .int cn, .ref ko])), (k0, .inl (cI, 1201, .inl c0))] sz) (va_Qi (fun (r : Int32) (u : Unit) => r = wmN c0 40) (fun u t => kWd D cI (va_A [(k, .inr (11, [.ref k0, .ref k1, .ref k2, .int c3, .ref k4, .ref k5, .ref k6, .ref k7, .ref k8, .int c9, .ref ka, .ref kb, .int cc, .int cd, .int ce, .int cf, .int cg, .int ch, .int ci, .int cj, .int ck, .ref kl, .int cm, .int cn, .ref ko])), (k0, .inl (cI, 1201, .inl c0))] sz) [(k, .inr (11, [.ref k0, .ref k1, .ref k2, .int c3, .ref k4, .ref k5, .ref k6, .ref k7, .ref k8, .int c9, .ref ka, .ref kb, .int cc, .int cd, .int ce, .int cf, .int cg, .int ch, .int ci, .int cj, .int ck, .ref kl, .int cm, .int cn, .ref ko])), (k0, .inl (cI, 1201, .inl c0))] t) (va_A [(k, .inr (11, [.ref k0, .ref k1, .ref k2, .int c3, .ref k4, .ref k5, .ref k6, .ref k7, .ref k8, .int c9, .ref ka, .ref kb, .int cc, .int cd, .int ce, .int cf, .int cg, .int ch, .int ci, .int cj, .int ck, .ref kl, .int cm, .int cn, .ref ko])), (k0, .inl (cI, 1201, .inl c0))] sz)) 0 0 (va_A [(k, .inr (11, [.ref k0, .ref k1, .ref k2, .int c3, .ref k4, .ref k5, .ref k6, .ref k7, .ref k8, .int c9, .ref ka, .ref kb, .int cc, .int cd, .int ce, .int cf, .int cg, .int ch, .int ci, .int cj, .int ck, .ref kl, .int cm, .int cn, .ref ko])), (k0, .inl (cI, 1201, .inl c0))] sz) := by
  refine kMetIX (own := RX11) (by decide +kernel) rfl (Nat.le_of_ble_eq_true rfl) ?_
  intro p e s m args below meth c hx hb hT hown hname hml A Q hK hP hD hS hA hN hXS hRet ls hl
  have hl : lv_has ls 3 [(0, .ref k)] := hl
  have lo_ci := k_lo ci
  have hi_ci := k_hi ci
  have pre0 : SB c0 := pre0
  have nb_1 : 0 ≤ (c0 0).toInt ∧ (c0 0).toInt ≤ 2000 := SB.n0 pre0
  have nb_2 : 0 ≤ (c0 1).toInt ∧ (c0 1).toInt ≤ 60 := SB.n1 pre0
  have nb_3 : 0 ≤ (c0 2).toInt ∧ (c0 2).toInt ≤ 4 := SB.n2 pre0
  refine lv_iconst (v := 0) hx hb dX11_wired_0 (by decide +kernel) ?_
  refine lv_istore_n (lv' := [(1, .int 0), (0, .ref k)]) hx hb dX11_wired_1 rfl hl (by decide +kernel) rfl ?_
  clear hl
  intro ls hl
  refine lv_iconst (v := 0) hx hb dX11_wired_2 (by decide +kernel) ?_
  refine lv_istore_n (lv' := [(2, .int 0), (1, .int 0), (0, .ref k)]) hx hb dX11_wired_3 rfl hl (by decide +kernel) rfl ?_
  clear hl
  intro ls hl
  have hloop_4 : ∀ (fu_ : Nat) (l4_1 : Int32) (l4_2 : Int32), 0 ≤ l4_2.toInt → l4_2.toInt ≤ 40 → 0 ≤ l4_2.toInt → l4_1 = wmN c0 l4_2.toInt.toNat → (40 - l4_2.toInt).toNat < fu_ → ∀ (ls : Array Slot) (H : Heap) (locs : List Loc), lv_has ls 3 [(2, .int l4_2), (1, .int l4_1), (0, .ref k)] → va_P D vwCl [(k, .inr (11, [.ref k0, .ref k1, .ref k2, .int c3, .ref k4, .ref k5, .ref k6, .ref k7, .ref k8, .int c9, .ref ka, .ref kb, .int cc, .int cd, .int ce, .int cf, .int cg, .int ch, .int ci, .int cj, .int ck, .ref kl, .int cm, .int cn, .ref ko])), (k0, .inl (cI, 1201, .inl c0))] H → va_D A [(k, .inr (11, [.ref k0, .ref k1, .ref k2, .int c3, .ref k4, .ref k5, .ref k6, .ref k7, .ref k8, .int c9, .ref ka, .ref kb, .int cc, .int cd, .int ce, .int cf, .int cg, .int ch, .int ci, .int cj, .int ck, .ref kl, .int cm, .int cn, .ref ko])), (k0, .inl (cI, 1201, .inl c0))] → va_S A s.heap H locs → W p l e ({ frames := 4, cells := 0, slots := 0, locals := 87 } : Room) s m args below meth c H locs 0 0 Q (F0 m 4 ls []) := by
    intro fu_; induction fu_ with
    | zero => intro l4_1 l4_2 i4_0 i4_1 i4_2 i4_3 hm; exact absurd hm (by omega)
    | succ fu_ ih4 =>
        intro l4_1 l4_2 i4_0 i4_1 i4_2 i4_3 hm ls H locs hl hP hD hS
        have lo_l4_1 := k_lo l4_1
        have hi_l4_1 := k_hi l4_1
        have lo_l4_2 := k_lo l4_2
        have hi_l4_2 := k_hi l4_2
        have i4_3 : l4_1 = wmN c0 l4_2.toInt.toNat := i4_3
        refine lv_iload_n hx hb dX11_wired_4 rfl (lv_at hl 0 rfl) ?_
        refine lv_bipush (v := 40) hx hb dX11_wired_5 (by decide +kernel) ?_
        refine b_icmp_ge hx hb rfl zl_40 (tgt := 32) dX11_wired_7 (by decide +kernel) (fun c_4 => ?_) (fun c_4 => ?_)
        · refine lv_iload_n hx hb dX11_wired_32 rfl (lv_at hl 1 rfl) ?_
          exact hRet () [0, 1] (by rw [i4_3, show l4_2.toInt.toNat = 40 from by omega]) hP hD (by decide +kernel) rfl hS rfl dX11_wired_33
        · refine lv_iload_n hx hb dX11_wired_10 rfl (lv_at hl 1 rfl) ?_
          refine lv_aload_n hx hb dX11_wired_11 rfl (lv_at hl 2 rfl) ?_
          refine lv_iload_n hx hb dX11_wired_12 rfl (lv_at hl 0 rfl) ?_
          refine kJi (wr := []) (va_runV (As := [.int l4_2]) (rest := [.int l4_1]) ⟨hx, hb, hml, hown, hT⟩ (c_X11_isWiredG l D cI aK aV k k0 k1 k2 k4 k5 k6 k7 k8 ka kb kl ko H.size c3 c9 cc cd ce cf cg ch ci cj ck cm cn c0 l4_2 pre0) (cwV 1 hT (gV_in mw_1368 mw_1365 mw_1367 mw_p4_13 mw_12) rfl rfl rfl (by decide +kernel) ⟨Nat.le_of_ble_eq_true rfl, Nat.le_of_ble_eq_true rfl⟩) (kRecvX (q0 := 0) (ci := 11) hK hP hD hN hXS hS hA rfl rfl [0, 1] rfl (by decide +kernel)) rfl rfl hl.1 rfl (lv_room (Nat.le_of_ble_eq_true rfl)) dX11_wired_13 ⟨Nat.le_of_ble_eq_true rfl, Nat.le_of_ble_eq_true rfl⟩) hP hD hS hA [0, 1] [] rfl rfl (by decide +kernel) (by decide +kernel) ?_
          clear hP hD hS
          intro r_5 u_7 H locs w_6 hP hD hS
          replace hP : va_P D vwCl [(k, .inr (11, [.ref k0, .ref k1, .ref k2, .int c3, .ref k4, .ref k5, .ref k6, .ref k7, .ref k8, .int c9, .ref ka, .ref kb, .int cc, .int cd, .int ce, .int cf, .int cg, .int ch, .int ci, .int cj, .int ck, .ref kl, .int cm, .int cn, .ref ko])), (k0, .inl (cI, 1201, .inl c0))] H := hP
          replace hD : va_D A [(k, .inr (11, [.ref k0, .ref k1, .ref k2, .int c3, .ref k4, .ref k5, .ref k6, .ref k7, .ref k8, .int c9, .ref ka, .ref kb, .int cc, .int cd, .int ce, .int cf, .int cg, .int ch, .int ci, .int cj, .int ck, .ref kl, .int cm, .int cn, .ref ko])), (k0, .inl (cI, 1201, .inl c0))] := hD
          rcases w_6 with ⟨hr_5, h_8⟩ | ⟨hr_5, h_9⟩
          · have h_8 : wdF c0 l4_2.toInt = 1 := h_8
            have h_8 : wdF c0 l4_2.toInt = 1 := h_8
            obtain rfl : r_5 = 1 := hr_5.trans (by decide +kernel)
            refine b_if_eq hx hb zl_1 (tgt := 23) dX11_wired_16 (by decide +kernel) (fun c_10 => by exfalso; omega) (fun c_10 => ?_)
            refine lv_iconst (v := 1) hx hb dX11_wired_19 (by decide +kernel) ?_
            refine lv_goto (tgt := 24) hx hb dX11_wired_20 (by decide +kernel) ?_
            refine lv_iadd hx hb dX11_wired_24 ?_
            refine lv_topi (fun v_11 ev_11 => ?_)
            have lo_v_11 := k_lo v_11
            have hi_v_11 := k_hi v_11
            refine lv_istore_n (lv' := [(1, .int v_11), (2, .int l4_2), (0, .ref k)]) hx hb dX11_wired_25 rfl hl (by decide +kernel) rfl ?_
            clear hl
            intro ls hl
            obtain ⟨v_12, ev_12⟩ : ∃ y : Int32, y = l4_2 + 1 := ⟨_, rfl⟩
            have tv_12 : v_12.toInt = l4_2.toInt + 1 := by rw [ev_12]; exact k_addv rfl zl_1 (by omega) (by omega)
            refine lv_iinc (v := v_12) (lv' := [(2, .int v_12), (1, .int v_11), (0, .ref k)]) hx hb dX11_wired_26 hl (k := 1) rfl (by rw [ev_12]; rfl) (by decide +kernel) rfl ?_
            clear hl
            intro ls hl
            refine lv_goto (tgt := 4) hx hb dX11_wired_29 (by decide +kernel) ?_
            exact ih4 v_11 v_12 (by first | omega | decide | assumption | rfl) (by first | omega | decide | assumption | rfl) (by first | omega | decide | assumption | rfl) (wmN_y i4_3 (by omega) (by omega) h_8 ev_11) (by omega) ls _ _ (lv_sub hl [0, 1, 2] rfl) (hP.sub [0, 1] rfl) (hD.sub [0, 1] (by decide +kernel) rfl) hS
          · have h_9 : wdF c0 l4_2.toInt = 0 := h_9
            have h_9 : wdF c0 l4_2.toInt = 0 := h_9
            obtain rfl : r_5 = 0 := hr_5.trans (by decide +kernel)
            refine b_if_eq hx hb zl_0 (tgt := 23) dX11_wired_16 (by decide +kernel) (fun c_13 => ?_) (fun c_13 => by exfalso; omega)
            refine lv_iconst (v := 0) hx hb dX11_wired_23 (by decide +kernel) ?_
            refine lv_iadd hx hb dX11_wired_24 ?_
            refine lv_topi (fun v_14 ev_14 => ?_)
            have tv_14 : v_14.toInt = l4_1.toInt + 0 := by rw [ev_14]; exact k_addv rfl zl_0 (by omega) (by omega)
            refine lv_istore_n (lv' := [(1, .int v_14), (2, .int l4_2), (0, .ref k)]) hx hb dX11_wired_25 rfl hl (by decide +kernel) rfl ?_
            clear hl
            intro ls hl
            obtain ⟨v_15, ev_15⟩ : ∃ y : Int32, y = l4_2 + 1 := ⟨_, rfl⟩
            have tv_15 : v_15.toInt = l4_2.toInt + 1 := by rw [ev_15]; exact k_addv rfl zl_1 (by omega) (by omega)
            refine lv_iinc (v := v_15) (lv' := [(2, .int v_15), (1, .int v_14), (0, .ref k)]) hx hb dX11_wired_26 hl (k := 1) rfl (by rw [ev_15]; rfl) (by decide +kernel) rfl ?_
            clear hl
            intro ls hl
            refine lv_goto (tgt := 4) hx hb dX11_wired_29 (by decide +kernel) ?_
            exact ih4 v_14 v_15 (by first | omega | decide | assumption | rfl) (by first | omega | decide | assumption | rfl) (by first | omega | decide | assumption | rfl) (wm_n0 i4_3 (by omega) (by omega) h_9 ev_14) (by omega) ls _ _ (lv_sub hl [0, 1, 2] rfl) (hP.sub [0, 1] rfl) (hD.sub [0, 1] (by decide +kernel) rfl) hS
  exact hloop_4 _ 0 0 (by first | omega | (simp only [zl_0]; first | done | omega) | decide | assumption | rfl) (by first | omega | (simp only [zl_0]; first | done | omega) | decide | assumption | rfl) (by first | omega | (simp only [zl_0]; first | done | omega) | decide | assumption | rfl) (by rw [zl_0]; rfl) (Nat.lt_succ_self _) ls _ _ (lv_sub hl [0, 1, 2] rfl) hP hD hS
