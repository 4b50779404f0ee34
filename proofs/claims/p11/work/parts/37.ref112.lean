theorem dX11_rateIs_0 : decode cX11_rateIs 0 = .ok (.aload_n 0, 1) := by decide +kernel
theorem dX11_rateIs_1 : decode cX11_rateIs 1 = .ok (.getfield 9, 3) := by decide +kernel
theorem dX11_rateIs_4 : decode cX11_rateIs 4 = .ok (.sipush 495, 3) := by decide +kernel
theorem dX11_rateIs_7 : decode cX11_rateIs 7 = .ok (.bipush 53, 2) := by decide +kernel
theorem dX11_rateIs_9 : decode cX11_rateIs 9 = .ok (.iload_n 1, 1) := by decide +kernel
theorem dX11_rateIs_10 : decode cX11_rateIs 10 = .ok (.imul, 1) := by decide +kernel
theorem dX11_rateIs_11 : decode cX11_rateIs 11 = .ok (.iadd, 1) := by decide +kernel
theorem dX11_rateIs_12 : decode cX11_rateIs 12 = .ok (.iload_n 2, 1) := by decide +kernel
theorem dX11_rateIs_13 : decode cX11_rateIs 13 = .ok (.iadd, 1) := by decide +kernel
theorem dX11_rateIs_14 : decode cX11_rateIs 14 = .ok (.iaload, 1) := by decide +kernel
theorem dX11_rateIs_15 : decode cX11_rateIs 15 = .ok (.ireturn, 1) := by decide +kernel
set_option maxHeartbeats 4000000 in
set_option maxRecDepth 100000 in
theorem c_X11_rateIsG2 (l : Launch) (D : va_G) (cI : ClassId) (aK aV : Nat → Nat) (k k0 k1 k2 k4 k5 k6 k7 k8 ka kb kl ko : Nat) (sz : Nat) (c3 : Int32) (c9 : Int32) (cc : Int32) (cd : Int32) (ce : Int32) (cf : Int32) (cg : Int32) (ch : Int32) (ci : Int32) (cj : Int32) (ck : Int32) (cm : Int32) (cn : Int32) (c0 : Nat → Int32) (a0 : Int32) (a1 : Int32) (pre0 : SB c0) (pre1 : 0 ≤ a0.toInt) (pre2 : a0.toInt ≤ 11) (pre3 : a1 = 2) : Met l yX11_rateIs (gW yX11_rateIs cX11_rateIs 3 (some .int)) ({ frames := 0, cells := 0, slots := 0, locals := 0 } : Room) (kPreX D cI aK aV [.ref k, .int a0, .int 2] [(k, .inr (11, [.ref k0, .ref k1, .ref k2, .int c3, .ref k4, .ref k5, .ref k6, .ref k7, .ref k8, .int c9, .ref ka, .ref kb, .int cc, .int cd, .int ce, .int cf, .int cg, .int ch, .int ci, .int cj, .int ck, .ref kl, .int cm, .int cn, .ref ko])), (k0, .inl (cI, 1201, .inl c0))] sz) (va_Qi (fun (r : Int32) (u : Unit) => 0 ≤ r.toInt ∧ r.toInt ≤ 50) (fun u t => kWd D cI (va_A [(k, .inr (11, [.ref k0, .ref k1, .ref k2, .int c3, .ref k4, .ref k5, .ref k6, .ref k7, .ref k8, .int c9, .ref ka, .ref kb, .int cc, .int cd, .int ce, .int cf, .int cg, .int ch, .int ci, .int cj, .int ck, .ref kl, .int cm, .int cn, .ref ko])), (k0, .inl (cI, 1201, .inl c0))] sz) [(k, .inr (11, [.ref k0, .ref k1, .ref k2, .int c3, .ref k4, .ref k5, .ref k6, .ref k7, .ref k8, .int c9, .ref ka, .ref kb, .int cc, .int cd, .int ce, .int cf, .int cg, .int ch, .int ci, .int cj, .int ck, .ref kl, .int cm, .int cn, .ref ko])), (k0, .inl (cI, 1201, .inl c0))] t) (va_A [(k, .inr (11, [.ref k0, .ref k1, .ref k2, .int c3, .ref k4, .ref k5, .ref k6, .ref k7, .ref k8, .int c9, .ref ka, .ref kb, .int cc, .int cd, .int ce, .int cf, .int cg, .int ch, .int ci, .int cj, .int ck, .ref kl, .int cm, .int cn, .ref ko])), (k0, .inl (cI, 1201, .inl c0))] sz)) 0 0 (va_A [(k, .inr (11, [.ref k0, .ref k1, .ref k2, .int c3, .ref k4, .ref k5, .ref k6, .ref k7, .ref k8, .int c9, .ref ka, .ref kb, .int cc, .int cd, .int ce, .int cf, .int cg, .int ch, .int ci, .int cj, .int ck, .ref kl, .int cm, .int cn, .ref ko])), (k0, .inl (cI, 1201, .inl c0))] sz) := by
  refine kMetIX (own := RX11) (by decide) rfl (Nat.le_of_ble_eq_true rfl) ?_
  intro p e s m args below meth c hx hb hT hown hname hml A Q hK hP hD hS hA hN hXS hRet ls hl
  subst pre3
  have hl : lv_has ls 3 [(0, .ref k), (1, .int a0), (2, .int 2)] := hl
  have lo_a0 := k_lo a0
  have hi_a0 := k_hi a0
  have lo_ci := k_lo ci
  have hi_ci := k_hi ci
  have pre0 : SB c0 := pre0
  have nb_1 : 0 ≤ (c0 0).toInt ∧ (c0 0).toInt ≤ 2000 := SB.n0 pre0
  have nb_2 : 0 ≤ (c0 1).toInt ∧ (c0 1).toInt ≤ 60 := SB.n1 pre0
  have nb_3 : 0 ≤ (c0 2).toInt ∧ (c0 2).toInt ≤ 4 := SB.n2 pre0
  refine lv_aload_n hx hb dX11_rateIs_0 rfl (lv_at hl 0 rfl) ?_
  refine va_get (D := D) (ci := 11) (v := .ref k0) (C := RX11) (T := TX11) (N := 25) hx hb hT giX11 hown hK hP 0 rfl rfl 0 (by decide) (hT (Cond.fieldLink RX11 9 "DesertWireModel" "s" "[I") mw_1156) (fun _ h9 => h9) rfl dX11_rateIs_1 ?_
  refine lv_sipush (v := 495) hx hb dX11_rateIs_4 (by decide) ?_
  refine lv_bipush (v := 53) hx hb dX11_rateIs_7 (by decide) ?_
  refine lv_iload_n hx hb dX11_rateIs_9 rfl (lv_at hl 1 rfl) ?_
  refine lv_imul hx hb dX11_rateIs_10 ?_
  refine lv_topi (fun v_4 ev_4 => ?_)
  have tv_4 : v_4.toInt = 53 * a0.toInt := by rw [ev_4]; exact k_mulv zl_53 rfl (by omega) (by omega)
  refine lv_iadd hx hb dX11_rateIs_11 ?_
  refine lv_topi (fun v_5 ev_5 => ?_)
  have tv_5 : v_5.toInt = 495 + v_4.toInt := by rw [ev_5]; exact k_addv zl_495 rfl (by omega) (by omega)
  refine lv_iload_n hx hb dX11_rateIs_12 rfl (lv_at hl 2 rfl) ?_
  refine lv_iadd hx hb dX11_rateIs_13 ?_
  refine lv_topi (fun v_6 ev_6 => ?_)
  have tv_6 : v_6.toInt = v_5.toInt + 2 := by rw [ev_6]; exact k_addv rfl zl_2 (by omega) (by omega)
  refine k_iald (v := (c0 v_6.toNatClampNeg)) hx hb hK hP 1 0 rfl rfl (k_in (by omega) (by omega)) rfl dX11_rateIs_14 ?_
  refine lv_topi (fun v_7 ev_7 => ?_)
  have lo_v_7 := k_lo v_7
  have hi_v_7 := k_hi v_7
  have tv_7 : v_7.toInt = (c0 v_6.toNatClampNeg).toInt := by rw [ev_7]
  exact hRet () [0, 1] ⟨(SB.rs pre0 (r := a0) (by omega) (by omega) ev_7 (by omega)).1, (SB.rs pre0 (r := a0) (by omega) (by omega) ev_7 (by omega)).2⟩ hP hD (by decide) rfl hS rfl dX11_rateIs_15

set_option maxHeartbeats 4000000 in
set_option maxRecDepth 100000 in
theorem c_X11_rateIsG0 (l : Launch) (D : va_G) (cI : ClassId) (aK aV : Nat → Nat) (k k0 k1 k2 k4 k5 k6 k7 k8 ka kb kl ko : Nat) (sz : Nat) (c3 : Int32) (c9 : Int32) (cc : Int32) (cd : Int32) (ce : Int32) (cf : Int32) (cg : Int32) (ch : Int32) (ci : Int32) (cj : Int32) (ck : Int32) (cm : Int32) (cn : Int32) (c0 : Nat → Int32) (a0 : Int32) (a1 : Int32) (pre0 : 0 ≤ a0.toInt) (pre1 : a0.toInt ≤ 11) (pre2 : a1 = 0) : Met l yX11_rateIs (gW yX11_rateIs cX11_rateIs 3 (some .int)) ({ frames := 0, cells := 0, slots := 0, locals := 0 } : Room) (kPreX D cI aK aV [.ref k, .int a0, .int 0] [(k, .inr (11, [.ref k0, .ref k1, .ref k2, .int c3, .ref k4, .ref k5, .ref k6, .ref k7, .ref k8, .int c9, .ref ka, .ref kb, .int cc, .int cd, .int ce, .int cf, .int cg, .int ch, .int ci, .int cj, .int ck, .ref kl, .int cm, .int cn, .ref ko])), (k0, .inl (cI, 1201, .inl c0))] sz) (va_Qi (fun (r : Int32) (u : Unit) => True) (fun u t => kWd D cI (va_A [(k, .inr (11, [.ref k0, .ref k1, .ref k2, .int c3, .ref k4, .ref k5, .ref k6, .ref k7, .ref k8, .int c9, .ref ka, .ref kb, .int cc, .int cd, .int ce, .int cf, .int cg, .int ch, .int ci, .int cj, .int ck, .ref kl, .int cm, .int cn, .ref ko])), (k0, .inl (cI, 1201, .inl c0))] sz) [(k, .inr (11, [.ref k0, .ref k1, .ref k2, .int c3, .ref k4, .ref k5, .ref k6, .ref k7, .ref k8, .int c9, .ref ka, .ref kb, .int cc, .int cd, .int ce, .int cf, .int cg, .int ch, .int ci, .int cj, .int ck, .ref kl, .int cm, .int cn, .ref ko])), (k0, .inl (cI, 1201, .inl c0))] t) (va_A [(k, .inr (11, [.ref k0, .ref k1, .ref k2, .int c3, .ref k4, .ref k5, .ref k6, .ref k7, .ref k8, .int c9, .ref ka, .ref kb, .int cc, .int cd, .int ce, .int cf, .int cg, .int ch, .int ci, .int cj, .int ck, .ref kl, .int cm, .int cn, .ref ko])), (k0, .inl (cI, 1201, .inl c0))] sz)) 0 0 (va_A [(k, .inr (11, [.ref k0, .ref k1, .ref k2, .int c3, .ref k4, .ref k5, .ref k6, .ref k7, .ref k8, .int c9, .ref ka, .ref kb, .int cc, .int cd, .int ce, .int cf, .int cg, .int ch, .int ci, .int cj, .int ck, .ref kl, .int cm, .int cn, .ref ko])), (k0, .inl (cI, 1201, .inl c0))] sz) := by
  refine kMetIX (own := RX11) (by decide) rfl (Nat.le_of_ble_eq_true rfl) ?_
  intro p e s m args below meth c hx hb hT hown hname hml A Q hK hP hD hS hA hN hXS hRet ls hl
  subst pre2
  have hl : lv_has ls 3 [(0, .ref k), (1, .int a0), (2, .int 0)] := hl
  have lo_a0 := k_lo a0
  have hi_a0 := k_hi a0
  have lo_ci := k_lo ci
  have hi_ci := k_hi ci
  refine lv_aload_n hx hb dX11_rateIs_0 rfl (lv_at hl 0 rfl) ?_
  refine va_get (D := D) (ci := 11) (v := .ref k0) (C := RX11) (T := TX11) (N := 25) hx hb hT giX11 hown hK hP 0 rfl rfl 0 (by decide) (hT (Cond.fieldLink RX11 9 "DesertWireModel" "s" "[I") mw_1156) (fun _ h9 => h9) rfl dX11_rateIs_1 ?_
  refine lv_sipush (v := 495) hx hb dX11_rateIs_4 (by decide) ?_
  refine lv_bipush (v := 53) hx hb dX11_rateIs_7 (by decide) ?_
  refine lv_iload_n hx hb dX11_rateIs_9 rfl (lv_at hl 1 rfl) ?_
  refine lv_imul hx hb dX11_rateIs_10 ?_
  refine lv_topi (fun v_1 ev_1 => ?_)
  have tv_1 : v_1.toInt = 53 * a0.toInt := by rw [ev_1]; exact k_mulv zl_53 rfl (by omega) (by omega)
  refine lv_iadd hx hb dX11_rateIs_11 ?_
  refine lv_topi (fun v_2 ev_2 => ?_)
  have tv_2 : v_2.toInt = 495 + v_1.toInt := by rw [ev_2]; exact k_addv zl_495 rfl (by omega) (by omega)
  refine lv_iload_n hx hb dX11_rateIs_12 rfl (lv_at hl 2 rfl) ?_
  refine lv_iadd hx hb dX11_rateIs_13 ?_
  refine lv_topi (fun v_3 ev_3 => ?_)
  have tv_3 : v_3.toInt = v_2.toInt + 0 := by rw [ev_3]; exact k_addv rfl zl_0 (by omega) (by omega)
  refine k_iald (v := (c0 v_3.toNatClampNeg)) hx hb hK hP 1 0 rfl rfl (k_in (by omega) (by omega)) rfl dX11_rateIs_14 ?_
  refine lv_topi (fun v_4 ev_4 => ?_)
  have lo_v_4 := k_lo v_4
  have hi_v_4 := k_hi v_4
  have tv_4 : v_4.toInt = (c0 v_3.toNatClampNeg).toInt := by rw [ev_4]
  exact hRet () [0, 1] trivial hP hD (by decide) rfl hS rfl dX11_rateIs_15

set_option maxHeartbeats 4000000 in
set_option maxRecDepth 100000 in
theorem c_X11_rateIsG1 (l : Launch) (D : va_G) (cI : ClassId) (aK aV : Nat → Nat) (k k0 k1 k2 k4 k5 k6 k7 k8 ka kb kl ko : Nat) (sz : Nat) (c3 : Int32) (c9 : Int32) (cc : Int32) (cd : Int32) (ce : Int32) (cf : Int32) (cg : Int32) (ch : Int32) (ci : Int32) (cj : Int32) (ck : Int32) (cm : Int32) (cn : Int32) (c0 : Nat → Int32) (a0 : Int32) (a1 : Int32) (pre0 : 0 ≤ a0.toInt) (pre1 : a0.toInt ≤ 11) (pre2 : a1 = 1) : Met l yX11_rateIs (gW yX11_rateIs cX11_rateIs 3 (some .int)) ({ frames := 0, cells := 0, slots := 0, locals := 0 } : Room) (kPreX D cI aK aV [.ref k, .int a0, .int 1] [(k, .inr (11, [.ref k0, .ref k1, .ref k2, .int c3, .ref k4, .ref k5, .ref k6, .ref k7, .ref k8, .int c9, .ref ka, .ref kb, .int cc, .int cd, .int ce, .int cf, .int cg, .int ch, .int ci, .int cj, .int ck, .ref kl, .int cm, .int cn, .ref ko])), (k0, .inl (cI, 1201, .inl c0))] sz) (va_Qi (fun (r : Int32) (u : Unit) => True) (fun u t => kWd D cI (va_A [(k, .inr (11, [.ref k0, .ref k1, .ref k2, .int c3, .ref k4, .ref k5, .ref k6, .ref k7, .ref k8, .int c9, .ref ka, .ref kb, .int cc, .int cd, .int ce, .int cf, .int cg, .int ch, .int ci, .int cj, .int ck, .ref kl, .int cm, .int cn, .ref ko])), (k0, .inl (cI, 1201, .inl c0))] sz) [(k, .inr (11, [.ref k0, .ref k1, .ref k2, .int c3, .ref k4, .ref k5, .ref k6, .ref k7, .ref k8, .int c9, .ref ka, .ref kb, .int cc, .int cd, .int ce, .int cf, .int cg, .int ch, .int ci, .int cj, .int ck, .ref kl, .int cm, .int cn, .ref ko])), (k0, .inl (cI, 1201, .inl c0))] t) (va_A [(k, .inr (11, [.ref k0, .ref k1, .ref k2, .int c3, .ref k4, .ref k5, .ref k6, .ref k7, .ref k8, .int c9, .ref ka, .ref kb, .int cc, .int cd, .int ce, .int cf, .int cg, .int ch, .int ci, .int cj, .int ck, .ref kl, .int cm, .int cn, .ref ko])), (k0, .inl (cI, 1201, .inl c0))] sz)) 0 0 (va_A [(k, .inr (11, [.ref k0, .ref k1, .ref k2, .int c3, .ref k4, .ref k5, .ref k6, .ref k7, .ref k8, .int c9, .ref ka, .ref kb, .int cc, .int cd, .int ce, .int cf, .int cg, .int ch, .int ci, .int cj, .int ck, .ref kl, .int cm, .int cn, .ref ko])), (k0, .inl (cI, 1201, .inl c0))] sz) := by
  refine kMetIX (own := RX11) (by decide) rfl (Nat.le_of_ble_eq_true rfl) ?_
  intro p e s m args below meth c hx hb hT hown hname hml A Q hK hP hD hS hA hN hXS hRet ls hl
  subst pre2
  have hl : lv_has ls 3 [(0, .ref k), (1, .int a0), (2, .int 1)] := hl
  have lo_a0 := k_lo a0
  have hi_a0 := k_hi a0
  have lo_ci := k_lo ci
  have hi_ci := k_hi ci
  refine lv_aload_n hx hb dX11_rateIs_0 rfl (lv_at hl 0 rfl) ?_
  refine va_get (D := D) (ci := 11) (v := .ref k0) (C := RX11) (T := TX11) (N := 25) hx hb hT giX11 hown hK hP 0 rfl rfl 0 (by decide) (hT (Cond.fieldLink RX11 9 "DesertWireModel" "s" "[I") mw_1156) (fun _ h9 => h9) rfl dX11_rateIs_1 ?_
  refine lv_sipush (v := 495) hx hb dX11_rateIs_4 (by decide) ?_
  refine lv_bipush (v := 53) hx hb dX11_rateIs_7 (by decide) ?_
  refine lv_iload_n hx hb dX11_rateIs_9 rfl (lv_at hl 1 rfl) ?_
  refine lv_imul hx hb dX11_rateIs_10 ?_
  refine lv_topi (fun v_1 ev_1 => ?_)
  have tv_1 : v_1.toInt = 53 * a0.toInt := by rw [ev_1]; exact k_mulv zl_53 rfl (by omega) (by omega)
  refine lv_iadd hx hb dX11_rateIs_11 ?_
  refine lv_topi (fun v_2 ev_2 => ?_)
  have tv_2 : v_2.toInt = 495 + v_1.toInt := by rw [ev_2]; exact k_addv zl_495 rfl (by omega) (by omega)
  refine lv_iload_n hx hb dX11_rateIs_12 rfl (lv_at hl 2 rfl) ?_
  refine lv_iadd hx hb dX11_rateIs_13 ?_
  refine lv_topi (fun v_3 ev_3 => ?_)
  have tv_3 : v_3.toInt = v_2.toInt + 1 := by rw [ev_3]; exact k_addv rfl zl_1 (by omega) (by omega)
  refine k_iald (v := (c0 v_3.toNatClampNeg)) hx hb hK hP 1 0 rfl rfl (k_in (by omega) (by omega)) rfl dX11_rateIs_14 ?_
  refine lv_topi (fun v_4 ev_4 => ?_)
  have lo_v_4 := k_lo v_4
  have hi_v_4 := k_hi v_4
  have tv_4 : v_4.toInt = (c0 v_3.toNatClampNeg).toInt := by rw [ev_4]
  exact hRet () [0, 1] trivial hP hD (by decide) rfl hS rfl dX11_rateIs_15
theorem dX11_inForce_0 : decode cX11_inForce 0 = .ok (.iconst (-1), 1) := by decide +kernel
theorem dX11_inForce_1 : decode cX11_inForce 1 = .ok (.istore_n 3, 1) := by decide +kernel
theorem dX11_inForce_2 : decode cX11_inForce 2 = .ok (.iconst 0, 1) := by decide +kernel
theorem dX11_inForce_3 : decode cX11_inForce 3 = .ok (.istore 4, 2) := by decide +kernel
theorem dX11_inForce_5 : decode cX11_inForce 5 = .ok (.iload 4, 2) := by decide +kernel
theorem dX11_inForce_7 : decode cX11_inForce 7 = .ok (.aload_n 0, 1) := by decide +kernel
theorem dX11_inForce_8 : decode cX11_inForce 8 = .ok (.getfield 9, 3) := by decide +kernel
theorem dX11_inForce_11 : decode cX11_inForce 11 = .ok (.iconst 3, 1) := by decide +kernel
theorem dX11_inForce_12 : decode cX11_inForce 12 = .ok (.iaload, 1) := by decide +kernel
theorem dX11_inForce_13 : decode cX11_inForce 13 = .ok (.if_icmp .ge 38, 3) := by decide +kernel
theorem dX11_inForce_16 : decode cX11_inForce 16 = .ok (.aload_n 0, 1) := by decide +kernel
theorem dX11_inForce_17 : decode cX11_inForce 17 = .ok (.iload 4, 2) := by decide +kernel
theorem dX11_inForce_19 : decode cX11_inForce 19 = .ok (.iconst 0, 1) := by decide +kernel
theorem dX11_inForce_20 : decode cX11_inForce 20 = .ok (.invokevirtual 208, 3) := by decide +kernel
theorem dX11_inForce_23 : decode cX11_inForce 23 = .ok (.iload_n 1, 1) := by decide +kernel
theorem dX11_inForce_24 : decode cX11_inForce 24 = .ok (.if_icmp .ne 19, 3) := by decide +kernel
theorem dX11_inForce_27 : decode cX11_inForce 27 = .ok (.aload_n 0, 1) := by decide +kernel
theorem dX11_inForce_28 : decode cX11_inForce 28 = .ok (.iload 4, 2) := by decide +kernel
theorem dX11_inForce_30 : decode cX11_inForce 30 = .ok (.iconst 1, 1) := by decide +kernel
theorem dX11_inForce_31 : decode cX11_inForce 31 = .ok (.invokevirtual 208, 3) := by decide +kernel
theorem dX11_inForce_34 : decode cX11_inForce 34 = .ok (.iload_n 2, 1) := by decide +kernel
theorem dX11_inForce_35 : decode cX11_inForce 35 = .ok (.if_icmp .gt 8, 3) := by decide +kernel
theorem dX11_inForce_38 : decode cX11_inForce 38 = .ok (.iload 4, 2) := by decide +kernel
theorem dX11_inForce_40 : decode cX11_inForce 40 = .ok (.goto 4, 3) := by decide +kernel
theorem dX11_inForce_43 : decode cX11_inForce 43 = .ok (.iload_n 3, 1) := by decide +kernel
theorem dX11_inForce_44 : decode cX11_inForce 44 = .ok (.istore_n 3, 1) := by decide +kernel
theorem dX11_inForce_45 : decode cX11_inForce 45 = .ok (.iinc 4 1, 3) := by decide +kernel
theorem dX11_inForce_48 : decode cX11_inForce 48 = .ok (.goto (-43), 3) := by decide +kernel
theorem dX11_inForce_51 : decode cX11_inForce 51 = .ok (.iload_n 3, 1) := by decide +kernel
theorem dX11_inForce_52 : decode cX11_inForce 52 = .ok (.ireturn, 1) := by decide +kernel
set_option maxHeartbeats 4000000 in
set_option maxRecDepth 100000 in
theorem c_X11_inForceG (l : Launch) (D : va_G) (cI : ClassId) (aK aV : Nat → Nat) (k k0 k1 k2 k4 k5 k6 k7 k8 ka kb kl ko : Nat) (sz : Nat) (c3 : Int32) (c9 : Int32) (cc : Int32) (cd : Int32) (ce : Int32) (cf : Int32) (cg : Int32) (ch : Int32) (ci : Int32) (cj : Int32) (ck : Int32) (cm : Int32) (cn : Int32) (c0 : Nat → Int32) (a0 : Int32) (a1 : Int32) (pre0 : SB c0) : Met l yX11_inForce (gW yX11_inForce cX11_inForce 5 (some .int)) ({ frames := 1, cells := 0, slots := 0, locals := 22 } : Room) (kPreX D cI aK aV [.ref k, .int a0, .int a1] [(k, .inr (11, [.ref k0, .ref k1, .ref k2, .int c3, .ref k4, .ref k5, .ref k6, .ref k7, .ref k8, .int c9, .ref ka, .ref kb, .int cc, .int cd, .int ce, .int cf, .int cg, .int ch, .int ci, .int cj, .int ck, .ref kl, .int cm, .int cn, .ref ko])), (k0, .inl (cI, 1201, .inl c0))] sz) (va_Qi (fun (r : Int32) (u : Unit) => -1 ≤ r.toInt ∧ r.toInt ≤ 11) (fun u t => kWd D cI (va_A [(k, .inr (11, [.ref k0, .ref k1, .ref k2, .int c3, .ref k4, .ref k5, .ref k6, .ref k7, .ref k8, .int c9, .ref ka, .ref kb, .int cc, .int cd, .int ce, .int cf, .int cg, .int ch, .int ci, .int cj, .int ck, .ref kl, .int cm, .int cn, .ref ko])), (k0, .inl (cI, 1201, .inl c0))] sz) [(k, .inr (11, [.ref k0, .ref k1, .ref k2, .int c3, .ref k4, .ref k5, .ref k6, .ref k7, .ref k8, .int c9, .ref ka, .ref kb, .int cc, .int cd, .int ce, .int cf, .int cg, .int ch, .int ci, .int cj, .int ck, .ref kl, .int cm, .int cn, .ref ko])), (k0, .inl (cI, 1201, .inl c0))] t) (va_A [(k, .inr (11, [.ref k0, .ref k1, .ref k2, .int c3, .ref k4, .ref k5, .ref k6, .ref k7, .ref k8, .int c9, .ref ka, .ref kb, .int cc, .int cd, .int ce, .int cf, .int cg, .int ch, .int ci, .int cj, .int ck, .ref kl, .int cm, .int cn, .ref ko])), (k0, .inl (cI, 1201, .inl c0))] sz)) 0 0 (va_A [(k, .inr (11, [.ref k0, .ref k1, .ref k2, .int c3, .ref k4, .ref k5, .ref k6, .ref k7, .ref k8, .int c9, .ref ka, .ref kb, .int cc, .int cd, .int ce, .int cf, .int cg, .int ch, .int ci, .int cj, .int ck, .ref kl, .int cm, .int cn, .ref ko])), (k0, .inl (cI, 1201, .inl c0))] sz) := by
  refine kMetIX (own := RX11) (by decide) rfl (Nat.le_of_ble_eq_true rfl) ?_
  intro p e s m args below meth c hx hb hT hown hname hml A Q hK hP hD hS hA hN hXS hRet ls hl
  have hl : lv_has ls 5 [(0, .ref k), (1, .int a0), (2, .int a1)] := hl
  have lo_a0 := k_lo a0
  have hi_a0 := k_hi a0
  have lo_a1 := k_lo a1
  have hi_a1 := k_hi a1
  have lo_ci := k_lo ci
  have hi_ci := k_hi ci
  have pre0 : SB c0 := pre0
  have nb_1 : 0 ≤ (c0 0).toInt ∧ (c0 0).toInt ≤ 2000 := SB.n0 pre0
  have nb_2 : 0 ≤ (c0 1).toInt ∧ (c0 1).toInt ≤ 60 := SB.n1 pre0
  have nb_3 : 0 ≤ (c0 2).toInt ∧ (c0 2).toInt ≤ 4 := SB.n2 pre0
  refine lv_iconst (v := (-1)) hx hb dX11_inForce_0 (by decide) ?_
  refine lv_istore_n (lv' := [(3, .int (-1)), (0, .ref k), (1, .int a0), (2, .int a1)]) hx hb dX11_inForce_1 rfl hl (by decide) rfl ?_
  clear hl
  intro ls hl
  refine lv_iconst (v := 0) hx hb dX11_inForce_2 (by decide) ?_
  refine lv_istore (lv' := [(4, .int 0), (3, .int (-1)), (0, .ref k), (1, .int a0), (2, .int a1)]) hx hb dX11_inForce_3 hl (by decide) rfl ?_
  clear hl
  intro ls hl
  have hloop_5 : ∀ (fu_ : Nat) (l5_3 : Int32) (l5_4 : Int32), (-1) ≤ l5_3.toInt → 0 ≤ l5_4.toInt → l5_3.toInt ≤ 11 → ((c0 3).toInt - l5_4.toInt).toNat < fu_ → ∀ (ls : Array Slot) (H : Heap) (locs : List Loc), lv_has ls 5 [(4, .int l5_4), (3, .int l5_3), (0, .ref k), (1, .int a0), (2, .int a1)] → va_P D vwCl [(k, .inr (11, [.ref k0, .ref k1, .ref k2, .int c3, .ref k4, .ref k5, .ref k6, .ref k7, .ref k8, .int c9, .ref ka, .ref kb, .int cc, .int cd, .int ce, .int cf, .int cg, .int ch, .int ci, .int cj, .int ck, .ref kl, .int cm, .int cn, .ref ko])), (k0, .inl (cI, 1201, .inl c0))] H → va_D A [(k, .inr (11, [.ref k0, .ref k1, .ref k2, .int c3, .ref k4, .ref k5, .ref k6, .ref k7, .ref k8, .int c9, .ref ka, .ref kb, .int cc, .int cd, .int ce, .int cf, .int cg, .int ch, .int ci, .int cj, .int ck, .ref kl, .int cm, .int cn, .ref ko])), (k0, .inl (cI, 1201, .inl c0))] → va_S A s.heap H locs → W p l e ({ frames := 1, cells := 0, slots := 0, locals := 22 } : Room) s m args below meth c H locs 0 0 Q (F0 m 5 ls []) := by
    intro fu_; induction fu_ with
    | zero => intro l5_3 l5_4 i5_0 i5_1 i5_2 hm; exact absurd hm (by omega)
    | succ fu_ ih5 =>
        intro l5_3 l5_4 i5_0 i5_1 i5_2 hm ls H locs hl hP hD hS
        have lo_l5_3 := k_lo l5_3
        have hi_l5_3 := k_hi l5_3
        have lo_l5_4 := k_lo l5_4
        have hi_l5_4 := k_hi l5_4
        refine lv_iload hx hb dX11_inForce_5 (lv_at hl 0 rfl) ?_
        refine lv_aload_n hx hb dX11_inForce_7 rfl (lv_at hl 2 rfl) ?_
        refine va_get (D := D) (ci := 11) (v := .ref k0) (C := RX11) (T := TX11) (N := 25) hx hb hT giX11 hown hK hP 0 rfl rfl 0 (by decide) (hT (Cond.fieldLink RX11 9 "DesertWireModel" "s" "[I") mw_1156) (fun _ h9 => h9) rfl dX11_inForce_8 ?_
        refine lv_iconst (v := 3) hx hb dX11_inForce_11 (by decide) ?_
        refine k_iald (v := (c0 3)) hx hb hK hP 1 0 rfl rfl (k_inl (by decide)) rfl dX11_inForce_12 ?_
        refine lv_topi (fun v_4 ev_4 => ?_)
        have lo_v_4 := k_lo v_4
        have hi_v_4 := k_hi v_4
        have tv_4 : v_4.toInt = (c0 3).toInt := by rw [ev_4]
        have b_5 : 0 ≤ v_4.toInt ∧ v_4.toInt ≤ 12 := by first | (rw [tv_4]; exact SB.n3 pre0) | exact SB.n3 pre0 | omega
        refine b_icmp_ge hx hb rfl rfl (tgt := 51) dX11_inForce_13 (by decide) (fun c_6 => ?_) (fun c_6 => ?_)
        · refine lv_iload_n hx hb dX11_inForce_51 rfl (lv_at hl 1 rfl) ?_
          exact hRet () [0, 1] ⟨(by first | omega | decide | assumption | rfl), (by first | omega | decide | assumption | rfl)⟩ hP hD (by decide) rfl hS rfl dX11_inForce_52
        · refine lv_aload_n hx hb dX11_inForce_16 rfl (lv_at hl 2 rfl) ?_
          refine lv_iload hx hb dX11_inForce_17 (lv_at hl 0 rfl) ?_
          refine lv_iconst (v := 0) hx hb dX11_inForce_19 (by decide) ?_
          refine kJi (wr := []) (va_runV (As := [.int l5_4, .int 0]) (rest := []) ⟨hx, hb, hml, hown, hT⟩ (c_X11_rateIsG0 l D cI aK aV k k0 k1 k2 k4 k5 k6 k7 k8 ka kb kl ko H.size c3 c9 cc cd ce cf cg ch ci cj ck cm cn c0 l5_4 0 (by first | omega | (simp only [zl_0] <;> omega) | decide | assumption | rfl) (by first | omega | (simp only [zl_0] <;> omega) | decide | assumption | rfl) (by first | omega | (simp only [zl_0] <;> omega) | decide | assumption | rfl)) (cwV 2 hT (gV_in mw_1307 mw_1304 mw_1306 mw_p4_1 mw_12) rfl rfl rfl (by decide +kernel) ⟨Nat.le_of_ble_eq_true rfl, Nat.le_of_ble_eq_true rfl⟩) (kRecvX (q0 := 0) (ci := 11) hK hP hD hN hXS hS hA rfl rfl [0, 1] rfl (by decide)) rfl rfl hl.1 rfl (lv_room (Nat.le_of_ble_eq_true rfl)) dX11_inForce_20 ⟨Nat.le_of_ble_eq_true rfl, Nat.le_of_ble_eq_true rfl⟩) hP hD hS hA [0, 1] [] rfl rfl (by decide) (by decide) ?_
          clear hP hD hS
          intro r_7 u_9 H locs w_8 hP hD hS
          replace hP : va_P D vwCl [(k, .inr (11, [.ref k0, .ref k1, .ref k2, .int c3, .ref k4, .ref k5, .ref k6, .ref k7, .ref k8, .int c9, .ref ka, .ref kb, .int cc, .int cd, .int ce, .int cf, .int cg, .int ch, .int ci, .int cj, .int ck, .ref kl, .int cm, .int cn, .ref ko])), (k0, .inl (cI, 1201, .inl c0))] H := hP
          replace hD : va_D A [(k, .inr (11, [.ref k0, .ref k1, .ref k2, .int c3, .ref k4, .ref k5, .ref k6, .ref k7, .ref k8, .int c9, .ref ka, .ref kb, .int cc, .int cd, .int ce, .int cf, .int cg, .int ch, .int ci, .int cj, .int ck, .ref kl, .int cm, .int cn, .ref ko])), (k0, .inl (cI, 1201, .inl c0))] := hD
          have lo_r_7 := k_lo r_7
          have hi_r_7 := k_hi r_7
          refine lv_iload_n hx hb dX11_inForce_23 rfl (lv_at hl 3 rfl) ?_
          refine b_icmp_ne hx hb rfl rfl (tgt := 43) dX11_inForce_24 (by decide) (fun c_10 => ?_) (fun c_10 => ?_)
          · refine lv_iload_n hx hb dX11_inForce_43 rfl (lv_at hl 1 rfl) ?_
            refine lv_istore_n (lv' := [(3, .int l5_3), (4, .int l5_4), (0, .ref k), (1, .int a0), (2, .int a1)]) hx hb dX11_inForce_44 rfl hl (by decide) rfl ?_
            clear hl
            intro ls hl
            obtain ⟨v_11, ev_11⟩ : ∃ y : Int32, y = l5_4 + 1 := ⟨_, rfl⟩
            have tv_11 : v_11.toInt = l5_4.toInt + 1 := by rw [ev_11]; exact k_addv rfl zl_1 (by omega) (by omega)
            refine lv_iinc (v := v_11) (lv' := [(4, .int v_11), (3, .int l5_3), (0, .ref k), (1, .int a0), (2, .int a1)]) hx hb dX11_inForce_45 hl (k := 1) rfl (by rw [ev_11]; rfl) (by decide) rfl ?_
            clear hl
            intro ls hl
            refine lv_goto (tgt := 5) hx hb dX11_inForce_48 (by decide) ?_
            exact ih5 l5_3 v_11 (by first | omega | decide | assumption | rfl) (by first | omega | decide | assumption | rfl) (by first | omega | decide | assumption | rfl) (by omega) ls _ _ (lv_sub hl [0, 1, 2, 3, 4] rfl) (hP.sub [0, 1] rfl) (hD.sub [0, 1] (by decide) rfl) hS
          · refine lv_aload_n hx hb dX11_inForce_27 rfl (lv_at hl 2 rfl) ?_
            refine lv_iload hx hb dX11_inForce_28 (lv_at hl 0 rfl) ?_
            refine lv_iconst (v := 1) hx hb dX11_inForce_30 (by decide) ?_
            refine kJi (wr := []) (va_runV (As := [.int l5_4, .int 1]) (rest := []) ⟨hx, hb, hml, hown, hT⟩ (c_X11_rateIsG1 l D cI aK aV k k0 k1 k2 k4 k5 k6 k7 k8 ka kb kl ko H.size c3 c9 cc cd ce cf cg ch ci cj ck cm cn c0 l5_4 1 (by first | omega | (simp only [zl_1] <;> omega) | decide | assumption | rfl) (by first | omega | (simp only [zl_1] <;> omega) | decide | assumption | rfl) (by first | omega | (simp only [zl_1] <;> omega) | decide | assumption | rfl)) (cwV 2 hT (gV_in mw_1307 mw_1304 mw_1306 mw_p4_1 mw_12) rfl rfl rfl (by decide +kernel) ⟨Nat.le_of_ble_eq_true rfl, Nat.le_of_ble_eq_true rfl⟩) (kRecvX (q0 := 0) (ci := 11) hK hP hD hN hXS hS hA rfl rfl [0, 1] rfl (by decide)) rfl rfl hl.1 rfl (lv_room (Nat.le_of_ble_eq_true rfl)) dX11_inForce_31 ⟨Nat.le_of_ble_eq_true rfl, Nat.le_of_ble_eq_true rfl⟩) hP hD hS hA [0, 1] [] rfl rfl (by decide) (by decide) ?_
            clear hP hD hS
            intro r_12 u_14 H locs w_13 hP hD hS
            replace hP : va_P D vwCl [(k, .inr (11, [.ref k0, .ref k1, .ref k2, .int c3, .ref k4, .ref k5, .ref k6, .ref k7, .ref k8, .int c9, .ref ka, .ref kb, .int cc, .int cd, .int ce, .int cf, .int cg, .int ch, .int ci, .int cj, .int ck, .ref kl, .int cm, .int cn, .ref ko])), (k0, .inl (cI, 1201, .inl c0))] H := hP
            replace hD : va_D A [(k, .inr (11, [.ref k0, .ref k1, .ref k2, .int c3, .ref k4, .ref k5, .ref k6, .ref k7, .ref k8, .int c9, .ref ka, .ref kb, .int cc, .int cd, .int ce, .int cf, .int cg, .int ch, .int ci, .int cj, .int ck, .ref kl, .int cm, .int cn, .ref ko])), (k0, .inl (cI, 1201, .inl c0))] := hD
            have lo_r_12 := k_lo r_12
            have hi_r_12 := k_hi r_12
            refine lv_iload_n hx hb dX11_inForce_34 rfl (lv_at hl 4 rfl) ?_
            refine b_icmp_gt hx hb rfl rfl (tgt := 43) dX11_inForce_35 (by decide) (fun c_15 => ?_) (fun c_15 => ?_)
            · refine lv_iload_n hx hb dX11_inForce_43 rfl (lv_at hl 1 rfl) ?_
              refine lv_istore_n (lv' := [(3, .int l5_3), (4, .int l5_4), (0, .ref k), (1, .int a0), (2, .int a1)]) hx hb dX11_inForce_44 rfl hl (by decide) rfl ?_
              clear hl
              intro ls hl
              obtain ⟨v_16, ev_16⟩ : ∃ y : Int32, y = l5_4 + 1 := ⟨_, rfl⟩
              have tv_16 : v_16.toInt = l5_4.toInt + 1 := by rw [ev_16]; exact k_addv rfl zl_1 (by omega) (by omega)
              refine lv_iinc (v := v_16) (lv' := [(4, .int v_16), (3, .int l5_3), (0, .ref k), (1, .int a0), (2, .int a1)]) hx hb dX11_inForce_45 hl (k := 1) rfl (by rw [ev_16]; rfl) (by decide) rfl ?_
              clear hl
              intro ls hl
              refine lv_goto (tgt := 5) hx hb dX11_inForce_48 (by decide) ?_
              exact ih5 l5_3 v_16 (by first | omega | decide | assumption | rfl) (by first | omega | decide | assumption | rfl) (by first | omega | decide | assumption | rfl) (by omega) ls _ _ (lv_sub hl [0, 1, 2, 3, 4] rfl) (hP.sub [0, 1] rfl) (hD.sub [0, 1] (by decide) rfl) hS
            · refine lv_iload hx hb dX11_inForce_38 (lv_at hl 0 rfl) ?_
              refine lv_goto (tgt := 44) hx hb dX11_inForce_40 (by decide) ?_
              refine lv_istore_n (lv' := [(3, .int l5_4), (4, .int l5_4), (0, .ref k), (1, .int a0), (2, .int a1)]) hx hb dX11_inForce_44 rfl hl (by decide) rfl ?_
              clear hl
              intro ls hl
              obtain ⟨v_17, ev_17⟩ : ∃ y : Int32, y = l5_4 + 1 := ⟨_, rfl⟩
              have tv_17 : v_17.toInt = l5_4.toInt + 1 := by rw [ev_17]; exact k_addv rfl zl_1 (by omega) (by omega)
              refine lv_iinc (v := v_17) (lv' := [(4, .int v_17), (3, .int l5_4), (0, .ref k), (1, .int a0), (2, .int a1)]) hx hb dX11_inForce_45 hl (k := 1) rfl (by rw [ev_17]; rfl) (by decide) rfl ?_
              clear hl
              intro ls hl
              refine lv_goto (tgt := 5) hx hb dX11_inForce_48 (by decide) ?_
              exact ih5 l5_4 v_17 (by first | omega | decide | assumption | rfl) (by first | omega | decide | assumption | rfl) (by first | omega | decide | assumption | rfl) (by omega) ls _ _ (lv_sub hl [0, 1, 2, 3, 4] rfl) (hP.sub [0, 1] rfl) (hD.sub [0, 1] (by decide) rfl) hS
  exact hloop_5 _ (-1) 0 (by first | omega | (simp only [zl_m1, zl_0] <;> omega) | decide | assumption | rfl) (by first | omega | (simp only [zl_m1, zl_0] <;> omega) | decide | assumption | rfl) (by first | omega | (simp only [zl_m1, zl_0] <;> omega) | decide | assumption | rfl) (Nat.lt_succ_self _) ls _ _ (lv_sub hl [0, 1, 2, 3, 4] rfl) hP hD hS
theorem dX11_force_0 : decode cX11_force 0 = .ok (.iload_n 1, 1) := by decide +kernel
theorem dX11_force_1 : decode cX11_force 1 = .ok (.invokestatic 198, 3) := by decide +kernel
theorem dX11_force_4 : decode cX11_force 4 = .ok (.ifCond .eq 10, 3) := by decide +kernel
theorem dX11_force_7 : decode cX11_force 7 = .ok (.iload_n 2, 1) := by decide +kernel
theorem dX11_force_8 : decode cX11_force 8 = .ok (.invokestatic 201, 3) := by decide +kernel
theorem dX11_force_11 : decode cX11_force 11 = .ok (.ifCond .ne 10, 3) := by decide +kernel
theorem dX11_force_14 : decode cX11_force 14 = .ok (.aload_n 0, 1) := by decide +kernel
theorem dX11_force_15 : decode cX11_force 15 = .ok (.ldc 63, 2) := by decide +kernel
theorem dX11_force_17 : decode cX11_force 17 = .ok (.invokevirtual 64, 3) := by decide +kernel
theorem dX11_force_20 : decode cX11_force 20 = .ok (.ireturn, 1) := by decide +kernel
theorem dX11_force_21 : decode cX11_force 21 = .ok (.aload_n 0, 1) := by decide +kernel
theorem dX11_force_22 : decode cX11_force 22 = .ok (.iload_n 1, 1) := by decide +kernel
theorem dX11_force_23 : decode cX11_force 23 = .ok (.iload_n 2, 1) := by decide +kernel
theorem dX11_force_24 : decode cX11_force 24 = .ok (.invokevirtual 211, 3) := by decide +kernel
theorem dX11_force_27 : decode cX11_force 27 = .ok (.istore_n 3, 1) := by decide +kernel
theorem dX11_force_28 : decode cX11_force 28 = .ok (.iload_n 3, 1) := by decide +kernel
theorem dX11_force_29 : decode cX11_force 29 = .ok (.ifCond .ge 12, 3) := by decide +kernel
theorem dX11_force_32 : decode cX11_force 32 = .ok (.aload_n 0, 1) := by decide +kernel
theorem dX11_force_33 : decode cX11_force 33 = .ok (.ldc 114, 2) := by decide +kernel
theorem dX11_force_35 : decode cX11_force 35 = .ok (.invokevirtual 64, 3) := by decide +kernel
theorem dX11_force_38 : decode cX11_force 38 = .ok (.goto 4, 3) := by decide +kernel
theorem dX11_force_41 : decode cX11_force 41 = .ok (.iload_n 3, 1) := by decide +kernel
theorem dX11_force_42 : decode cX11_force 42 = .ok (.ireturn, 1) := by decide +kernel
set_option maxHeartbeats 4000000 in
set_option maxRecDepth 100000 in
theorem c_X11_forceG (l : Launch) (D : va_G) (cI : ClassId) (aK aV : Nat → Nat) (k k0 k1 k2 k4 k5 k6 k7 k8 ka kb kl ko : Nat) (sz : Nat) (c3 : Int32) (c9 : Int32) (cc : Int32) (cd : Int32) (ce : Int32) (cf : Int32) (cg : Int32) (ch : Int32) (ci : Int32) (cj : Int32) (ck : Int32) (cm : Int32) (cn : Int32) (c0 : Nat → Int32) (c4 : Nat → Int32) (a0 : Int32) (a1 : Int32) (pre0 : SB c0) : Met l yX11_force (gW yX11_force cX11_force 4 (some .int)) ({ frames := 2, cells := 0, slots := 0, locals := 46 } : Room) (kPreX D cI aK aV [.ref k, .int a0, .int a1] [(k, .inr (11, [.ref k0, .ref k1, .ref k2, .int c3, .ref k4, .ref k5, .ref k6, .ref k7, .ref k8, .int c9, .ref ka, .ref kb, .int cc, .int cd, .int ce, .int cf, .int cg, .int ch, .int ci, .int cj, .int ck, .ref kl, .int cm, .int cn, .ref ko])), (k0, .inl (cI, 1201, .inl c0)), (k4, .inl (cI, 6, .inl c4))] sz) (va_Qi (fun (r : Int32) (u : (Nat → Int32)) => True) (fun u t => kWd D cI (va_A [(k, .inr (11, [.ref k0, .ref k1, .ref k2, .int c3, .ref k4, .ref k5, .ref k6, .ref k7, .ref k8, .int c9, .ref ka, .ref kb, .int cc, .int cd, .int ce, .int cf, .int cg, .int ch, .int ci, .int cj, .int ck, .ref kl, .int cm, .int cn, .ref ko])), (k0, .inl (cI, 1201, .inl c0)), (k4, .inl (cI, 6, .inl c4))] sz) [(k, .inr (11, [.ref k0, .ref k1, .ref k2, .int c3, .ref k4, .ref k5, .ref k6, .ref k7, .ref k8, .int c9, .ref ka, .ref kb, .int cc, .int cd, .int ce, .int cf, .int cg, .int ch, .int ci, .int cj, .int ck, .ref kl, .int cm, .int cn, .ref ko])), (k0, .inl (cI, 1201, .inl c0)), (k4, .inl (cI, 6, .inl u))] t) (va_A [(k, .inr (11, [.ref k0, .ref k1, .ref k2, .int c3, .ref k4, .ref k5, .ref k6, .ref k7, .ref k8, .int c9, .ref ka, .ref kb, .int cc, .int cd, .int ce, .int cf, .int cg, .int ch, .int ci, .int cj, .int ck, .ref kl, .int cm, .int cn, .ref ko])), (k0, .inl (cI, 1201, .inl c0)), (k4, .inl (cI, 6, .inl c4))] sz)) 0 0 (va_A [(k, .inr (11, [.ref k0, .ref k1, .ref k2, .int c3, .ref k4, .ref k5, .ref k6, .ref k7, .ref k8, .int c9, .ref ka, .ref kb, .int cc, .int cd, .int ce, .int cf, .int cg, .int ch, .int ci, .int cj, .int ck, .ref kl, .int cm, .int cn, .ref ko])), (k0, .inl (cI, 1201, .inl c0)), (k4, .inl (cI, 6, .inl c4))] sz) := by
  refine kMetIX (own := RX11) (by decide) rfl (Nat.le_of_ble_eq_true rfl) ?_
  intro p e s m args below meth c hx hb hT hown hname hml A Q hK hP hD hS hA hN hXS hRet ls hl
  have hl : lv_has ls 4 [(0, .ref k), (1, .int a0), (2, .int a1)] := hl
  have lo_a0 := k_lo a0
  have hi_a0 := k_hi a0
  have lo_a1 := k_lo a1
  have hi_a1 := k_hi a1
  have lo_ci := k_lo ci
  have hi_ci := k_hi ci
  have pre0 : SB c0 := pre0
  have nb_1 : 0 ≤ (c0 0).toInt ∧ (c0 0).toInt ≤ 2000 := SB.n0 pre0
  have nb_2 : 0 ≤ (c0 1).toInt ∧ (c0 1).toInt ≤ 60 := SB.n1 pre0
  have nb_3 : 0 ≤ (c0 2).toInt ∧ (c0 2).toInt ≤ 4 := SB.n2 pre0
  refine lv_iload_n hx hb dX11_force_0 rfl (lv_at hl 1 rfl) ?_
  refine kJi (wr := [(k, .inr (11, [.ref k0, .ref k1, .ref k2, .int c3, .ref k4, .ref k5, .ref k6, .ref k7, .ref k8, .int c9, .ref ka, .ref kb, .int cc, .int cd, .int ce, .int cf, .int cg, .int ch, .int ci, .int cj, .int ck, .ref kl, .int cm, .int cn, .ref ko])), (k0, .inl (cI, 1201, .inl c0)), (k4, .inl (cI, 6, .inl c4))]) (va_runS (As := [.int a0]) (rest := []) ⟨hx, hb, hml, hown, hT⟩ (c_X11_isUseG l D cI aK aV s.heap.size a0) (cwS 1 hT (gS_in mw_1476 mw_1474 mw_1475 mw_12) rfl rfl rfl (by decide +kernel) ⟨Nat.le_of_ble_eq_true rfl, Nat.le_of_ble_eq_true rfl⟩) (kStatX hK hP hD hN hXS hS hA [] rfl (by decide)) rfl rfl hl.1 rfl (lv_room (Nat.le_of_ble_eq_true rfl)) dX11_force_1 ⟨Nat.le_of_ble_eq_true rfl, Nat.le_of_ble_eq_true rfl⟩) hP hD hS hA [] [0, 1, 2] rfl rfl (by decide) (by decide) ?_
  clear hP hD hS
  intro r_4 u_6 H locs w_5 hP hD hS
  replace hP : va_P D vwCl [(k, .inr (11, [.ref k0, .ref k1, .ref k2, .int c3, .ref k4, .ref k5, .ref k6, .ref k7, .ref k8, .int c9, .ref ka, .ref kb, .int cc, .int cd, .int ce, .int cf, .int cg, .int ch, .int ci, .int cj, .int ck, .ref kl, .int cm, .int cn, .ref ko])), (k0, .inl (cI, 1201, .inl c0)), (k4, .inl (cI, 6, .inl c4))] H := hP
  replace hD : va_D A [(k, .inr (11, [.ref k0, .ref k1, .ref k2, .int c3, .ref k4, .ref k5, .ref k6, .ref k7, .ref k8, .int c9, .ref ka, .ref kb, .int cc, .int cd, .int ce, .int cf, .int cg, .int ch, .int ci, .int cj, .int ck, .ref kl, .int cm, .int cn, .ref ko])), (k0, .inl (cI, 1201, .inl c0)), (k4, .inl (cI, 6, .inl c4))] := hD
  rcases w_5 with ⟨hr_4, h_7, h_8⟩ | ⟨hr_4, h_9⟩
  · have h_7 : 0 ≤ a0.toInt := h_7
    have h_8 : a0.toInt ≤ 2 := h_8
    obtain rfl : r_4 = 1 := hr_4.trans (by decide)
    refine b_if_eq hx hb zl_1 (tgt := 14) dX11_force_4 (by decide) (fun c_10 => by exfalso; omega) (fun c_10 => ?_)
    refine lv_iload_n hx hb dX11_force_7 rfl (lv_at hl 2 rfl) ?_
    refine kJi (wr := [(k, .inr (11, [.ref k0, .ref k1, .ref k2, .int c3, .ref k4, .ref k5, .ref k6, .ref k7, .ref k8, .int c9, .ref ka, .ref kb, .int cc, .int cd, .int ce, .int cf, .int cg, .int ch, .int ci, .int cj, .int ck, .ref kl, .int cm, .int cn, .ref ko])), (k0, .inl (cI, 1201, .inl c0)), (k4, .inl (cI, 6, .inl c4))]) (va_runS (As := [.int a1]) (rest := []) ⟨hx, hb, hml, hown, hT⟩ (c_X11_isDayG l D cI aK aV H.size a1) (cwS 1 hT (gS_in mw_1479 mw_1477 mw_1478 mw_12) rfl rfl rfl (by decide +kernel) ⟨Nat.le_of_ble_eq_true rfl, Nat.le_of_ble_eq_true rfl⟩) (kStatX hK hP hD hN hXS hS hA [] rfl (by decide)) rfl rfl hl.1 rfl (lv_room (Nat.le_of_ble_eq_true rfl)) dX11_force_8 ⟨Nat.le_of_ble_eq_true rfl, Nat.le_of_ble_eq_true rfl⟩) hP hD hS hA [] [0, 1, 2] rfl rfl (by decide) (by decide) ?_
    clear hP hD hS
    intro r_11 u_13 H locs w_12 hP hD hS
    replace hP : va_P D vwCl [(k, .inr (11, [.ref k0, .ref k1, .ref k2, .int c3, .ref k4, .ref k5, .ref k6, .ref k7, .ref k8, .int c9, .ref ka, .ref kb, .int cc, .int cd, .int ce, .int cf, .int cg, .int ch, .int ci, .int cj, .int ck, .ref kl, .int cm, .int cn, .ref ko])), (k0, .inl (cI, 1201, .inl c0)), (k4, .inl (cI, 6, .inl c4))] H := hP
    replace hD : va_D A [(k, .inr (11, [.ref k0, .ref k1, .ref k2, .int c3, .ref k4, .ref k5, .ref k6, .ref k7, .ref k8, .int c9, .ref ka, .ref kb, .int cc, .int cd, .int ce, .int cf, .int cg, .int ch, .int ci, .int cj, .int ck, .ref kl, .int cm, .int cn, .ref ko])), (k0, .inl (cI, 1201, .inl c0)), (k4, .inl (cI, 6, .inl c4))] := hD
    rcases w_12 with ⟨hr_11, h_14, h_15⟩ | ⟨hr_11, h_16⟩
    · have h_14 : 0 ≤ a1.toInt := h_14
      have h_15 : a1.toInt ≤ 2000 := h_15
      obtain rfl : r_11 = 1 := hr_11.trans (by decide)
      refine b_if_ne hx hb zl_1 (tgt := 21) dX11_force_11 (by decide) (fun c_17 => ?_) (fun c_17 => by exfalso; omega)
      refine lv_aload_n hx hb dX11_force_21 rfl (lv_at hl 0 rfl) ?_
      refine lv_iload_n hx hb dX11_force_22 rfl (lv_at hl 1 rfl) ?_
      refine lv_iload_n hx hb dX11_force_23 rfl (lv_at hl 2 rfl) ?_
      refine kJi (wr := [(k4, .inl (cI, 6, .inl c4))]) (va_runV (As := [.int a0, .int a1]) (rest := []) ⟨hx, hb, hml, hown, hT⟩ (c_X11_inForceG l D cI aK aV k k0 k1 k2 k4 k5 k6 k7 k8 ka kb kl ko H.size c3 c9 cc cd ce cf cg ch ci cj ck cm cn c0 a0 a1 pre0) (cwV 2 hT (gV_in mw_1303 mw_1300 mw_1302 mw_p4_0 mw_12) rfl rfl rfl (by decide +kernel) ⟨Nat.le_of_ble_eq_true rfl, Nat.le_of_ble_eq_true rfl⟩) (kRecvX (q0 := 0) (ci := 11) hK hP hD hN hXS hS hA rfl rfl [0, 1] rfl (by decide)) rfl rfl hl.1 rfl (lv_room (Nat.le_of_ble_eq_true rfl)) dX11_force_24 ⟨Nat.le_of_ble_eq_true rfl, Nat.le_of_ble_eq_true rfl⟩) hP hD hS hA [0, 1] [2] rfl rfl (by decide) (by decide) ?_
      clear hP hD hS
      intro r_18 u_20 H locs w_19 hP hD hS
      replace hP : va_P D vwCl [(k4, .inl (cI, 6, .inl c4)), (k, .inr (11, [.ref k0, .ref k1, .ref k2, .int c3, .ref k4, .ref k5, .ref k6, .ref k7, .ref k8, .int c9, .ref ka, .ref kb, .int cc, .int cd, .int ce, .int cf, .int cg, .int ch, .int ci, .int cj, .int ck, .ref kl, .int cm, .int cn, .ref ko])), (k0, .inl (cI, 1201, .inl c0))] H := hP
      replace hD : va_D A [(k4, .inl (cI, 6, .inl c4)), (k, .inr (11, [.ref k0, .ref k1, .ref k2, .int c3, .ref k4, .ref k5, .ref k6, .ref k7, .ref k8, .int c9, .ref ka, .ref kb, .int cc, .int cd, .int ce, .int cf, .int cg, .int ch, .int ci, .int cj, .int ck, .ref kl, .int cm, .int cn, .ref ko])), (k0, .inl (cI, 1201, .inl c0))] := hD
      obtain ⟨h_21, h_22⟩ := w_19
      have h_21 : -1 ≤ r_18.toInt := h_21
      have h_22 : r_18.toInt ≤ 11 := h_22
      have lo_r_18 := k_lo r_18
      have hi_r_18 := k_hi r_18
      refine lv_istore_n (lv' := [(3, .int r_18), (0, .ref k), (1, .int a0), (2, .int a1)]) hx hb dX11_force_27 rfl hl (by decide) rfl ?_
      clear hl
      intro ls hl
      refine lv_iload_n hx hb dX11_force_28 rfl (lv_at hl 0 rfl) ?_
      refine b_if_ge hx hb rfl (tgt := 41) dX11_force_29 (by decide) (fun c_23 => ?_) (fun c_23 => ?_)
      · refine lv_iload_n hx hb dX11_force_41 rfl (lv_at hl 0 rfl) ?_
        exact hRet c4 [1, 2, 0] trivial hP hD (by decide) rfl hS rfl dX11_force_42
      · refine lv_aload_n hx hb dX11_force_32 rfl (lv_at hl 1 rfl) ?_
        refine lv_ldc (v := (-1000002)) hx hb hown (hT _ mw_1392) dX11_force_33 ?_
        refine kJi (wr := [(k0, .inl (cI, 1201, .inl c0))]) (va_runV (As := [.int (-1000002)]) (rest := []) ⟨hx, hb, hml, hown, hT⟩ (c_X11_findingG l D cI aK aV k k0 k1 k2 k4 k5 k6 k7 k8 ka kb kl ko H.size c3 c9 cc cd ce cf cg ch ci cj ck cm cn c4 (-1000002) (by first | omega | (simp only [zl_m1000002] <;> omega) | decide | assumption | rfl) (by first | omega | (simp only [zl_m1000002] <;> omega) | decide | assumption | rfl)) (cwV 1 hT (gV_in mw_1243 mw_1240 mw_1242 mw_p3_8 mw_12) rfl rfl rfl (by decide +kernel) ⟨Nat.le_of_ble_eq_true rfl, Nat.le_of_ble_eq_true rfl⟩) (kRecvX (q0 := 1) (ci := 11) hK hP hD hN hXS hS hA rfl rfl [1, 0] rfl (by decide)) rfl rfl hl.1 rfl (lv_room (Nat.le_of_ble_eq_true rfl)) dX11_force_35 ⟨Nat.le_of_ble_eq_true rfl, Nat.le_of_ble_eq_true rfl⟩) hP hD hS hA [1, 0] [2] rfl rfl (by decide) (by decide) ?_
        clear hP hD hS
        intro r_24 sc4_26 H locs w_25 hP hD hS
        replace hP : va_P D vwCl [(k0, .inl (cI, 1201, .inl c0)), (k, .inr (11, [.ref k0, .ref k1, .ref k2, .int c3, .ref k4, .ref k5, .ref k6, .ref k7, .ref k8, .int c9, .ref ka, .ref kb, .int cc, .int cd, .int ce, .int cf, .int cg, .int ch, .int ci, .int cj, .int ck, .ref kl, .int cm, .int cn, .ref ko])), (k4, .inl (cI, 6, .inl sc4_26))] H := hP
        replace hD : va_D A [(k0, .inl (cI, 1201, .inl c0)), (k, .inr (11, [.ref k0, .ref k1, .ref k2, .int c3, .ref k4, .ref k5, .ref k6, .ref k7, .ref k8, .int c9, .ref ka, .ref kb, .int cc, .int cd, .int ce, .int cf, .int cg, .int ch, .int ci, .int cj, .int ck, .ref kl, .int cm, .int cn, .ref ko])), (k4, .inl (cI, 6, .inl sc4_26))] := hD
        have hr_24 := w_25
        obtain rfl : r_24 = (-1000002) := hr_24.trans (by decide)
        refine lv_goto (tgt := 42) hx hb dX11_force_38 (by decide) ?_
        exact hRet sc4_26 [1, 0, 2] trivial hP hD (by decide) rfl hS rfl dX11_force_42
    · have h_16 : a1.toInt < 0 ∨ 2000 < a1.toInt := h_16
      obtain rfl : r_11 = 0 := hr_11.trans (by decide)
      refine b_if_ne hx hb zl_0 (tgt := 21) dX11_force_11 (by decide) (fun c_27 => by exfalso; omega) (fun c_27 => ?_)
      refine lv_aload_n hx hb dX11_force_14 rfl (lv_at hl 0 rfl) ?_
      refine lv_ldc (v := (-1000001)) hx hb hown (hT _ mw_1239) dX11_force_15 ?_
      refine kJi (wr := [(k0, .inl (cI, 1201, .inl c0))]) (va_runV (As := [.int (-1000001)]) (rest := []) ⟨hx, hb, hml, hown, hT⟩ (c_X11_findingG l D cI aK aV k k0 k1 k2 k4 k5 k6 k7 k8 ka kb kl ko H.size c3 c9 cc cd ce cf cg ch ci cj ck cm cn c4 (-1000001) (by first | omega | (simp only [zl_m1000001] <;> omega) | decide | assumption | rfl) (by first | omega | (simp only [zl_m1000001] <;> omega) | decide | assumption | rfl)) (cwV 1 hT (gV_in mw_1243 mw_1240 mw_1242 mw_p3_8 mw_12) rfl rfl rfl (by decide +kernel) ⟨Nat.le_of_ble_eq_true rfl, Nat.le_of_ble_eq_true rfl⟩) (kRecvX (q0 := 0) (ci := 11) hK hP hD hN hXS hS hA rfl rfl [0, 2] rfl (by decide)) rfl rfl hl.1 rfl (lv_room (Nat.le_of_ble_eq_true rfl)) dX11_force_17 ⟨Nat.le_of_ble_eq_true rfl, Nat.le_of_ble_eq_true rfl⟩) hP hD hS hA [0, 2] [1] rfl rfl (by decide) (by decide) ?_
      clear hP hD hS
      intro r_28 sc4_30 H locs w_29 hP hD hS
      replace hP : va_P D vwCl [(k0, .inl (cI, 1201, .inl c0)), (k, .inr (11, [.ref k0, .ref k1, .ref k2, .int c3, .ref k4, .ref k5, .ref k6, .ref k7, .ref k8, .int c9, .ref ka, .ref kb, .int cc, .int cd, .int ce, .int cf, .int cg, .int ch, .int ci, .int cj, .int ck, .ref kl, .int cm, .int cn, .ref ko])), (k4, .inl (cI, 6, .inl sc4_30))] H := hP
      replace hD : va_D A [(k0, .inl (cI, 1201, .inl c0)), (k, .inr (11, [.ref k0, .ref k1, .ref k2, .int c3, .ref k4, .ref k5, .ref k6, .ref k7, .ref k8, .int c9, .ref ka, .ref kb, .int cc, .int cd, .int ce, .int cf, .int cg, .int ch, .int ci, .int cj, .int ck, .ref kl, .int cm, .int cn, .ref ko])), (k4, .inl (cI, 6, .inl sc4_30))] := hD
      have hr_28 := w_29
      obtain rfl : r_28 = (-1000001) := hr_28.trans (by decide)
      exact hRet sc4_30 [1, 0, 2] trivial hP hD (by decide) rfl hS rfl dX11_force_20
  · have h_9 : a0.toInt < 0 ∨ 2 < a0.toInt := h_9
    obtain rfl : r_4 = 0 := hr_4.trans (by decide)
    refine b_if_eq hx hb zl_0 (tgt := 14) dX11_force_4 (by decide) (fun c_31 => ?_) (fun c_31 => by exfalso; omega)
    refine lv_aload_n hx hb dX11_force_14 rfl (lv_at hl 0 rfl) ?_
    refine lv_ldc (v := (-1000001)) hx hb hown (hT _ mw_1239) dX11_force_15 ?_
    refine kJi (wr := [(k0, .inl (cI, 1201, .inl c0))]) (va_runV (As := [.int (-1000001)]) (rest := []) ⟨hx, hb, hml, hown, hT⟩ (c_X11_findingG l D cI aK aV k k0 k1 k2 k4 k5 k6 k7 k8 ka kb kl ko H.size c3 c9 cc cd ce cf cg ch ci cj ck cm cn c4 (-1000001) (by first | omega | (simp only [zl_m1000001] <;> omega) | decide | assumption | rfl) (by first | omega | (simp only [zl_m1000001] <;> omega) | decide | assumption | rfl)) (cwV 1 hT (gV_in mw_1243 mw_1240 mw_1242 mw_p3_8 mw_12) rfl rfl rfl (by decide +kernel) ⟨Nat.le_of_ble_eq_true rfl, Nat.le_of_ble_eq_true rfl⟩) (kRecvX (q0 := 0) (ci := 11) hK hP hD hN hXS hS hA rfl rfl [0, 2] rfl (by decide)) rfl rfl hl.1 rfl (lv_room (Nat.le_of_ble_eq_true rfl)) dX11_force_17 ⟨Nat.le_of_ble_eq_true rfl, Nat.le_of_ble_eq_true rfl⟩) hP hD hS hA [0, 2] [1] rfl rfl (by decide) (by decide) ?_
    clear hP hD hS
    intro r_32 sc4_34 H locs w_33 hP hD hS
    replace hP : va_P D vwCl [(k0, .inl (cI, 1201, .inl c0)), (k, .inr (11, [.ref k0, .ref k1, .ref k2, .int c3, .ref k4, .ref k5, .ref k6, .ref k7, .ref k8, .int c9, .ref ka, .ref kb, .int cc, .int cd, .int ce, .int cf, .int cg, .int ch, .int ci, .int cj, .int ck, .ref kl, .int cm, .int cn, .ref ko])), (k4, .inl (cI, 6, .inl sc4_34))] H := hP
    replace hD : va_D A [(k0, .inl (cI, 1201, .inl c0)), (k, .inr (11, [.ref k0, .ref k1, .ref k2, .int c3, .ref k4, .ref k5, .ref k6, .ref k7, .ref k8, .int c9, .ref ka, .ref kb, .int cc, .int cd, .int ce, .int cf, .int cg, .int ch, .int ci, .int cj, .int ck, .ref kl, .int cm, .int cn, .ref ko])), (k4, .inl (cI, 6, .inl sc4_34))] := hD
    have hr_32 := w_33
    obtain rfl : r_32 = (-1000001) := hr_32.trans (by decide)
    exact hRet sc4_34 [1, 0, 2] trivial hP hD (by decide) rfl hS rfl dX11_force_20
theorem dX11_priceOf_0 : decode cX11_priceOf 0 = .ok (.aload_n 0, 1) := by decide +kernel
theorem dX11_priceOf_1 : decode cX11_priceOf 1 = .ok (.iload_n 1, 1) := by decide +kernel
theorem dX11_priceOf_2 : decode cX11_priceOf 2 = .ok (.iload_n 2, 1) := by decide +kernel
theorem dX11_priceOf_3 : decode cX11_priceOf 3 = .ok (.invokevirtual 211, 3) := by decide +kernel
theorem dX11_priceOf_6 : decode cX11_priceOf 6 = .ok (.istore 6, 2) := by decide +kernel
theorem dX11_priceOf_8 : decode cX11_priceOf 8 = .ok (.iload 6, 2) := by decide +kernel
theorem dX11_priceOf_10 : decode cX11_priceOf 10 = .ok (.ifCond .lt 34, 3) := by decide +kernel
theorem dX11_priceOf_13 : decode cX11_priceOf 13 = .ok (.aload_n 0, 1) := by decide +kernel
theorem dX11_priceOf_14 : decode cX11_priceOf 14 = .ok (.iload_n 1, 1) := by decide +kernel
theorem dX11_priceOf_15 : decode cX11_priceOf 15 = .ok (.sipush 495, 3) := by decide +kernel
theorem dX11_priceOf_18 : decode cX11_priceOf 18 = .ok (.bipush 53, 2) := by decide +kernel
theorem dX11_priceOf_20 : decode cX11_priceOf 20 = .ok (.iload 6, 2) := by decide +kernel
theorem dX11_priceOf_22 : decode cX11_priceOf 22 = .ok (.imul, 1) := by decide +kernel
theorem dX11_priceOf_23 : decode cX11_priceOf 23 = .ok (.iadd, 1) := by decide +kernel
theorem dX11_priceOf_24 : decode cX11_priceOf 24 = .ok (.iconst 3, 1) := by decide +kernel
theorem dX11_priceOf_25 : decode cX11_priceOf 25 = .ok (.iadd, 1) := by decide +kernel
theorem dX11_priceOf_26 : decode cX11_priceOf 26 = .ok (.aload_n 0, 1) := by decide +kernel
theorem dX11_priceOf_27 : decode cX11_priceOf 27 = .ok (.iload 6, 2) := by decide +kernel
theorem dX11_priceOf_29 : decode cX11_priceOf 29 = .ok (.iconst 2, 1) := by decide +kernel
theorem dX11_priceOf_30 : decode cX11_priceOf 30 = .ok (.invokevirtual 208, 3) := by decide +kernel
theorem dX11_priceOf_33 : decode cX11_priceOf 33 = .ok (.iload_n 3, 1) := by decide +kernel
theorem dX11_priceOf_34 : decode cX11_priceOf 34 = .ok (.iload 4, 2) := by decide +kernel
theorem dX11_priceOf_36 : decode cX11_priceOf 36 = .ok (.iload 5, 2) := by decide +kernel
theorem dX11_priceOf_38 : decode cX11_priceOf 38 = .ok (.invokevirtual 204, 3) := by decide +kernel
theorem dX11_priceOf_41 : decode cX11_priceOf 41 = .ok (.goto 31, 3) := by decide +kernel
theorem dX11_priceOf_44 : decode cX11_priceOf 44 = .ok (.iload_n 1, 1) := by decide +kernel
theorem dX11_priceOf_45 : decode cX11_priceOf 45 = .ok (.ifCond .ne 10, 3) := by decide +kernel
theorem dX11_priceOf_48 : decode cX11_priceOf 48 = .ok (.iload_n 3, 1) := by decide +kernel
theorem dX11_priceOf_49 : decode cX11_priceOf 49 = .ok (.iload 5, 2) := by decide +kernel
theorem dX11_priceOf_51 : decode cX11_priceOf 51 = .ok (.imul, 1) := by decide +kernel
theorem dX11_priceOf_52 : decode cX11_priceOf 52 = .ok (.goto 20, 3) := by decide +kernel
theorem dX11_priceOf_55 : decode cX11_priceOf 55 = .ok (.iload_n 1, 1) := by decide +kernel
theorem dX11_priceOf_56 : decode cX11_priceOf 56 = .ok (.iconst 1, 1) := by decide +kernel
theorem dX11_priceOf_57 : decode cX11_priceOf 57 = .ok (.if_icmp .ne 10, 3) := by decide +kernel
theorem dX11_priceOf_60 : decode cX11_priceOf 60 = .ok (.bipush 70, 2) := by decide +kernel
theorem dX11_priceOf_62 : decode cX11_priceOf 62 = .ok (.iload_n 3, 1) := by decide +kernel
theorem dX11_priceOf_63 : decode cX11_priceOf 63 = .ok (.imul, 1) := by decide +kernel
theorem dX11_priceOf_64 : decode cX11_priceOf 64 = .ok (.goto 8, 3) := by decide +kernel
theorem dX11_priceOf_67 : decode cX11_priceOf 67 = .ok (.iload 4, 2) := by decide +kernel
theorem dX11_priceOf_69 : decode cX11_priceOf 69 = .ok (.iload 5, 2) := by decide +kernel
theorem dX11_priceOf_71 : decode cX11_priceOf 71 = .ok (.isub, 1) := by decide +kernel
theorem dX11_priceOf_72 : decode cX11_priceOf 72 = .ok (.istore 7, 2) := by decide +kernel
theorem dX11_priceOf_74 : decode cX11_priceOf 74 = .ok (.iload_n 1, 1) := by decide +kernel
theorem dX11_priceOf_75 : decode cX11_priceOf 75 = .ok (.iconst 2, 1) := by decide +kernel
theorem dX11_priceOf_76 : decode cX11_priceOf 76 = .ok (.if_icmp .ne 12, 3) := by decide +kernel
theorem dX11_priceOf_79 : decode cX11_priceOf 79 = .ok (.iload 7, 2) := by decide +kernel
theorem dX11_priceOf_81 : decode cX11_priceOf 81 = .ok (.ifCond .ge 7, 3) := by decide +kernel
theorem dX11_priceOf_84 : decode cX11_priceOf 84 = .ok (.iconst 0, 1) := by decide +kernel
theorem dX11_priceOf_85 : decode cX11_priceOf 85 = .ok (.goto 5, 3) := by decide +kernel
theorem dX11_priceOf_88 : decode cX11_priceOf 88 = .ok (.iload 7, 2) := by decide +kernel
theorem dX11_priceOf_90 : decode cX11_priceOf 90 = .ok (.ireturn, 1) := by decide +kernel
set_option maxHeartbeats 4000000 in
set_option maxRecDepth 100000 in
theorem c_X11_priceOfG (l : Launch) (D : va_G) (cI : ClassId) (aK aV : Nat → Nat) (k k0 k1 k2 k4 k5 k6 k7 k8 ka kb kl ko : Nat) (sz : Nat) (c3 : Int32) (c9 : Int32) (cc : Int32) (cd : Int32) (ce : Int32) (cf : Int32) (cg : Int32) (ch : Int32) (ci : Int32) (cj : Int32) (ck : Int32) (cm : Int32) (cn : Int32) (c0 : Nat → Int32) (a0 : Int32) (a1 : Int32) (a2 : Int32) (a3 : Int32) (a4 : Int32) (pre0 : SB c0) : Met l yX11_priceOf (gW yX11_priceOf cX11_priceOf 8 (some .int)) ({ frames := 32, cells := 0, slots := 0, locals := 728 } : Room) (kPreX D cI aK aV [.ref k, .int a0, .int a1, .int a2, .int a3, .int a4] [(k, .inr (11, [.ref k0, .ref k1, .ref k2, .int c3, .ref k4, .ref k5, .ref k6, .ref k7, .ref k8, .int c9, .ref ka, .ref kb, .int cc, .int cd, .int ce, .int cf, .int cg, .int ch, .int ci, .int cj, .int ck, .ref kl, .int cm, .int cn, .ref ko])), (k0, .inl (cI, 1201, .inl c0))] sz) (va_Qi (fun (r : Int32) (u : Int32 × Int32 × Int32 × Int32 × Int32 × Int32 × Int32 × Int32 × Int32) => True) (fun u t => kWd D cI (va_A [(k, .inr (11, [.ref k0, .ref k1, .ref k2, .int c3, .ref k4, .ref k5, .ref k6, .ref k7, .ref k8, .int c9, .ref ka, .ref kb, .int cc, .int cd, .int ce, .int cf, .int cg, .int ch, .int ci, .int cj, .int ck, .ref kl, .int cm, .int cn, .ref ko])), (k0, .inl (cI, 1201, .inl c0))] sz) [(k, .inr (11, [.ref k0, .ref k1, .ref k2, .int c3, .ref k4, .ref k5, .ref k6, .ref k7, .ref k8, .int c9, .ref ka, .ref kb, .int u.1, .int u.2.1, .int u.2.2.1, .int u.2.2.2.1, .int u.2.2.2.2.1, .int u.2.2.2.2.2.1, .int u.2.2.2.2.2.2.1, .int u.2.2.2.2.2.2.2.1, .int u.2.2.2.2.2.2.2.2, .ref kl, .int cm, .int cn, .ref ko])), (k0, .inl (cI, 1201, .inl c0))] t) (va_A [(k, .inr (11, [.ref k0, .ref k1, .ref k2, .int c3, .ref k4, .ref k5, .ref k6, .ref k7, .ref k8, .int c9, .ref ka, .ref kb, .int cc, .int cd, .int ce, .int cf, .int cg, .int ch, .int ci, .int cj, .int ck, .ref kl, .int cm, .int cn, .ref ko])), (k0, .inl (cI, 1201, .inl c0))] sz)) 0 0 (va_A [(k, .inr (11, [.ref k0, .ref k1, .ref k2, .int c3, .ref k4, .ref k5, .ref k6, .ref k7, .ref k8, .int c9, .ref ka, .ref kb, .int cc, .int cd, .int ce, .int cf, .int cg, .int ch, .int ci, .int cj, .int ck, .ref kl, .int cm, .int cn, .ref ko])), (k0, .inl (cI, 1201, .inl c0))] sz) := by
  refine kMetIX (own := RX11) (by decide) rfl (Nat.le_of_ble_eq_true rfl) ?_
  intro p e s m args below meth c hx hb hT hown hname hml A Q hK hP hD hS hA hN hXS hRet ls hl
  have hl : lv_has ls 8 [(0, .ref k), (1, .int a0), (2, .int a1), (3, .int a2), (4, .int a3), (5, .int a4)] := hl
  have lo_a0 := k_lo a0
  have hi_a0 := k_hi a0
  have lo_a1 := k_lo a1
  have hi_a1 := k_hi a1
  have lo_a2 := k_lo a2
  have hi_a2 := k_hi a2
  have lo_a3 := k_lo a3
  have hi_a3 := k_hi a3
  have lo_a4 := k_lo a4
  have hi_a4 := k_hi a4
  have lo_ci := k_lo ci
  have hi_ci := k_hi ci
  have pre0 : SB c0 := pre0
  have nb_1 : 0 ≤ (c0 0).toInt ∧ (c0 0).toInt ≤ 2000 := SB.n0 pre0
  have nb_2 : 0 ≤ (c0 1).toInt ∧ (c0 1).toInt ≤ 60 := SB.n1 pre0
  have nb_3 : 0 ≤ (c0 2).toInt ∧ (c0 2).toInt ≤ 4 := SB.n2 pre0
  refine lv_aload_n hx hb dX11_priceOf_0 rfl (lv_at hl 0 rfl) ?_
  refine lv_iload_n hx hb dX11_priceOf_1 rfl (lv_at hl 1 rfl) ?_
  refine lv_iload_n hx hb dX11_priceOf_2 rfl (lv_at hl 2 rfl) ?_
  refine kJi (wr := []) (va_runV (As := [.int a0, .int a1]) (rest := []) ⟨hx, hb, hml, hown, hT⟩ (c_X11_inForceG l D cI aK aV k k0 k1 k2 k4 k5 k6 k7 k8 ka kb kl ko s.heap.size c3 c9 cc cd ce cf cg ch ci cj ck cm cn c0 a0 a1 pre0) (cwV 2 hT (gV_in mw_1303 mw_1300 mw_1302 mw_p4_0 mw_12) rfl rfl rfl (by decide +kernel) ⟨Nat.le_of_ble_eq_true rfl, Nat.le_of_ble_eq_true rfl⟩) (kRecvX (q0 := 0) (ci := 11) hK hP hD hN hXS hS hA rfl rfl [0, 1] rfl (by decide)) rfl rfl hl.1 rfl (lv_room (Nat.le_of_ble_eq_true rfl)) dX11_priceOf_3 ⟨Nat.le_of_ble_eq_true rfl, Nat.le_of_ble_eq_true rfl⟩) hP hD hS hA [0, 1] [] rfl rfl (by decide) (by decide) ?_
  clear hP hD hS
  intro r_4 u_6 H locs w_5 hP hD hS
  replace hP : va_P D vwCl [(k, .inr (11, [.ref k0, .ref k1, .ref k2, .int c3, .ref k4, .ref k5, .ref k6, .ref k7, .ref k8, .int c9, .ref ka, .ref kb, .int cc, .int cd, .int ce, .int cf, .int cg, .int ch, .int ci, .int cj, .int ck, .ref kl, .int cm, .int cn, .ref ko])), (k0, .inl (cI, 1201, .inl c0))] H := hP
  replace hD : va_D A [(k, .inr (11, [.ref k0, .ref k1, .ref k2, .int c3, .ref k4, .ref k5, .ref k6, .ref k7, .ref k8, .int c9, .ref ka, .ref kb, .int cc, .int cd, .int ce, .int cf, .int cg, .int ch, .int ci, .int cj, .int ck, .ref kl, .int cm, .int cn, .ref ko])), (k0, .inl (cI, 1201, .inl c0))] := hD
  obtain ⟨h_7, h_8⟩ := w_5
  have h_7 : -1 ≤ r_4.toInt := h_7
  have h_8 : r_4.toInt ≤ 11 := h_8
  have lo_r_4 := k_lo r_4
  have hi_r_4 := k_hi r_4
  refine lv_istore (lv' := [(6, .int r_4), (0, .ref k), (1, .int a0), (2, .int a1), (3, .int a2), (4, .int a3), (5, .int a4)]) hx hb dX11_priceOf_6 hl (by decide) rfl ?_
  clear hl
  intro ls hl
  refine lv_iload hx hb dX11_priceOf_8 (lv_at hl 0 rfl) ?_
  refine b_if_lt hx hb rfl (tgt := 44) dX11_priceOf_10 (by decide) (fun c_9 => ?_) (fun c_9 => ?_)
  · refine lv_iload_n hx hb dX11_priceOf_44 rfl (lv_at hl 2 rfl) ?_
    refine b_if_ne hx hb rfl (tgt := 55) dX11_priceOf_45 (by decide) (fun c_10 => ?_) (fun c_10 => ?_)
    · refine lv_iload_n hx hb dX11_priceOf_55 rfl (lv_at hl 2 rfl) ?_
      refine lv_iconst (v := 1) hx hb dX11_priceOf_56 (by decide) ?_
      refine b_icmp_ne hx hb rfl zl_1 (tgt := 67) dX11_priceOf_57 (by decide) (fun c_11 => ?_) (fun c_11 => ?_)
      · refine lv_iload hx hb dX11_priceOf_67 (lv_at hl 5 rfl) ?_
        refine lv_iload hx hb dX11_priceOf_69 (lv_at hl 6 rfl) ?_
        refine lv_isub hx hb dX11_priceOf_71 ?_
        refine lv_topi (fun v_12 ev_12 => ?_)
        have lo_v_12 := k_lo v_12
        have hi_v_12 := k_hi v_12
        refine lv_istore (lv' := [(7, .int v_12), (6, .int r_4), (0, .ref k), (1, .int a0), (2, .int a1), (3, .int a2), (4, .int a3), (5, .int a4)]) hx hb dX11_priceOf_72 hl (by decide) rfl ?_
        clear hl
        intro ls hl
        refine lv_iload_n hx hb dX11_priceOf_74 rfl (lv_at hl 3 rfl) ?_
        refine lv_iconst (v := 2) hx hb dX11_priceOf_75 (by decide) ?_
        refine b_icmp_ne hx hb rfl zl_2 (tgt := 88) dX11_priceOf_76 (by decide) (fun c_13 => ?_) (fun c_13 => ?_)
        · refine lv_iload hx hb dX11_priceOf_88 (lv_at hl 0 rfl) ?_
          exact hRet (cc, cd, ce, cf, cg, ch, ci, cj, ck) [0, 1] trivial hP hD (by decide) rfl hS rfl dX11_priceOf_90
        · refine lv_iload hx hb dX11_priceOf_79 (lv_at hl 0 rfl) ?_
          refine b_if_ge hx hb rfl (tgt := 88) dX11_priceOf_81 (by decide) (fun c_14 => ?_) (fun c_14 => ?_)
          · refine lv_iload hx hb dX11_priceOf_88 (lv_at hl 0 rfl) ?_
            exact hRet (cc, cd, ce, cf, cg, ch, ci, cj, ck) [0, 1] trivial hP hD (by decide) rfl hS rfl dX11_priceOf_90
          · refine lv_iconst (v := 0) hx hb dX11_priceOf_84 (by decide) ?_
            refine lv_goto (tgt := 90) hx hb dX11_priceOf_85 (by decide) ?_
            exact hRet (cc, cd, ce, cf, cg, ch, ci, cj, ck) [0, 1] trivial hP hD (by decide) rfl hS rfl dX11_priceOf_90
      · refine lv_bipush (v := 70) hx hb dX11_priceOf_60 (by decide) ?_
        refine lv_iload_n hx hb dX11_priceOf_62 rfl (lv_at hl 4 rfl) ?_
        refine lv_imul hx hb dX11_priceOf_63 ?_
        refine lv_topi (fun v_15 ev_15 => ?_)
        have lo_v_15 := k_lo v_15
        have hi_v_15 := k_hi v_15
        refine lv_goto (tgt := 72) hx hb dX11_priceOf_64 (by decide) ?_
        refine lv_istore (lv' := [(7, .int v_15), (6, .int r_4), (0, .ref k), (1, .int a0), (2, .int a1), (3, .int a2), (4, .int a3), (5, .int a4)]) hx hb dX11_priceOf_72 hl (by decide) rfl ?_
        clear hl
        intro ls hl
        refine lv_iload_n hx hb dX11_priceOf_74 rfl (lv_at hl 3 rfl) ?_
        refine lv_iconst (v := 2) hx hb dX11_priceOf_75 (by decide) ?_
        refine b_icmp_ne hx hb rfl zl_2 (tgt := 88) dX11_priceOf_76 (by decide) (fun c_16 => ?_) (fun c_16 => by exfalso; omega)
        refine lv_iload hx hb dX11_priceOf_88 (lv_at hl 0 rfl) ?_
        exact hRet (cc, cd, ce, cf, cg, ch, ci, cj, ck) [0, 1] trivial hP hD (by decide) rfl hS rfl dX11_priceOf_90
    · refine lv_iload_n hx hb dX11_priceOf_48 rfl (lv_at hl 4 rfl) ?_
      refine lv_iload hx hb dX11_priceOf_49 (lv_at hl 6 rfl) ?_
      refine lv_imul hx hb dX11_priceOf_51 ?_
      refine lv_topi (fun v_17 ev_17 => ?_)
      have lo_v_17 := k_lo v_17
      have hi_v_17 := k_hi v_17
      refine lv_goto (tgt := 72) hx hb dX11_priceOf_52 (by decide) ?_
      refine lv_istore (lv' := [(7, .int v_17), (6, .int r_4), (0, .ref k), (1, .int a0), (2, .int a1), (3, .int a2), (4, .int a3), (5, .int a4)]) hx hb dX11_priceOf_72 hl (by decide) rfl ?_
      clear hl
      intro ls hl
      refine lv_iload_n hx hb dX11_priceOf_74 rfl (lv_at hl 3 rfl) ?_
      refine lv_iconst (v := 2) hx hb dX11_priceOf_75 (by decide) ?_
      refine b_icmp_ne hx hb rfl zl_2 (tgt := 88) dX11_priceOf_76 (by decide) (fun c_18 => ?_) (fun c_18 => by exfalso; omega)
      refine lv_iload hx hb dX11_priceOf_88 (lv_at hl 0 rfl) ?_
      exact hRet (cc, cd, ce, cf, cg, ch, ci, cj, ck) [0, 1] trivial hP hD (by decide) rfl hS rfl dX11_priceOf_90
  · refine lv_aload_n hx hb dX11_priceOf_13 rfl (lv_at hl 1 rfl) ?_
    refine lv_iload_n hx hb dX11_priceOf_14 rfl (lv_at hl 2 rfl) ?_
    refine lv_sipush (v := 495) hx hb dX11_priceOf_15 (by decide) ?_
    refine lv_bipush (v := 53) hx hb dX11_priceOf_18 (by decide) ?_
    refine lv_iload hx hb dX11_priceOf_20 (lv_at hl 0 rfl) ?_
    refine lv_imul hx hb dX11_priceOf_22 ?_
    refine lv_topi (fun v_19 ev_19 => ?_)
    have tv_19 : v_19.toInt = 53 * r_4.toInt := by rw [ev_19]; exact k_mulv zl_53 rfl (by omega) (by omega)
    refine lv_iadd hx hb dX11_priceOf_23 ?_
    refine lv_topi (fun v_20 ev_20 => ?_)
    have tv_20 : v_20.toInt = 495 + v_19.toInt := by rw [ev_20]; exact k_addv zl_495 rfl (by omega) (by omega)
    refine lv_iconst (v := 3) hx hb dX11_priceOf_24 (by decide) ?_
    refine lv_iadd hx hb dX11_priceOf_25 ?_
    refine lv_topi (fun v_21 ev_21 => ?_)
    have tv_21 : v_21.toInt = v_20.toInt + 3 := by rw [ev_21]; exact k_addv rfl zl_3 (by omega) (by omega)
    refine lv_aload_n hx hb dX11_priceOf_26 rfl (lv_at hl 1 rfl) ?_
    refine lv_iload hx hb dX11_priceOf_27 (lv_at hl 0 rfl) ?_
    refine lv_iconst (v := 2) hx hb dX11_priceOf_29 (by decide) ?_
    refine kJi (wr := []) (va_runV (As := [.int r_4, .int 2]) (rest := [.int v_21, .int a0, .ref k]) ⟨hx, hb, hml, hown, hT⟩ (c_X11_rateIsG2 l D cI aK aV k k0 k1 k2 k4 k5 k6 k7 k8 ka kb kl ko H.size c3 c9 cc cd ce cf cg ch ci cj ck cm cn c0 r_4 2 pre0 (by first | omega | (simp only [zl_2] <;> omega) | decide | assumption | rfl) (by first | omega | (simp only [zl_2] <;> omega) | decide | assumption | rfl) (by first | omega | (simp only [zl_2] <;> omega) | decide | assumption | rfl)) (cwV 2 hT (gV_in mw_1307 mw_1304 mw_1306 mw_p4_1 mw_12) rfl rfl rfl (by decide +kernel) ⟨Nat.le_of_ble_eq_true rfl, Nat.le_of_ble_eq_true rfl⟩) (kRecvX (q0 := 0) (ci := 11) hK hP hD hN hXS hS hA rfl rfl [0, 1] rfl (by decide)) rfl rfl hl.1 rfl (lv_room (Nat.le_of_ble_eq_true rfl)) dX11_priceOf_30 ⟨Nat.le_of_ble_eq_true rfl, Nat.le_of_ble_eq_true rfl⟩) hP hD hS hA [0, 1] [] rfl rfl (by decide) (by decide) ?_
    clear hP hD hS
    intro r_22 u_24 H locs w_23 hP hD hS
    replace hP : va_P D vwCl [(k, .inr (11, [.ref k0, .ref k1, .ref k2, .int c3, .ref k4, .ref k5, .ref k6, .ref k7, .ref k8, .int c9, .ref ka, .ref kb, .int cc, .int cd, .int ce, .int cf, .int cg, .int ch, .int ci, .int cj, .int ck, .ref kl, .int cm, .int cn, .ref ko])), (k0, .inl (cI, 1201, .inl c0))] H := hP
    replace hD : va_D A [(k, .inr (11, [.ref k0, .ref k1, .ref k2, .int c3, .ref k4, .ref k5, .ref k6, .ref k7, .ref k8, .int c9, .ref ka, .ref kb, .int cc, .int cd, .int ce, .int cf, .int cg, .int ch, .int ci, .int cj, .int ck, .ref kl, .int cm, .int cn, .ref ko])), (k0, .inl (cI, 1201, .inl c0))] := hD
    obtain ⟨h_25, h_26⟩ := w_23
    try simp only [zl_2] at h_25
    have h_25 : 0 ≤ r_22.toInt := h_25
    try simp only [zl_2] at h_26
    have h_26 : r_22.toInt ≤ 50 := h_26
    have lo_r_22 := k_lo r_22
    have hi_r_22 := k_hi r_22
    refine lv_iload_n hx hb dX11_priceOf_33 rfl (lv_at hl 4 rfl) ?_
    refine lv_iload hx hb dX11_priceOf_34 (lv_at hl 5 rfl) ?_
    refine lv_iload hx hb dX11_priceOf_36 (lv_at hl 6 rfl) ?_
    refine kJi (wr := []) (va_runV (As := [.int a0, .int v_21, .int r_22, .int a2, .int a3, .int a4]) (rest := []) ⟨hx, hb, hml, hown, hT⟩ (c_X11_goesOverG l D cI aK aV k k0 k1 k2 k4 k5 k6 k7 k8 ka kb kl ko H.size c3 c9 cc cd ce cf cg ch ci cj ck cm cn c0 a0 v_21 r_22 a2 a3 a4 (by first | omega | decide | assumption | rfl) (by first | omega | decide | assumption | rfl) (by first | omega | decide | assumption | rfl) (by first | omega | decide | assumption | rfl)) (cwV 6 hT (gV_in mw_1311 mw_1308 mw_1310 mw_p4_2 mw_12) rfl rfl rfl (by decide +kernel) ⟨Nat.le_of_ble_eq_true rfl, Nat.le_of_ble_eq_true rfl⟩) (kRecvX (q0 := 0) (ci := 11) hK hP hD hN hXS hS hA rfl rfl [0, 1] rfl (by decide)) rfl rfl hl.1 rfl (lv_room (Nat.le_of_ble_eq_true rfl)) dX11_priceOf_38 ⟨Nat.le_of_ble_eq_true rfl, Nat.le_of_ble_eq_true rfl⟩) hP hD hS hA [0, 1] [] rfl rfl (by decide) (by decide) ?_
    clear hP hD hS
    intro r_27 u_38 H locs w_28 hP hD hS
    obtain ⟨scc_29, scd_30, sce_31, scf_32, scg_33, sch_34, sci_35, scj_36, sck_37⟩ := u_38
    replace hP : va_P D vwCl [(k, .inr (11, [.ref k0, .ref k1, .ref k2, .int c3, .ref k4, .ref k5, .ref k6, .ref k7, .ref k8, .int c9, .ref ka, .ref kb, .int scc_29, .int scd_30, .int sce_31, .int scf_32, .int scg_33, .int sch_34, .int sci_35, .int scj_36, .int sck_37, .ref kl, .int cm, .int cn, .ref ko])), (k0, .inl (cI, 1201, .inl c0))] H := hP
    replace hD : va_D A [(k, .inr (11, [.ref k0, .ref k1, .ref k2, .int c3, .ref k4, .ref k5, .ref k6, .ref k7, .ref k8, .int c9, .ref ka, .ref kb, .int scc_29, .int scd_30, .int sce_31, .int scf_32, .int scg_33, .int sch_34, .int sci_35, .int scj_36, .int sck_37, .ref kl, .int cm, .int cn, .ref ko])), (k0, .inl (cI, 1201, .inl c0))] := hD
    have lo_scd_30 := k_lo scd_30
    have hi_scd_30 := k_hi scd_30
    obtain ⟨h_39, h_40⟩ := w_28
    have h_39 : 0 ≤ scd_30.toInt := h_39
    have h_40 : scd_30.toInt ≤ 50 := h_40
    have lo_r_27 := k_lo r_27
    have hi_r_27 := k_hi r_27
    refine lv_goto (tgt := 72) hx hb dX11_priceOf_41 (by decide) ?_
    refine lv_istore (lv' := [(7, .int r_27), (6, .int r_4), (0, .ref k), (1, .int a0), (2, .int a1), (3, .int a2), (4, .int a3), (5, .int a4)]) hx hb dX11_priceOf_72 hl (by decide) rfl ?_
    clear hl
    intro ls hl
    refine lv_iload_n hx hb dX11_priceOf_74 rfl (lv_at hl 3 rfl) ?_
    refine lv_iconst (v := 2) hx hb dX11_priceOf_75 (by decide) ?_
    refine b_icmp_ne hx hb rfl zl_2 (tgt := 88) dX11_priceOf_76 (by decide) (fun c_41 => ?_) (fun c_41 => ?_)
    · refine lv_iload hx hb dX11_priceOf_88 (lv_at hl 0 rfl) ?_
      exact hRet (scc_29, scd_30, sce_31, scf_32, scg_33, sch_34, sci_35, scj_36, sck_37) [0, 1] trivial hP hD (by decide) rfl hS rfl dX11_priceOf_90
    · refine lv_iload hx hb dX11_priceOf_79 (lv_at hl 0 rfl) ?_
      refine b_if_ge hx hb rfl (tgt := 88) dX11_priceOf_81 (by decide) (fun c_42 => ?_) (fun c_42 => ?_)
      · refine lv_iload hx hb dX11_priceOf_88 (lv_at hl 0 rfl) ?_
        exact hRet (scc_29, scd_30, sce_31, scf_32, scg_33, sch_34, sci_35, scj_36, sck_37) [0, 1] trivial hP hD (by decide) rfl hS rfl dX11_priceOf_90
      · refine lv_iconst (v := 0) hx hb dX11_priceOf_84 (by decide) ?_
        refine lv_goto (tgt := 90) hx hb dX11_priceOf_85 (by decide) ?_
        exact hRet (scc_29, scd_30, sce_31, scf_32, scg_33, sch_34, sci_35, scj_36, sck_37) [0, 1] trivial hP hD (by decide) rfl hS rfl dX11_priceOf_90
theorem dX11_price_0 : decode cX11_price 0 = .ok (.iload_n 1, 1) := by decide +kernel
theorem dX11_price_1 : decode cX11_price 1 = .ok (.invokestatic 198, 3) := by decide +kernel
theorem dX11_price_4 : decode cX11_price 4 = .ok (.ifCond .eq 21, 3) := by decide +kernel
theorem dX11_price_7 : decode cX11_price 7 = .ok (.aload_n 0, 1) := by decide +kernel
theorem dX11_price_8 : decode cX11_price 8 = .ok (.iload_n 1, 1) := by decide +kernel
theorem dX11_price_9 : decode cX11_price 9 = .ok (.aload_n 0, 1) := by decide +kernel
theorem dX11_price_10 : decode cX11_price 10 = .ok (.getfield 9, 3) := by decide +kernel
theorem dX11_price_13 : decode cX11_price 13 = .ok (.iconst 0, 1) := by decide +kernel
theorem dX11_price_14 : decode cX11_price 14 = .ok (.iaload, 1) := by decide +kernel
theorem dX11_price_15 : decode cX11_price 15 = .ok (.iload_n 2, 1) := by decide +kernel
theorem dX11_price_16 : decode cX11_price 16 = .ok (.iload_n 3, 1) := by decide +kernel
theorem dX11_price_17 : decode cX11_price 17 = .ok (.iload 4, 2) := by decide +kernel
theorem dX11_price_19 : decode cX11_price 19 = .ok (.invokevirtual 90, 3) := by decide +kernel
theorem dX11_price_22 : decode cX11_price 22 = .ok (.goto 9, 3) := by decide +kernel
theorem dX11_price_25 : decode cX11_price 25 = .ok (.aload_n 0, 1) := by decide +kernel
theorem dX11_price_26 : decode cX11_price 26 = .ok (.ldc 63, 2) := by decide +kernel
theorem dX11_price_28 : decode cX11_price 28 = .ok (.invokevirtual 64, 3) := by decide +kernel
theorem dX11_price_31 : decode cX11_price 31 = .ok (.ireturn, 1) := by decide +kernel
set_option maxHeartbeats 4000000 in
set_option maxRecDepth 100000 in
theorem c_X11_priceG (l : Launch) (D : va_G) (cI : ClassId) (aK aV : Nat → Nat) (k k0 k1 k2 k4 k5 k6 k7 k8 ka kb kl ko : Nat) (sz : Nat) (c3 : Int32) (c9 : Int32) (cc : Int32) (cd : Int32) (ce : Int32) (cf : Int32) (cg : Int32) (ch : Int32) (ci : Int32) (cj : Int32) (ck : Int32) (cm : Int32) (cn : Int32) (c0 : Nat → Int32) (c4 : Nat → Int32) (a0 : Int32) (a1 : Int32) (a2 : Int32) (a3 : Int32) (pre0 : SB c0) : Met l yX11_price (gW yX11_price cX11_price 5 (some .int)) ({ frames := 33, cells := 0, slots := 0, locals := 755 } : Room) (kPreX D cI aK aV [.ref k, .int a0, .int a1, .int a2, .int a3] [(k, .inr (11, [.ref k0, .ref k1, .ref k2, .int c3, .ref k4, .ref k5, .ref k6, .ref k7, .ref k8, .int c9, .ref ka, .ref kb, .int cc, .int cd, .int ce, .int cf, .int cg, .int ch, .int ci, .int cj, .int ck, .ref kl, .int cm, .int cn, .ref ko])), (k0, .inl (cI, 1201, .inl c0)), (k4, .inl (cI, 6, .inl c4))] sz) (va_Qi (fun (r : Int32) (u : Int32 × Int32 × Int32 × Int32 × Int32 × Int32 × Int32 × Int32 × Int32 × (Nat → Int32)) => True) (fun u t => kWd D cI (va_A [(k, .inr (11, [.ref k0, .ref k1, .ref k2, .int c3, .ref k4, .ref k5, .ref k6, .ref k7, .ref k8, .int c9, .ref ka, .ref kb, .int cc, .int cd, .int ce, .int cf, .int cg, .int ch, .int ci, .int cj, .int ck, .ref kl, .int cm, .int cn, .ref ko])), (k0, .inl (cI, 1201, .inl c0)), (k4, .inl (cI, 6, .inl c4))] sz) [(k, .inr (11, [.ref k0, .ref k1, .ref k2, .int c3, .ref k4, .ref k5, .ref k6, .ref k7, .ref k8, .int c9, .ref ka, .ref kb, .int u.1, .int u.2.1, .int u.2.2.1, .int u.2.2.2.1, .int u.2.2.2.2.1, .int u.2.2.2.2.2.1, .int u.2.2.2.2.2.2.1, .int u.2.2.2.2.2.2.2.1, .int u.2.2.2.2.2.2.2.2.1, .ref kl, .int cm, .int cn, .ref ko])), (k0, .inl (cI, 1201, .inl c0)), (k4, .inl (cI, 6, .inl u.2.2.2.2.2.2.2.2.2))] t) (va_A [(k, .inr (11, [.ref k0, .ref k1, .ref k2, .int c3, .ref k4, .ref k5, .ref k6, .ref k7, .ref k8, .int c9, .ref ka, .ref kb, .int cc, .int cd, .int ce, .int cf, .int cg, .int ch, .int ci, .int cj, .int ck, .ref kl, .int cm, .int cn, .ref ko])), (k0, .inl (cI, 1201, .inl c0)), (k4, .inl (cI, 6, .inl c4))] sz)) 0 0 (va_A [(k, .inr (11, [.ref k0, .ref k1, .ref k2, .int c3, .ref k4, .ref k5, .ref k6, .ref k7, .ref k8, .int c9, .ref ka, .ref kb, .int cc, .int cd, .int ce, .int cf, .int cg, .int ch, .int ci, .int cj, .int ck, .ref kl, .int cm, .int cn, .ref ko])), (k0, .inl (cI, 1201, .inl c0)), (k4, .inl (cI, 6, .inl c4))] sz) := by
  refine kMetIX (own := RX11) (by decide) rfl (Nat.le_of_ble_eq_true rfl) ?_
  intro p e s m args below meth c hx hb hT hown hname hml A Q hK hP hD hS hA hN hXS hRet ls hl
  have hl : lv_has ls 5 [(0, .ref k), (1, .int a0), (2, .int a1), (3, .int a2), (4, .int a3)] := hl
  have lo_a0 := k_lo a0
  have hi_a0 := k_hi a0
  have lo_a1 := k_lo a1
  have hi_a1 := k_hi a1
  have lo_a2 := k_lo a2
  have hi_a2 := k_hi a2
  have lo_a3 := k_lo a3
  have hi_a3 := k_hi a3
  have lo_ci := k_lo ci
  have hi_ci := k_hi ci
  have pre0 : SB c0 := pre0
  have nb_1 : 0 ≤ (c0 0).toInt ∧ (c0 0).toInt ≤ 2000 := SB.n0 pre0
  have nb_2 : 0 ≤ (c0 1).toInt ∧ (c0 1).toInt ≤ 60 := SB.n1 pre0
  have nb_3 : 0 ≤ (c0 2).toInt ∧ (c0 2).toInt ≤ 4 := SB.n2 pre0
  refine lv_iload_n hx hb dX11_price_0 rfl (lv_at hl 1 rfl) ?_
  refine kJi (wr := [(k, .inr (11, [.ref k0, .ref k1, .ref k2, .int c3, .ref k4, .ref k5, .ref k6, .ref k7, .ref k8, .int c9, .ref ka, .ref kb, .int cc, .int cd, .int ce, .int cf, .int cg, .int ch, .int ci, .int cj, .int ck, .ref kl, .int cm, .int cn, .ref ko])), (k0, .inl (cI, 1201, .inl c0)), (k4, .inl (cI, 6, .inl c4))]) (va_runS (As := [.int a0]) (rest := []) ⟨hx, hb, hml, hown, hT⟩ (c_X11_isUseG l D cI aK aV s.heap.size a0) (cwS 1 hT (gS_in mw_1476 mw_1474 mw_1475 mw_12) rfl rfl rfl (by decide +kernel) ⟨Nat.le_of_ble_eq_true rfl, Nat.le_of_ble_eq_true rfl⟩) (kStatX hK hP hD hN hXS hS hA [] rfl (by decide)) rfl rfl hl.1 rfl (lv_room (Nat.le_of_ble_eq_true rfl)) dX11_price_1 ⟨Nat.le_of_ble_eq_true rfl, Nat.le_of_ble_eq_true rfl⟩) hP hD hS hA [] [0, 1, 2] rfl rfl (by decide) (by decide) ?_
  clear hP hD hS
  intro r_4 u_6 H locs w_5 hP hD hS
  replace hP : va_P D vwCl [(k, .inr (11, [.ref k0, .ref k1, .ref k2, .int c3, .ref k4, .ref k5, .ref k6, .ref k7, .ref k8, .int c9, .ref ka, .ref kb, .int cc, .int cd, .int ce, .int cf, .int cg, .int ch, .int ci, .int cj, .int ck, .ref kl, .int cm, .int cn, .ref ko])), (k0, .inl (cI, 1201, .inl c0)), (k4, .inl (cI, 6, .inl c4))] H := hP
  replace hD : va_D A [(k, .inr (11, [.ref k0, .ref k1, .ref k2, .int c3, .ref k4, .ref k5, .ref k6, .ref k7, .ref k8, .int c9, .ref ka, .ref kb, .int cc, .int cd, .int ce, .int cf, .int cg, .int ch, .int ci, .int cj, .int ck, .ref kl, .int cm, .int cn, .ref ko])), (k0, .inl (cI, 1201, .inl c0)), (k4, .inl (cI, 6, .inl c4))] := hD
  rcases w_5 with ⟨hr_4, h_7, h_8⟩ | ⟨hr_4, h_9⟩
  · have h_7 : 0 ≤ a0.toInt := h_7
    have h_8 : a0.toInt ≤ 2 := h_8
    obtain rfl : r_4 = 1 := hr_4.trans (by decide)
    refine b_if_eq hx hb zl_1 (tgt := 25) dX11_price_4 (by decide) (fun c_10 => by exfalso; omega) (fun c_10 => ?_)
    refine lv_aload_n hx hb dX11_price_7 rfl (lv_at hl 0 rfl) ?_
    refine lv_iload_n hx hb dX11_price_8 rfl (lv_at hl 1 rfl) ?_
    refine lv_aload_n hx hb dX11_price_9 rfl (lv_at hl 0 rfl) ?_
    refine va_get (D := D) (ci := 11) (v := .ref k0) (C := RX11) (T := TX11) (N := 25) hx hb hT giX11 hown hK hP 0 rfl rfl 0 (by decide) (hT (Cond.fieldLink RX11 9 "DesertWireModel" "s" "[I") mw_1156) (fun _ h9 => h9) rfl dX11_price_10 ?_
    refine lv_iconst (v := 0) hx hb dX11_price_13 (by decide) ?_
    refine k_iald (v := (c0 0)) hx hb hK hP 1 0 rfl rfl (k_inl (by decide)) rfl dX11_price_14 ?_
    refine lv_topi (fun v_11 ev_11 => ?_)
    have lo_v_11 := k_lo v_11
    have hi_v_11 := k_hi v_11
    have tv_11 : v_11.toInt = (c0 0).toInt := by rw [ev_11]
    have b_12 : 0 ≤ v_11.toInt ∧ v_11.toInt ≤ 2000 := by first | (rw [tv_11]; exact SB.n0 pre0) | exact SB.n0 pre0 | omega
    refine lv_iload_n hx hb dX11_price_15 rfl (lv_at hl 2 rfl) ?_
    refine lv_iload_n hx hb dX11_price_16 rfl (lv_at hl 3 rfl) ?_
    refine lv_iload hx hb dX11_price_17 (lv_at hl 4 rfl) ?_
    refine kJi (wr := [(k4, .inl (cI, 6, .inl c4))]) (va_runV (As := [.int a0, .int v_11, .int a1, .int a2, .int a3]) (rest := []) ⟨hx, hb, hml, hown, hT⟩ (c_X11_priceOfG l D cI aK aV k k0 k1 k2 k4 k5 k6 k7 k8 ka kb kl ko H.size c3 c9 cc cd ce cf cg ch ci cj ck cm cn c0 a0 v_11 a1 a2 a3 pre0) (cwV 5 hT (gV_in mw_1299 mw_1296 mw_1298 mw_p3_15 mw_12) rfl rfl rfl (by decide +kernel) ⟨Nat.le_of_ble_eq_true rfl, Nat.le_of_ble_eq_true rfl⟩) (kRecvX (q0 := 0) (ci := 11) hK hP hD hN hXS hS hA rfl rfl [0, 1] rfl (by decide)) rfl rfl hl.1 rfl (lv_room (Nat.le_of_ble_eq_true rfl)) dX11_price_19 ⟨Nat.le_of_ble_eq_true rfl, Nat.le_of_ble_eq_true rfl⟩) hP hD hS hA [0, 1] [2] rfl rfl (by decide) (by decide) ?_
    clear hP hD hS
    intro r_13 u_24 H locs w_14 hP hD hS
    obtain ⟨scc_15, scd_16, sce_17, scf_18, scg_19, sch_20, sci_21, scj_22, sck_23⟩ := u_24
    replace hP : va_P D vwCl [(k4, .inl (cI, 6, .inl c4)), (k, .inr (11, [.ref k0, .ref k1, .ref k2, .int c3, .ref k4, .ref k5, .ref k6, .ref k7, .ref k8, .int c9, .ref ka, .ref kb, .int scc_15, .int scd_16, .int sce_17, .int scf_18, .int scg_19, .int sch_20, .int sci_21, .int scj_22, .int sck_23, .ref kl, .int cm, .int cn, .ref ko])), (k0, .inl (cI, 1201, .inl c0))] H := hP
    replace hD : va_D A [(k4, .inl (cI, 6, .inl c4)), (k, .inr (11, [.ref k0, .ref k1, .ref k2, .int c3, .ref k4, .ref k5, .ref k6, .ref k7, .ref k8, .int c9, .ref ka, .ref kb, .int scc_15, .int scd_16, .int sce_17, .int scf_18, .int scg_19, .int sch_20, .int sci_21, .int scj_22, .int sck_23, .ref kl, .int cm, .int cn, .ref ko])), (k0, .inl (cI, 1201, .inl c0))] := hD
    have lo_r_13 := k_lo r_13
    have hi_r_13 := k_hi r_13
    refine lv_goto (tgt := 31) hx hb dX11_price_22 (by decide) ?_
    exact hRet (scc_15, scd_16, sce_17, scf_18, scg_19, sch_20, sci_21, scj_22, sck_23, c4) [1, 2, 0] trivial hP hD (by decide) rfl hS rfl dX11_price_31
  · have h_9 : a0.toInt < 0 ∨ 2 < a0.toInt := h_9
    obtain rfl : r_4 = 0 := hr_4.trans (by decide)
    refine b_if_eq hx hb zl_0 (tgt := 25) dX11_price_4 (by decide) (fun c_25 => ?_) (fun c_25 => by exfalso; omega)
    refine lv_aload_n hx hb dX11_price_25 rfl (lv_at hl 0 rfl) ?_
    refine lv_ldc (v := (-1000001)) hx hb hown (hT _ mw_1239) dX11_price_26 ?_
    refine kJi (wr := [(k0, .inl (cI, 1201, .inl c0))]) (va_runV (As := [.int (-1000001)]) (rest := []) ⟨hx, hb, hml, hown, hT⟩ (c_X11_findingG l D cI aK aV k k0 k1 k2 k4 k5 k6 k7 k8 ka kb kl ko H.size c3 c9 cc cd ce cf cg ch ci cj ck cm cn c4 (-1000001) (by first | omega | (simp only [zl_m1000001] <;> omega) | decide | assumption | rfl) (by first | omega | (simp only [zl_m1000001] <;> omega) | decide | assumption | rfl)) (cwV 1 hT (gV_in mw_1243 mw_1240 mw_1242 mw_p3_8 mw_12) rfl rfl rfl (by decide +kernel) ⟨Nat.le_of_ble_eq_true rfl, Nat.le_of_ble_eq_true rfl⟩) (kRecvX (q0 := 0) (ci := 11) hK hP hD hN hXS hS hA rfl rfl [0, 2] rfl (by decide)) rfl rfl hl.1 rfl (lv_room (Nat.le_of_ble_eq_true rfl)) dX11_price_28 ⟨Nat.le_of_ble_eq_true rfl, Nat.le_of_ble_eq_true rfl⟩) hP hD hS hA [0, 2] [1] rfl rfl (by decide) (by decide) ?_
    clear hP hD hS
    intro r_26 sc4_28 H locs w_27 hP hD hS
    replace hP : va_P D vwCl [(k0, .inl (cI, 1201, .inl c0)), (k, .inr (11, [.ref k0, .ref k1, .ref k2, .int c3, .ref k4, .ref k5, .ref k6, .ref k7, .ref k8, .int c9, .ref ka, .ref kb, .int cc, .int cd, .int ce, .int cf, .int cg, .int ch, .int ci, .int cj, .int ck, .ref kl, .int cm, .int cn, .ref ko])), (k4, .inl (cI, 6, .inl sc4_28))] H := hP
    replace hD : va_D A [(k0, .inl (cI, 1201, .inl c0)), (k, .inr (11, [.ref k0, .ref k1, .ref k2, .int c3, .ref k4, .ref k5, .ref k6, .ref k7, .ref k8, .int c9, .ref ka, .ref kb, .int cc, .int cd, .int ce, .int cf, .int cg, .int ch, .int ci, .int cj, .int ck, .ref kl, .int cm, .int cn, .ref ko])), (k4, .inl (cI, 6, .inl sc4_28))] := hD
    have hr_26 := w_27
    obtain rfl : r_26 = (-1000001) := hr_26.trans (by decide)
    exact hRet (cc, cd, ce, cf, cg, ch, ci, cj, ck, sc4_28) [1, 0, 2] trivial hP hD (by decide) rfl hS rfl dX11_price_31
theorem dX11_owed_0 : decode cX11_owed 0 = .ok (.iload_n 1, 1) := by decide +kernel
theorem dX11_owed_1 : decode cX11_owed 1 = .ok (.invokestatic 201, 3) := by decide +kernel
theorem dX11_owed_4 : decode cX11_owed 4 = .ok (.ifCond .ne 10, 3) := by decide +kernel
theorem dX11_owed_7 : decode cX11_owed 7 = .ok (.aload_n 0, 1) := by decide +kernel
theorem dX11_owed_8 : decode cX11_owed 8 = .ok (.ldc 63, 2) := by decide +kernel
theorem dX11_owed_10 : decode cX11_owed 10 = .ok (.invokevirtual 64, 3) := by decide +kernel
theorem dX11_owed_13 : decode cX11_owed 13 = .ok (.ireturn, 1) := by decide +kernel
theorem dX11_owed_14 : decode cX11_owed 14 = .ok (.aload_n 0, 1) := by decide +kernel
theorem dX11_owed_15 : decode cX11_owed 15 = .ok (.getfield 9, 3) := by decide +kernel
theorem dX11_owed_18 : decode cX11_owed 18 = .ok (.iconst 0, 1) := by decide +kernel
theorem dX11_owed_19 : decode cX11_owed 19 = .ok (.iaload, 1) := by decide +kernel
theorem dX11_owed_20 : decode cX11_owed 20 = .ok (.iload_n 1, 1) := by decide +kernel
theorem dX11_owed_21 : decode cX11_owed 21 = .ok (.if_icmp .le 32, 3) := by decide +kernel
theorem dX11_owed_24 : decode cX11_owed 24 = .ok (.aload_n 0, 1) := by decide +kernel
theorem dX11_owed_25 : decode cX11_owed 25 = .ok (.iconst 1, 1) := by decide +kernel
theorem dX11_owed_26 : decode cX11_owed 26 = .ok (.aload_n 0, 1) := by decide +kernel
theorem dX11_owed_27 : decode cX11_owed 27 = .ok (.getfield 9, 3) := by decide +kernel
theorem dX11_owed_30 : decode cX11_owed 30 = .ok (.iconst 0, 1) := by decide +kernel
theorem dX11_owed_31 : decode cX11_owed 31 = .ok (.iaload, 1) := by decide +kernel
theorem dX11_owed_32 : decode cX11_owed 32 = .ok (.aload_n 0, 1) := by decide +kernel
theorem dX11_owed_33 : decode cX11_owed 33 = .ok (.getfield 9, 3) := by decide +kernel
theorem dX11_owed_36 : decode cX11_owed 36 = .ok (.iconst 0, 1) := by decide +kernel
theorem dX11_owed_37 : decode cX11_owed 37 = .ok (.iaload, 1) := by decide +kernel
theorem dX11_owed_38 : decode cX11_owed 38 = .ok (.iload_n 1, 1) := by decide +kernel
theorem dX11_owed_39 : decode cX11_owed 39 = .ok (.isub, 1) := by decide +kernel
theorem dX11_owed_40 : decode cX11_owed 40 = .ok (.aload_n 0, 1) := by decide +kernel
theorem dX11_owed_41 : decode cX11_owed 41 = .ok (.getfield 9, 3) := by decide +kernel
theorem dX11_owed_44 : decode cX11_owed 44 = .ok (.iconst 0, 1) := by decide +kernel
theorem dX11_owed_45 : decode cX11_owed 45 = .ok (.iaload, 1) := by decide +kernel
theorem dX11_owed_46 : decode cX11_owed 46 = .ok (.iconst 0, 1) := by decide +kernel
theorem dX11_owed_47 : decode cX11_owed 47 = .ok (.invokevirtual 90, 3) := by decide +kernel
theorem dX11_owed_50 : decode cX11_owed 50 = .ok (.goto 4, 3) := by decide +kernel
theorem dX11_owed_53 : decode cX11_owed 53 = .ok (.iconst 0, 1) := by decide +kernel
theorem dX11_owed_54 : decode cX11_owed 54 = .ok (.ireturn, 1) := by decide +kernel
set_option maxHeartbeats 4000000 in
set_option maxRecDepth 100000 in
theorem c_X11_owedG (l : Launch) (D : va_G) (cI : ClassId) (aK aV : Nat → Nat) (k k0 k1 k2 k4 k5 k6 k7 k8 ka kb kl ko : Nat) (sz : Nat) (c3 : Int32) (c9 : Int32) (cc : Int32) (cd : Int32) (ce : Int32) (cf : Int32) (cg : Int32) (ch : Int32) (ci : Int32) (cj : Int32) (ck : Int32) (cm : Int32) (cn : Int32) (c0 : Nat → Int32) (c4 : Nat → Int32) (a0 : Int32) (pre0 : SB c0) : Met l yX11_owed (gW yX11_owed cX11_owed 2 (some .int)) ({ frames := 33, cells := 0, slots := 0, locals := 755 } : Room) (kPreX D cI aK aV [.ref k, .int a0] [(k, .inr (11, [.ref k0, .ref k1, .ref k2, .int c3, .ref k4, .ref k5, .ref k6, .ref k7, .ref k8, .int c9, .ref ka, .ref kb, .int cc, .int cd, .int ce, .int cf, .int cg, .int ch, .int ci, .int cj, .int ck, .ref kl, .int cm, .int cn, .ref ko])), (k0, .inl (cI, 1201, .inl c0)), (k4, .inl (cI, 6, .inl c4))] sz) (va_Qi (fun (r : Int32) (u : Int32 × Int32 × Int32 × Int32 × Int32 × Int32 × Int32 × Int32 × Int32 × (Nat → Int32)) => True) (fun u t => kWd D cI (va_A [(k, .inr (11, [.ref k0, .ref k1, .ref k2, .int c3, .ref k4, .ref k5, .ref k6, .ref k7, .ref k8, .int c9, .ref ka, .ref kb, .int cc, .int cd, .int ce, .int cf, .int cg, .int ch, .int ci, .int cj, .int ck, .ref kl, .int cm, .int cn, .ref ko])), (k0, .inl (cI, 1201, .inl c0)), (k4, .inl (cI, 6, .inl c4))] sz) [(k, .inr (11, [.ref k0, .ref k1, .ref k2, .int c3, .ref k4, .ref k5, .ref k6, .ref k7, .ref k8, .int c9, .ref ka, .ref kb, .int u.1, .int u.2.1, .int u.2.2.1, .int u.2.2.2.1, .int u.2.2.2.2.1, .int u.2.2.2.2.2.1, .int u.2.2.2.2.2.2.1, .int u.2.2.2.2.2.2.2.1, .int u.2.2.2.2.2.2.2.2.1, .ref kl, .int cm, .int cn, .ref ko])), (k0, .inl (cI, 1201, .inl c0)), (k4, .inl (cI, 6, .inl u.2.2.2.2.2.2.2.2.2))] t) (va_A [(k, .inr (11, [.ref k0, .ref k1, .ref k2, .int c3, .ref k4, .ref k5, .ref k6, .ref k7, .ref k8, .int c9, .ref ka, .ref kb, .int cc, .int cd, .int ce, .int cf, .int cg, .int ch, .int ci, .int cj, .int ck, .ref kl, .int cm, .int cn, .ref ko])), (k0, .inl (cI, 1201, .inl c0)), (k4, .inl (cI, 6, .inl c4))] sz)) 0 0 (va_A [(k, .inr (11, [.ref k0, .ref k1, .ref k2, .int c3, .ref k4, .ref k5, .ref k6, .ref k7, .ref k8, .int c9, .ref ka, .ref kb, .int cc, .int cd, .int ce, .int cf, .int cg, .int ch, .int ci, .int cj, .int ck, .ref kl, .int cm, .int cn, .ref ko])), (k0, .inl (cI, 1201, .inl c0)), (k4, .inl (cI, 6, .inl c4))] sz) := by
  refine kMetIX (own := RX11) (by decide) rfl (Nat.le_of_ble_eq_true rfl) ?_
  intro p e s m args below meth c hx hb hT hown hname hml A Q hK hP hD hS hA hN hXS hRet ls hl
  have hl : lv_has ls 2 [(0, .ref k), (1, .int a0)] := hl
  have lo_a0 := k_lo a0
  have hi_a0 := k_hi a0
  have lo_ci := k_lo ci
  have hi_ci := k_hi ci
  have pre0 : SB c0 := pre0
  have nb_1 : 0 ≤ (c0 0).toInt ∧ (c0 0).toInt ≤ 2000 := SB.n0 pre0
  have nb_2 : 0 ≤ (c0 1).toInt ∧ (c0 1).toInt ≤ 60 := SB.n1 pre0
  have nb_3 : 0 ≤ (c0 2).toInt ∧ (c0 2).toInt ≤ 4 := SB.n2 pre0
  refine lv_iload_n hx hb dX11_owed_0 rfl (lv_at hl 1 rfl) ?_
  refine kJi (wr := [(k, .inr (11, [.ref k0, .ref k1, .ref k2, .int c3, .ref k4, .ref k5, .ref k6, .ref k7, .ref k8, .int c9, .ref ka, .ref kb, .int cc, .int cd, .int ce, .int cf, .int cg, .int ch, .int ci, .int cj, .int ck, .ref kl, .int cm, .int cn, .ref ko])), (k0, .inl (cI, 1201, .inl c0)), (k4, .inl (cI, 6, .inl c4))]) (va_runS (As := [.int a0]) (rest := []) ⟨hx, hb, hml, hown, hT⟩ (c_X11_isDayG l D cI aK aV s.heap.size a0) (cwS 1 hT (gS_in mw_1479 mw_1477 mw_1478 mw_12) rfl rfl rfl (by decide +kernel) ⟨Nat.le_of_ble_eq_true rfl, Nat.le_of_ble_eq_true rfl⟩) (kStatX hK hP hD hN hXS hS hA [] rfl (by decide)) rfl rfl hl.1 rfl (lv_room (Nat.le_of_ble_eq_true rfl)) dX11_owed_1 ⟨Nat.le_of_ble_eq_true rfl, Nat.le_of_ble_eq_true rfl⟩) hP hD hS hA [] [0, 1, 2] rfl rfl (by decide) (by decide) ?_
  clear hP hD hS
  intro r_4 u_6 H locs w_5 hP hD hS
  replace hP : va_P D vwCl [(k, .inr (11, [.ref k0, .ref k1, .ref k2, .int c3, .ref k4, .ref k5, .ref k6, .ref k7, .ref k8, .int c9, .ref ka, .ref kb, .int cc, .int cd, .int ce, .int cf, .int cg, .int ch, .int ci, .int cj, .int ck, .ref kl, .int cm, .int cn, .ref ko])), (k0, .inl (cI, 1201, .inl c0)), (k4, .inl (cI, 6, .inl c4))] H := hP
  replace hD : va_D A [(k, .inr (11, [.ref k0, .ref k1, .ref k2, .int c3, .ref k4, .ref k5, .ref k6, .ref k7, .ref k8, .int c9, .ref ka, .ref kb, .int cc, .int cd, .int ce, .int cf, .int cg, .int ch, .int ci, .int cj, .int ck, .ref kl, .int cm, .int cn, .ref ko])), (k0, .inl (cI, 1201, .inl c0)), (k4, .inl (cI, 6, .inl c4))] := hD
  rcases w_5 with ⟨hr_4, h_7, h_8⟩ | ⟨hr_4, h_9⟩
  · have h_7 : 0 ≤ a0.toInt := h_7
    have h_8 : a0.toInt ≤ 2000 := h_8
    obtain rfl : r_4 = 1 := hr_4.trans (by decide)
    refine b_if_ne hx hb zl_1 (tgt := 14) dX11_owed_4 (by decide) (fun c_10 => ?_) (fun c_10 => by exfalso; omega)
    refine lv_aload_n hx hb dX11_owed_14 rfl (lv_at hl 0 rfl) ?_
    refine va_get (D := D) (ci := 11) (v := .ref k0) (C := RX11) (T := TX11) (N := 25) hx hb hT giX11 hown hK hP 0 rfl rfl 0 (by decide) (hT (Cond.fieldLink RX11 9 "DesertWireModel" "s" "[I") mw_1156) (fun _ h9 => h9) rfl dX11_owed_15 ?_
    refine lv_iconst (v := 0) hx hb dX11_owed_18 (by decide) ?_
    refine k_iald (v := (c0 0)) hx hb hK hP 1 0 rfl rfl (k_inl (by decide)) rfl dX11_owed_19 ?_
    refine lv_topi (fun v_11 ev_11 => ?_)
    have lo_v_11 := k_lo v_11
    have hi_v_11 := k_hi v_11
    have tv_11 : v_11.toInt = (c0 0).toInt := by rw [ev_11]
    have b_12 : 0 ≤ v_11.toInt ∧ v_11.toInt ≤ 2000 := by first | (rw [tv_11]; exact SB.n0 pre0) | exact SB.n0 pre0 | omega
    refine lv_iload_n hx hb dX11_owed_20 rfl (lv_at hl 1 rfl) ?_
    refine b_icmp_le hx hb rfl rfl (tgt := 53) dX11_owed_21 (by decide) (fun c_13 => ?_) (fun c_13 => ?_)
    · refine lv_iconst (v := 0) hx hb dX11_owed_53 (by decide) ?_
      exact hRet (cc, cd, ce, cf, cg, ch, ci, cj, ck, c4) [0, 1, 2] trivial hP hD (by decide) rfl hS rfl dX11_owed_54
    · refine lv_aload_n hx hb dX11_owed_24 rfl (lv_at hl 0 rfl) ?_
      refine lv_iconst (v := 1) hx hb dX11_owed_25 (by decide) ?_
      refine lv_aload_n hx hb dX11_owed_26 rfl (lv_at hl 0 rfl) ?_
      refine va_get (D := D) (ci := 11) (v := .ref k0) (C := RX11) (T := TX11) (N := 25) hx hb hT giX11 hown hK hP 0 rfl rfl 0 (by decide) (hT (Cond.fieldLink RX11 9 "DesertWireModel" "s" "[I") mw_1156) (fun _ h9 => h9) rfl dX11_owed_27 ?_
      refine lv_iconst (v := 0) hx hb dX11_owed_30 (by decide) ?_
      refine k_iald (v := (c0 0)) hx hb hK hP 1 0 rfl rfl (k_inl (by decide)) rfl dX11_owed_31 ?_
      refine lv_topi (fun v_14 ev_14 => ?_)
      have lo_v_14 := k_lo v_14
      have hi_v_14 := k_hi v_14
      have tv_14 : v_14.toInt = (c0 0).toInt := by rw [ev_14]
      have b_15 : 0 ≤ v_14.toInt ∧ v_14.toInt ≤ 2000 := by first | (rw [tv_14]; exact SB.n0 pre0) | exact SB.n0 pre0 | omega
      refine lv_aload_n hx hb dX11_owed_32 rfl (lv_at hl 0 rfl) ?_
      refine va_get (D := D) (ci := 11) (v := .ref k0) (C := RX11) (T := TX11) (N := 25) hx hb hT giX11 hown hK hP 0 rfl rfl 0 (by decide) (hT (Cond.fieldLink RX11 9 "DesertWireModel" "s" "[I") mw_1156) (fun _ h9 => h9) rfl dX11_owed_33 ?_
      refine lv_iconst (v := 0) hx hb dX11_owed_36 (by decide) ?_
      refine k_iald (v := (c0 0)) hx hb hK hP 1 0 rfl rfl (k_inl (by decide)) rfl dX11_owed_37 ?_
      refine lv_topi (fun v_16 ev_16 => ?_)
      have lo_v_16 := k_lo v_16
      have hi_v_16 := k_hi v_16
      have tv_16 : v_16.toInt = (c0 0).toInt := by rw [ev_16]
      have b_17 : 0 ≤ v_16.toInt ∧ v_16.toInt ≤ 2000 := by first | (rw [tv_16]; exact SB.n0 pre0) | exact SB.n0 pre0 | omega
      refine lv_iload_n hx hb dX11_owed_38 rfl (lv_at hl 1 rfl) ?_
      refine lv_isub hx hb dX11_owed_39 ?_
      refine lv_topi (fun v_18 ev_18 => ?_)
      have tv_18 : v_18.toInt = v_16.toInt - a0.toInt := by rw [ev_18]; exact k_subv rfl rfl (by omega) (by omega)
      refine lv_aload_n hx hb dX11_owed_40 rfl (lv_at hl 0 rfl) ?_
      refine va_get (D := D) (ci := 11) (v := .ref k0) (C := RX11) (T := TX11) (N := 25) hx hb hT giX11 hown hK hP 0 rfl rfl 0 (by decide) (hT (Cond.fieldLink RX11 9 "DesertWireModel" "s" "[I") mw_1156) (fun _ h9 => h9) rfl dX11_owed_41 ?_
      refine lv_iconst (v := 0) hx hb dX11_owed_44 (by decide) ?_
      refine k_iald (v := (c0 0)) hx hb hK hP 1 0 rfl rfl (k_inl (by decide)) rfl dX11_owed_45 ?_
      refine lv_topi (fun v_19 ev_19 => ?_)
      have lo_v_19 := k_lo v_19
      have hi_v_19 := k_hi v_19
      have tv_19 : v_19.toInt = (c0 0).toInt := by rw [ev_19]
      have b_20 : 0 ≤ v_19.toInt ∧ v_19.toInt ≤ 2000 := by first | (rw [tv_19]; exact SB.n0 pre0) | exact SB.n0 pre0 | omega
      refine lv_iconst (v := 0) hx hb dX11_owed_46 (by decide) ?_
      refine kJi (wr := [(k4, .inl (cI, 6, .inl c4))]) (va_runV (As := [.int 1, .int v_14, .int v_18, .int v_19, .int 0]) (rest := []) ⟨hx, hb, hml, hown, hT⟩ (c_X11_priceOfG l D cI aK aV k k0 k1 k2 k4 k5 k6 k7 k8 ka kb kl ko H.size c3 c9 cc cd ce cf cg ch ci cj ck cm cn c0 1 v_14 v_18 v_19 0 pre0) (cwV 5 hT (gV_in mw_1299 mw_1296 mw_1298 mw_p3_15 mw_12) rfl rfl rfl (by decide +kernel) ⟨Nat.le_of_ble_eq_true rfl, Nat.le_of_ble_eq_true rfl⟩) (kRecvX (q0 := 0) (ci := 11) hK hP hD hN hXS hS hA rfl rfl [0, 1] rfl (by decide)) rfl rfl hl.1 rfl (lv_room (Nat.le_of_ble_eq_true rfl)) dX11_owed_47 ⟨Nat.le_of_ble_eq_true rfl, Nat.le_of_ble_eq_true rfl⟩) hP hD hS hA [0, 1] [2] rfl rfl (by decide) (by decide) ?_
      clear hP hD hS
      intro r_21 u_32 H locs w_22 hP hD hS
      obtain ⟨scc_23, scd_24, sce_25, scf_26, scg_27, sch_28, sci_29, scj_30, sck_31⟩ := u_32
      replace hP : va_P D vwCl [(k4, .inl (cI, 6, .inl c4)), (k, .inr (11, [.ref k0, .ref k1, .ref k2, .int c3, .ref k4, .ref k5, .ref k6, .ref k7, .ref k8, .int c9, .ref ka, .ref kb, .int scc_23, .int scd_24, .int sce_25, .int scf_26, .int scg_27, .int sch_28, .int sci_29, .int scj_30, .int sck_31, .ref kl, .int cm, .int cn, .ref ko])), (k0, .inl (cI, 1201, .inl c0))] H := hP
      replace hD : va_D A [(k4, .inl (cI, 6, .inl c4)), (k, .inr (11, [.ref k0, .ref k1, .ref k2, .int c3, .ref k4, .ref k5, .ref k6, .ref k7, .ref k8, .int c9, .ref ka, .ref kb, .int scc_23, .int scd_24, .int sce_25, .int scf_26, .int scg_27, .int sch_28, .int sci_29, .int scj_30, .int sck_31, .ref kl, .int cm, .int cn, .ref ko])), (k0, .inl (cI, 1201, .inl c0))] := hD
      have lo_r_21 := k_lo r_21
      have hi_r_21 := k_hi r_21
      refine lv_goto (tgt := 54) hx hb dX11_owed_50 (by decide) ?_
      exact hRet (scc_23, scd_24, sce_25, scf_26, scg_27, sch_28, sci_29, scj_30, sck_31, c4) [1, 2, 0] trivial hP hD (by decide) rfl hS rfl dX11_owed_54
  · have h_9 : a0.toInt < 0 ∨ 2000 < a0.toInt := h_9
    obtain rfl : r_4 = 0 := hr_4.trans (by decide)
    refine b_if_ne hx hb zl_0 (tgt := 14) dX11_owed_4 (by decide) (fun c_33 => by exfalso; omega) (fun c_33 => ?_)
    refine lv_aload_n hx hb dX11_owed_7 rfl (lv_at hl 0 rfl) ?_
    refine lv_ldc (v := (-1000001)) hx hb hown (hT _ mw_1239) dX11_owed_8 ?_
    refine kJi (wr := [(k0, .inl (cI, 1201, .inl c0))]) (va_runV (As := [.int (-1000001)]) (rest := []) ⟨hx, hb, hml, hown, hT⟩ (c_X11_findingG l D cI aK aV k k0 k1 k2 k4 k5 k6 k7 k8 ka kb kl ko H.size c3 c9 cc cd ce cf cg ch ci cj ck cm cn c4 (-1000001) (by first | omega | (simp only [zl_m1000001] <;> omega) | decide | assumption | rfl) (by first | omega | (simp only [zl_m1000001] <;> omega) | decide | assumption | rfl)) (cwV 1 hT (gV_in mw_1243 mw_1240 mw_1242 mw_p3_8 mw_12) rfl rfl rfl (by decide +kernel) ⟨Nat.le_of_ble_eq_true rfl, Nat.le_of_ble_eq_true rfl⟩) (kRecvX (q0 := 0) (ci := 11) hK hP hD hN hXS hS hA rfl rfl [0, 2] rfl (by decide)) rfl rfl hl.1 rfl (lv_room (Nat.le_of_ble_eq_true rfl)) dX11_owed_10 ⟨Nat.le_of_ble_eq_true rfl, Nat.le_of_ble_eq_true rfl⟩) hP hD hS hA [0, 2] [1] rfl rfl (by decide) (by decide) ?_
    clear hP hD hS
    intro r_34 sc4_36 H locs w_35 hP hD hS
    replace hP : va_P D vwCl [(k0, .inl (cI, 1201, .inl c0)), (k, .inr (11, [.ref k0, .ref k1, .ref k2, .int c3, .ref k4, .ref k5, .ref k6, .ref k7, .ref k8, .int c9, .ref ka, .ref kb, .int cc, .int cd, .int ce, .int cf, .int cg, .int ch, .int ci, .int cj, .int ck, .ref kl, .int cm, .int cn, .ref ko])), (k4, .inl (cI, 6, .inl sc4_36))] H := hP
    replace hD : va_D A [(k0, .inl (cI, 1201, .inl c0)), (k, .inr (11, [.ref k0, .ref k1, .ref k2, .int c3, .ref k4, .ref k5, .ref k6, .ref k7, .ref k8, .int c9, .ref ka, .ref kb, .int cc, .int cd, .int ce, .int cf, .int cg, .int ch, .int ci, .int cj, .int ck, .ref kl, .int cm, .int cn, .ref ko])), (k4, .inl (cI, 6, .inl sc4_36))] := hD
    have hr_34 := w_35
    obtain rfl : r_34 = (-1000001) := hr_34.trans (by decide)
    exact hRet (cc, cd, ce, cf, cg, ch, ci, cj, ck, sc4_36) [1, 0, 2] trivial hP hD (by decide) rfl hS rfl dX11_owed_13
theorem dX11_workIs_0 : decode cX11_workIs 0 = .ok (.aload_n 0, 1) := by decide +kernel
theorem dX11_workIs_1 : decode cX11_workIs 1 = .ok (.iload_n 1, 1) := by decide +kernel
theorem dX11_workIs_2 : decode cX11_workIs 2 = .ok (.invokevirtual 80, 3) := by decide +kernel
theorem dX11_workIs_5 : decode cX11_workIs 5 = .ok (.ifCond .eq 13, 3) := by decide +kernel
theorem dX11_workIs_8 : decode cX11_workIs 8 = .ok (.iload_n 2, 1) := by decide +kernel
theorem dX11_workIs_9 : decode cX11_workIs 9 = .ok (.iconst 0, 1) := by decide +kernel
theorem dX11_workIs_10 : decode cX11_workIs 10 = .ok (.bipush 7, 2) := by decide +kernel
theorem dX11_workIs_12 : decode cX11_workIs 12 = .ok (.invokestatic 47, 3) := by decide +kernel
theorem dX11_workIs_15 : decode cX11_workIs 15 = .ok (.ifCond .ne 10, 3) := by decide +kernel
theorem dX11_workIs_18 : decode cX11_workIs 18 = .ok (.aload_n 0, 1) := by decide +kernel
theorem dX11_workIs_19 : decode cX11_workIs 19 = .ok (.ldc 63, 2) := by decide +kernel
theorem dX11_workIs_21 : decode cX11_workIs 21 = .ok (.invokevirtual 64, 3) := by decide +kernel
theorem dX11_workIs_24 : decode cX11_workIs 24 = .ok (.ireturn, 1) := by decide +kernel
theorem dX11_workIs_25 : decode cX11_workIs 25 = .ok (.iload_n 2, 1) := by decide +kernel
theorem dX11_workIs_26 : decode cX11_workIs 26 = .ok (.tableswitch 91 5 7 #[26, 32, 53], 26) := by decide +kernel
theorem dX11_workIs_52 : decode cX11_workIs 52 = .ok (.aload_n 0, 1) := by decide +kernel
theorem dX11_workIs_53 : decode cX11_workIs 53 = .ok (.iload_n 1, 1) := by decide +kernel
theorem dX11_workIs_54 : decode cX11_workIs 54 = .ok (.invokevirtual 87, 3) := by decide +kernel
theorem dX11_workIs_57 : decode cX11_workIs 57 = .ok (.ireturn, 1) := by decide +kernel
theorem dX11_workIs_58 : decode cX11_workIs 58 = .ok (.aload_n 0, 1) := by decide +kernel
theorem dX11_workIs_59 : decode cX11_workIs 59 = .ok (.iload_n 1, 1) := by decide +kernel
theorem dX11_workIs_60 : decode cX11_workIs 60 = .ok (.iconst 0, 1) := by decide +kernel
theorem dX11_workIs_61 : decode cX11_workIs 61 = .ok (.invokevirtual 55, 3) := by decide +kernel
theorem dX11_workIs_64 : decode cX11_workIs 64 = .ok (.iconst 5, 1) := by decide +kernel
theorem dX11_workIs_65 : decode cX11_workIs 65 = .ok (.if_icmp .ne 12, 3) := by decide +kernel
theorem dX11_workIs_68 : decode cX11_workIs 68 = .ok (.aload_n 0, 1) := by decide +kernel
theorem dX11_workIs_69 : decode cX11_workIs 69 = .ok (.iload_n 1, 1) := by decide +kernel
theorem dX11_workIs_70 : decode cX11_workIs 70 = .ok (.iconst 5, 1) := by decide +kernel
theorem dX11_workIs_71 : decode cX11_workIs 71 = .ok (.invokevirtual 55, 3) := by decide +kernel
theorem dX11_workIs_74 : decode cX11_workIs 74 = .ok (.goto 4, 3) := by decide +kernel
theorem dX11_workIs_77 : decode cX11_workIs 77 = .ok (.iconst (-1), 1) := by decide +kernel
theorem dX11_workIs_78 : decode cX11_workIs 78 = .ok (.ireturn, 1) := by decide +kernel
theorem dX11_workIs_79 : decode cX11_workIs 79 = .ok (.aload_n 0, 1) := by decide +kernel
theorem dX11_workIs_80 : decode cX11_workIs 80 = .ok (.iload_n 1, 1) := by decide +kernel
theorem dX11_workIs_81 : decode cX11_workIs 81 = .ok (.iconst 1, 1) := by decide +kernel
theorem dX11_workIs_82 : decode cX11_workIs 82 = .ok (.invokevirtual 84, 3) := by decide +kernel
theorem dX11_workIs_85 : decode cX11_workIs 85 = .ok (.ifCond .eq 30, 3) := by decide +kernel
theorem dX11_workIs_88 : decode cX11_workIs 88 = .ok (.aload_n 0, 1) := by decide +kernel
theorem dX11_workIs_89 : decode cX11_workIs 89 = .ok (.iconst 2, 1) := by decide +kernel
theorem dX11_workIs_90 : decode cX11_workIs 90 = .ok (.aload_n 0, 1) := by decide +kernel
theorem dX11_workIs_91 : decode cX11_workIs 91 = .ok (.getfield 9, 3) := by decide +kernel
theorem dX11_workIs_94 : decode cX11_workIs 94 = .ok (.iconst 0, 1) := by decide +kernel
theorem dX11_workIs_95 : decode cX11_workIs 95 = .ok (.iaload, 1) := by decide +kernel
theorem dX11_workIs_96 : decode cX11_workIs 96 = .ok (.aload_n 0, 1) := by decide +kernel
theorem dX11_workIs_97 : decode cX11_workIs 97 = .ok (.iload_n 1, 1) := by decide +kernel
theorem dX11_workIs_98 : decode cX11_workIs 98 = .ok (.iconst 0, 1) := by decide +kernel
theorem dX11_workIs_99 : decode cX11_workIs 99 = .ok (.invokevirtual 55, 3) := by decide +kernel
theorem dX11_workIs_102 : decode cX11_workIs 102 = .ok (.aload_n 0, 1) := by decide +kernel
theorem dX11_workIs_103 : decode cX11_workIs 103 = .ok (.iload_n 1, 1) := by decide +kernel
theorem dX11_workIs_104 : decode cX11_workIs 104 = .ok (.iconst 2, 1) := by decide +kernel
theorem dX11_workIs_105 : decode cX11_workIs 105 = .ok (.invokevirtual 55, 3) := by decide +kernel
theorem dX11_workIs_108 : decode cX11_workIs 108 = .ok (.iconst 0, 1) := by decide +kernel
theorem dX11_workIs_109 : decode cX11_workIs 109 = .ok (.invokevirtual 90, 3) := by decide +kernel
theorem dX11_workIs_112 : decode cX11_workIs 112 = .ok (.goto 4, 3) := by decide +kernel
theorem dX11_workIs_115 : decode cX11_workIs 115 = .ok (.iconst 0, 1) := by decide +kernel
theorem dX11_workIs_116 : decode cX11_workIs 116 = .ok (.ireturn, 1) := by decide +kernel
theorem dX11_workIs_117 : decode cX11_workIs 117 = .ok (.aload_n 0, 1) := by decide +kernel
theorem dX11_workIs_118 : decode cX11_workIs 118 = .ok (.iload_n 1, 1) := by decide +kernel
theorem dX11_workIs_119 : decode cX11_workIs 119 = .ok (.iload_n 2, 1) := by decide +kernel
theorem dX11_workIs_120 : decode cX11_workIs 120 = .ok (.invokevirtual 55, 3) := by decide +kernel
theorem dX11_workIs_123 : decode cX11_workIs 123 = .ok (.ireturn, 1) := by decide +kernel
set_option maxHeartbeats 4000000 in
set_option maxRecDepth 100000 in
theorem c_X11_workIsG (l : Launch) (D : va_G) (cI : ClassId) (aK aV : Nat → Nat) (k k0 k1 k2 k4 k5 k6 k7 k8 ka kb kl ko : Nat) (sz : Nat) (c3 : Int32) (c9 : Int32) (cc : Int32) (cd : Int32) (ce : Int32) (cf : Int32) (cg : Int32) (ch : Int32) (ci : Int32) (cj : Int32) (ck : Int32) (cm : Int32) (cn : Int32) (c0 : Nat → Int32) (c4 : Nat → Int32) (a0 : Int32) (a1 : Int32) (pre0 : SB c0) : Met l yX11_workIs (gW yX11_workIs cX11_workIs 3 (some .int)) ({ frames := 33, cells := 0, slots := 0, locals := 755 } : Room) (kPreX D cI aK aV [.ref k, .int a0, .int a1] [(k, .inr (11, [.ref k0, .ref k1, .ref k2, .int c3, .ref k4, .ref k5, .ref k6, .ref k7, .ref k8, .int c9, .ref ka, .ref kb, .int cc, .int cd, .int ce, .int cf, .int cg, .int ch, .int ci, .int cj, .int ck, .ref kl, .int cm, .int cn, .ref ko])), (k0, .inl (cI, 1201, .inl c0)), (k4, .inl (cI, 6, .inl c4))] sz) (va_Qi (fun (r : Int32) (u : Int32 × Int32 × Int32 × Int32 × Int32 × Int32 × Int32 × Int32 × Int32 × (Nat → Int32)) => True) (fun u t => kWd D cI (va_A [(k, .inr (11, [.ref k0, .ref k1, .ref k2, .int c3, .ref k4, .ref k5, .ref k6, .ref k7, .ref k8, .int c9, .ref ka, .ref kb, .int cc, .int cd, .int ce, .int cf, .int cg, .int ch, .int ci, .int cj, .int ck, .ref kl, .int cm, .int cn, .ref ko])), (k0, .inl (cI, 1201, .inl c0)), (k4, .inl (cI, 6, .inl c4))] sz) [(k, .inr (11, [.ref k0, .ref k1, .ref k2, .int c3, .ref k4, .ref k5, .ref k6, .ref k7, .ref k8, .int c9, .ref ka, .ref kb, .int u.1, .int u.2.1, .int u.2.2.1, .int u.2.2.2.1, .int u.2.2.2.2.1, .int u.2.2.2.2.2.1, .int u.2.2.2.2.2.2.1, .int u.2.2.2.2.2.2.2.1, .int u.2.2.2.2.2.2.2.2.1, .ref kl, .int cm, .int cn, .ref ko])), (k0, .inl (cI, 1201, .inl c0)), (k4, .inl (cI, 6, .inl u.2.2.2.2.2.2.2.2.2))] t) (va_A [(k, .inr (11, [.ref k0, .ref k1, .ref k2, .int c3, .ref k4, .ref k5, .ref k6, .ref k7, .ref k8, .int c9, .ref ka, .ref kb, .int cc, .int cd, .int ce, .int cf, .int cg, .int ch, .int ci, .int cj, .int ck, .ref kl, .int cm, .int cn, .ref ko])), (k0, .inl (cI, 1201, .inl c0)), (k4, .inl (cI, 6, .inl c4))] sz)) 0 0 (va_A [(k, .inr (11, [.ref k0, .ref k1, .ref k2, .int c3, .ref k4, .ref k5, .ref k6, .ref k7, .ref k8, .int c9, .ref ka, .ref kb, .int cc, .int cd, .int ce, .int cf, .int cg, .int ch, .int ci, .int cj, .int ck, .ref kl, .int cm, .int cn, .ref ko])), (k0, .inl (cI, 1201, .inl c0)), (k4, .inl (cI, 6, .inl c4))] sz) := by
  refine kMetIX (own := RX11) (by decide) rfl (Nat.le_of_ble_eq_true rfl) ?_
  intro p e s m args below meth c hx hb hT hown hname hml A Q hK hP hD hS hA hN hXS hRet ls hl
  have hl : lv_has ls 3 [(0, .ref k), (1, .int a0), (2, .int a1)] := hl
  have lo_a0 := k_lo a0
  have hi_a0 := k_hi a0
  have lo_a1 := k_lo a1
  have hi_a1 := k_hi a1
  have lo_ci := k_lo ci
  have hi_ci := k_hi ci
  have pre0 : SB c0 := pre0
  have nb_1 : 0 ≤ (c0 0).toInt ∧ (c0 0).toInt ≤ 2000 := SB.n0 pre0
  have nb_2 : 0 ≤ (c0 1).toInt ∧ (c0 1).toInt ≤ 60 := SB.n1 pre0
  have nb_3 : 0 ≤ (c0 2).toInt ∧ (c0 2).toInt ≤ 4 := SB.n2 pre0
  refine lv_aload_n hx hb dX11_workIs_0 rfl (lv_at hl 0 rfl) ?_
  refine lv_iload_n hx hb dX11_workIs_1 rfl (lv_at hl 1 rfl) ?_
  refine kJi (wr := [(k4, .inl (cI, 6, .inl c4))]) (va_runV (As := [.int a0]) (rest := []) ⟨hx, hb, hml, hown, hT⟩ (c_X11_isWorkG l D cI aK aV k k0 k1 k2 k4 k5 k6 k7 k8 ka kb kl ko s.heap.size c3 c9 cc cd ce cf cg ch ci cj ck cm cn c0 a0 pre0) (cwV 1 hT (gV_in mw_1272 mw_1269 mw_1271 mw_p3_11 mw_12) rfl rfl rfl (by decide +kernel) ⟨Nat.le_of_ble_eq_true rfl, Nat.le_of_ble_eq_true rfl⟩) (kRecvX (q0 := 0) (ci := 11) hK hP hD hN hXS hS hA rfl rfl [0, 1] rfl (by decide)) rfl rfl hl.1 rfl (lv_room (Nat.le_of_ble_eq_true rfl)) dX11_workIs_2 ⟨Nat.le_of_ble_eq_true rfl, Nat.le_of_ble_eq_true rfl⟩) hP hD hS hA [0, 1] [2] rfl rfl (by decide) (by decide) ?_
  clear hP hD hS
  intro r_4 u_6 H locs w_5 hP hD hS
  replace hP : va_P D vwCl [(k4, .inl (cI, 6, .inl c4)), (k, .inr (11, [.ref k0, .ref k1, .ref k2, .int c3, .ref k4, .ref k5, .ref k6, .ref k7, .ref k8, .int c9, .ref ka, .ref kb, .int cc, .int cd, .int ce, .int cf, .int cg, .int ch, .int ci, .int cj, .int ck, .ref kl, .int cm, .int cn, .ref ko])), (k0, .inl (cI, 1201, .inl c0))] H := hP
  replace hD : va_D A [(k4, .inl (cI, 6, .inl c4)), (k, .inr (11, [.ref k0, .ref k1, .ref k2, .int c3, .ref k4, .ref k5, .ref k6, .ref k7, .ref k8, .int c9, .ref ka, .ref kb, .int cc, .int cd, .int ce, .int cf, .int cg, .int ch, .int ci, .int cj, .int ck, .ref kl, .int cm, .int cn, .ref ko])), (k0, .inl (cI, 1201, .inl c0))] := hD
  rcases w_5 with ⟨hr_4, h_7, h_8⟩ | ⟨hr_4, h_9⟩
  · have h_7 : 0 ≤ a0.toInt := h_7
    have h_8 : a0.toInt < (c0 1).toInt := h_8
    obtain rfl : r_4 = 1 := hr_4.trans (by decide)
    refine b_if_eq hx hb zl_1 (tgt := 18) dX11_workIs_5 (by decide) (fun c_10 => by exfalso; omega) (fun c_10 => ?_)
    refine lv_iload_n hx hb dX11_workIs_8 rfl (lv_at hl 2 rfl) ?_
    refine lv_iconst (v := 0) hx hb dX11_workIs_9 (by decide) ?_
    refine lv_bipush (v := 7) hx hb dX11_workIs_10 (by decide) ?_
    refine kJi (wr := [(k4, .inl (cI, 6, .inl c4)), (k, .inr (11, [.ref k0, .ref k1, .ref k2, .int c3, .ref k4, .ref k5, .ref k6, .ref k7, .ref k8, .int c9, .ref ka, .ref kb, .int cc, .int cd, .int ce, .int cf, .int cg, .int ch, .int ci, .int cj, .int ck, .ref kl, .int cm, .int cn, .ref ko])), (k0, .inl (cI, 1201, .inl c0))]) (va_runS (As := [.int a1, .int 0, .int 7]) (rest := []) ⟨hx, hb, hml, hown, hT⟩ (c_X11_inG l D cI aK aV H.size a1 0 7) (cwS 3 hT (gS_in mw_1238 mw_1236 mw_1237 mw_12) rfl rfl rfl (by decide +kernel) ⟨Nat.le_of_ble_eq_true rfl, Nat.le_of_ble_eq_true rfl⟩) (kStatX hK hP hD hN hXS hS hA [] rfl (by decide)) rfl rfl hl.1 rfl (lv_room (Nat.le_of_ble_eq_true rfl)) dX11_workIs_12 ⟨Nat.le_of_ble_eq_true rfl, Nat.le_of_ble_eq_true rfl⟩) hP hD hS hA [] [0, 1, 2] rfl rfl (by decide) (by decide) ?_
    clear hP hD hS
    intro r_11 u_13 H locs w_12 hP hD hS
    replace hP : va_P D vwCl [(k4, .inl (cI, 6, .inl c4)), (k, .inr (11, [.ref k0, .ref k1, .ref k2, .int c3, .ref k4, .ref k5, .ref k6, .ref k7, .ref k8, .int c9, .ref ka, .ref kb, .int cc, .int cd, .int ce, .int cf, .int cg, .int ch, .int ci, .int cj, .int ck, .ref kl, .int cm, .int cn, .ref ko])), (k0, .inl (cI, 1201, .inl c0))] H := hP
    replace hD : va_D A [(k4, .inl (cI, 6, .inl c4)), (k, .inr (11, [.ref k0, .ref k1, .ref k2, .int c3, .ref k4, .ref k5, .ref k6, .ref k7, .ref k8, .int c9, .ref ka, .ref kb, .int cc, .int cd, .int ce, .int cf, .int cg, .int ch, .int ci, .int cj, .int ck, .ref kl, .int cm, .int cn, .ref ko])), (k0, .inl (cI, 1201, .inl c0))] := hD
    rcases w_12 with ⟨hr_11, h_14, h_15⟩ | ⟨hr_11, h_16⟩
    · try simp only [zl_0, zl_7] at h_14
      have h_14 : 0 ≤ a1.toInt := h_14
      try simp only [zl_0, zl_7] at h_15
      have h_15 : a1.toInt ≤ 7 := h_15
      obtain rfl : r_11 = 1 := hr_11.trans (by decide)
      refine b_if_ne hx hb zl_1 (tgt := 25) dX11_workIs_15 (by decide) (fun c_17 => ?_) (fun c_17 => by exfalso; omega)
      refine lv_iload_n hx hb dX11_workIs_25 rfl (lv_at hl 2 rfl) ?_
      by_cases c_18 : a1.toInt = 5
      · refine lv_tableIn (off := 26) (tgt := 52) hx hb dX11_workIs_26 (by omega) (by omega) (by rw [c_18]; decide) (by decide) ?_
        refine lv_aload_n hx hb dX11_workIs_52 rfl (lv_at hl 0 rfl) ?_
        refine lv_iload_n hx hb dX11_workIs_53 rfl (lv_at hl 1 rfl) ?_
        refine kJi (wr := [(k4, .inl (cI, 6, .inl c4))]) (va_runV (As := [.int a0]) (rest := []) ⟨hx, hb, hml, hown, hT⟩ (c_X11_eatenOnG l D cI aK aV k k0 k1 k2 k4 k5 k6 k7 k8 ka kb kl ko H.size c3 c9 cc cd ce cf cg ch ci cj ck cm cn c0 a0 pre0 (by first | omega | decide | assumption | rfl) (by first | omega | decide | assumption | rfl)) (cwV 1 hT (gV_in mw_1291 mw_1288 mw_1290 mw_p3_13 mw_12) rfl rfl rfl (by decide +kernel) ⟨Nat.le_of_ble_eq_true rfl, Nat.le_of_ble_eq_true rfl⟩) (kRecvX (q0 := 1) (ci := 11) hK hP hD hN hXS hS hA rfl rfl [1, 2] rfl (by decide)) rfl rfl hl.1 rfl (lv_room (Nat.le_of_ble_eq_true rfl)) dX11_workIs_54 ⟨Nat.le_of_ble_eq_true rfl, Nat.le_of_ble_eq_true rfl⟩) hP hD hS hA [1, 2] [0] rfl rfl (by decide) (by decide) ?_
        clear hP hD hS
        intro r_19 u_21 H locs w_20 hP hD hS
        replace hP : va_P D vwCl [(k4, .inl (cI, 6, .inl c4)), (k, .inr (11, [.ref k0, .ref k1, .ref k2, .int c3, .ref k4, .ref k5, .ref k6, .ref k7, .ref k8, .int c9, .ref ka, .ref kb, .int cc, .int cd, .int ce, .int cf, .int cg, .int ch, .int ci, .int cj, .int ck, .ref kl, .int cm, .int cn, .ref ko])), (k0, .inl (cI, 1201, .inl c0))] H := hP
        replace hD : va_D A [(k4, .inl (cI, 6, .inl c4)), (k, .inr (11, [.ref k0, .ref k1, .ref k2, .int c3, .ref k4, .ref k5, .ref k6, .ref k7, .ref k8, .int c9, .ref ka, .ref kb, .int cc, .int cd, .int ce, .int cf, .int cg, .int ch, .int ci, .int cj, .int ck, .ref kl, .int cm, .int cn, .ref ko])), (k0, .inl (cI, 1201, .inl c0))] := hD
        have lo_r_19 := k_lo r_19
        have hi_r_19 := k_hi r_19
        exact hRet (cc, cd, ce, cf, cg, ch, ci, cj, ck, c4) [1, 2, 0] trivial hP hD (by decide) rfl hS rfl dX11_workIs_57
      by_cases c_22 : a1.toInt = 6
      · refine lv_tableIn (off := 32) (tgt := 58) hx hb dX11_workIs_26 (by omega) (by omega) (by rw [c_22]; decide) (by decide) ?_
        refine lv_aload_n hx hb dX11_workIs_58 rfl (lv_at hl 0 rfl) ?_
        refine lv_iload_n hx hb dX11_workIs_59 rfl (lv_at hl 1 rfl) ?_
        refine lv_iconst (v := 0) hx hb dX11_workIs_60 (by decide) ?_
        refine kJi (wr := [(k4, .inl (cI, 6, .inl c4))]) (va_runV (As := [.int a0, .int 0]) (rest := []) ⟨hx, hb, hml, hown, hT⟩ (c_X11_workG0 l D cI aK aV k k0 k1 k2 k4 k5 k6 k7 k8 ka kb kl ko H.size c3 c9 cc cd ce cf cg ch ci cj ck cm cn c0 a0 0 (by first | omega | (simp only [zl_0] <;> omega) | decide | assumption | rfl) (by first | omega | (simp only [zl_0] <;> omega) | decide | assumption | rfl) (by first | omega | (simp only [zl_0] <;> omega) | decide | assumption | rfl)) (cwV 2 hT (gV_in mw_1276 mw_1273 mw_1275 mw_p3_12 mw_12) rfl rfl rfl (by decide +kernel) ⟨Nat.le_of_ble_eq_true rfl, Nat.le_of_ble_eq_true rfl⟩) (kRecvX (q0 := 1) (ci := 11) hK hP hD hN hXS hS hA rfl rfl [1, 2] rfl (by decide)) rfl rfl hl.1 rfl (lv_room (Nat.le_of_ble_eq_true rfl)) dX11_workIs_61 ⟨Nat.le_of_ble_eq_true rfl, Nat.le_of_ble_eq_true rfl⟩) hP hD hS hA [1, 2] [0] rfl rfl (by decide) (by decide) ?_
        clear hP hD hS
        intro r_23 u_25 H locs w_24 hP hD hS
        replace hP : va_P D vwCl [(k4, .inl (cI, 6, .inl c4)), (k, .inr (11, [.ref k0, .ref k1, .ref k2, .int c3, .ref k4, .ref k5, .ref k6, .ref k7, .ref k8, .int c9, .ref ka, .ref kb, .int cc, .int cd, .int ce, .int cf, .int cg, .int ch, .int ci, .int cj, .int ck, .ref kl, .int cm, .int cn, .ref ko])), (k0, .inl (cI, 1201, .inl c0))] H := hP
        replace hD : va_D A [(k4, .inl (cI, 6, .inl c4)), (k, .inr (11, [.ref k0, .ref k1, .ref k2, .int c3, .ref k4, .ref k5, .ref k6, .ref k7, .ref k8, .int c9, .ref ka, .ref kb, .int cc, .int cd, .int ce, .int cf, .int cg, .int ch, .int ci, .int cj, .int ck, .ref kl, .int cm, .int cn, .ref ko])), (k0, .inl (cI, 1201, .inl c0))] := hD
        have h_26 := w_24
        have h_26 : r_23 = wW c0 a0 0 := h_26
        have t_27 : r_23.toInt = (wW c0 a0 0).toInt := by rw [h_26]
        have b_28 : 0 ≤ r_23.toInt ∧ r_23.toInt ≤ 5 := by rw [h_26]; exact SB.w0 pre0 (by omega) (by omega)
        have lo_r_23 := k_lo r_23
        have hi_r_23 := k_hi r_23
        refine lv_iconst (v := 5) hx hb dX11_workIs_64 (by decide) ?_
        refine b_icmp_ne hx hb rfl zl_5 (tgt := 77) dX11_workIs_65 (by decide) (fun c_29 => ?_) (fun c_29 => ?_)
        · refine lv_iconst (v := (-1)) hx hb dX11_workIs_77 (by decide) ?_
          exact hRet (cc, cd, ce, cf, cg, ch, ci, cj, ck, c4) [1, 2, 0] trivial hP hD (by decide) rfl hS rfl dX11_workIs_78
        · refine lv_aload_n hx hb dX11_workIs_68 rfl (lv_at hl 0 rfl) ?_
          refine lv_iload_n hx hb dX11_workIs_69 rfl (lv_at hl 1 rfl) ?_
          refine lv_iconst (v := 5) hx hb dX11_workIs_70 (by decide) ?_
          refine kJi (wr := [(k4, .inl (cI, 6, .inl c4))]) (va_runV (As := [.int a0, .int 5]) (rest := []) ⟨hx, hb, hml, hown, hT⟩ (c_X11_workG5 l D cI aK aV k k0 k1 k2 k4 k5 k6 k7 k8 ka kb kl ko H.size c3 c9 cc cd ce cf cg ch ci cj ck cm cn c0 a0 5 (by first | omega | (simp only [zl_5] <;> omega) | decide | assumption | rfl) (by first | omega | (simp only [zl_5] <;> omega) | decide | assumption | rfl) (by first | omega | (simp only [zl_5] <;> omega) | decide | assumption | rfl)) (cwV 2 hT (gV_in mw_1276 mw_1273 mw_1275 mw_p3_12 mw_12) rfl rfl rfl (by decide +kernel) ⟨Nat.le_of_ble_eq_true rfl, Nat.le_of_ble_eq_true rfl⟩) (kRecvX (q0 := 1) (ci := 11) hK hP hD hN hXS hS hA rfl rfl [1, 2] rfl (by decide)) rfl rfl hl.1 rfl (lv_room (Nat.le_of_ble_eq_true rfl)) dX11_workIs_71 ⟨Nat.le_of_ble_eq_true rfl, Nat.le_of_ble_eq_true rfl⟩) hP hD hS hA [1, 2] [0] rfl rfl (by decide) (by decide) ?_
          clear hP hD hS
          intro r_30 u_32 H locs w_31 hP hD hS
          replace hP : va_P D vwCl [(k4, .inl (cI, 6, .inl c4)), (k, .inr (11, [.ref k0, .ref k1, .ref k2, .int c3, .ref k4, .ref k5, .ref k6, .ref k7, .ref k8, .int c9, .ref ka, .ref kb, .int cc, .int cd, .int ce, .int cf, .int cg, .int ch, .int ci, .int cj, .int ck, .ref kl, .int cm, .int cn, .ref ko])), (k0, .inl (cI, 1201, .inl c0))] H := hP
          replace hD : va_D A [(k4, .inl (cI, 6, .inl c4)), (k, .inr (11, [.ref k0, .ref k1, .ref k2, .int c3, .ref k4, .ref k5, .ref k6, .ref k7, .ref k8, .int c9, .ref ka, .ref kb, .int cc, .int cd, .int ce, .int cf, .int cg, .int ch, .int ci, .int cj, .int ck, .ref kl, .int cm, .int cn, .ref ko])), (k0, .inl (cI, 1201, .inl c0))] := hD
          have h_33 := w_31
          have h_33 : r_30 = wW c0 a0 5 := h_33
          have t_34 : r_30.toInt = (wW c0 a0 5).toInt := by rw [h_33]
          have b_35 : 0 ≤ r_30.toInt ∧ r_30.toInt ≤ 9999 := by rw [h_33]; exact SB.w5 pre0 (by omega) (by omega)
          have lo_r_30 := k_lo r_30
          have hi_r_30 := k_hi r_30
          refine lv_goto (tgt := 78) hx hb dX11_workIs_74 (by decide) ?_
          exact hRet (cc, cd, ce, cf, cg, ch, ci, cj, ck, c4) [1, 2, 0] trivial hP hD (by decide) rfl hS rfl dX11_workIs_78
      by_cases c_36 : a1.toInt = 7
      · refine lv_tableIn (off := 53) (tgt := 79) hx hb dX11_workIs_26 (by omega) (by omega) (by rw [c_36]; decide) (by decide) ?_
        refine lv_aload_n hx hb dX11_workIs_79 rfl (lv_at hl 0 rfl) ?_
        refine lv_iload_n hx hb dX11_workIs_80 rfl (lv_at hl 1 rfl) ?_
        refine lv_iconst (v := 1) hx hb dX11_workIs_81 (by decide) ?_
        refine kJi (wr := [(k4, .inl (cI, 6, .inl c4))]) (va_runV (As := [.int a0, .int 1]) (rest := []) ⟨hx, hb, hml, hown, hT⟩ (c_X11_standsG l D cI aK aV k k0 k1 k2 k4 k5 k6 k7 k8 ka kb kl ko H.size c3 c9 cc cd ce cf cg ch ci cj ck cm cn c0 a0 1 (by first | omega | (simp only [zl_1] <;> omega) | decide | assumption | rfl) (by first | omega | (simp only [zl_1] <;> omega) | decide | assumption | rfl) pre0) (cwV 2 hT (gV_in mw_1295 mw_1292 mw_1294 mw_p3_14 mw_12) rfl rfl rfl (by decide +kernel) ⟨Nat.le_of_ble_eq_true rfl, Nat.le_of_ble_eq_true rfl⟩) (kRecvX (q0 := 1) (ci := 11) hK hP hD hN hXS hS hA rfl rfl [1, 2] rfl (by decide)) rfl rfl hl.1 rfl (lv_room (Nat.le_of_ble_eq_true rfl)) dX11_workIs_82 ⟨Nat.le_of_ble_eq_true rfl, Nat.le_of_ble_eq_true rfl⟩) hP hD hS hA [1, 2] [0] rfl rfl (by decide) (by decide) ?_
        clear hP hD hS
        intro r_37 u_39 H locs w_38 hP hD hS
        replace hP : va_P D vwCl [(k4, .inl (cI, 6, .inl c4)), (k, .inr (11, [.ref k0, .ref k1, .ref k2, .int c3, .ref k4, .ref k5, .ref k6, .ref k7, .ref k8, .int c9, .ref ka, .ref kb, .int cc, .int cd, .int ce, .int cf, .int cg, .int ch, .int ci, .int cj, .int ck, .ref kl, .int cm, .int cn, .ref ko])), (k0, .inl (cI, 1201, .inl c0))] H := hP
        replace hD : va_D A [(k4, .inl (cI, 6, .inl c4)), (k, .inr (11, [.ref k0, .ref k1, .ref k2, .int c3, .ref k4, .ref k5, .ref k6, .ref k7, .ref k8, .int c9, .ref ka, .ref kb, .int cc, .int cd, .int ce, .int cf, .int cg, .int ch, .int ci, .int cj, .int ck, .ref kl, .int cm, .int cn, .ref ko])), (k0, .inl (cI, 1201, .inl c0))] := hD
        rcases w_38 with ⟨hr_37, h_40⟩ | ⟨hr_37, h_41⟩
        · try simp only [zl_1] at h_40
          have h_40 : stF c0 a0 1 = 1 := h_40
          obtain rfl : r_37 = 1 := hr_37.trans (by decide)
          refine b_if_eq hx hb zl_1 (tgt := 115) dX11_workIs_85 (by decide) (fun c_42 => by exfalso; omega) (fun c_42 => ?_)
          refine lv_aload_n hx hb dX11_workIs_88 rfl (lv_at hl 0 rfl) ?_
          refine lv_iconst (v := 2) hx hb dX11_workIs_89 (by decide) ?_
          refine lv_aload_n hx hb dX11_workIs_90 rfl (lv_at hl 0 rfl) ?_
          refine va_get (D := D) (ci := 11) (v := .ref k0) (C := RX11) (T := TX11) (N := 25) hx hb hT giX11 hown hK hP 1 rfl rfl 0 (by decide) (hT (Cond.fieldLink RX11 9 "DesertWireModel" "s" "[I") mw_1156) (fun _ h9 => h9) rfl dX11_workIs_91 ?_
          refine lv_iconst (v := 0) hx hb dX11_workIs_94 (by decide) ?_
          refine k_iald (v := (c0 0)) hx hb hK hP 2 0 rfl rfl (k_inl (by decide)) rfl dX11_workIs_95 ?_
          refine lv_topi (fun v_43 ev_43 => ?_)
          have lo_v_43 := k_lo v_43
          have hi_v_43 := k_hi v_43
          have tv_43 : v_43.toInt = (c0 0).toInt := by rw [ev_43]
          have b_44 : 0 ≤ v_43.toInt ∧ v_43.toInt ≤ 2000 := by first | (rw [tv_43]; exact SB.n0 pre0) | exact SB.n0 pre0 | omega
          refine lv_aload_n hx hb dX11_workIs_96 rfl (lv_at hl 0 rfl) ?_
          refine lv_iload_n hx hb dX11_workIs_97 rfl (lv_at hl 1 rfl) ?_
          refine lv_iconst (v := 0) hx hb dX11_workIs_98 (by decide) ?_
          refine kJi (wr := [(k4, .inl (cI, 6, .inl c4))]) (va_runV (As := [.int a0, .int 0]) (rest := [.int v_43, .int 2, .ref k]) ⟨hx, hb, hml, hown, hT⟩ (c_X11_workG0 l D cI aK aV k k0 k1 k2 k4 k5 k6 k7 k8 ka kb kl ko H.size c3 c9 cc cd ce cf cg ch ci cj ck cm cn c0 a0 0 (by first | omega | (simp only [zl_0] <;> omega) | decide | assumption | rfl) (by first | omega | (simp only [zl_0] <;> omega) | decide | assumption | rfl) (by first | omega | (simp only [zl_0] <;> omega) | decide | assumption | rfl)) (cwV 2 hT (gV_in mw_1276 mw_1273 mw_1275 mw_p3_12 mw_12) rfl rfl rfl (by decide +kernel) ⟨Nat.le_of_ble_eq_true rfl, Nat.le_of_ble_eq_true rfl⟩) (kRecvX (q0 := 1) (ci := 11) hK hP hD hN hXS hS hA rfl rfl [1, 2] rfl (by decide)) rfl rfl hl.1 rfl (lv_room (Nat.le_of_ble_eq_true rfl)) dX11_workIs_99 ⟨Nat.le_of_ble_eq_true rfl, Nat.le_of_ble_eq_true rfl⟩) hP hD hS hA [1, 2] [0] rfl rfl (by decide) (by decide) ?_
          clear hP hD hS
          intro r_45 u_47 H locs w_46 hP hD hS
          replace hP : va_P D vwCl [(k4, .inl (cI, 6, .inl c4)), (k, .inr (11, [.ref k0, .ref k1, .ref k2, .int c3, .ref k4, .ref k5, .ref k6, .ref k7, .ref k8, .int c9, .ref ka, .ref kb, .int cc, .int cd, .int ce, .int cf, .int cg, .int ch, .int ci, .int cj, .int ck, .ref kl, .int cm, .int cn, .ref ko])), (k0, .inl (cI, 1201, .inl c0))] H := hP
          replace hD : va_D A [(k4, .inl (cI, 6, .inl c4)), (k, .inr (11, [.ref k0, .ref k1, .ref k2, .int c3, .ref k4, .ref k5, .ref k6, .ref k7, .ref k8, .int c9, .ref ka, .ref kb, .int cc, .int cd, .int ce, .int cf, .int cg, .int ch, .int ci, .int cj, .int ck, .ref kl, .int cm, .int cn, .ref ko])), (k0, .inl (cI, 1201, .inl c0))] := hD
          have h_48 := w_46
          have h_48 : r_45 = wW c0 a0 0 := h_48
          have t_49 : r_45.toInt = (wW c0 a0 0).toInt := by rw [h_48]
          have b_50 : 0 ≤ r_45.toInt ∧ r_45.toInt ≤ 5 := by rw [h_48]; exact SB.w0 pre0 (by omega) (by omega)
          have lo_r_45 := k_lo r_45
          have hi_r_45 := k_hi r_45
          refine lv_aload_n hx hb dX11_workIs_102 rfl (lv_at hl 0 rfl) ?_
          refine lv_iload_n hx hb dX11_workIs_103 rfl (lv_at hl 1 rfl) ?_
          refine lv_iconst (v := 2) hx hb dX11_workIs_104 (by decide) ?_
          refine kJi (wr := [(k4, .inl (cI, 6, .inl c4))]) (va_runV (As := [.int a0, .int 2]) (rest := [.int r_45, .int v_43, .int 2, .ref k]) ⟨hx, hb, hml, hown, hT⟩ (c_X11_workG2 l D cI aK aV k k0 k1 k2 k4 k5 k6 k7 k8 ka kb kl ko H.size c3 c9 cc cd ce cf cg ch ci cj ck cm cn c0 a0 2 (by first | omega | (simp only [zl_2] <;> omega) | decide | assumption | rfl) (by first | omega | (simp only [zl_2] <;> omega) | decide | assumption | rfl) (by first | omega | (simp only [zl_2] <;> omega) | decide | assumption | rfl)) (cwV 2 hT (gV_in mw_1276 mw_1273 mw_1275 mw_p3_12 mw_12) rfl rfl rfl (by decide +kernel) ⟨Nat.le_of_ble_eq_true rfl, Nat.le_of_ble_eq_true rfl⟩) (kRecvX (q0 := 1) (ci := 11) hK hP hD hN hXS hS hA rfl rfl [1, 2] rfl (by decide)) rfl rfl hl.1 rfl (lv_room (Nat.le_of_ble_eq_true rfl)) dX11_workIs_105 ⟨Nat.le_of_ble_eq_true rfl, Nat.le_of_ble_eq_true rfl⟩) hP hD hS hA [1, 2] [0] rfl rfl (by decide) (by decide) ?_
          clear hP hD hS
          intro r_51 u_53 H locs w_52 hP hD hS
          replace hP : va_P D vwCl [(k4, .inl (cI, 6, .inl c4)), (k, .inr (11, [.ref k0, .ref k1, .ref k2, .int c3, .ref k4, .ref k5, .ref k6, .ref k7, .ref k8, .int c9, .ref ka, .ref kb, .int cc, .int cd, .int ce, .int cf, .int cg, .int ch, .int ci, .int cj, .int ck, .ref kl, .int cm, .int cn, .ref ko])), (k0, .inl (cI, 1201, .inl c0))] H := hP
          replace hD : va_D A [(k4, .inl (cI, 6, .inl c4)), (k, .inr (11, [.ref k0, .ref k1, .ref k2, .int c3, .ref k4, .ref k5, .ref k6, .ref k7, .ref k8, .int c9, .ref ka, .ref kb, .int cc, .int cd, .int ce, .int cf, .int cg, .int ch, .int ci, .int cj, .int ck, .ref kl, .int cm, .int cn, .ref ko])), (k0, .inl (cI, 1201, .inl c0))] := hD
          have h_54 := w_52
          have h_54 : r_51 = wW c0 a0 2 := h_54
          have t_55 : r_51.toInt = (wW c0 a0 2).toInt := by rw [h_54]
          have lo_r_51 := k_lo r_51
          have hi_r_51 := k_hi r_51
          refine lv_iconst (v := 0) hx hb dX11_workIs_108 (by decide) ?_
          refine kJi (wr := [(k4, .inl (cI, 6, .inl c4))]) (va_runV (As := [.int 2, .int v_43, .int r_45, .int r_51, .int 0]) (rest := []) ⟨hx, hb, hml, hown, hT⟩ (c_X11_priceOfG l D cI aK aV k k0 k1 k2 k4 k5 k6 k7 k8 ka kb kl ko H.size c3 c9 cc cd ce cf cg ch ci cj ck cm cn c0 2 v_43 r_45 r_51 0 pre0) (cwV 5 hT (gV_in mw_1299 mw_1296 mw_1298 mw_p3_15 mw_12) rfl rfl rfl (by decide +kernel) ⟨Nat.le_of_ble_eq_true rfl, Nat.le_of_ble_eq_true rfl⟩) (kRecvX (q0 := 1) (ci := 11) hK hP hD hN hXS hS hA rfl rfl [1, 2] rfl (by decide)) rfl rfl hl.1 rfl (lv_room (Nat.le_of_ble_eq_true rfl)) dX11_workIs_109 ⟨Nat.le_of_ble_eq_true rfl, Nat.le_of_ble_eq_true rfl⟩) hP hD hS hA [1, 2] [0] rfl rfl (by decide) (by decide) ?_
          clear hP hD hS
          intro r_56 u_67 H locs w_57 hP hD hS
          obtain ⟨scc_58, scd_59, sce_60, scf_61, scg_62, sch_63, sci_64, scj_65, sck_66⟩ := u_67
          replace hP : va_P D vwCl [(k4, .inl (cI, 6, .inl c4)), (k, .inr (11, [.ref k0, .ref k1, .ref k2, .int c3, .ref k4, .ref k5, .ref k6, .ref k7, .ref k8, .int c9, .ref ka, .ref kb, .int scc_58, .int scd_59, .int sce_60, .int scf_61, .int scg_62, .int sch_63, .int sci_64, .int scj_65, .int sck_66, .ref kl, .int cm, .int cn, .ref ko])), (k0, .inl (cI, 1201, .inl c0))] H := hP
          replace hD : va_D A [(k4, .inl (cI, 6, .inl c4)), (k, .inr (11, [.ref k0, .ref k1, .ref k2, .int c3, .ref k4, .ref k5, .ref k6, .ref k7, .ref k8, .int c9, .ref ka, .ref kb, .int scc_58, .int scd_59, .int sce_60, .int scf_61, .int scg_62, .int sch_63, .int sci_64, .int scj_65, .int sck_66, .ref kl, .int cm, .int cn, .ref ko])), (k0, .inl (cI, 1201, .inl c0))] := hD
          have lo_r_56 := k_lo r_56
          have hi_r_56 := k_hi r_56
          refine lv_goto (tgt := 116) hx hb dX11_workIs_112 (by decide) ?_
          exact hRet (scc_58, scd_59, sce_60, scf_61, scg_62, sch_63, sci_64, scj_65, sck_66, c4) [1, 2, 0] trivial hP hD (by decide) rfl hS rfl dX11_workIs_116
        · try simp only [zl_1] at h_41
          have h_41 : stF c0 a0 1 = 0 := h_41
          obtain rfl : r_37 = 0 := hr_37.trans (by decide)
          refine b_if_eq hx hb zl_0 (tgt := 115) dX11_workIs_85 (by decide) (fun c_68 => ?_) (fun c_68 => by exfalso; omega)
          refine lv_iconst (v := 0) hx hb dX11_workIs_115 (by decide) ?_
          exact hRet (cc, cd, ce, cf, cg, ch, ci, cj, ck, c4) [1, 2, 0] trivial hP hD (by decide) rfl hS rfl dX11_workIs_116
      refine lv_tableOut (tgt := 117) hx hb dX11_workIs_26 (by omega) (by decide) ?_
      refine lv_aload_n hx hb dX11_workIs_117 rfl (lv_at hl 0 rfl) ?_
      refine lv_iload_n hx hb dX11_workIs_118 rfl (lv_at hl 1 rfl) ?_
      refine lv_iload_n hx hb dX11_workIs_119 rfl (lv_at hl 2 rfl) ?_
      refine kJi (wr := [(k4, .inl (cI, 6, .inl c4))]) (va_runV (As := [.int a0, .int a1]) (rest := []) ⟨hx, hb, hml, hown, hT⟩ (c_X11_workGV l D cI aK aV k k0 k1 k2 k4 k5 k6 k7 k8 ka kb kl ko H.size c3 c9 cc cd ce cf cg ch ci cj ck cm cn c0 a0 a1 (by first | omega | decide | assumption | rfl) (by first | omega | decide | assumption | rfl) (by first | omega | decide | assumption | rfl) (by first | omega | decide | assumption | rfl)) (cwV 2 hT (gV_in mw_1276 mw_1273 mw_1275 mw_p3_12 mw_12) rfl rfl rfl (by decide +kernel) ⟨Nat.le_of_ble_eq_true rfl, Nat.le_of_ble_eq_true rfl⟩) (kRecvX (q0 := 1) (ci := 11) hK hP hD hN hXS hS hA rfl rfl [1, 2] rfl (by decide)) rfl rfl hl.1 rfl (lv_room (Nat.le_of_ble_eq_true rfl)) dX11_workIs_120 ⟨Nat.le_of_ble_eq_true rfl, Nat.le_of_ble_eq_true rfl⟩) hP hD hS hA [1, 2] [0] rfl rfl (by decide) (by decide) ?_
      clear hP hD hS
      intro r_69 u_71 H locs w_70 hP hD hS
      replace hP : va_P D vwCl [(k4, .inl (cI, 6, .inl c4)), (k, .inr (11, [.ref k0, .ref k1, .ref k2, .int c3, .ref k4, .ref k5, .ref k6, .ref k7, .ref k8, .int c9, .ref ka, .ref kb, .int cc, .int cd, .int ce, .int cf, .int cg, .int ch, .int ci, .int cj, .int ck, .ref kl, .int cm, .int cn, .ref ko])), (k0, .inl (cI, 1201, .inl c0))] H := hP
      replace hD : va_D A [(k4, .inl (cI, 6, .inl c4)), (k, .inr (11, [.ref k0, .ref k1, .ref k2, .int c3, .ref k4, .ref k5, .ref k6, .ref k7, .ref k8, .int c9, .ref ka, .ref kb, .int cc, .int cd, .int ce, .int cf, .int cg, .int ch, .int ci, .int cj, .int ck, .ref kl, .int cm, .int cn, .ref ko])), (k0, .inl (cI, 1201, .inl c0))] := hD
      have lo_r_69 := k_lo r_69
      have hi_r_69 := k_hi r_69
      exact hRet (cc, cd, ce, cf, cg, ch, ci, cj, ck, c4) [1, 2, 0] trivial hP hD (by decide) rfl hS rfl dX11_workIs_123
    · try simp only [zl_0, zl_7] at h_16
      have h_16 : a1.toInt < 0 ∨ 7 < a1.toInt := h_16
      obtain rfl : r_11 = 0 := hr_11.trans (by decide)
      refine b_if_ne hx hb zl_0 (tgt := 25) dX11_workIs_15 (by decide) (fun c_72 => by exfalso; omega) (fun c_72 => ?_)
      refine lv_aload_n hx hb dX11_workIs_18 rfl (lv_at hl 0 rfl) ?_
      refine lv_ldc (v := (-1000001)) hx hb hown (hT _ mw_1239) dX11_workIs_19 ?_
      refine kJi (wr := [(k0, .inl (cI, 1201, .inl c0))]) (va_runV (As := [.int (-1000001)]) (rest := []) ⟨hx, hb, hml, hown, hT⟩ (c_X11_findingG l D cI aK aV k k0 k1 k2 k4 k5 k6 k7 k8 ka kb kl ko H.size c3 c9 cc cd ce cf cg ch ci cj ck cm cn c4 (-1000001) (by first | omega | (simp only [zl_m1000001] <;> omega) | decide | assumption | rfl) (by first | omega | (simp only [zl_m1000001] <;> omega) | decide | assumption | rfl)) (cwV 1 hT (gV_in mw_1243 mw_1240 mw_1242 mw_p3_8 mw_12) rfl rfl rfl (by decide +kernel) ⟨Nat.le_of_ble_eq_true rfl, Nat.le_of_ble_eq_true rfl⟩) (kRecvX (q0 := 1) (ci := 11) hK hP hD hN hXS hS hA rfl rfl [1, 0] rfl (by decide)) rfl rfl hl.1 rfl (lv_room (Nat.le_of_ble_eq_true rfl)) dX11_workIs_21 ⟨Nat.le_of_ble_eq_true rfl, Nat.le_of_ble_eq_true rfl⟩) hP hD hS hA [1, 0] [2] rfl rfl (by decide) (by decide) ?_
      clear hP hD hS
      intro r_73 sc4_75 H locs w_74 hP hD hS
      replace hP : va_P D vwCl [(k0, .inl (cI, 1201, .inl c0)), (k, .inr (11, [.ref k0, .ref k1, .ref k2, .int c3, .ref k4, .ref k5, .ref k6, .ref k7, .ref k8, .int c9, .ref ka, .ref kb, .int cc, .int cd, .int ce, .int cf, .int cg, .int ch, .int ci, .int cj, .int ck, .ref kl, .int cm, .int cn, .ref ko])), (k4, .inl (cI, 6, .inl sc4_75))] H := hP
      replace hD : va_D A [(k0, .inl (cI, 1201, .inl c0)), (k, .inr (11, [.ref k0, .ref k1, .ref k2, .int c3, .ref k4, .ref k5, .ref k6, .ref k7, .ref k8, .int c9, .ref ka, .ref kb, .int cc, .int cd, .int ce, .int cf, .int cg, .int ch, .int ci, .int cj, .int ck, .ref kl, .int cm, .int cn, .ref ko])), (k4, .inl (cI, 6, .inl sc4_75))] := hD
      have hr_73 := w_74
      obtain rfl : r_73 = (-1000001) := hr_73.trans (by decide)
      exact hRet (cc, cd, ce, cf, cg, ch, ci, cj, ck, sc4_75) [1, 0, 2] trivial hP hD (by decide) rfl hS rfl dX11_workIs_24
  · have h_9 : a0.toInt < 0 ∨ (c0 1).toInt ≤ a0.toInt := h_9
    obtain rfl : r_4 = 0 := hr_4.trans (by decide)
    refine b_if_eq hx hb zl_0 (tgt := 18) dX11_workIs_5 (by decide) (fun c_76 => ?_) (fun c_76 => by exfalso; omega)
    refine lv_aload_n hx hb dX11_workIs_18 rfl (lv_at hl 0 rfl) ?_
    refine lv_ldc (v := (-1000001)) hx hb hown (hT _ mw_1239) dX11_workIs_19 ?_
    refine kJi (wr := [(k0, .inl (cI, 1201, .inl c0))]) (va_runV (As := [.int (-1000001)]) (rest := []) ⟨hx, hb, hml, hown, hT⟩ (c_X11_findingG l D cI aK aV k k0 k1 k2 k4 k5 k6 k7 k8 ka kb kl ko H.size c3 c9 cc cd ce cf cg ch ci cj ck cm cn c4 (-1000001) (by first | omega | (simp only [zl_m1000001] <;> omega) | decide | assumption | rfl) (by first | omega | (simp only [zl_m1000001] <;> omega) | decide | assumption | rfl)) (cwV 1 hT (gV_in mw_1243 mw_1240 mw_1242 mw_p3_8 mw_12) rfl rfl rfl (by decide +kernel) ⟨Nat.le_of_ble_eq_true rfl, Nat.le_of_ble_eq_true rfl⟩) (kRecvX (q0 := 1) (ci := 11) hK hP hD hN hXS hS hA rfl rfl [1, 0] rfl (by decide)) rfl rfl hl.1 rfl (lv_room (Nat.le_of_ble_eq_true rfl)) dX11_workIs_21 ⟨Nat.le_of_ble_eq_true rfl, Nat.le_of_ble_eq_true rfl⟩) hP hD hS hA [1, 0] [2] rfl rfl (by decide) (by decide) ?_
    clear hP hD hS
    intro r_77 sc4_79 H locs w_78 hP hD hS
    replace hP : va_P D vwCl [(k0, .inl (cI, 1201, .inl c0)), (k, .inr (11, [.ref k0, .ref k1, .ref k2, .int c3, .ref k4, .ref k5, .ref k6, .ref k7, .ref k8, .int c9, .ref ka, .ref kb, .int cc, .int cd, .int ce, .int cf, .int cg, .int ch, .int ci, .int cj, .int ck, .ref kl, .int cm, .int cn, .ref ko])), (k4, .inl (cI, 6, .inl sc4_79))] H := hP
    replace hD : va_D A [(k0, .inl (cI, 1201, .inl c0)), (k, .inr (11, [.ref k0, .ref k1, .ref k2, .int c3, .ref k4, .ref k5, .ref k6, .ref k7, .ref k8, .int c9, .ref ka, .ref kb, .int cc, .int cd, .int ce, .int cf, .int cg, .int ch, .int ci, .int cj, .int ck, .ref kl, .int cm, .int cn, .ref ko])), (k4, .inl (cI, 6, .inl sc4_79))] := hD
    have hr_77 := w_78
    obtain rfl : r_77 = (-1000001) := hr_77.trans (by decide)
    exact hRet (cc, cd, ce, cf, cg, ch, ci, cj, ck, sc4_79) [1, 0, 2] trivial hP hD (by decide) rfl hS rfl dX11_workIs_24
theorem dX11_digit_0 : decode cX11_digit 0 = .ok (.iload_n 1, 1) := by decide +kernel
theorem dX11_digit_1 : decode cX11_digit 1 = .ok (.iconst 2, 1) := by decide +kernel
theorem dX11_digit_2 : decode cX11_digit 2 = .ok (.iload_n 3, 1) := by decide +kernel
theorem dX11_digit_3 : decode cX11_digit 3 = .ok (.iconst 1, 1) := by decide +kernel
theorem dX11_digit_4 : decode cX11_digit 4 = .ok (.isub, 1) := by decide +kernel
theorem dX11_digit_5 : decode cX11_digit 5 = .ok (.iload_n 2, 1) := by decide +kernel
theorem dX11_digit_6 : decode cX11_digit 6 = .ok (.isub, 1) := by decide +kernel
theorem dX11_digit_7 : decode cX11_digit 7 = .ok (.imul, 1) := by decide +kernel
theorem dX11_digit_8 : decode cX11_digit 8 = .ok (.ishr, 1) := by decide +kernel
theorem dX11_digit_9 : decode cX11_digit 9 = .ok (.iconst 3, 1) := by decide +kernel
theorem dX11_digit_10 : decode cX11_digit 10 = .ok (.iand, 1) := by decide +kernel
theorem dX11_digit_11 : decode cX11_digit 11 = .ok (.ireturn, 1) := by decide +kernel
set_option maxHeartbeats 4000000 in
set_option maxRecDepth 100000 in
theorem c_X11_digitG (l : Launch) (D : va_G) (cI : ClassId) (aK aV : Nat → Nat) (k : Nat) (sz : Nat) (a0 : Int32) (a1 : Int32) (a2 : Int32) : Met l yX11_digit (gW yX11_digit cX11_digit 4 (some .int)) ({ frames := 0, cells := 0, slots := 0, locals := 0 } : Room) (kPreX D cI aK aV [.ref k, .int a0, .int a1, .int a2] [] sz) (va_Qi (fun (r : Int32) (u : Unit) => True) (fun u t => kWd D cI (va_A [] sz) [] t) (va_A [] sz)) 0 0 (va_A [] sz) := by
  refine kMetIX (own := RX11) (by decide) rfl (Nat.le_of_ble_eq_true rfl) ?_
  intro p e s m args below meth c hx hb hT hown hname hml A Q hK hP hD hS hA hN hXS hRet ls hl
  have hl : lv_has ls 4 [(0, .ref k), (1, .int a0), (2, .int a1), (3, .int a2)] := hl
  refine lv_iload_n hx hb dX11_digit_0 rfl (lv_at hl 1 rfl) ?_
  refine lv_iconst (v := 2) hx hb dX11_digit_1 (by decide) ?_
  refine lv_iload_n hx hb dX11_digit_2 rfl (lv_at hl 3 rfl) ?_
  refine lv_iconst (v := 1) hx hb dX11_digit_3 (by decide) ?_
  refine lv_isub hx hb dX11_digit_4 ?_
  refine lv_topi (fun v_1 ev_1 => ?_)
  have lo_v_1 := k_lo v_1
  have hi_v_1 := k_hi v_1
  refine lv_iload_n hx hb dX11_digit_5 rfl (lv_at hl 2 rfl) ?_
  refine lv_isub hx hb dX11_digit_6 ?_
  refine lv_topi (fun v_2 ev_2 => ?_)
  have lo_v_2 := k_lo v_2
  have hi_v_2 := k_hi v_2
  refine lv_imul hx hb dX11_digit_7 ?_
  refine lv_topi (fun v_3 ev_3 => ?_)
  have lo_v_3 := k_lo v_3
  have hi_v_3 := k_hi v_3
  refine lv_ishr hx hb dX11_digit_8 ?_
  refine lv_topi (fun v_4 ev_4 => ?_)
  have lo_v_4 := k_lo v_4
  have hi_v_4 := k_hi v_4
  refine lv_iconst (v := 3) hx hb dX11_digit_9 (by decide) ?_
  refine lv_iand hx hb dX11_digit_10 ?_
  refine lv_topi (fun v_5 ev_5 => ?_)
  have lo_v_5 := k_lo v_5
  have hi_v_5 := k_hi v_5
  exact hRet () [] trivial hP hD (by decide) rfl hS rfl dX11_digit_11
theorem dX11_areThings_0 : decode cX11_areThings 0 = .ok (.aload_n 0, 1) := by decide +kernel
theorem dX11_areThings_1 : decode cX11_areThings 1 = .ok (.getfield 25, 3) := by decide +kernel
theorem dX11_areThings_4 : decode cX11_areThings 4 = .ok (.iload_n 1, 1) := by decide +kernel
theorem dX11_areThings_5 : decode cX11_areThings 5 = .ok (.iaload, 1) := by decide +kernel
theorem dX11_areThings_6 : decode cX11_areThings 6 = .ok (.iconst 3, 1) := by decide +kernel
theorem dX11_areThings_7 : decode cX11_areThings 7 = .ok (.irem, 1) := by decide +kernel
theorem dX11_areThings_8 : decode cX11_areThings 8 = .ok (.ifCond .ne 22, 3) := by decide +kernel
theorem dX11_areThings_11 : decode cX11_areThings 11 = .ok (.aload_n 0, 1) := by decide +kernel
theorem dX11_areThings_12 : decode cX11_areThings 12 = .ok (.getfield 25, 3) := by decide +kernel
theorem dX11_areThings_15 : decode cX11_areThings 15 = .ok (.iload_n 1, 1) := by decide +kernel
theorem dX11_areThings_16 : decode cX11_areThings 16 = .ok (.iaload, 1) := by decide +kernel
theorem dX11_areThings_17 : decode cX11_areThings 17 = .ok (.iconst 3, 1) := by decide +kernel
theorem dX11_areThings_18 : decode cX11_areThings 18 = .ok (.bipush 24, 2) := by decide +kernel
theorem dX11_areThings_20 : decode cX11_areThings 20 = .ok (.invokestatic 47, 3) := by decide +kernel
theorem dX11_areThings_23 : decode cX11_areThings 23 = .ok (.ifCond .eq 7, 3) := by decide +kernel
theorem dX11_areThings_26 : decode cX11_areThings 26 = .ok (.iconst 1, 1) := by decide +kernel
theorem dX11_areThings_27 : decode cX11_areThings 27 = .ok (.goto 4, 3) := by decide +kernel
theorem dX11_areThings_30 : decode cX11_areThings 30 = .ok (.iconst 0, 1) := by decide +kernel
theorem dX11_areThings_31 : decode cX11_areThings 31 = .ok (.istore_n 2, 1) := by decide +kernel
theorem dX11_areThings_32 : decode cX11_areThings 32 = .ok (.iconst 0, 1) := by decide +kernel
theorem dX11_areThings_33 : decode cX11_areThings 33 = .ok (.istore_n 3, 1) := by decide +kernel
theorem dX11_areThings_34 : decode cX11_areThings 34 = .ok (.iload_n 3, 1) := by decide +kernel
theorem dX11_areThings_35 : decode cX11_areThings 35 = .ok (.aload_n 0, 1) := by decide +kernel
theorem dX11_areThings_36 : decode cX11_areThings 36 = .ok (.getfield 25, 3) := by decide +kernel
theorem dX11_areThings_39 : decode cX11_areThings 39 = .ok (.iload_n 1, 1) := by decide +kernel
theorem dX11_areThings_40 : decode cX11_areThings 40 = .ok (.iaload, 1) := by decide +kernel
theorem dX11_areThings_41 : decode cX11_areThings 41 = .ok (.if_icmp .ge 69, 3) := by decide +kernel
theorem dX11_areThings_44 : decode cX11_areThings 44 = .ok (.iload_n 2, 1) := by decide +kernel
theorem dX11_areThings_45 : decode cX11_areThings 45 = .ok (.ifCond .eq 65, 3) := by decide +kernel
theorem dX11_areThings_48 : decode cX11_areThings 48 = .ok (.iload_n 3, 1) := by decide +kernel
theorem dX11_areThings_49 : decode cX11_areThings 49 = .ok (.iconst 3, 1) := by decide +kernel
theorem dX11_areThings_50 : decode cX11_areThings 50 = .ok (.irem, 1) := by decide +kernel
theorem dX11_areThings_51 : decode cX11_areThings 51 = .ok (.ifCond .ne 18, 3) := by decide +kernel
theorem dX11_areThings_54 : decode cX11_areThings 54 = .ok (.aload_n 0, 1) := by decide +kernel
theorem dX11_areThings_55 : decode cX11_areThings 55 = .ok (.iload_n 1, 1) := by decide +kernel
theorem dX11_areThings_56 : decode cX11_areThings 56 = .ok (.iload_n 3, 1) := by decide +kernel
theorem dX11_areThings_57 : decode cX11_areThings 57 = .ok (.invokevirtual 115, 3) := by decide +kernel
theorem dX11_areThings_60 : decode cX11_areThings 60 = .ok (.iconst 1, 1) := by decide +kernel
theorem dX11_areThings_61 : decode cX11_areThings 61 = .ok (.bipush 40, 2) := by decide +kernel
theorem dX11_areThings_63 : decode cX11_areThings 63 = .ok (.invokestatic 47, 3) := by decide +kernel
theorem dX11_areThings_66 : decode cX11_areThings 66 = .ok (.goto 37, 3) := by decide +kernel
theorem dX11_areThings_69 : decode cX11_areThings 69 = .ok (.iload_n 3, 1) := by decide +kernel
theorem dX11_areThings_70 : decode cX11_areThings 70 = .ok (.iconst 3, 1) := by decide +kernel
theorem dX11_areThings_71 : decode cX11_areThings 71 = .ok (.irem, 1) := by decide +kernel
theorem dX11_areThings_72 : decode cX11_areThings 72 = .ok (.iconst 1, 1) := by decide +kernel
theorem dX11_areThings_73 : decode cX11_areThings 73 = .ok (.if_icmp .ne 19, 3) := by decide +kernel
theorem dX11_areThings_76 : decode cX11_areThings 76 = .ok (.aload_n 0, 1) := by decide +kernel
theorem dX11_areThings_77 : decode cX11_areThings 77 = .ok (.iload_n 1, 1) := by decide +kernel
theorem dX11_areThings_78 : decode cX11_areThings 78 = .ok (.iload_n 3, 1) := by decide +kernel
theorem dX11_areThings_79 : decode cX11_areThings 79 = .ok (.invokevirtual 115, 3) := by decide +kernel
theorem dX11_areThings_82 : decode cX11_areThings 82 = .ok (.iconst 0, 1) := by decide +kernel
theorem dX11_areThings_83 : decode cX11_areThings 83 = .ok (.sipush 999, 3) := by decide +kernel
theorem dX11_areThings_86 : decode cX11_areThings 86 = .ok (.invokestatic 47, 3) := by decide +kernel
theorem dX11_areThings_89 : decode cX11_areThings 89 = .ok (.goto 14, 3) := by decide +kernel
theorem dX11_areThings_92 : decode cX11_areThings 92 = .ok (.aload_n 0, 1) := by decide +kernel
theorem dX11_areThings_93 : decode cX11_areThings 93 = .ok (.iload_n 1, 1) := by decide +kernel
theorem dX11_areThings_94 : decode cX11_areThings 94 = .ok (.iload_n 3, 1) := by decide +kernel
theorem dX11_areThings_95 : decode cX11_areThings 95 = .ok (.invokevirtual 115, 3) := by decide +kernel
theorem dX11_areThings_98 : decode cX11_areThings 98 = .ok (.iconst 1, 1) := by decide +kernel
theorem dX11_areThings_99 : decode cX11_areThings 99 = .ok (.iconst 3, 1) := by decide +kernel
theorem dX11_areThings_100 : decode cX11_areThings 100 = .ok (.invokestatic 47, 3) := by decide +kernel
theorem dX11_areThings_103 : decode cX11_areThings 103 = .ok (.istore_n 2, 1) := by decide +kernel
theorem dX11_areThings_104 : decode cX11_areThings 104 = .ok (.iinc 3 1, 3) := by decide +kernel
theorem dX11_areThings_107 : decode cX11_areThings 107 = .ok (.goto (-73), 3) := by decide +kernel
theorem dX11_areThings_110 : decode cX11_areThings 110 = .ok (.iload_n 2, 1) := by decide +kernel
theorem dX11_areThings_111 : decode cX11_areThings 111 = .ok (.ireturn, 1) := by decide +kernel
set_option maxHeartbeats 4000000 in
set_option maxRecDepth 100000 in
theorem c_X11_areThingsG (l : Launch) (D : va_G) (cI : ClassId) (aK aV : Nat → Nat) (k k0 k1 k2 k4 k5 k6 k7 k8 ka kb kl ko : Nat) (sz : Nat) (c3 : Int32) (c9 : Int32) (cc : Int32) (cd : Int32) (ce : Int32) (cf : Int32) (cg : Int32) (ch : Int32) (ci : Int32) (cj : Int32) (ck : Int32) (cm : Int32) (cn : Int32) (c6 : Nat → Int32) (c7 : Nat → Int32) (a0 : Int32) (pre0 : ∀ k : Nat, k < 4 → 0 ≤ (c6 k).toInt ∧ (c6 k).toInt ≤ 36) (pre1 : 0 ≤ a0.toInt) (pre2 : a0.toInt ≤ 3) : Met l yX11_areThings (gW yX11_areThings cX11_areThings 4 (some .boolean)) ({ frames := 1, cells := 0, slots := 0, locals := 22 } : Room) (kPreX D cI aK aV [.ref k, .int a0] [(k, .inr (11, [.ref k0, .ref k1, .ref k2, .int c3, .ref k4, .ref k5, .ref k6, .ref k7, .ref k8, .int c9, .ref ka, .ref kb, .int cc, .int cd, .int ce, .int cf, .int cg, .int ch, .int ci, .int cj, .int ck, .ref kl, .int cm, .int cn, .ref ko])), (k6, .inl (cI, 4, .inl c6)), (k7, .inl (cI, 144, .inl c7))] sz) (va_Qi (fun (r : Int32) (u : Unit) => (r = 1 ∧ 3 ≤ (c6 a0.toNatClampNeg).toInt ∧ (c6 a0.toNatClampNeg).toInt ≤ 24) ∨ (r = 0)) (fun u t => kWd D cI (va_A [(k, .inr (11, [.ref k0, .ref k1, .ref k2, .int c3, .ref k4, .ref k5, .ref k6, .ref k7, .ref k8, .int c9, .ref ka, .ref kb, .int cc, .int cd, .int ce, .int cf, .int cg, .int ch, .int ci, .int cj, .int ck, .ref kl, .int cm, .int cn, .ref ko])), (k6, .inl (cI, 4, .inl c6)), (k7, .inl (cI, 144, .inl c7))] sz) [(k, .inr (11, [.ref k0, .ref k1, .ref k2, .int c3, .ref k4, .ref k5, .ref k6, .ref k7, .ref k8, .int c9, .ref ka, .ref kb, .int cc, .int cd, .int ce, .int cf, .int cg, .int ch, .int ci, .int cj, .int ck, .ref kl, .int cm, .int cn, .ref ko])), (k6, .inl (cI, 4, .inl c6)), (k7, .inl (cI, 144, .inl c7))] t) (va_A [(k, .inr (11, [.ref k0, .ref k1, .ref k2, .int c3, .ref k4, .ref k5, .ref k6, .ref k7, .ref k8, .int c9, .ref ka, .ref kb, .int cc, .int cd, .int ce, .int cf, .int cg, .int ch, .int ci, .int cj, .int ck, .ref kl, .int cm, .int cn, .ref ko])), (k6, .inl (cI, 4, .inl c6)), (k7, .inl (cI, 144, .inl c7))] sz)) 0 0 (va_A [(k, .inr (11, [.ref k0, .ref k1, .ref k2, .int c3, .ref k4, .ref k5, .ref k6, .ref k7, .ref k8, .int c9, .ref ka, .ref kb, .int cc, .int cd, .int ce, .int cf, .int cg, .int ch, .int ci, .int cj, .int ck, .ref kl, .int cm, .int cn, .ref ko])), (k6, .inl (cI, 4, .inl c6)), (k7, .inl (cI, 144, .inl c7))] sz) := by
  refine kMetIX (own := RX11) (by decide) rfl (Nat.le_of_ble_eq_true rfl) ?_
  intro p e s m args below meth c hx hb hT hown hname hml A Q hK hP hD hS hA hN hXS hRet ls hl
  have hl : lv_has ls 4 [(0, .ref k), (1, .int a0)] := hl
  have lo_a0 := k_lo a0
  have hi_a0 := k_hi a0
  have lo_ci := k_lo ci
  have hi_ci := k_hi ci
  refine lv_aload_n hx hb dX11_areThings_0 rfl (lv_at hl 0 rfl) ?_
  refine va_get (D := D) (ci := 11) (v := .ref k6) (C := RX11) (T := TX11) (N := 25) hx hb hT giX11 hown hK hP 0 rfl rfl 6 (by decide) (hT (Cond.fieldLink RX11 25 "DesertWireModel" "size" "[I") mw_1162) (fun _ h9 => h9) rfl dX11_areThings_1 ?_
  refine lv_iload_n hx hb dX11_areThings_4 rfl (lv_at hl 1 rfl) ?_
  refine k_iald (v := (c6 a0.toNatClampNeg)) hx hb hK hP 1 0 rfl rfl (k_in (by omega) (by omega)) rfl dX11_areThings_5 ?_
  refine lv_topi (fun v_1 ev_1 => ?_)
  have lo_v_1 := k_lo v_1
  have hi_v_1 := k_hi v_1
  have tv_1 : v_1.toInt = (c6 a0.toNatClampNeg).toInt := by rw [ev_1]
  have b_2 : 0 ≤ v_1.toInt ∧ v_1.toInt ≤ 36 := by rw [tv_1]; exact pre0 a0.toNatClampNeg (by rw [k_clamp]; omega)
  refine lv_iconst (v := 3) hx hb dX11_areThings_6 (by decide) ?_
  refine lv_irem hx hb dX11_areThings_7 (by decide) ?_
  refine lv_topi (fun v_3 ev_3 => ?_)
  have tv_3 : v_3.toInt = v_1.toInt % 3 := k_remv (w := 0) ev_3 zl_3 (by omega) (by decide)
  have lo_v_3 := k_lo v_3
  have hi_v_3 := k_hi v_3
  refine b_if_ne hx hb rfl (tgt := 30) dX11_areThings_8 (by decide) (fun c_4 => ?_) (fun c_4 => ?_)
  · refine lv_iconst (v := 0) hx hb dX11_areThings_30 (by decide) ?_
    refine lv_istore_n (lv' := [(2, .int 0), (0, .ref k), (1, .int a0)]) hx hb dX11_areThings_31 rfl hl (by decide) rfl ?_
    clear hl
    intro ls hl
    refine lv_iconst (v := 0) hx hb dX11_areThings_32 (by decide) ?_
    refine lv_istore_n (lv' := [(3, .int 0), (2, .int 0), (0, .ref k), (1, .int a0)]) hx hb dX11_areThings_33 rfl hl (by decide) rfl ?_
    clear hl
    intro ls hl
    have hloop_34 : ∀ (fu_ : Nat) (l34_2 : Int32) (l34_3 : Int32), l34_2.toInt ≤ 0 → 0 ≤ l34_3.toInt → 0 ≤ l34_2.toInt → l34_2.toInt ≤ 1 → l34_3.toInt ≤ 36 → (l34_2.toInt = 0 ∨ (3 ≤ (c6 a0.toNatClampNeg).toInt ∧ (c6 a0.toNatClampNeg).toInt ≤ 24)) → (36 - l34_3.toInt).toNat < fu_ → ∀ (ls : Array Slot) (H : Heap) (locs : List Loc), lv_has ls 4 [(3, .int l34_3), (2, .int l34_2), (0, .ref k), (1, .int a0)] → va_P D vwCl [(k, .inr (11, [.ref k0, .ref k1, .ref k2, .int c3, .ref k4, .ref k5, .ref k6, .ref k7, .ref k8, .int c9, .ref ka, .ref kb, .int cc, .int cd, .int ce, .int cf, .int cg, .int ch, .int ci, .int cj, .int ck, .ref kl, .int cm, .int cn, .ref ko])), (k6, .inl (cI, 4, .inl c6)), (k7, .inl (cI, 144, .inl c7))] H → va_D A [(k, .inr (11, [.ref k0, .ref k1, .ref k2, .int c3, .ref k4, .ref k5, .ref k6, .ref k7, .ref k8, .int c9, .ref ka, .ref kb, .int cc, .int cd, .int ce, .int cf, .int cg, .int ch, .int ci, .int cj, .int ck, .ref kl, .int cm, .int cn, .ref ko])), (k6, .inl (cI, 4, .inl c6)), (k7, .inl (cI, 144, .inl c7))] → va_S A s.heap H locs → W p l e ({ frames := 1, cells := 0, slots := 0, locals := 22 } : Room) s m args below meth c H locs 0 0 Q (F0 m 34 ls []) := by
      intro fu_; induction fu_ with
      | zero => intro l34_2 l34_3 i34_0 i34_1 i34_2 i34_3 i34_4 i34_5 hm; exact absurd hm (by omega)
      | succ fu_ ih34 =>
          intro l34_2 l34_3 i34_0 i34_1 i34_2 i34_3 i34_4 i34_5 hm ls H locs hl hP hD hS
          have lo_l34_2 := k_lo l34_2
          have hi_l34_2 := k_hi l34_2
          have lo_l34_3 := k_lo l34_3
          have hi_l34_3 := k_hi l34_3
          refine lv_iload_n hx hb dX11_areThings_34 rfl (lv_at hl 0 rfl) ?_
          refine lv_aload_n hx hb dX11_areThings_35 rfl (lv_at hl 2 rfl) ?_
          refine va_get (D := D) (ci := 11) (v := .ref k6) (C := RX11) (T := TX11) (N := 25) hx hb hT giX11 hown hK hP 0 rfl rfl 6 (by decide) (hT (Cond.fieldLink RX11 25 "DesertWireModel" "size" "[I") mw_1162) (fun _ h9 => h9) rfl dX11_areThings_36 ?_
          refine lv_iload_n hx hb dX11_areThings_39 rfl (lv_at hl 3 rfl) ?_
          refine k_iald (v := (c6 a0.toNatClampNeg)) hx hb hK hP 1 0 rfl rfl (k_in (by omega) (by omega)) rfl dX11_areThings_40 ?_
          refine lv_topi (fun v_5 ev_5 => ?_)
          have lo_v_5 := k_lo v_5
          have hi_v_5 := k_hi v_5
          have tv_5 : v_5.toInt = (c6 a0.toNatClampNeg).toInt := by rw [ev_5]
          have b_6 : 0 ≤ v_5.toInt ∧ v_5.toInt ≤ 36 := by rw [tv_5]; exact pre0 a0.toNatClampNeg (by rw [k_clamp]; omega)
          refine b_icmp_ge hx hb rfl rfl (tgt := 110) dX11_areThings_41 (by decide) (fun c_7 => ?_) (fun c_7 => ?_)
          · refine lv_iload_n hx hb dX11_areThings_110 rfl (lv_at hl 1 rfl) ?_
            rcases (show l34_2.toInt = 0 ∨ l34_2.toInt = 1 by omega) with h_z | h_z
            · obtain rfl : l34_2 = 0 := k_inj (by rw [zl_0]; omega)
              exact hRet () [0, 1, 2] (Or.inr (rfl)) hP hD (by decide) rfl hS rfl dX11_areThings_111
            · obtain rfl : l34_2 = 1 := k_inj (by rw [zl_1]; omega)
              exact hRet () [0, 1, 2] (Or.inl ⟨rfl, (by omega), (by omega)⟩) hP hD (by decide) rfl hS rfl dX11_areThings_111
          · refine lv_iload_n hx hb dX11_areThings_44 rfl (lv_at hl 1 rfl) ?_
            refine b_if_eq hx hb rfl (tgt := 110) dX11_areThings_45 (by decide) (fun c_8 => ?_) (fun c_8 => by exfalso; omega)
            refine lv_iload_n hx hb dX11_areThings_110 rfl (lv_at hl 1 rfl) ?_
            rcases (show l34_2.toInt = 0 ∨ l34_2.toInt = 1 by omega) with h_z | h_z
            · obtain rfl : l34_2 = 0 := k_inj (by rw [zl_0]; omega)
              exact hRet () [0, 1, 2] (Or.inr (rfl)) hP hD (by decide) rfl hS rfl dX11_areThings_111
            · obtain rfl : l34_2 = 1 := k_inj (by rw [zl_1]; omega)
              exact hRet () [0, 1, 2] (Or.inl ⟨rfl, (by omega), (by omega)⟩) hP hD (by decide) rfl hS rfl dX11_areThings_111
    exact hloop_34 _ 0 0 (by first | omega | (simp only [zl_0] <;> omega) | decide | assumption | rfl) (by first | omega | (simp only [zl_0] <;> omega) | decide | assumption | rfl) (by first | omega | (simp only [zl_0] <;> omega) | decide | assumption | rfl) (by first | omega | (simp only [zl_0] <;> omega) | decide | assumption | rfl) (by first | omega | (simp only [zl_0] <;> omega) | decide | assumption | rfl) (by first | omega | exact Or.inl zl_0 | exact Or.inr ⟨by omega, by omega⟩) (Nat.lt_succ_self _) ls _ _ (lv_sub hl [0, 1, 2, 3] rfl) hP hD hS
  · refine lv_aload_n hx hb dX11_areThings_11 rfl (lv_at hl 0 rfl) ?_
    refine va_get (D := D) (ci := 11) (v := .ref k6) (C := RX11) (T := TX11) (N := 25) hx hb hT giX11 hown hK hP 0 rfl rfl 6 (by decide) (hT (Cond.fieldLink RX11 25 "DesertWireModel" "size" "[I") mw_1162) (fun _ h9 => h9) rfl dX11_areThings_12 ?_
    refine lv_iload_n hx hb dX11_areThings_15 rfl (lv_at hl 1 rfl) ?_
    refine k_iald (v := (c6 a0.toNatClampNeg)) hx hb hK hP 1 0 rfl rfl (k_in (by omega) (by omega)) rfl dX11_areThings_16 ?_
    refine lv_topi (fun v_9 ev_9 => ?_)
    have lo_v_9 := k_lo v_9
    have hi_v_9 := k_hi v_9
    have tv_9 : v_9.toInt = (c6 a0.toNatClampNeg).toInt := by rw [ev_9]
    have b_10 : 0 ≤ v_9.toInt ∧ v_9.toInt ≤ 36 := by rw [tv_9]; exact pre0 a0.toNatClampNeg (by rw [k_clamp]; omega)
    refine lv_iconst (v := 3) hx hb dX11_areThings_17 (by decide) ?_
    refine lv_bipush (v := 24) hx hb dX11_areThings_18 (by decide) ?_
    refine kJi (wr := [(k, .inr (11, [.ref k0, .ref k1, .ref k2, .int c3, .ref k4, .ref k5, .ref k6, .ref k7, .ref k8, .int c9, .ref ka, .ref kb, .int cc, .int cd, .int ce, .int cf, .int cg, .int ch, .int ci, .int cj, .int ck, .ref kl, .int cm, .int cn, .ref ko])), (k6, .inl (cI, 4, .inl c6)), (k7, .inl (cI, 144, .inl c7))]) (va_runS (As := [.int v_9, .int 3, .int 24]) (rest := []) ⟨hx, hb, hml, hown, hT⟩ (c_X11_inG l D cI aK aV s.heap.size v_9 3 24) (cwS 3 hT (gS_in mw_1238 mw_1236 mw_1237 mw_12) rfl rfl rfl (by decide +kernel) ⟨Nat.le_of_ble_eq_true rfl, Nat.le_of_ble_eq_true rfl⟩) (kStatX hK hP hD hN hXS hS hA [] rfl (by decide)) rfl rfl hl.1 rfl (lv_room (Nat.le_of_ble_eq_true rfl)) dX11_areThings_20 ⟨Nat.le_of_ble_eq_true rfl, Nat.le_of_ble_eq_true rfl⟩) hP hD hS hA [] [0, 1, 2] rfl rfl (by decide) (by decide) ?_
    clear hP hD hS
    intro r_11 u_13 H locs w_12 hP hD hS
    replace hP : va_P D vwCl [(k, .inr (11, [.ref k0, .ref k1, .ref k2, .int c3, .ref k4, .ref k5, .ref k6, .ref k7, .ref k8, .int c9, .ref ka, .ref kb, .int cc, .int cd, .int ce, .int cf, .int cg, .int ch, .int ci, .int cj, .int ck, .ref kl, .int cm, .int cn, .ref ko])), (k6, .inl (cI, 4, .inl c6)), (k7, .inl (cI, 144, .inl c7))] H := hP
    replace hD : va_D A [(k, .inr (11, [.ref k0, .ref k1, .ref k2, .int c3, .ref k4, .ref k5, .ref k6, .ref k7, .ref k8, .int c9, .ref ka, .ref kb, .int cc, .int cd, .int ce, .int cf, .int cg, .int ch, .int ci, .int cj, .int ck, .ref kl, .int cm, .int cn, .ref ko])), (k6, .inl (cI, 4, .inl c6)), (k7, .inl (cI, 144, .inl c7))] := hD
    rcases w_12 with ⟨hr_11, h_14, h_15⟩ | ⟨hr_11, h_16⟩
    · try simp only [zl_3, zl_24] at h_14
      have h_14 : 3 ≤ v_9.toInt := h_14
      try simp only [zl_3, zl_24] at h_15
      have h_15 : v_9.toInt ≤ 24 := h_15
      obtain rfl : r_11 = 1 := hr_11.trans (by decide)
      refine b_if_eq hx hb zl_1 (tgt := 30) dX11_areThings_23 (by decide) (fun c_17 => by exfalso; omega) (fun c_17 => ?_)
      refine lv_iconst (v := 1) hx hb dX11_areThings_26 (by decide) ?_
      refine lv_goto (tgt := 31) hx hb dX11_areThings_27 (by decide) ?_
      refine lv_istore_n (lv' := [(2, .int 1), (0, .ref k), (1, .int a0)]) hx hb dX11_areThings_31 rfl hl (by decide) rfl ?_
      clear hl
      intro ls hl
      refine lv_iconst (v := 0) hx hb dX11_areThings_32 (by decide) ?_
      refine lv_istore_n (lv' := [(3, .int 0), (2, .int 1), (0, .ref k), (1, .int a0)]) hx hb dX11_areThings_33 rfl hl (by decide) rfl ?_
      clear hl
      intro ls hl
      have hloop_34 : ∀ (fu_ : Nat) (l34_2 : Int32) (l34_3 : Int32), l34_2.toInt ≤ 1 → 0 ≤ l34_3.toInt → 0 ≤ l34_2.toInt → l34_2.toInt ≤ 1 → l34_3.toInt ≤ 36 → (l34_2.toInt = 0 ∨ (3 ≤ (c6 a0.toNatClampNeg).toInt ∧ (c6 a0.toNatClampNeg).toInt ≤ 24)) → (36 - l34_3.toInt).toNat < fu_ → ∀ (ls : Array Slot) (H : Heap) (locs : List Loc), lv_has ls 4 [(3, .int l34_3), (2, .int l34_2), (0, .ref k), (1, .int a0)] → va_P D vwCl [(k, .inr (11, [.ref k0, .ref k1, .ref k2, .int c3, .ref k4, .ref k5, .ref k6, .ref k7, .ref k8, .int c9, .ref ka, .ref kb, .int cc, .int cd, .int ce, .int cf, .int cg, .int ch, .int ci, .int cj, .int ck, .ref kl, .int cm, .int cn, .ref ko])), (k6, .inl (cI, 4, .inl c6)), (k7, .inl (cI, 144, .inl c7))] H → va_D A [(k, .inr (11, [.ref k0, .ref k1, .ref k2, .int c3, .ref k4, .ref k5, .ref k6, .ref k7, .ref k8, .int c9, .ref ka, .ref kb, .int cc, .int cd, .int ce, .int cf, .int cg, .int ch, .int ci, .int cj, .int ck, .ref kl, .int cm, .int cn, .ref ko])), (k6, .inl (cI, 4, .inl c6)), (k7, .inl (cI, 144, .inl c7))] → va_S A s.heap H locs → W p l e ({ frames := 1, cells := 0, slots := 0, locals := 22 } : Room) s m args below meth c H locs 0 0 Q (F0 m 34 ls []) := by
        intro fu_; induction fu_ with
        | zero => intro l34_2 l34_3 i34_0 i34_1 i34_2 i34_3 i34_4 i34_5 hm; exact absurd hm (by omega)
        | succ fu_ ih34 =>
            intro l34_2 l34_3 i34_0 i34_1 i34_2 i34_3 i34_4 i34_5 hm ls H locs hl hP hD hS
            have lo_l34_2 := k_lo l34_2
            have hi_l34_2 := k_hi l34_2
            have lo_l34_3 := k_lo l34_3
            have hi_l34_3 := k_hi l34_3
            refine lv_iload_n hx hb dX11_areThings_34 rfl (lv_at hl 0 rfl) ?_
            refine lv_aload_n hx hb dX11_areThings_35 rfl (lv_at hl 2 rfl) ?_
            refine va_get (D := D) (ci := 11) (v := .ref k6) (C := RX11) (T := TX11) (N := 25) hx hb hT giX11 hown hK hP 0 rfl rfl 6 (by decide) (hT (Cond.fieldLink RX11 25 "DesertWireModel" "size" "[I") mw_1162) (fun _ h9 => h9) rfl dX11_areThings_36 ?_
            refine lv_iload_n hx hb dX11_areThings_39 rfl (lv_at hl 3 rfl) ?_
            refine k_iald (v := (c6 a0.toNatClampNeg)) hx hb hK hP 1 0 rfl rfl (k_in (by omega) (by omega)) rfl dX11_areThings_40 ?_
            refine lv_topi (fun v_18 ev_18 => ?_)
            have lo_v_18 := k_lo v_18
            have hi_v_18 := k_hi v_18
            have tv_18 : v_18.toInt = (c6 a0.toNatClampNeg).toInt := by rw [ev_18]
            have b_19 : 0 ≤ v_18.toInt ∧ v_18.toInt ≤ 36 := by rw [tv_18]; exact pre0 a0.toNatClampNeg (by rw [k_clamp]; omega)
            refine b_icmp_ge hx hb rfl rfl (tgt := 110) dX11_areThings_41 (by decide) (fun c_20 => ?_) (fun c_20 => ?_)
            · refine lv_iload_n hx hb dX11_areThings_110 rfl (lv_at hl 1 rfl) ?_
              rcases (show l34_2.toInt = 0 ∨ l34_2.toInt = 1 by omega) with h_z | h_z
              · obtain rfl : l34_2 = 0 := k_inj (by rw [zl_0]; omega)
                exact hRet () [0, 1, 2] (Or.inr (rfl)) hP hD (by decide) rfl hS rfl dX11_areThings_111
              · obtain rfl : l34_2 = 1 := k_inj (by rw [zl_1]; omega)
                exact hRet () [0, 1, 2] (Or.inl ⟨rfl, (by omega), (by omega)⟩) hP hD (by decide) rfl hS rfl dX11_areThings_111
            · refine lv_iload_n hx hb dX11_areThings_44 rfl (lv_at hl 1 rfl) ?_
              refine b_if_eq hx hb rfl (tgt := 110) dX11_areThings_45 (by decide) (fun c_21 => ?_) (fun c_21 => ?_)
              · refine lv_iload_n hx hb dX11_areThings_110 rfl (lv_at hl 1 rfl) ?_
                rcases (show l34_2.toInt = 0 ∨ l34_2.toInt = 1 by omega) with h_z | h_z
                · obtain rfl : l34_2 = 0 := k_inj (by rw [zl_0]; omega)
                  exact hRet () [0, 1, 2] (Or.inr (rfl)) hP hD (by decide) rfl hS rfl dX11_areThings_111
                · obtain rfl : l34_2 = 1 := k_inj (by rw [zl_1]; omega)
                  exact hRet () [0, 1, 2] (Or.inl ⟨rfl, (by omega), (by omega)⟩) hP hD (by decide) rfl hS rfl dX11_areThings_111
              · refine lv_iload_n hx hb dX11_areThings_48 rfl (lv_at hl 0 rfl) ?_
                refine lv_iconst (v := 3) hx hb dX11_areThings_49 (by decide) ?_
                refine lv_irem hx hb dX11_areThings_50 (by decide) ?_
                refine lv_topi (fun v_22 ev_22 => ?_)
                have tv_22 : v_22.toInt = l34_3.toInt % 3 := k_remv (w := 0) ev_22 zl_3 (by omega) (by decide)
                have lo_v_22 := k_lo v_22
                have hi_v_22 := k_hi v_22
                refine b_if_ne hx hb rfl (tgt := 69) dX11_areThings_51 (by decide) (fun c_23 => ?_) (fun c_23 => ?_)
                · refine lv_iload_n hx hb dX11_areThings_69 rfl (lv_at hl 0 rfl) ?_
                  refine lv_iconst (v := 3) hx hb dX11_areThings_70 (by decide) ?_
                  refine lv_irem hx hb dX11_areThings_71 (by decide) ?_
                  refine lv_topi (fun v_24 ev_24 => ?_)
                  have tv_24 : v_24.toInt = l34_3.toInt % 3 := k_remv (w := 0) ev_24 zl_3 (by omega) (by decide)
                  have lo_v_24 := k_lo v_24
                  have hi_v_24 := k_hi v_24
                  refine lv_iconst (v := 1) hx hb dX11_areThings_72 (by decide) ?_
                  refine b_icmp_ne hx hb rfl zl_1 (tgt := 92) dX11_areThings_73 (by decide) (fun c_25 => ?_) (fun c_25 => ?_)
                  · refine lv_aload_n hx hb dX11_areThings_92 rfl (lv_at hl 2 rfl) ?_
                    refine lv_iload_n hx hb dX11_areThings_93 rfl (lv_at hl 3 rfl) ?_
                    refine lv_iload_n hx hb dX11_areThings_94 rfl (lv_at hl 0 rfl) ?_
                    refine kJi (wr := [(k6, .inl (cI, 4, .inl c6))]) (va_runV (As := [.int a0, .int l34_3]) (rest := []) ⟨hx, hb, hml, hown, hT⟩ (c_X11_atG l D cI aK aV k k0 k1 k2 k4 k5 k6 k7 k8 ka kb kl ko H.size c3 c9 cc cd ce cf cg ch ci cj ck cm cn c7 a0 l34_3 (by first | omega | decide | assumption | rfl) (by first | omega | decide | assumption | rfl) (by first | omega | decide | assumption | rfl) (by first | omega | decide | assumption | rfl)) (cwV 2 hT (gV_in mw_1396 mw_1393 mw_1395 mw_p5_2 mw_12) rfl rfl rfl (by decide +kernel) ⟨Nat.le_of_ble_eq_true rfl, Nat.le_of_ble_eq_true rfl⟩) (kRecvX (q0 := 0) (ci := 11) hK hP hD hN hXS hS hA rfl rfl [0, 2] rfl (by decide)) rfl rfl hl.1 rfl (lv_room (Nat.le_of_ble_eq_true rfl)) dX11_areThings_95 ⟨Nat.le_of_ble_eq_true rfl, Nat.le_of_ble_eq_true rfl⟩) hP hD hS hA [0, 2] [1] rfl rfl (by decide) (by decide) ?_
                    clear hP hD hS
                    intro r_26 u_28 H locs w_27 hP hD hS
                    replace hP : va_P D vwCl [(k6, .inl (cI, 4, .inl c6)), (k, .inr (11, [.ref k0, .ref k1, .ref k2, .int c3, .ref k4, .ref k5, .ref k6, .ref k7, .ref k8, .int c9, .ref ka, .ref kb, .int cc, .int cd, .int ce, .int cf, .int cg, .int ch, .int ci, .int cj, .int ck, .ref kl, .int cm, .int cn, .ref ko])), (k7, .inl (cI, 144, .inl c7))] H := hP
                    replace hD : va_D A [(k6, .inl (cI, 4, .inl c6)), (k, .inr (11, [.ref k0, .ref k1, .ref k2, .int c3, .ref k4, .ref k5, .ref k6, .ref k7, .ref k8, .int c9, .ref ka, .ref kb, .int cc, .int cd, .int ce, .int cf, .int cg, .int ch, .int ci, .int cj, .int ck, .ref kl, .int cm, .int cn, .ref ko])), (k7, .inl (cI, 144, .inl c7))] := hD
                    have h_29 := w_27
                    have h_29 : r_26 = c7 (36 * a0.toInt.toNat + l34_3.toInt.toNat) := h_29
                    have h_29 : r_26 = c7 (36 * a0.toInt.toNat + l34_3.toInt.toNat) := h_29
                    have lo_r_26 := k_lo r_26
                    have hi_r_26 := k_hi r_26
                    refine lv_iconst (v := 1) hx hb dX11_areThings_98 (by decide) ?_
                    refine lv_iconst (v := 3) hx hb dX11_areThings_99 (by decide) ?_
                    refine kJi (wr := [(k6, .inl (cI, 4, .inl c6)), (k, .inr (11, [.ref k0, .ref k1, .ref k2, .int c3, .ref k4, .ref k5, .ref k6, .ref k7, .ref k8, .int c9, .ref ka, .ref kb, .int cc, .int cd, .int ce, .int cf, .int cg, .int ch, .int ci, .int cj, .int ck, .ref kl, .int cm, .int cn, .ref ko])), (k7, .inl (cI, 144, .inl c7))]) (va_runS (As := [.int r_26, .int 1, .int 3]) (rest := []) ⟨hx, hb, hml, hown, hT⟩ (c_X11_inG l D cI aK aV H.size r_26 1 3) (cwS 3 hT (gS_in mw_1238 mw_1236 mw_1237 mw_12) rfl rfl rfl (by decide +kernel) ⟨Nat.le_of_ble_eq_true rfl, Nat.le_of_ble_eq_true rfl⟩) (kStatX hK hP hD hN hXS hS hA [] rfl (by decide)) rfl rfl hl.1 rfl (lv_room (Nat.le_of_ble_eq_true rfl)) dX11_areThings_100 ⟨Nat.le_of_ble_eq_true rfl, Nat.le_of_ble_eq_true rfl⟩) hP hD hS hA [] [0, 1, 2] rfl rfl (by decide) (by decide) ?_
                    clear hP hD hS
                    intro r_30 u_32 H locs w_31 hP hD hS
                    replace hP : va_P D vwCl [(k6, .inl (cI, 4, .inl c6)), (k, .inr (11, [.ref k0, .ref k1, .ref k2, .int c3, .ref k4, .ref k5, .ref k6, .ref k7, .ref k8, .int c9, .ref ka, .ref kb, .int cc, .int cd, .int ce, .int cf, .int cg, .int ch, .int ci, .int cj, .int ck, .ref kl, .int cm, .int cn, .ref ko])), (k7, .inl (cI, 144, .inl c7))] H := hP
                    replace hD : va_D A [(k6, .inl (cI, 4, .inl c6)), (k, .inr (11, [.ref k0, .ref k1, .ref k2, .int c3, .ref k4, .ref k5, .ref k6, .ref k7, .ref k8, .int c9, .ref ka, .ref kb, .int cc, .int cd, .int ce, .int cf, .int cg, .int ch, .int ci, .int cj, .int ck, .ref kl, .int cm, .int cn, .ref ko])), (k7, .inl (cI, 144, .inl c7))] := hD
                    rcases w_31 with ⟨hr_30, h_33, h_34⟩ | ⟨hr_30, h_35⟩
                    · try simp only [zl_1, zl_3] at h_33
                      have h_33 : 1 ≤ r_26.toInt := h_33
                      try simp only [zl_1, zl_3] at h_34
                      have h_34 : r_26.toInt ≤ 3 := h_34
                      obtain rfl : r_30 = 1 := hr_30.trans (by decide)
                      refine lv_istore_n (lv' := [(2, .int 1), (3, .int l34_3), (0, .ref k), (1, .int a0)]) hx hb dX11_areThings_103 rfl hl (by decide) rfl ?_
                      clear hl
                      intro ls hl
                      obtain ⟨v_36, ev_36⟩ : ∃ y : Int32, y = l34_3 + 1 := ⟨_, rfl⟩
                      have tv_36 : v_36.toInt = l34_3.toInt + 1 := by rw [ev_36]; exact k_addv rfl zl_1 (by omega) (by omega)
                      refine lv_iinc (v := v_36) (lv' := [(3, .int v_36), (2, .int 1), (0, .ref k), (1, .int a0)]) hx hb dX11_areThings_104 hl (k := 1) rfl (by rw [ev_36]; rfl) (by decide) rfl ?_
                      clear hl
                      intro ls hl
                      refine lv_goto (tgt := 34) hx hb dX11_areThings_107 (by decide) ?_
                      exact ih34 1 v_36 (by first | omega | (simp only [zl_1] <;> omega) | decide | assumption | rfl) (by first | omega | (simp only [zl_1] <;> omega) | decide | assumption | rfl) (by first | omega | (simp only [zl_1] <;> omega) | decide | assumption | rfl) (by first | omega | (simp only [zl_1] <;> omega) | decide | assumption | rfl) (by first | omega | (simp only [zl_1] <;> omega) | decide | assumption | rfl) (by first | omega | exact Or.inl zl_0 | exact Or.inr ⟨by omega, by omega⟩) (by omega) ls _ _ (lv_sub hl [0, 1, 2, 3] rfl) (hP.sub [1, 0, 2] rfl) (hD.sub [1, 0, 2] (by decide) rfl) hS
                    · try simp only [zl_1, zl_3] at h_35
                      have h_35 : r_26.toInt < 1 ∨ 3 < r_26.toInt := h_35
                      obtain rfl : r_30 = 0 := hr_30.trans (by decide)
                      refine lv_istore_n (lv' := [(2, .int 0), (3, .int l34_3), (0, .ref k), (1, .int a0)]) hx hb dX11_areThings_103 rfl hl (by decide) rfl ?_
                      clear hl
                      intro ls hl
                      obtain ⟨v_37, ev_37⟩ : ∃ y : Int32, y = l34_3 + 1 := ⟨_, rfl⟩
                      have tv_37 : v_37.toInt = l34_3.toInt + 1 := by rw [ev_37]; exact k_addv rfl zl_1 (by omega) (by omega)
                      refine lv_iinc (v := v_37) (lv' := [(3, .int v_37), (2, .int 0), (0, .ref k), (1, .int a0)]) hx hb dX11_areThings_104 hl (k := 1) rfl (by rw [ev_37]; rfl) (by decide) rfl ?_
                      clear hl
                      intro ls hl
                      refine lv_goto (tgt := 34) hx hb dX11_areThings_107 (by decide) ?_
                      exact ih34 0 v_37 (by first | omega | (simp only [zl_0] <;> omega) | decide | assumption | rfl) (by first | omega | (simp only [zl_0] <;> omega) | decide | assumption | rfl) (by first | omega | (simp only [zl_0] <;> omega) | decide | assumption | rfl) (by first | omega | (simp only [zl_0] <;> omega) | decide | assumption | rfl) (by first | omega | (simp only [zl_0] <;> omega) | decide | assumption | rfl) (by first | omega | exact Or.inl zl_0 | exact Or.inr ⟨by omega, by omega⟩) (by omega) ls _ _ (lv_sub hl [0, 1, 2, 3] rfl) (hP.sub [1, 0, 2] rfl) (hD.sub [1, 0, 2] (by decide) rfl) hS
                  · refine lv_aload_n hx hb dX11_areThings_76 rfl (lv_at hl 2 rfl) ?_
                    refine lv_iload_n hx hb dX11_areThings_77 rfl (lv_at hl 3 rfl) ?_
                    refine lv_iload_n hx hb dX11_areThings_78 rfl (lv_at hl 0 rfl) ?_
                    refine kJi (wr := [(k6, .inl (cI, 4, .inl c6))]) (va_runV (As := [.int a0, .int l34_3]) (rest := []) ⟨hx, hb, hml, hown, hT⟩ (c_X11_atG l D cI aK aV k k0 k1 k2 k4 k5 k6 k7 k8 ka kb kl ko H.size c3 c9 cc cd ce cf cg ch ci cj ck cm cn c7 a0 l34_3 (by first | omega | decide | assumption | rfl) (by first | omega | decide | assumption | rfl) (by first | omega | decide | assumption | rfl) (by first | omega | decide | assumption | rfl)) (cwV 2 hT (gV_in mw_1396 mw_1393 mw_1395 mw_p5_2 mw_12) rfl rfl rfl (by decide +kernel) ⟨Nat.le_of_ble_eq_true rfl, Nat.le_of_ble_eq_true rfl⟩) (kRecvX (q0 := 0) (ci := 11) hK hP hD hN hXS hS hA rfl rfl [0, 2] rfl (by decide)) rfl rfl hl.1 rfl (lv_room (Nat.le_of_ble_eq_true rfl)) dX11_areThings_79 ⟨Nat.le_of_ble_eq_true rfl, Nat.le_of_ble_eq_true rfl⟩) hP hD hS hA [0, 2] [1] rfl rfl (by decide) (by decide) ?_
                    clear hP hD hS
                    intro r_38 u_40 H locs w_39 hP hD hS
                    replace hP : va_P D vwCl [(k6, .inl (cI, 4, .inl c6)), (k, .inr (11, [.ref k0, .ref k1, .ref k2, .int c3, .ref k4, .ref k5, .ref k6, .ref k7, .ref k8, .int c9, .ref ka, .ref kb, .int cc, .int cd, .int ce, .int cf, .int cg, .int ch, .int ci, .int cj, .int ck, .ref kl, .int cm, .int cn, .ref ko])), (k7, .inl (cI, 144, .inl c7))] H := hP
                    replace hD : va_D A [(k6, .inl (cI, 4, .inl c6)), (k, .inr (11, [.ref k0, .ref k1, .ref k2, .int c3, .ref k4, .ref k5, .ref k6, .ref k7, .ref k8, .int c9, .ref ka, .ref kb, .int cc, .int cd, .int ce, .int cf, .int cg, .int ch, .int ci, .int cj, .int ck, .ref kl, .int cm, .int cn, .ref ko])), (k7, .inl (cI, 144, .inl c7))] := hD
                    have h_41 := w_39
                    have h_41 : r_38 = c7 (36 * a0.toInt.toNat + l34_3.toInt.toNat) := h_41
                    have h_41 : r_38 = c7 (36 * a0.toInt.toNat + l34_3.toInt.toNat) := h_41
                    have lo_r_38 := k_lo r_38
                    have hi_r_38 := k_hi r_38
                    refine lv_iconst (v := 0) hx hb dX11_areThings_82 (by decide) ?_
                    refine lv_sipush (v := 999) hx hb dX11_areThings_83 (by decide) ?_
                    refine kJi (wr := [(k6, .inl (cI, 4, .inl c6)), (k, .inr (11, [.ref k0, .ref k1, .ref k2, .int c3, .ref k4, .ref k5, .ref k6, .ref k7, .ref k8, .int c9, .ref ka, .ref kb, .int cc, .int cd, .int ce, .int cf, .int cg, .int ch, .int ci, .int cj, .int ck, .ref kl, .int cm, .int cn, .ref ko])), (k7, .inl (cI, 144, .inl c7))]) (va_runS (As := [.int r_38, .int 0, .int 999]) (rest := []) ⟨hx, hb, hml, hown, hT⟩ (c_X11_inG l D cI aK aV H.size r_38 0 999) (cwS 3 hT (gS_in mw_1238 mw_1236 mw_1237 mw_12) rfl rfl rfl (by decide +kernel) ⟨Nat.le_of_ble_eq_true rfl, Nat.le_of_ble_eq_true rfl⟩) (kStatX hK hP hD hN hXS hS hA [] rfl (by decide)) rfl rfl hl.1 rfl (lv_room (Nat.le_of_ble_eq_true rfl)) dX11_areThings_86 ⟨Nat.le_of_ble_eq_true rfl, Nat.le_of_ble_eq_true rfl⟩) hP hD hS hA [] [0, 1, 2] rfl rfl (by decide) (by decide) ?_
                    clear hP hD hS
                    intro r_42 u_44 H locs w_43 hP hD hS
                    replace hP : va_P D vwCl [(k6, .inl (cI, 4, .inl c6)), (k, .inr (11, [.ref k0, .ref k1, .ref k2, .int c3, .ref k4, .ref k5, .ref k6, .ref k7, .ref k8, .int c9, .ref ka, .ref kb, .int cc, .int cd, .int ce, .int cf, .int cg, .int ch, .int ci, .int cj, .int ck, .ref kl, .int cm, .int cn, .ref ko])), (k7, .inl (cI, 144, .inl c7))] H := hP
                    replace hD : va_D A [(k6, .inl (cI, 4, .inl c6)), (k, .inr (11, [.ref k0, .ref k1, .ref k2, .int c3, .ref k4, .ref k5, .ref k6, .ref k7, .ref k8, .int c9, .ref ka, .ref kb, .int cc, .int cd, .int ce, .int cf, .int cg, .int ch, .int ci, .int cj, .int ck, .ref kl, .int cm, .int cn, .ref ko])), (k7, .inl (cI, 144, .inl c7))] := hD
                    rcases w_43 with ⟨hr_42, h_45, h_46⟩ | ⟨hr_42, h_47⟩
                    · try simp only [zl_0, zl_999] at h_45
                      have h_45 : 0 ≤ r_38.toInt := h_45
                      try simp only [zl_0, zl_999] at h_46
                      have h_46 : r_38.toInt ≤ 999 := h_46
                      obtain rfl : r_42 = 1 := hr_42.trans (by decide)
                      refine lv_goto (tgt := 103) hx hb dX11_areThings_89 (by decide) ?_
                      refine lv_istore_n (lv' := [(2, .int 1), (3, .int l34_3), (0, .ref k), (1, .int a0)]) hx hb dX11_areThings_103 rfl hl (by decide) rfl ?_
                      clear hl
                      intro ls hl
                      obtain ⟨v_48, ev_48⟩ : ∃ y : Int32, y = l34_3 + 1 := ⟨_, rfl⟩
                      have tv_48 : v_48.toInt = l34_3.toInt + 1 := by rw [ev_48]; exact k_addv rfl zl_1 (by omega) (by omega)
                      refine lv_iinc (v := v_48) (lv' := [(3, .int v_48), (2, .int 1), (0, .ref k), (1, .int a0)]) hx hb dX11_areThings_104 hl (k := 1) rfl (by rw [ev_48]; rfl) (by decide) rfl ?_
                      clear hl
                      intro ls hl
                      refine lv_goto (tgt := 34) hx hb dX11_areThings_107 (by decide) ?_
                      exact ih34 1 v_48 (by first | omega | (simp only [zl_1] <;> omega) | decide | assumption | rfl) (by first | omega | (simp only [zl_1] <;> omega) | decide | assumption | rfl) (by first | omega | (simp only [zl_1] <;> omega) | decide | assumption | rfl) (by first | omega | (simp only [zl_1] <;> omega) | decide | assumption | rfl) (by first | omega | (simp only [zl_1] <;> omega) | decide | assumption | rfl) (by first | omega | exact Or.inl zl_0 | exact Or.inr ⟨by omega, by omega⟩) (by omega) ls _ _ (lv_sub hl [0, 1, 2, 3] rfl) (hP.sub [1, 0, 2] rfl) (hD.sub [1, 0, 2] (by decide) rfl) hS
                    · try simp only [zl_0, zl_999] at h_47
                      have h_47 : r_38.toInt < 0 ∨ 999 < r_38.toInt := h_47
                      obtain rfl : r_42 = 0 := hr_42.trans (by decide)
                      refine lv_goto (tgt := 103) hx hb dX11_areThings_89 (by decide) ?_
                      refine lv_istore_n (lv' := [(2, .int 0), (3, .int l34_3), (0, .ref k), (1, .int a0)]) hx hb dX11_areThings_103 rfl hl (by decide) rfl ?_
                      clear hl
                      intro ls hl
                      obtain ⟨v_49, ev_49⟩ : ∃ y : Int32, y = l34_3 + 1 := ⟨_, rfl⟩
                      have tv_49 : v_49.toInt = l34_3.toInt + 1 := by rw [ev_49]; exact k_addv rfl zl_1 (by omega) (by omega)
                      refine lv_iinc (v := v_49) (lv' := [(3, .int v_49), (2, .int 0), (0, .ref k), (1, .int a0)]) hx hb dX11_areThings_104 hl (k := 1) rfl (by rw [ev_49]; rfl) (by decide) rfl ?_
                      clear hl
                      intro ls hl
                      refine lv_goto (tgt := 34) hx hb dX11_areThings_107 (by decide) ?_
                      exact ih34 0 v_49 (by first | omega | (simp only [zl_0] <;> omega) | decide | assumption | rfl) (by first | omega | (simp only [zl_0] <;> omega) | decide | assumption | rfl) (by first | omega | (simp only [zl_0] <;> omega) | decide | assumption | rfl) (by first | omega | (simp only [zl_0] <;> omega) | decide | assumption | rfl) (by first | omega | (simp only [zl_0] <;> omega) | decide | assumption | rfl) (by first | omega | exact Or.inl zl_0 | exact Or.inr ⟨by omega, by omega⟩) (by omega) ls _ _ (lv_sub hl [0, 1, 2, 3] rfl) (hP.sub [1, 0, 2] rfl) (hD.sub [1, 0, 2] (by decide) rfl) hS
                · refine lv_aload_n hx hb dX11_areThings_54 rfl (lv_at hl 2 rfl) ?_
                  refine lv_iload_n hx hb dX11_areThings_55 rfl (lv_at hl 3 rfl) ?_
                  refine lv_iload_n hx hb dX11_areThings_56 rfl (lv_at hl 0 rfl) ?_
                  refine kJi (wr := [(k6, .inl (cI, 4, .inl c6))]) (va_runV (As := [.int a0, .int l34_3]) (rest := []) ⟨hx, hb, hml, hown, hT⟩ (c_X11_atG l D cI aK aV k k0 k1 k2 k4 k5 k6 k7 k8 ka kb kl ko H.size c3 c9 cc cd ce cf cg ch ci cj ck cm cn c7 a0 l34_3 (by first | omega | decide | assumption | rfl) (by first | omega | decide | assumption | rfl) (by first | omega | decide | assumption | rfl) (by first | omega | decide | assumption | rfl)) (cwV 2 hT (gV_in mw_1396 mw_1393 mw_1395 mw_p5_2 mw_12) rfl rfl rfl (by decide +kernel) ⟨Nat.le_of_ble_eq_true rfl, Nat.le_of_ble_eq_true rfl⟩) (kRecvX (q0 := 0) (ci := 11) hK hP hD hN hXS hS hA rfl rfl [0, 2] rfl (by decide)) rfl rfl hl.1 rfl (lv_room (Nat.le_of_ble_eq_true rfl)) dX11_areThings_57 ⟨Nat.le_of_ble_eq_true rfl, Nat.le_of_ble_eq_true rfl⟩) hP hD hS hA [0, 2] [1] rfl rfl (by decide) (by decide) ?_
                  clear hP hD hS
                  intro r_50 u_52 H locs w_51 hP hD hS
                  replace hP : va_P D vwCl [(k6, .inl (cI, 4, .inl c6)), (k, .inr (11, [.ref k0, .ref k1, .ref k2, .int c3, .ref k4, .ref k5, .ref k6, .ref k7, .ref k8, .int c9, .ref ka, .ref kb, .int cc, .int cd, .int ce, .int cf, .int cg, .int ch, .int ci, .int cj, .int ck, .ref kl, .int cm, .int cn, .ref ko])), (k7, .inl (cI, 144, .inl c7))] H := hP
                  replace hD : va_D A [(k6, .inl (cI, 4, .inl c6)), (k, .inr (11, [.ref k0, .ref k1, .ref k2, .int c3, .ref k4, .ref k5, .ref k6, .ref k7, .ref k8, .int c9, .ref ka, .ref kb, .int cc, .int cd, .int ce, .int cf, .int cg, .int ch, .int ci, .int cj, .int ck, .ref kl, .int cm, .int cn, .ref ko])), (k7, .inl (cI, 144, .inl c7))] := hD
                  have h_53 := w_51
                  have h_53 : r_50 = c7 (36 * a0.toInt.toNat + l34_3.toInt.toNat) := h_53
                  have h_53 : r_50 = c7 (36 * a0.toInt.toNat + l34_3.toInt.toNat) := h_53
                  have lo_r_50 := k_lo r_50
                  have hi_r_50 := k_hi r_50
                  refine lv_iconst (v := 1) hx hb dX11_areThings_60 (by decide) ?_
                  refine lv_bipush (v := 40) hx hb dX11_areThings_61 (by decide) ?_
                  refine kJi (wr := [(k6, .inl (cI, 4, .inl c6)), (k, .inr (11, [.ref k0, .ref k1, .ref k2, .int c3, .ref k4, .ref k5, .ref k6, .ref k7, .ref k8, .int c9, .ref ka, .ref kb, .int cc, .int cd, .int ce, .int cf, .int cg, .int ch, .int ci, .int cj, .int ck, .ref kl, .int cm, .int cn, .ref ko])), (k7, .inl (cI, 144, .inl c7))]) (va_runS (As := [.int r_50, .int 1, .int 40]) (rest := []) ⟨hx, hb, hml, hown, hT⟩ (c_X11_inG l D cI aK aV H.size r_50 1 40) (cwS 3 hT (gS_in mw_1238 mw_1236 mw_1237 mw_12) rfl rfl rfl (by decide +kernel) ⟨Nat.le_of_ble_eq_true rfl, Nat.le_of_ble_eq_true rfl⟩) (kStatX hK hP hD hN hXS hS hA [] rfl (by decide)) rfl rfl hl.1 rfl (lv_room (Nat.le_of_ble_eq_true rfl)) dX11_areThings_63 ⟨Nat.le_of_ble_eq_true rfl, Nat.le_of_ble_eq_true rfl⟩) hP hD hS hA [] [0, 1, 2] rfl rfl (by decide) (by decide) ?_
                  clear hP hD hS
                  intro r_54 u_56 H locs w_55 hP hD hS
                  replace hP : va_P D vwCl [(k6, .inl (cI, 4, .inl c6)), (k, .inr (11, [.ref k0, .ref k1, .ref k2, .int c3, .ref k4, .ref k5, .ref k6, .ref k7, .ref k8, .int c9, .ref ka, .ref kb, .int cc, .int cd, .int ce, .int cf, .int cg, .int ch, .int ci, .int cj, .int ck, .ref kl, .int cm, .int cn, .ref ko])), (k7, .inl (cI, 144, .inl c7))] H := hP
                  replace hD : va_D A [(k6, .inl (cI, 4, .inl c6)), (k, .inr (11, [.ref k0, .ref k1, .ref k2, .int c3, .ref k4, .ref k5, .ref k6, .ref k7, .ref k8, .int c9, .ref ka, .ref kb, .int cc, .int cd, .int ce, .int cf, .int cg, .int ch, .int ci, .int cj, .int ck, .ref kl, .int cm, .int cn, .ref ko])), (k7, .inl (cI, 144, .inl c7))] := hD
                  rcases w_55 with ⟨hr_54, h_57, h_58⟩ | ⟨hr_54, h_59⟩
                  · try simp only [zl_1, zl_40] at h_57
                    have h_57 : 1 ≤ r_50.toInt := h_57
                    try simp only [zl_1, zl_40] at h_58
                    have h_58 : r_50.toInt ≤ 40 := h_58
                    obtain rfl : r_54 = 1 := hr_54.trans (by decide)
                    refine lv_goto (tgt := 103) hx hb dX11_areThings_66 (by decide) ?_
                    refine lv_istore_n (lv' := [(2, .int 1), (3, .int l34_3), (0, .ref k), (1, .int a0)]) hx hb dX11_areThings_103 rfl hl (by decide) rfl ?_
                    clear hl
                    intro ls hl
                    obtain ⟨v_60, ev_60⟩ : ∃ y : Int32, y = l34_3 + 1 := ⟨_, rfl⟩
                    have tv_60 : v_60.toInt = l34_3.toInt + 1 := by rw [ev_60]; exact k_addv rfl zl_1 (by omega) (by omega)
                    refine lv_iinc (v := v_60) (lv' := [(3, .int v_60), (2, .int 1), (0, .ref k), (1, .int a0)]) hx hb dX11_areThings_104 hl (k := 1) rfl (by rw [ev_60]; rfl) (by decide) rfl ?_
                    clear hl
                    intro ls hl
                    refine lv_goto (tgt := 34) hx hb dX11_areThings_107 (by decide) ?_
                    exact ih34 1 v_60 (by first | omega | (simp only [zl_1] <;> omega) | decide | assumption | rfl) (by first | omega | (simp only [zl_1] <;> omega) | decide | assumption | rfl) (by first | omega | (simp only [zl_1] <;> omega) | decide | assumption | rfl) (by first | omega | (simp only [zl_1] <;> omega) | decide | assumption | rfl) (by first | omega | (simp only [zl_1] <;> omega) | decide | assumption | rfl) (by first | omega | exact Or.inl zl_0 | exact Or.inr ⟨by omega, by omega⟩) (by omega) ls _ _ (lv_sub hl [0, 1, 2, 3] rfl) (hP.sub [1, 0, 2] rfl) (hD.sub [1, 0, 2] (by decide) rfl) hS
                  · try simp only [zl_1, zl_40] at h_59
                    have h_59 : r_50.toInt < 1 ∨ 40 < r_50.toInt := h_59
                    obtain rfl : r_54 = 0 := hr_54.trans (by decide)
                    refine lv_goto (tgt := 103) hx hb dX11_areThings_66 (by decide) ?_
                    refine lv_istore_n (lv' := [(2, .int 0), (3, .int l34_3), (0, .ref k), (1, .int a0)]) hx hb dX11_areThings_103 rfl hl (by decide) rfl ?_
                    clear hl
                    intro ls hl
                    obtain ⟨v_61, ev_61⟩ : ∃ y : Int32, y = l34_3 + 1 := ⟨_, rfl⟩
                    have tv_61 : v_61.toInt = l34_3.toInt + 1 := by rw [ev_61]; exact k_addv rfl zl_1 (by omega) (by omega)
                    refine lv_iinc (v := v_61) (lv' := [(3, .int v_61), (2, .int 0), (0, .ref k), (1, .int a0)]) hx hb dX11_areThings_104 hl (k := 1) rfl (by rw [ev_61]; rfl) (by decide) rfl ?_
                    clear hl
                    intro ls hl
                    refine lv_goto (tgt := 34) hx hb dX11_areThings_107 (by decide) ?_
                    exact ih34 0 v_61 (by first | omega | (simp only [zl_0] <;> omega) | decide | assumption | rfl) (by first | omega | (simp only [zl_0] <;> omega) | decide | assumption | rfl) (by first | omega | (simp only [zl_0] <;> omega) | decide | assumption | rfl) (by first | omega | (simp only [zl_0] <;> omega) | decide | assumption | rfl) (by first | omega | (simp only [zl_0] <;> omega) | decide | assumption | rfl) (by first | omega | exact Or.inl zl_0 | exact Or.inr ⟨by omega, by omega⟩) (by omega) ls _ _ (lv_sub hl [0, 1, 2, 3] rfl) (hP.sub [1, 0, 2] rfl) (hD.sub [1, 0, 2] (by decide) rfl) hS
      exact hloop_34 _ 1 0 (by first | omega | (simp only [zl_0, zl_1] <;> omega) | decide | assumption | rfl) (by first | omega | (simp only [zl_0, zl_1] <;> omega) | decide | assumption | rfl) (by first | omega | (simp only [zl_0, zl_1] <;> omega) | decide | assumption | rfl) (by first | omega | (simp only [zl_0, zl_1] <;> omega) | decide | assumption | rfl) (by first | omega | (simp only [zl_0, zl_1] <;> omega) | decide | assumption | rfl) (by first | omega | exact Or.inl zl_0 | exact Or.inr ⟨by omega, by omega⟩) (Nat.lt_succ_self _) ls _ _ (lv_sub hl [0, 1, 2, 3] rfl) hP hD hS
    · try simp only [zl_3, zl_24] at h_16
      have h_16 : v_9.toInt < 3 ∨ 24 < v_9.toInt := h_16
      obtain rfl : r_11 = 0 := hr_11.trans (by decide)
      refine b_if_eq hx hb zl_0 (tgt := 30) dX11_areThings_23 (by decide) (fun c_62 => ?_) (fun c_62 => by exfalso; omega)
      refine lv_iconst (v := 0) hx hb dX11_areThings_30 (by decide) ?_
      refine lv_istore_n (lv' := [(2, .int 0), (0, .ref k), (1, .int a0)]) hx hb dX11_areThings_31 rfl hl (by decide) rfl ?_
      clear hl
      intro ls hl
      refine lv_iconst (v := 0) hx hb dX11_areThings_32 (by decide) ?_
      refine lv_istore_n (lv' := [(3, .int 0), (2, .int 0), (0, .ref k), (1, .int a0)]) hx hb dX11_areThings_33 rfl hl (by decide) rfl ?_
      clear hl
      intro ls hl
      have hloop_34 : ∀ (fu_ : Nat) (l34_2 : Int32) (l34_3 : Int32), l34_2.toInt ≤ 0 → 0 ≤ l34_3.toInt → 0 ≤ l34_2.toInt → l34_2.toInt ≤ 1 → l34_3.toInt ≤ 36 → (l34_2.toInt = 0 ∨ (3 ≤ (c6 a0.toNatClampNeg).toInt ∧ (c6 a0.toNatClampNeg).toInt ≤ 24)) → (36 - l34_3.toInt).toNat < fu_ → ∀ (ls : Array Slot) (H : Heap) (locs : List Loc), lv_has ls 4 [(3, .int l34_3), (2, .int l34_2), (0, .ref k), (1, .int a0)] → va_P D vwCl [(k, .inr (11, [.ref k0, .ref k1, .ref k2, .int c3, .ref k4, .ref k5, .ref k6, .ref k7, .ref k8, .int c9, .ref ka, .ref kb, .int cc, .int cd, .int ce, .int cf, .int cg, .int ch, .int ci, .int cj, .int ck, .ref kl, .int cm, .int cn, .ref ko])), (k6, .inl (cI, 4, .inl c6)), (k7, .inl (cI, 144, .inl c7))] H → va_D A [(k, .inr (11, [.ref k0, .ref k1, .ref k2, .int c3, .ref k4, .ref k5, .ref k6, .ref k7, .ref k8, .int c9, .ref ka, .ref kb, .int cc, .int cd, .int ce, .int cf, .int cg, .int ch, .int ci, .int cj, .int ck, .ref kl, .int cm, .int cn, .ref ko])), (k6, .inl (cI, 4, .inl c6)), (k7, .inl (cI, 144, .inl c7))] → va_S A s.heap H locs → W p l e ({ frames := 1, cells := 0, slots := 0, locals := 22 } : Room) s m args below meth c H locs 0 0 Q (F0 m 34 ls []) := by
        intro fu_; induction fu_ with
        | zero => intro l34_2 l34_3 i34_0 i34_1 i34_2 i34_3 i34_4 i34_5 hm; exact absurd hm (by omega)
        | succ fu_ ih34 =>
            intro l34_2 l34_3 i34_0 i34_1 i34_2 i34_3 i34_4 i34_5 hm ls H locs hl hP hD hS
            have lo_l34_2 := k_lo l34_2
            have hi_l34_2 := k_hi l34_2
            have lo_l34_3 := k_lo l34_3
            have hi_l34_3 := k_hi l34_3
            refine lv_iload_n hx hb dX11_areThings_34 rfl (lv_at hl 0 rfl) ?_
            refine lv_aload_n hx hb dX11_areThings_35 rfl (lv_at hl 2 rfl) ?_
            refine va_get (D := D) (ci := 11) (v := .ref k6) (C := RX11) (T := TX11) (N := 25) hx hb hT giX11 hown hK hP 0 rfl rfl 6 (by decide) (hT (Cond.fieldLink RX11 25 "DesertWireModel" "size" "[I") mw_1162) (fun _ h9 => h9) rfl dX11_areThings_36 ?_
            refine lv_iload_n hx hb dX11_areThings_39 rfl (lv_at hl 3 rfl) ?_
            refine k_iald (v := (c6 a0.toNatClampNeg)) hx hb hK hP 1 0 rfl rfl (k_in (by omega) (by omega)) rfl dX11_areThings_40 ?_
            refine lv_topi (fun v_63 ev_63 => ?_)
            have lo_v_63 := k_lo v_63
            have hi_v_63 := k_hi v_63
            have tv_63 : v_63.toInt = (c6 a0.toNatClampNeg).toInt := by rw [ev_63]
            have b_64 : 0 ≤ v_63.toInt ∧ v_63.toInt ≤ 36 := by rw [tv_63]; exact pre0 a0.toNatClampNeg (by rw [k_clamp]; omega)
            refine b_icmp_ge hx hb rfl rfl (tgt := 110) dX11_areThings_41 (by decide) (fun c_65 => ?_) (fun c_65 => ?_)
            · refine lv_iload_n hx hb dX11_areThings_110 rfl (lv_at hl 1 rfl) ?_
              rcases (show l34_2.toInt = 0 ∨ l34_2.toInt = 1 by omega) with h_z | h_z
              · obtain rfl : l34_2 = 0 := k_inj (by rw [zl_0]; omega)
                exact hRet () [0, 1, 2] (Or.inr (rfl)) hP hD (by decide) rfl hS rfl dX11_areThings_111
              · obtain rfl : l34_2 = 1 := k_inj (by rw [zl_1]; omega)
                exact hRet () [0, 1, 2] (Or.inl ⟨rfl, (by omega), (by omega)⟩) hP hD (by decide) rfl hS rfl dX11_areThings_111
            · refine lv_iload_n hx hb dX11_areThings_44 rfl (lv_at hl 1 rfl) ?_
              refine b_if_eq hx hb rfl (tgt := 110) dX11_areThings_45 (by decide) (fun c_66 => ?_) (fun c_66 => by exfalso; omega)
              refine lv_iload_n hx hb dX11_areThings_110 rfl (lv_at hl 1 rfl) ?_
              rcases (show l34_2.toInt = 0 ∨ l34_2.toInt = 1 by omega) with h_z | h_z
              · obtain rfl : l34_2 = 0 := k_inj (by rw [zl_0]; omega)
                exact hRet () [0, 1, 2] (Or.inr (rfl)) hP hD (by decide) rfl hS rfl dX11_areThings_111
              · obtain rfl : l34_2 = 1 := k_inj (by rw [zl_1]; omega)
                exact hRet () [0, 1, 2] (Or.inl ⟨rfl, (by omega), (by omega)⟩) hP hD (by decide) rfl hS rfl dX11_areThings_111
      exact hloop_34 _ 0 0 (by first | omega | (simp only [zl_0] <;> omega) | decide | assumption | rfl) (by first | omega | (simp only [zl_0] <;> omega) | decide | assumption | rfl) (by first | omega | (simp only [zl_0] <;> omega) | decide | assumption | rfl) (by first | omega | (simp only [zl_0] <;> omega) | decide | assumption | rfl) (by first | omega | (simp only [zl_0] <;> omega) | decide | assumption | rfl) (by first | omega | exact Or.inl zl_0 | exact Or.inr ⟨by omega, by omega⟩) (Nat.lt_succ_self _) ls _ _ (lv_sub hl [0, 1, 2, 3] rfl) hP hD hS
theorem dX11_findLoad_0 : decode cX11_findLoad 0 = .ok (.aload_n 0, 1) := by decide +kernel
theorem dX11_findLoad_1 : decode cX11_findLoad 1 = .ok (.getfield 25, 3) := by decide +kernel
theorem dX11_findLoad_4 : decode cX11_findLoad 4 = .ok (.iload_n 1, 1) := by decide +kernel
theorem dX11_findLoad_5 : decode cX11_findLoad 5 = .ok (.iaload, 1) := by decide +kernel
theorem dX11_findLoad_6 : decode cX11_findLoad 6 = .ok (.iconst 3, 1) := by decide +kernel
theorem dX11_findLoad_7 : decode cX11_findLoad 7 = .ok (.idiv, 1) := by decide +kernel
theorem dX11_findLoad_8 : decode cX11_findLoad 8 = .ok (.istore_n 3, 1) := by decide +kernel
theorem dX11_findLoad_9 : decode cX11_findLoad 9 = .ok (.aload_n 0, 1) := by decide +kernel
theorem dX11_findLoad_10 : decode cX11_findLoad 10 = .ok (.iconst (-1), 1) := by decide +kernel
theorem dX11_findLoad_11 : decode cX11_findLoad 11 = .ok (.putfield 214, 3) := by decide +kernel
theorem dX11_findLoad_14 : decode cX11_findLoad 14 = .ok (.aload_n 0, 1) := by decide +kernel
theorem dX11_findLoad_15 : decode cX11_findLoad 15 = .ok (.iconst 0, 1) := by decide +kernel
theorem dX11_findLoad_16 : decode cX11_findLoad 16 = .ok (.putfield 217, 3) := by decide +kernel
theorem dX11_findLoad_19 : decode cX11_findLoad 19 = .ok (.iconst 1, 1) := by decide +kernel
theorem dX11_findLoad_20 : decode cX11_findLoad 20 = .ok (.iconst 2, 1) := by decide +kernel
theorem dX11_findLoad_21 : decode cX11_findLoad 21 = .ok (.iload_n 3, 1) := by decide +kernel
theorem dX11_findLoad_22 : decode cX11_findLoad 22 = .ok (.imul, 1) := by decide +kernel
theorem dX11_findLoad_23 : decode cX11_findLoad 23 = .ok (.ishl, 1) := by decide +kernel
theorem dX11_findLoad_24 : decode cX11_findLoad 24 = .ok (.iconst 1, 1) := by decide +kernel
theorem dX11_findLoad_25 : decode cX11_findLoad 25 = .ok (.isub, 1) := by decide +kernel
theorem dX11_findLoad_26 : decode cX11_findLoad 26 = .ok (.istore 4, 2) := by decide +kernel
theorem dX11_findLoad_28 : decode cX11_findLoad 28 = .ok (.iload 4, 2) := by decide +kernel
theorem dX11_findLoad_30 : decode cX11_findLoad 30 = .ok (.ifCond .lt 189, 3) := by decide +kernel
theorem dX11_findLoad_33 : decode cX11_findLoad 33 = .ok (.iconst 0, 1) := by decide +kernel
theorem dX11_findLoad_34 : decode cX11_findLoad 34 = .ok (.istore 5, 2) := by decide +kernel
theorem dX11_findLoad_36 : decode cX11_findLoad 36 = .ok (.iconst 0, 1) := by decide +kernel
theorem dX11_findLoad_37 : decode cX11_findLoad 37 = .ok (.istore 6, 2) := by decide +kernel
theorem dX11_findLoad_39 : decode cX11_findLoad 39 = .ok (.iconst 1, 1) := by decide +kernel
theorem dX11_findLoad_40 : decode cX11_findLoad 40 = .ok (.istore 7, 2) := by decide +kernel
theorem dX11_findLoad_42 : decode cX11_findLoad 42 = .ok (.iconst 0, 1) := by decide +kernel
theorem dX11_findLoad_43 : decode cX11_findLoad 43 = .ok (.istore 8, 2) := by decide +kernel
theorem dX11_findLoad_45 : decode cX11_findLoad 45 = .ok (.iload 8, 2) := by decide +kernel
theorem dX11_findLoad_47 : decode cX11_findLoad 47 = .ok (.iload_n 3, 1) := by decide +kernel
theorem dX11_findLoad_48 : decode cX11_findLoad 48 = .ok (.if_icmp .ge 84, 3) := by decide +kernel
theorem dX11_findLoad_51 : decode cX11_findLoad 51 = .ok (.iload 7, 2) := by decide +kernel
theorem dX11_findLoad_53 : decode cX11_findLoad 53 = .ok (.ifCond .eq 79, 3) := by decide +kernel
theorem dX11_findLoad_56 : decode cX11_findLoad 56 = .ok (.aload_n 0, 1) := by decide +kernel
theorem dX11_findLoad_57 : decode cX11_findLoad 57 = .ok (.iload 4, 2) := by decide +kernel
theorem dX11_findLoad_59 : decode cX11_findLoad 59 = .ok (.iload 8, 2) := by decide +kernel
theorem dX11_findLoad_61 : decode cX11_findLoad 61 = .ok (.iload_n 3, 1) := by decide +kernel
theorem dX11_findLoad_62 : decode cX11_findLoad 62 = .ok (.invokevirtual 220, 3) := by decide +kernel
theorem dX11_findLoad_65 : decode cX11_findLoad 65 = .ok (.istore 9, 2) := by decide +kernel
theorem dX11_findLoad_67 : decode cX11_findLoad 67 = .ok (.iload 9, 2) := by decide +kernel
theorem dX11_findLoad_69 : decode cX11_findLoad 69 = .ok (.aload_n 0, 1) := by decide +kernel
theorem dX11_findLoad_70 : decode cX11_findLoad 70 = .ok (.iload_n 1, 1) := by decide +kernel
theorem dX11_findLoad_71 : decode cX11_findLoad 71 = .ok (.iconst 3, 1) := by decide +kernel
theorem dX11_findLoad_72 : decode cX11_findLoad 72 = .ok (.iload 8, 2) := by decide +kernel
theorem dX11_findLoad_74 : decode cX11_findLoad 74 = .ok (.imul, 1) := by decide +kernel
theorem dX11_findLoad_75 : decode cX11_findLoad 75 = .ok (.iconst 2, 1) := by decide +kernel
theorem dX11_findLoad_76 : decode cX11_findLoad 76 = .ok (.iadd, 1) := by decide +kernel
theorem dX11_findLoad_77 : decode cX11_findLoad 77 = .ok (.invokevirtual 115, 3) := by decide +kernel
theorem dX11_findLoad_80 : decode cX11_findLoad 80 = .ok (.if_icmp .gt 7, 3) := by decide +kernel
theorem dX11_findLoad_83 : decode cX11_findLoad 83 = .ok (.iconst 1, 1) := by decide +kernel
theorem dX11_findLoad_84 : decode cX11_findLoad 84 = .ok (.goto 4, 3) := by decide +kernel
theorem dX11_findLoad_87 : decode cX11_findLoad 87 = .ok (.iconst 0, 1) := by decide +kernel
theorem dX11_findLoad_88 : decode cX11_findLoad 88 = .ok (.istore 7, 2) := by decide +kernel
theorem dX11_findLoad_90 : decode cX11_findLoad 90 = .ok (.iload 5, 2) := by decide +kernel
theorem dX11_findLoad_92 : decode cX11_findLoad 92 = .ok (.iload 9, 2) := by decide +kernel
theorem dX11_findLoad_94 : decode cX11_findLoad 94 = .ok (.aload_n 0, 1) := by decide +kernel
theorem dX11_findLoad_95 : decode cX11_findLoad 95 = .ok (.iload_n 1, 1) := by decide +kernel
theorem dX11_findLoad_96 : decode cX11_findLoad 96 = .ok (.iconst 3, 1) := by decide +kernel
theorem dX11_findLoad_97 : decode cX11_findLoad 97 = .ok (.iload 8, 2) := by decide +kernel
theorem dX11_findLoad_99 : decode cX11_findLoad 99 = .ok (.imul, 1) := by decide +kernel
theorem dX11_findLoad_100 : decode cX11_findLoad 100 = .ok (.invokevirtual 115, 3) := by decide +kernel
theorem dX11_findLoad_103 : decode cX11_findLoad 103 = .ok (.imul, 1) := by decide +kernel
theorem dX11_findLoad_104 : decode cX11_findLoad 104 = .ok (.iadd, 1) := by decide +kernel
theorem dX11_findLoad_105 : decode cX11_findLoad 105 = .ok (.istore 5, 2) := by decide +kernel
theorem dX11_findLoad_107 : decode cX11_findLoad 107 = .ok (.iload 6, 2) := by decide +kernel
theorem dX11_findLoad_109 : decode cX11_findLoad 109 = .ok (.iload 9, 2) := by decide +kernel
theorem dX11_findLoad_111 : decode cX11_findLoad 111 = .ok (.aload_n 0, 1) := by decide +kernel
theorem dX11_findLoad_112 : decode cX11_findLoad 112 = .ok (.iload_n 1, 1) := by decide +kernel
theorem dX11_findLoad_113 : decode cX11_findLoad 113 = .ok (.iconst 3, 1) := by decide +kernel
theorem dX11_findLoad_114 : decode cX11_findLoad 114 = .ok (.iload 8, 2) := by decide +kernel
theorem dX11_findLoad_116 : decode cX11_findLoad 116 = .ok (.imul, 1) := by decide +kernel
theorem dX11_findLoad_117 : decode cX11_findLoad 117 = .ok (.iconst 1, 1) := by decide +kernel
theorem dX11_findLoad_118 : decode cX11_findLoad 118 = .ok (.iadd, 1) := by decide +kernel
theorem dX11_findLoad_119 : decode cX11_findLoad 119 = .ok (.invokevirtual 115, 3) := by decide +kernel
theorem dX11_findLoad_122 : decode cX11_findLoad 122 = .ok (.imul, 1) := by decide +kernel
theorem dX11_findLoad_123 : decode cX11_findLoad 123 = .ok (.iadd, 1) := by decide +kernel
theorem dX11_findLoad_124 : decode cX11_findLoad 124 = .ok (.istore 6, 2) := by decide +kernel
theorem dX11_findLoad_126 : decode cX11_findLoad 126 = .ok (.iinc 8 1, 3) := by decide +kernel
theorem dX11_findLoad_129 : decode cX11_findLoad 129 = .ok (.goto (-84), 3) := by decide +kernel
theorem dX11_findLoad_132 : decode cX11_findLoad 132 = .ok (.iload 7, 2) := by decide +kernel
theorem dX11_findLoad_134 : decode cX11_findLoad 134 = .ok (.ifCond .eq 79, 3) := by decide +kernel
theorem dX11_findLoad_137 : decode cX11_findLoad 137 = .ok (.iload 5, 2) := by decide +kernel
theorem dX11_findLoad_139 : decode cX11_findLoad 139 = .ok (.iload_n 2, 1) := by decide +kernel
theorem dX11_findLoad_140 : decode cX11_findLoad 140 = .ok (.if_icmp .gt 73, 3) := by decide +kernel
theorem dX11_findLoad_143 : decode cX11_findLoad 143 = .ok (.iload 6, 2) := by decide +kernel
theorem dX11_findLoad_145 : decode cX11_findLoad 145 = .ok (.aload_n 0, 1) := by decide +kernel
theorem dX11_findLoad_146 : decode cX11_findLoad 146 = .ok (.getfield 214, 3) := by decide +kernel
theorem dX11_findLoad_149 : decode cX11_findLoad 149 = .ok (.if_icmp .gt 21, 3) := by decide +kernel
theorem dX11_findLoad_152 : decode cX11_findLoad 152 = .ok (.iload 6, 2) := by decide +kernel
theorem dX11_findLoad_154 : decode cX11_findLoad 154 = .ok (.aload_n 0, 1) := by decide +kernel
theorem dX11_findLoad_155 : decode cX11_findLoad 155 = .ok (.getfield 214, 3) := by decide +kernel
theorem dX11_findLoad_158 : decode cX11_findLoad 158 = .ok (.if_icmp .ne 55, 3) := by decide +kernel
theorem dX11_findLoad_161 : decode cX11_findLoad 161 = .ok (.iload 5, 2) := by decide +kernel
theorem dX11_findLoad_163 : decode cX11_findLoad 163 = .ok (.aload_n 0, 1) := by decide +kernel
theorem dX11_findLoad_164 : decode cX11_findLoad 164 = .ok (.getfield 217, 3) := by decide +kernel
theorem dX11_findLoad_167 : decode cX11_findLoad 167 = .ok (.if_icmp .ge 46, 3) := by decide +kernel
theorem dX11_findLoad_170 : decode cX11_findLoad 170 = .ok (.aload_n 0, 1) := by decide +kernel
theorem dX11_findLoad_171 : decode cX11_findLoad 171 = .ok (.iload 6, 2) := by decide +kernel
theorem dX11_findLoad_173 : decode cX11_findLoad 173 = .ok (.putfield 214, 3) := by decide +kernel
theorem dX11_findLoad_176 : decode cX11_findLoad 176 = .ok (.aload_n 0, 1) := by decide +kernel
theorem dX11_findLoad_177 : decode cX11_findLoad 177 = .ok (.iload 5, 2) := by decide +kernel
theorem dX11_findLoad_179 : decode cX11_findLoad 179 = .ok (.putfield 217, 3) := by decide +kernel
theorem dX11_findLoad_182 : decode cX11_findLoad 182 = .ok (.iconst 0, 1) := by decide +kernel
theorem dX11_findLoad_183 : decode cX11_findLoad 183 = .ok (.istore 8, 2) := by decide +kernel
theorem dX11_findLoad_185 : decode cX11_findLoad 185 = .ok (.iload 8, 2) := by decide +kernel
theorem dX11_findLoad_187 : decode cX11_findLoad 187 = .ok (.iload_n 3, 1) := by decide +kernel
theorem dX11_findLoad_188 : decode cX11_findLoad 188 = .ok (.if_icmp .ge 25, 3) := by decide +kernel
theorem dX11_findLoad_191 : decode cX11_findLoad 191 = .ok (.aload_n 0, 1) := by decide +kernel
theorem dX11_findLoad_192 : decode cX11_findLoad 192 = .ok (.getfield 40, 3) := by decide +kernel
theorem dX11_findLoad_195 : decode cX11_findLoad 195 = .ok (.iload 8, 2) := by decide +kernel
theorem dX11_findLoad_197 : decode cX11_findLoad 197 = .ok (.aload_n 0, 1) := by decide +kernel
theorem dX11_findLoad_198 : decode cX11_findLoad 198 = .ok (.iload 4, 2) := by decide +kernel
theorem dX11_findLoad_200 : decode cX11_findLoad 200 = .ok (.iload 8, 2) := by decide +kernel
theorem dX11_findLoad_202 : decode cX11_findLoad 202 = .ok (.iload_n 3, 1) := by decide +kernel
theorem dX11_findLoad_203 : decode cX11_findLoad 203 = .ok (.invokevirtual 220, 3) := by decide +kernel
theorem dX11_findLoad_206 : decode cX11_findLoad 206 = .ok (.iastore, 1) := by decide +kernel
theorem dX11_findLoad_207 : decode cX11_findLoad 207 = .ok (.iinc 8 1, 3) := by decide +kernel
theorem dX11_findLoad_210 : decode cX11_findLoad 210 = .ok (.goto (-25), 3) := by decide +kernel
theorem dX11_findLoad_213 : decode cX11_findLoad 213 = .ok (.iinc 4 (-1), 3) := by decide +kernel
theorem dX11_findLoad_216 : decode cX11_findLoad 216 = .ok (.goto (-188), 3) := by decide +kernel
theorem dX11_findLoad_219 : decode cX11_findLoad 219 = .ok (.return_, 1) := by decide +kernel
set_option maxHeartbeats 4000000 in
set_option maxRecDepth 100000 in
theorem c_X11_findLoadG (l : Launch) (D : va_G) (cI : ClassId) (aK aV : Nat → Nat) (k k0 k1 k2 k4 k5 k6 k7 k8 ka kb kl ko : Nat) (sz : Nat) (c3 : Int32) (c9 : Int32) (cc : Int32) (cd : Int32) (ce : Int32) (cf : Int32) (cg : Int32) (ch : Int32) (ci : Int32) (cj : Int32) (ck : Int32) (cm : Int32) (cn : Int32) (c6 : Nat → Int32) (c7 : Nat → Int32) (cl : Nat → Int32) (a0 : Int32) (a1 : Int32) (pre0 : ∀ k : Nat, k < 4 → 0 ≤ (c6 k).toInt ∧ (c6 k).toInt ≤ 36) (pre1 : 0 ≤ a0.toInt) (pre2 : a0.toInt ≤ 3) (pre3 : 3 ≤ (c6 a0.toNatClampNeg).toInt) (pre4 : (c6 a0.toNatClampNeg).toInt ≤ 24) : Met l yX11_findLoad (gW yX11_findLoad cX11_findLoad 10 none) ({ frames := 1, cells := 0, slots := 0, locals := 23 } : Room) (kPreX D cI aK aV [.ref k, .int a0, .int a1] [(k, .inr (11, [.ref k0, .ref k1, .ref k2, .int c3, .ref k4, .ref k5, .ref k6, .ref k7, .ref k8, .int c9, .ref ka, .ref kb, .int cc, .int cd, .int ce, .int cf, .int cg, .int ch, .int ci, .int cj, .int ck, .ref kl, .int cm, .int cn, .ref ko])), (k6, .inl (cI, 4, .inl c6)), (k7, .inl (cI, 144, .inl c7)), (kl, .inl (cI, 8, .inl cl))] sz) (va_Qv (fun (u : Int32 × Int32 × (Nat → Int32)) => True) (fun u t => kWd D cI (va_A [(k, .inr (11, [.ref k0, .ref k1, .ref k2, .int c3, .ref k4, .ref k5, .ref k6, .ref k7, .ref k8, .int c9, .ref ka, .ref kb, .int cc, .int cd, .int ce, .int cf, .int cg, .int ch, .int ci, .int cj, .int ck, .ref kl, .int cm, .int cn, .ref ko])), (k6, .inl (cI, 4, .inl c6)), (k7, .inl (cI, 144, .inl c7)), (kl, .inl (cI, 8, .inl cl))] sz) [(k, .inr (11, [.ref k0, .ref k1, .ref k2, .int c3, .ref k4, .ref k5, .ref k6, .ref k7, .ref k8, .int c9, .ref ka, .ref kb, .int cc, .int cd, .int ce, .int cf, .int cg, .int ch, .int ci, .int cj, .int ck, .ref kl, .int u.1, .int u.2.1, .ref ko])), (k6, .inl (cI, 4, .inl c6)), (k7, .inl (cI, 144, .inl c7)), (kl, .inl (cI, 8, .inl u.2.2))] t) (va_A [(k, .inr (11, [.ref k0, .ref k1, .ref k2, .int c3, .ref k4, .ref k5, .ref k6, .ref k7, .ref k8, .int c9, .ref ka, .ref kb, .int cc, .int cd, .int ce, .int cf, .int cg, .int ch, .int ci, .int cj, .int ck, .ref kl, .int cm, .int cn, .ref ko])), (k6, .inl (cI, 4, .inl c6)), (k7, .inl (cI, 144, .inl c7)), (kl, .inl (cI, 8, .inl cl))] sz)) 0 0 (va_A [(k, .inr (11, [.ref k0, .ref k1, .ref k2, .int c3, .ref k4, .ref k5, .ref k6, .ref k7, .ref k8, .int c9, .ref ka, .ref kb, .int cc, .int cd, .int ce, .int cf, .int cg, .int ch, .int ci, .int cj, .int ck, .ref kl, .int cm, .int cn, .ref ko])), (k6, .inl (cI, 4, .inl c6)), (k7, .inl (cI, 144, .inl c7)), (kl, .inl (cI, 8, .inl cl))] sz) := by
  refine kMetVX (own := RX11) (by decide) rfl (Nat.le_of_ble_eq_true rfl) ?_
  intro p e s m args below meth c hx hb hT hown hname hml A Q hK hP hD hS hA hN hXS hRet ls hl
  have hl : lv_has ls 10 [(0, .ref k), (1, .int a0), (2, .int a1)] := hl
  have lo_a0 := k_lo a0
  have hi_a0 := k_hi a0
  have lo_a1 := k_lo a1
  have hi_a1 := k_hi a1
  have lo_ci := k_lo ci
  have hi_ci := k_hi ci
  refine lv_aload_n hx hb dX11_findLoad_0 rfl (lv_at hl 0 rfl) ?_
  refine va_get (D := D) (ci := 11) (v := .ref k6) (C := RX11) (T := TX11) (N := 25) hx hb hT giX11 hown hK hP 0 rfl rfl 6 (by decide) (hT (Cond.fieldLink RX11 25 "DesertWireModel" "size" "[I") mw_1162) (fun _ h9 => h9) rfl dX11_findLoad_1 ?_
  refine lv_iload_n hx hb dX11_findLoad_4 rfl (lv_at hl 1 rfl) ?_
  refine k_iald (v := (c6 a0.toNatClampNeg)) hx hb hK hP 1 0 rfl rfl (k_in (by omega) (by omega)) rfl dX11_findLoad_5 ?_
  refine lv_topi (fun v_1 ev_1 => ?_)
  have lo_v_1 := k_lo v_1
  have hi_v_1 := k_hi v_1
  have tv_1 : v_1.toInt = (c6 a0.toNatClampNeg).toInt := by rw [ev_1]
  have b_2 : 0 ≤ v_1.toInt ∧ v_1.toInt ≤ 36 := by rw [tv_1]; exact pre0 a0.toNatClampNeg (by rw [k_clamp]; omega)
  refine lv_iconst (v := 3) hx hb dX11_findLoad_6 (by decide) ?_
  refine lv_idiv hx hb dX11_findLoad_7 (by decide) ?_
  refine lv_topi (fun v_3 ev_3 => ?_)
  have tv_3 : v_3.toInt = v_1.toInt / 3 := k_divv (w := 0) ev_3 zl_3 (by omega) (by decide)
  have lo_v_3 := k_lo v_3
  have hi_v_3 := k_hi v_3
  refine lv_istore_n (lv' := [(3, .int v_3), (0, .ref k), (1, .int a0), (2, .int a1)]) hx hb dX11_findLoad_8 rfl hl (by decide) rfl ?_
  clear hl
  intro ls hl
  refine lv_aload_n hx hb dX11_findLoad_9 rfl (lv_at hl 1 rfl) ?_
  refine lv_iconst (v := (-1)) hx hb dX11_findLoad_10 (by decide) ?_
  refine va_put (D := D) (ci := 11) (v := .int (-1)) (ty := .int) (C := RX11) (T := TX11) (N := 25) hx hb hT giX11 tyX11 tyX11_ok nmX11 hown hK hP hD hS 0 rfl rfl 22 (by decide) (hT (Cond.fieldLink RX11 214 "DesertWireModel" "bestWorth" "I") mw_1178) (fun _ h9 => h9) rfl (by decide +kernel) rfl rfl (Nat.le_of_ble_eq_true rfl) dX11_findLoad_11 ?_
  clear hP hD hS
  intro H locs hP hD hS
  replace hP : va_P D vwCl [(k, .inr (11, [.ref k0, .ref k1, .ref k2, .int c3, .ref k4, .ref k5, .ref k6, .ref k7, .ref k8, .int c9, .ref ka, .ref kb, .int cc, .int cd, .int ce, .int cf, .int cg, .int ch, .int ci, .int cj, .int ck, .ref kl, .int (-1), .int cn, .ref ko])), (k6, .inl (cI, 4, .inl c6)), (k7, .inl (cI, 144, .inl c7)), (kl, .inl (cI, 8, .inl cl))] H := hP
  replace hD : va_D A [(k, .inr (11, [.ref k0, .ref k1, .ref k2, .int c3, .ref k4, .ref k5, .ref k6, .ref k7, .ref k8, .int c9, .ref ka, .ref kb, .int cc, .int cd, .int ce, .int cf, .int cg, .int ch, .int ci, .int cj, .int ck, .ref kl, .int (-1), .int cn, .ref ko])), (k6, .inl (cI, 4, .inl c6)), (k7, .inl (cI, 144, .inl c7)), (kl, .inl (cI, 8, .inl cl))] := hD
  refine lv_aload_n hx hb dX11_findLoad_14 rfl (lv_at hl 1 rfl) ?_
  refine lv_iconst (v := 0) hx hb dX11_findLoad_15 (by decide) ?_
  refine va_put (D := D) (ci := 11) (v := .int 0) (ty := .int) (C := RX11) (T := TX11) (N := 25) hx hb hT giX11 tyX11 tyX11_ok nmX11 hown hK hP hD hS 0 rfl rfl 23 (by decide) (hT (Cond.fieldLink RX11 217 "DesertWireModel" "bestWeight" "I") mw_1179) (fun _ h9 => h9) rfl (by decide +kernel) rfl rfl (Nat.le_of_ble_eq_true rfl) dX11_findLoad_16 ?_
  clear hP hD hS
  intro H locs hP hD hS
  replace hP : va_P D vwCl [(k, .inr (11, [.ref k0, .ref k1, .ref k2, .int c3, .ref k4, .ref k5, .ref k6, .ref k7, .ref k8, .int c9, .ref ka, .ref kb, .int cc, .int cd, .int ce, .int cf, .int cg, .int ch, .int ci, .int cj, .int ck, .ref kl, .int (-1), .int 0, .ref ko])), (k6, .inl (cI, 4, .inl c6)), (k7, .inl (cI, 144, .inl c7)), (kl, .inl (cI, 8, .inl cl))] H := hP
  replace hD : va_D A [(k, .inr (11, [.ref k0, .ref k1, .ref k2, .int c3, .ref k4, .ref k5, .ref k6, .ref k7, .ref k8, .int c9, .ref ka, .ref kb, .int cc, .int cd, .int ce, .int cf, .int cg, .int ch, .int ci, .int cj, .int ck, .ref kl, .int (-1), .int 0, .ref ko])), (k6, .inl (cI, 4, .inl c6)), (k7, .inl (cI, 144, .inl c7)), (kl, .inl (cI, 8, .inl cl))] := hD
  refine lv_iconst (v := 1) hx hb dX11_findLoad_19 (by decide) ?_
  refine lv_iconst (v := 2) hx hb dX11_findLoad_20 (by decide) ?_
  refine lv_iload_n hx hb dX11_findLoad_21 rfl (lv_at hl 0 rfl) ?_
  refine lv_imul hx hb dX11_findLoad_22 ?_
  refine lv_topi (fun v_4 ev_4 => ?_)
  have tv_4 : v_4.toInt = 2 * v_3.toInt := by rw [ev_4]; exact k_mulv zl_2 rfl (by omega) (by omega)
  refine lv_ishl hx hb dX11_findLoad_23 ?_
  refine lv_topi (fun v_5 ev_5 => ?_)
  have lo_v_5 := k_lo v_5
  have hi_v_5 := k_hi v_5
  refine lv_iconst (v := 1) hx hb dX11_findLoad_24 (by decide) ?_
  refine lv_isub hx hb dX11_findLoad_25 ?_
  refine lv_topi (fun v_6 ev_6 => ?_)
  have lo_v_6 := k_lo v_6
  have hi_v_6 := k_hi v_6
  refine lv_istore (lv' := [(4, .int v_6), (3, .int v_3), (0, .ref k), (1, .int a0), (2, .int a1)]) hx hb dX11_findLoad_26 hl (by decide) rfl ?_
  clear hl
  intro ls hl
  have hloop_28 : ∀ (fu_ : Nat) (l28_4 : Int32) (f28_km : Int32) (f28_kn : Int32) (g28_kl : Nat → Int32), l28_4.toInt ≤ v_6.toInt → (-1) ≤ f28_km.toInt → (l28_4.toInt + 1 - 0).toNat < fu_ → ∀ (ls : Array Slot) (H : Heap) (locs : List Loc), lv_has ls 10 [(4, .int l28_4), (3, .int v_3), (0, .ref k), (1, .int a0), (2, .int a1)] → va_P D vwCl [(k, .inr (11, [.ref k0, .ref k1, .ref k2, .int c3, .ref k4, .ref k5, .ref k6, .ref k7, .ref k8, .int c9, .ref ka, .ref kb, .int cc, .int cd, .int ce, .int cf, .int cg, .int ch, .int ci, .int cj, .int ck, .ref kl, .int f28_km, .int f28_kn, .ref ko])), (k6, .inl (cI, 4, .inl c6)), (k7, .inl (cI, 144, .inl c7)), (kl, .inl (cI, 8, .inl g28_kl))] H → va_D A [(k, .inr (11, [.ref k0, .ref k1, .ref k2, .int c3, .ref k4, .ref k5, .ref k6, .ref k7, .ref k8, .int c9, .ref ka, .ref kb, .int cc, .int cd, .int ce, .int cf, .int cg, .int ch, .int ci, .int cj, .int ck, .ref kl, .int f28_km, .int f28_kn, .ref ko])), (k6, .inl (cI, 4, .inl c6)), (k7, .inl (cI, 144, .inl c7)), (kl, .inl (cI, 8, .inl g28_kl))] → va_S A s.heap H locs → W p l e ({ frames := 1, cells := 0, slots := 0, locals := 23 } : Room) s m args below meth c H locs 0 0 Q (F0 m 28 ls []) := by
    intro fu_; induction fu_ with
    | zero => intro l28_4 f28_km f28_kn g28_kl i28_0 i28_1 hm; exact absurd hm (by omega)
    | succ fu_ ih28 =>
        intro l28_4 f28_km f28_kn g28_kl i28_0 i28_1 hm ls H locs hl hP hD hS
        have lo_l28_4 := k_lo l28_4
        have hi_l28_4 := k_hi l28_4
        have lo_f28_km := k_lo f28_km
        have hi_f28_km := k_hi f28_km
        have lo_f28_kn := k_lo f28_kn
        have hi_f28_kn := k_hi f28_kn
        refine lv_iload hx hb dX11_findLoad_28 (lv_at hl 0 rfl) ?_
        refine b_if_lt hx hb rfl (tgt := 219) dX11_findLoad_30 (by decide) (fun c_7 => ?_) (fun c_7 => ?_)
        · exact hRet (f28_km, f28_kn, g28_kl) [0, 1, 2, 3] trivial hP hD (by decide) rfl hS dX11_findLoad_219
        · refine lv_iconst (v := 0) hx hb dX11_findLoad_33 (by decide) ?_
          refine lv_istore (lv' := [(5, .int 0), (4, .int l28_4), (3, .int v_3), (0, .ref k), (1, .int a0), (2, .int a1)]) hx hb dX11_findLoad_34 hl (by decide) rfl ?_
          clear hl
          intro ls hl
          refine lv_iconst (v := 0) hx hb dX11_findLoad_36 (by decide) ?_
          refine lv_istore (lv' := [(6, .int 0), (5, .int 0), (4, .int l28_4), (3, .int v_3), (0, .ref k), (1, .int a0), (2, .int a1)]) hx hb dX11_findLoad_37 hl (by decide) rfl ?_
          clear hl
          intro ls hl
          refine lv_iconst (v := 1) hx hb dX11_findLoad_39 (by decide) ?_
          refine lv_istore (lv' := [(7, .int 1), (6, .int 0), (5, .int 0), (4, .int l28_4), (3, .int v_3), (0, .ref k), (1, .int a0), (2, .int a1)]) hx hb dX11_findLoad_40 hl (by decide) rfl ?_
          clear hl
          intro ls hl
          refine lv_iconst (v := 0) hx hb dX11_findLoad_42 (by decide) ?_
          refine lv_istore (lv' := [(8, .int 0), (7, .int 1), (6, .int 0), (5, .int 0), (4, .int l28_4), (3, .int v_3), (0, .ref k), (1, .int a0), (2, .int a1)]) hx hb dX11_findLoad_43 hl (by decide) rfl ?_
          clear hl
          intro ls hl
          have hloop_45 : ∀ (fu_ : Nat) (l45_5 : Int32) (l45_6 : Int32) (l45_7 : Int32) (l45_8 : Int32), l45_7.toInt ≤ 1 → 0 ≤ l45_8.toInt → (v_3.toInt - l45_8.toInt).toNat < fu_ → ∀ (ls : Array Slot) (H : Heap) (locs : List Loc), lv_has ls 10 [(8, .int l45_8), (7, .int l45_7), (6, .int l45_6), (5, .int l45_5), (4, .int l28_4), (3, .int v_3), (0, .ref k), (1, .int a0), (2, .int a1)] → va_P D vwCl [(k, .inr (11, [.ref k0, .ref k1, .ref k2, .int c3, .ref k4, .ref k5, .ref k6, .ref k7, .ref k8, .int c9, .ref ka, .ref kb, .int cc, .int cd, .int ce, .int cf, .int cg, .int ch, .int ci, .int cj, .int ck, .ref kl, .int f28_km, .int f28_kn, .ref ko])), (k6, .inl (cI, 4, .inl c6)), (k7, .inl (cI, 144, .inl c7)), (kl, .inl (cI, 8, .inl g28_kl))] H → va_D A [(k, .inr (11, [.ref k0, .ref k1, .ref k2, .int c3, .ref k4, .ref k5, .ref k6, .ref k7, .ref k8, .int c9, .ref ka, .ref kb, .int cc, .int cd, .int ce, .int cf, .int cg, .int ch, .int ci, .int cj, .int ck, .ref kl, .int f28_km, .int f28_kn, .ref ko])), (k6, .inl (cI, 4, .inl c6)), (k7, .inl (cI, 144, .inl c7)), (kl, .inl (cI, 8, .inl g28_kl))] → va_S A s.heap H locs → W p l e ({ frames := 1, cells := 0, slots := 0, locals := 23 } : Room) s m args below meth c H locs 0 0 Q (F0 m 45 ls []) := by
            intro fu_; induction fu_ with
            | zero => intro l45_5 l45_6 l45_7 l45_8 i45_0 i45_1 hm; exact absurd hm (by omega)
            | succ fu_ ih45 =>
                intro l45_5 l45_6 l45_7 l45_8 i45_0 i45_1 hm ls H locs hl hP hD hS
                have lo_l45_5 := k_lo l45_5
                have hi_l45_5 := k_hi l45_5
                have lo_l45_6 := k_lo l45_6
                have hi_l45_6 := k_hi l45_6
                have lo_l45_7 := k_lo l45_7
                have hi_l45_7 := k_hi l45_7
                have lo_l45_8 := k_lo l45_8
                have hi_l45_8 := k_hi l45_8
                refine lv_iload hx hb dX11_findLoad_45 (lv_at hl 0 rfl) ?_
                refine lv_iload_n hx hb dX11_findLoad_47 rfl (lv_at hl 5 rfl) ?_
                refine b_icmp_ge hx hb rfl rfl (tgt := 132) dX11_findLoad_48 (by decide) (fun c_8 => ?_) (fun c_8 => ?_)
                · refine lv_iload hx hb dX11_findLoad_132 (lv_at hl 1 rfl) ?_
                  refine b_if_eq hx hb rfl (tgt := 213) dX11_findLoad_134 (by decide) (fun c_9 => ?_) (fun c_9 => ?_)
                  · obtain ⟨v_10, ev_10⟩ : ∃ y : Int32, y = l28_4 + (-1) := ⟨_, rfl⟩
                    have tv_10 : v_10.toInt = l28_4.toInt + (-1) := by rw [ev_10]; exact k_addv rfl zl_m1 (by omega) (by omega)
                    refine lv_iinc (v := v_10) (lv' := [(4, .int v_10), (8, .int l45_8), (7, .int l45_7), (6, .int l45_6), (5, .int l45_5), (3, .int v_3), (0, .ref k), (1, .int a0), (2, .int a1)]) hx hb dX11_findLoad_213 hl (k := 4) rfl (by rw [ev_10]; rfl) (by decide) rfl ?_
                    clear hl
                    intro ls hl
                    refine lv_goto (tgt := 28) hx hb dX11_findLoad_216 (by decide) ?_
                    exact ih28 v_10 f28_km f28_kn g28_kl (by first | omega | decide | assumption | rfl) (by first | omega | decide | assumption | rfl) (by omega) ls _ _ (lv_sub hl [0, 5, 6, 7, 8] rfl) (hP.sub [0, 1, 2, 3] rfl) (hD.sub [0, 1, 2, 3] (by decide) rfl) hS
                  · refine lv_iload hx hb dX11_findLoad_137 (lv_at hl 3 rfl) ?_
                    refine lv_iload_n hx hb dX11_findLoad_139 rfl (lv_at hl 8 rfl) ?_
                    refine b_icmp_gt hx hb rfl rfl (tgt := 213) dX11_findLoad_140 (by decide) (fun c_11 => ?_) (fun c_11 => ?_)
                    · obtain ⟨v_12, ev_12⟩ : ∃ y : Int32, y = l28_4 + (-1) := ⟨_, rfl⟩
                      have tv_12 : v_12.toInt = l28_4.toInt + (-1) := by rw [ev_12]; exact k_addv rfl zl_m1 (by omega) (by omega)
                      refine lv_iinc (v := v_12) (lv' := [(4, .int v_12), (8, .int l45_8), (7, .int l45_7), (6, .int l45_6), (5, .int l45_5), (3, .int v_3), (0, .ref k), (1, .int a0), (2, .int a1)]) hx hb dX11_findLoad_213 hl (k := 4) rfl (by rw [ev_12]; rfl) (by decide) rfl ?_
                      clear hl
                      intro ls hl
                      refine lv_goto (tgt := 28) hx hb dX11_findLoad_216 (by decide) ?_
                      exact ih28 v_12 f28_km f28_kn g28_kl (by first | omega | decide | assumption | rfl) (by first | omega | decide | assumption | rfl) (by omega) ls _ _ (lv_sub hl [0, 5, 6, 7, 8] rfl) (hP.sub [0, 1, 2, 3] rfl) (hD.sub [0, 1, 2, 3] (by decide) rfl) hS
                    · refine lv_iload hx hb dX11_findLoad_143 (lv_at hl 2 rfl) ?_
                      refine lv_aload_n hx hb dX11_findLoad_145 rfl (lv_at hl 6 rfl) ?_
                      refine va_get (D := D) (ci := 11) (v := .int f28_km) (C := RX11) (T := TX11) (N := 25) hx hb hT giX11 hown hK hP 0 rfl rfl 22 (by decide) (hT (Cond.fieldLink RX11 214 "DesertWireModel" "bestWorth" "I") mw_1178) (fun _ h9 => h9) rfl dX11_findLoad_146 ?_
                      refine b_icmp_gt hx hb rfl rfl (tgt := 170) dX11_findLoad_149 (by decide) (fun c_13 => ?_) (fun c_13 => ?_)
                      · refine lv_aload_n hx hb dX11_findLoad_170 rfl (lv_at hl 6 rfl) ?_
                        refine lv_iload hx hb dX11_findLoad_171 (lv_at hl 2 rfl) ?_
                        refine va_put (D := D) (ci := 11) (v := .int l45_6) (ty := .int) (C := RX11) (T := TX11) (N := 25) hx hb hT giX11 tyX11 tyX11_ok nmX11 hown hK hP hD hS 0 rfl rfl 22 (by decide) (hT (Cond.fieldLink RX11 214 "DesertWireModel" "bestWorth" "I") mw_1178) (fun _ h9 => h9) rfl (by decide +kernel) rfl rfl (Nat.le_of_ble_eq_true rfl) dX11_findLoad_173 ?_
                        clear hP hD hS
                        intro H locs hP hD hS
                        replace hP : va_P D vwCl [(k, .inr (11, [.ref k0, .ref k1, .ref k2, .int c3, .ref k4, .ref k5, .ref k6, .ref k7, .ref k8, .int c9, .ref ka, .ref kb, .int cc, .int cd, .int ce, .int cf, .int cg, .int ch, .int ci, .int cj, .int ck, .ref kl, .int l45_6, .int f28_kn, .ref ko])), (k6, .inl (cI, 4, .inl c6)), (k7, .inl (cI, 144, .inl c7)), (kl, .inl (cI, 8, .inl g28_kl))] H := hP
                        replace hD : va_D A [(k, .inr (11, [.ref k0, .ref k1, .ref k2, .int c3, .ref k4, .ref k5, .ref k6, .ref k7, .ref k8, .int c9, .ref ka, .ref kb, .int cc, .int cd, .int ce, .int cf, .int cg, .int ch, .int ci, .int cj, .int ck, .ref kl, .int l45_6, .int f28_kn, .ref ko])), (k6, .inl (cI, 4, .inl c6)), (k7, .inl (cI, 144, .inl c7)), (kl, .inl (cI, 8, .inl g28_kl))] := hD
                        refine lv_aload_n hx hb dX11_findLoad_176 rfl (lv_at hl 6 rfl) ?_
                        refine lv_iload hx hb dX11_findLoad_177 (lv_at hl 3 rfl) ?_
                        refine va_put (D := D) (ci := 11) (v := .int l45_5) (ty := .int) (C := RX11) (T := TX11) (N := 25) hx hb hT giX11 tyX11 tyX11_ok nmX11 hown hK hP hD hS 0 rfl rfl 23 (by decide) (hT (Cond.fieldLink RX11 217 "DesertWireModel" "bestWeight" "I") mw_1179) (fun _ h9 => h9) rfl (by decide +kernel) rfl rfl (Nat.le_of_ble_eq_true rfl) dX11_findLoad_179 ?_
                        clear hP hD hS
                        intro H locs hP hD hS
                        replace hP : va_P D vwCl [(k, .inr (11, [.ref k0, .ref k1, .ref k2, .int c3, .ref k4, .ref k5, .ref k6, .ref k7, .ref k8, .int c9, .ref ka, .ref kb, .int cc, .int cd, .int ce, .int cf, .int cg, .int ch, .int ci, .int cj, .int ck, .ref kl, .int l45_6, .int l45_5, .ref ko])), (k6, .inl (cI, 4, .inl c6)), (k7, .inl (cI, 144, .inl c7)), (kl, .inl (cI, 8, .inl g28_kl))] H := hP
                        replace hD : va_D A [(k, .inr (11, [.ref k0, .ref k1, .ref k2, .int c3, .ref k4, .ref k5, .ref k6, .ref k7, .ref k8, .int c9, .ref ka, .ref kb, .int cc, .int cd, .int ce, .int cf, .int cg, .int ch, .int ci, .int cj, .int ck, .ref kl, .int l45_6, .int l45_5, .ref ko])), (k6, .inl (cI, 4, .inl c6)), (k7, .inl (cI, 144, .inl c7)), (kl, .inl (cI, 8, .inl g28_kl))] := hD
                        refine lv_iconst (v := 0) hx hb dX11_findLoad_182 (by decide) ?_
                        refine lv_istore (lv' := [(8, .int 0), (7, .int l45_7), (6, .int l45_6), (5, .int l45_5), (4, .int l28_4), (3, .int v_3), (0, .ref k), (1, .int a0), (2, .int a1)]) hx hb dX11_findLoad_183 hl (by decide) rfl ?_
                        clear hl
                        intro ls hl
                        have hloop_185 : ∀ (fu_ : Nat) (l185_8 : Int32) (g185_kl : Nat → Int32), 0 ≤ l185_8.toInt → (v_3.toInt - l185_8.toInt).toNat < fu_ → ∀ (ls : Array Slot) (H : Heap) (locs : List Loc), lv_has ls 10 [(8, .int l185_8), (7, .int l45_7), (6, .int l45_6), (5, .int l45_5), (4, .int l28_4), (3, .int v_3), (0, .ref k), (1, .int a0), (2, .int a1)] → va_P D vwCl [(k, .inr (11, [.ref k0, .ref k1, .ref k2, .int c3, .ref k4, .ref k5, .ref k6, .ref k7, .ref k8, .int c9, .ref ka, .ref kb, .int cc, .int cd, .int ce, .int cf, .int cg, .int ch, .int ci, .int cj, .int ck, .ref kl, .int l45_6, .int l45_5, .ref ko])), (k6, .inl (cI, 4, .inl c6)), (k7, .inl (cI, 144, .inl c7)), (kl, .inl (cI, 8, .inl g185_kl))] H → va_D A [(k, .inr (11, [.ref k0, .ref k1, .ref k2, .int c3, .ref k4, .ref k5, .ref k6, .ref k7, .ref k8, .int c9, .ref ka, .ref kb, .int cc, .int cd, .int ce, .int cf, .int cg, .int ch, .int ci, .int cj, .int ck, .ref kl, .int l45_6, .int l45_5, .ref ko])), (k6, .inl (cI, 4, .inl c6)), (k7, .inl (cI, 144, .inl c7)), (kl, .inl (cI, 8, .inl g185_kl))] → va_S A s.heap H locs → W p l e ({ frames := 1, cells := 0, slots := 0, locals := 23 } : Room) s m args below meth c H locs 0 0 Q (F0 m 185 ls []) := by
                          intro fu_; induction fu_ with
                          | zero => intro l185_8 g185_kl i185_0 hm; exact absurd hm (by omega)
                          | succ fu_ ih185 =>
                              intro l185_8 g185_kl i185_0 hm ls H locs hl hP hD hS
                              have lo_l185_8 := k_lo l185_8
                              have hi_l185_8 := k_hi l185_8
                              refine lv_iload hx hb dX11_findLoad_185 (lv_at hl 0 rfl) ?_
                              refine lv_iload_n hx hb dX11_findLoad_187 rfl (lv_at hl 5 rfl) ?_
                              refine b_icmp_ge hx hb rfl rfl (tgt := 213) dX11_findLoad_188 (by decide) (fun c_14 => ?_) (fun c_14 => ?_)
                              · obtain ⟨v_15, ev_15⟩ : ∃ y : Int32, y = l28_4 + (-1) := ⟨_, rfl⟩
                                have tv_15 : v_15.toInt = l28_4.toInt + (-1) := by rw [ev_15]; exact k_addv rfl zl_m1 (by omega) (by omega)
                                refine lv_iinc (v := v_15) (lv' := [(4, .int v_15), (8, .int l185_8), (7, .int l45_7), (6, .int l45_6), (5, .int l45_5), (3, .int v_3), (0, .ref k), (1, .int a0), (2, .int a1)]) hx hb dX11_findLoad_213 hl (k := 4) rfl (by rw [ev_15]; rfl) (by decide) rfl ?_
                                clear hl
                                intro ls hl
                                refine lv_goto (tgt := 28) hx hb dX11_findLoad_216 (by decide) ?_
                                exact ih28 v_15 l45_6 l45_5 g185_kl (by first | omega | decide | assumption | rfl) (by first | omega | decide | assumption | rfl) (by omega) ls _ _ (lv_sub hl [0, 5, 6, 7, 8] rfl) (hP.sub [0, 1, 2, 3] rfl) (hD.sub [0, 1, 2, 3] (by decide) rfl) hS
                              · refine lv_aload_n hx hb dX11_findLoad_191 rfl (lv_at hl 6 rfl) ?_
                                refine va_get (D := D) (ci := 11) (v := .ref kl) (C := RX11) (T := TX11) (N := 25) hx hb hT giX11 hown hK hP 0 rfl rfl 21 (by decide) (hT (Cond.fieldLink RX11 40 "DesertWireModel" "best" "[I") mw_1177) (fun _ h9 => h9) rfl dX11_findLoad_192 ?_
                                refine lv_iload hx hb dX11_findLoad_195 (lv_at hl 0 rfl) ?_
                                refine lv_aload_n hx hb dX11_findLoad_197 rfl (lv_at hl 6 rfl) ?_
                                refine lv_iload hx hb dX11_findLoad_198 (lv_at hl 4 rfl) ?_
                                refine lv_iload hx hb dX11_findLoad_200 (lv_at hl 0 rfl) ?_
                                refine lv_iload_n hx hb dX11_findLoad_202 rfl (lv_at hl 5 rfl) ?_
                                refine kJi (wr := [(k, .inr (11, [.ref k0, .ref k1, .ref k2, .int c3, .ref k4, .ref k5, .ref k6, .ref k7, .ref k8, .int c9, .ref ka, .ref kb, .int cc, .int cd, .int ce, .int cf, .int cg, .int ch, .int ci, .int cj, .int ck, .ref kl, .int l45_6, .int l45_5, .ref ko])), (k6, .inl (cI, 4, .inl c6)), (k7, .inl (cI, 144, .inl c7)), (kl, .inl (cI, 8, .inl g185_kl))]) (va_runV (As := [.int l28_4, .int l185_8, .int v_3]) (rest := [.int l185_8, .ref kl]) ⟨hx, hb, hml, hown, hT⟩ (c_X11_digitG l D cI aK aV k H.size l28_4 l185_8 v_3) (cwV 3 hT (gV_in mw_1507 mw_1504 mw_1506 mw_p5_11 mw_12) rfl rfl rfl (by decide +kernel) ⟨Nat.le_of_ble_eq_true rfl, Nat.le_of_ble_eq_true rfl⟩) (kRecvX (q0 := 0) (ci := 11) hK hP hD hN hXS hS hA rfl rfl [] rfl (by decide)) rfl rfl hl.1 rfl (lv_room (Nat.le_of_ble_eq_true rfl)) dX11_findLoad_203 ⟨Nat.le_of_ble_eq_true rfl, Nat.le_of_ble_eq_true rfl⟩) hP hD hS hA [] [0, 1, 2, 3] rfl rfl (by decide) (by decide) ?_
                                clear hP hD hS
                                intro r_16 u_18 H locs w_17 hP hD hS
                                replace hP : va_P D vwCl [(k, .inr (11, [.ref k0, .ref k1, .ref k2, .int c3, .ref k4, .ref k5, .ref k6, .ref k7, .ref k8, .int c9, .ref ka, .ref kb, .int cc, .int cd, .int ce, .int cf, .int cg, .int ch, .int ci, .int cj, .int ck, .ref kl, .int l45_6, .int l45_5, .ref ko])), (k6, .inl (cI, 4, .inl c6)), (k7, .inl (cI, 144, .inl c7)), (kl, .inl (cI, 8, .inl g185_kl))] H := hP
                                replace hD : va_D A [(k, .inr (11, [.ref k0, .ref k1, .ref k2, .int c3, .ref k4, .ref k5, .ref k6, .ref k7, .ref k8, .int c9, .ref ka, .ref kb, .int cc, .int cd, .int ce, .int cf, .int cg, .int ch, .int ci, .int cj, .int ck, .ref kl, .int l45_6, .int l45_5, .ref ko])), (k6, .inl (cI, 4, .inl c6)), (k7, .inl (cI, 144, .inl c7)), (kl, .inl (cI, 8, .inl g185_kl))] := hD
                                have lo_r_16 := k_lo r_16
                                have hi_r_16 := k_hi r_16
                                refine va_iast hx hb hK hP hD hS 3 0 rfl rfl (k_in (by omega) (by omega)) dX11_findLoad_206 ?_
                                clear hP hD hS
                                intro H locs hP hD hS
                                replace hP : va_P D vwCl [(k, .inr (11, [.ref k0, .ref k1, .ref k2, .int c3, .ref k4, .ref k5, .ref k6, .ref k7, .ref k8, .int c9, .ref ka, .ref kb, .int cc, .int cd, .int ce, .int cf, .int cg, .int ch, .int ci, .int cj, .int ck, .ref kl, .int l45_6, .int l45_5, .ref ko])), (k6, .inl (cI, 4, .inl c6)), (k7, .inl (cI, 144, .inl c7)), (kl, .inl (cI, 8, .inl (upd g185_kl l185_8.toNatClampNeg r_16)))] H := hP
                                replace hD : va_D A [(k, .inr (11, [.ref k0, .ref k1, .ref k2, .int c3, .ref k4, .ref k5, .ref k6, .ref k7, .ref k8, .int c9, .ref ka, .ref kb, .int cc, .int cd, .int ce, .int cf, .int cg, .int ch, .int ci, .int cj, .int ck, .ref kl, .int l45_6, .int l45_5, .ref ko])), (k6, .inl (cI, 4, .inl c6)), (k7, .inl (cI, 144, .inl c7)), (kl, .inl (cI, 8, .inl (upd g185_kl l185_8.toNatClampNeg r_16)))] := hD
                                obtain ⟨f_19, ef_19⟩ : ∃ g : Nat → Int32, g = upd g185_kl l185_8.toNatClampNeg r_16 := ⟨_, rfl⟩
                                rw [← ef_19] at hP hD
                                obtain ⟨v_20, ev_20⟩ : ∃ y : Int32, y = l185_8 + 1 := ⟨_, rfl⟩
                                have tv_20 : v_20.toInt = l185_8.toInt + 1 := by rw [ev_20]; exact k_addv rfl zl_1 (by omega) (by omega)
                                refine lv_iinc (v := v_20) (lv' := [(8, .int v_20), (7, .int l45_7), (6, .int l45_6), (5, .int l45_5), (4, .int l28_4), (3, .int v_3), (0, .ref k), (1, .int a0), (2, .int a1)]) hx hb dX11_findLoad_207 hl (k := 0) rfl (by rw [ev_20]; rfl) (by decide) rfl ?_
                                clear hl
                                intro ls hl
                                refine lv_goto (tgt := 185) hx hb dX11_findLoad_210 (by decide) ?_
                                exact ih185 v_20 f_19 (by first | omega | decide | assumption | rfl) (by omega) ls _ _ (lv_sub hl [0, 1, 2, 3, 4, 5, 6, 7, 8] rfl) (hP.sub [0, 1, 2, 3] rfl) (hD.sub [0, 1, 2, 3] (by decide) rfl) hS
                        exact hloop_185 _ 0 g28_kl (by first | omega | (simp only [zl_0] <;> omega) | decide | assumption | rfl) (Nat.lt_succ_self _) ls _ _ (lv_sub hl [0, 1, 2, 3, 4, 5, 6, 7, 8] rfl) hP hD hS
                      · refine lv_iload hx hb dX11_findLoad_152 (lv_at hl 2 rfl) ?_
                        refine lv_aload_n hx hb dX11_findLoad_154 rfl (lv_at hl 6 rfl) ?_
                        refine va_get (D := D) (ci := 11) (v := .int f28_km) (C := RX11) (T := TX11) (N := 25) hx hb hT giX11 hown hK hP 0 rfl rfl 22 (by decide) (hT (Cond.fieldLink RX11 214 "DesertWireModel" "bestWorth" "I") mw_1178) (fun _ h9 => h9) rfl dX11_findLoad_155 ?_
                        refine b_icmp_ne hx hb rfl rfl (tgt := 213) dX11_findLoad_158 (by decide) (fun c_21 => ?_) (fun c_21 => ?_)
                        · obtain ⟨v_22, ev_22⟩ : ∃ y : Int32, y = l28_4 + (-1) := ⟨_, rfl⟩
                          have tv_22 : v_22.toInt = l28_4.toInt + (-1) := by rw [ev_22]; exact k_addv rfl zl_m1 (by omega) (by omega)
                          refine lv_iinc (v := v_22) (lv' := [(4, .int v_22), (8, .int l45_8), (7, .int l45_7), (6, .int l45_6), (5, .int l45_5), (3, .int v_3), (0, .ref k), (1, .int a0), (2, .int a1)]) hx hb dX11_findLoad_213 hl (k := 4) rfl (by rw [ev_22]; rfl) (by decide) rfl ?_
                          clear hl
                          intro ls hl
                          refine lv_goto (tgt := 28) hx hb dX11_findLoad_216 (by decide) ?_
                          exact ih28 v_22 f28_km f28_kn g28_kl (by first | omega | decide | assumption | rfl) (by first | omega | decide | assumption | rfl) (by omega) ls _ _ (lv_sub hl [0, 5, 6, 7, 8] rfl) (hP.sub [0, 1, 2, 3] rfl) (hD.sub [0, 1, 2, 3] (by decide) rfl) hS
                        · refine lv_iload hx hb dX11_findLoad_161 (lv_at hl 3 rfl) ?_
                          refine lv_aload_n hx hb dX11_findLoad_163 rfl (lv_at hl 6 rfl) ?_
                          refine va_get (D := D) (ci := 11) (v := .int f28_kn) (C := RX11) (T := TX11) (N := 25) hx hb hT giX11 hown hK hP 0 rfl rfl 23 (by decide) (hT (Cond.fieldLink RX11 217 "DesertWireModel" "bestWeight" "I") mw_1179) (fun _ h9 => h9) rfl dX11_findLoad_164 ?_
                          refine b_icmp_ge hx hb rfl rfl (tgt := 213) dX11_findLoad_167 (by decide) (fun c_23 => ?_) (fun c_23 => ?_)
                          · obtain ⟨v_24, ev_24⟩ : ∃ y : Int32, y = l28_4 + (-1) := ⟨_, rfl⟩
                            have tv_24 : v_24.toInt = l28_4.toInt + (-1) := by rw [ev_24]; exact k_addv rfl zl_m1 (by omega) (by omega)
                            refine lv_iinc (v := v_24) (lv' := [(4, .int v_24), (8, .int l45_8), (7, .int l45_7), (6, .int l45_6), (5, .int l45_5), (3, .int v_3), (0, .ref k), (1, .int a0), (2, .int a1)]) hx hb dX11_findLoad_213 hl (k := 4) rfl (by rw [ev_24]; rfl) (by decide) rfl ?_
                            clear hl
                            intro ls hl
                            refine lv_goto (tgt := 28) hx hb dX11_findLoad_216 (by decide) ?_
                            exact ih28 v_24 f28_km f28_kn g28_kl (by first | omega | decide | assumption | rfl) (by first | omega | decide | assumption | rfl) (by omega) ls _ _ (lv_sub hl [0, 5, 6, 7, 8] rfl) (hP.sub [0, 1, 2, 3] rfl) (hD.sub [0, 1, 2, 3] (by decide) rfl) hS
                          · refine lv_aload_n hx hb dX11_findLoad_170 rfl (lv_at hl 6 rfl) ?_
                            refine lv_iload hx hb dX11_findLoad_171 (lv_at hl 2 rfl) ?_
                            refine va_put (D := D) (ci := 11) (v := .int l45_6) (ty := .int) (C := RX11) (T := TX11) (N := 25) hx hb hT giX11 tyX11 tyX11_ok nmX11 hown hK hP hD hS 0 rfl rfl 22 (by decide) (hT (Cond.fieldLink RX11 214 "DesertWireModel" "bestWorth" "I") mw_1178) (fun _ h9 => h9) rfl (by decide +kernel) rfl rfl (Nat.le_of_ble_eq_true rfl) dX11_findLoad_173 ?_
                            clear hP hD hS
                            intro H locs hP hD hS
                            replace hP : va_P D vwCl [(k, .inr (11, [.ref k0, .ref k1, .ref k2, .int c3, .ref k4, .ref k5, .ref k6, .ref k7, .ref k8, .int c9, .ref ka, .ref kb, .int cc, .int cd, .int ce, .int cf, .int cg, .int ch, .int ci, .int cj, .int ck, .ref kl, .int l45_6, .int f28_kn, .ref ko])), (k6, .inl (cI, 4, .inl c6)), (k7, .inl (cI, 144, .inl c7)), (kl, .inl (cI, 8, .inl g28_kl))] H := hP
                            replace hD : va_D A [(k, .inr (11, [.ref k0, .ref k1, .ref k2, .int c3, .ref k4, .ref k5, .ref k6, .ref k7, .ref k8, .int c9, .ref ka, .ref kb, .int cc, .int cd, .int ce, .int cf, .int cg, .int ch, .int ci, .int cj, .int ck, .ref kl, .int l45_6, .int f28_kn, .ref ko])), (k6, .inl (cI, 4, .inl c6)), (k7, .inl (cI, 144, .inl c7)), (kl, .inl (cI, 8, .inl g28_kl))] := hD
                            refine lv_aload_n hx hb dX11_findLoad_176 rfl (lv_at hl 6 rfl) ?_
                            refine lv_iload hx hb dX11_findLoad_177 (lv_at hl 3 rfl) ?_
                            refine va_put (D := D) (ci := 11) (v := .int l45_5) (ty := .int) (C := RX11) (T := TX11) (N := 25) hx hb hT giX11 tyX11 tyX11_ok nmX11 hown hK hP hD hS 0 rfl rfl 23 (by decide) (hT (Cond.fieldLink RX11 217 "DesertWireModel" "bestWeight" "I") mw_1179) (fun _ h9 => h9) rfl (by decide +kernel) rfl rfl (Nat.le_of_ble_eq_true rfl) dX11_findLoad_179 ?_
                            clear hP hD hS
                            intro H locs hP hD hS
                            replace hP : va_P D vwCl [(k, .inr (11, [.ref k0, .ref k1, .ref k2, .int c3, .ref k4, .ref k5, .ref k6, .ref k7, .ref k8, .int c9, .ref ka, .ref kb, .int cc, .int cd, .int ce, .int cf, .int cg, .int ch, .int ci, .int cj, .int ck, .ref kl, .int l45_6, .int l45_5, .ref ko])), (k6, .inl (cI, 4, .inl c6)), (k7, .inl (cI, 144, .inl c7)), (kl, .inl (cI, 8, .inl g28_kl))] H := hP
                            replace hD : va_D A [(k, .inr (11, [.ref k0, .ref k1, .ref k2, .int c3, .ref k4, .ref k5, .ref k6, .ref k7, .ref k8, .int c9, .ref ka, .ref kb, .int cc, .int cd, .int ce, .int cf, .int cg, .int ch, .int ci, .int cj, .int ck, .ref kl, .int l45_6, .int l45_5, .ref ko])), (k6, .inl (cI, 4, .inl c6)), (k7, .inl (cI, 144, .inl c7)), (kl, .inl (cI, 8, .inl g28_kl))] := hD
                            refine lv_iconst (v := 0) hx hb dX11_findLoad_182 (by decide) ?_
                            refine lv_istore (lv' := [(8, .int 0), (7, .int l45_7), (6, .int l45_6), (5, .int l45_5), (4, .int l28_4), (3, .int v_3), (0, .ref k), (1, .int a0), (2, .int a1)]) hx hb dX11_findLoad_183 hl (by decide) rfl ?_
                            clear hl
                            intro ls hl
                            have hloop_185 : ∀ (fu_ : Nat) (l185_8 : Int32) (g185_kl : Nat → Int32), 0 ≤ l185_8.toInt → (v_3.toInt - l185_8.toInt).toNat < fu_ → ∀ (ls : Array Slot) (H : Heap) (locs : List Loc), lv_has ls 10 [(8, .int l185_8), (7, .int l45_7), (6, .int l45_6), (5, .int l45_5), (4, .int l28_4), (3, .int v_3), (0, .ref k), (1, .int a0), (2, .int a1)] → va_P D vwCl [(k, .inr (11, [.ref k0, .ref k1, .ref k2, .int c3, .ref k4, .ref k5, .ref k6, .ref k7, .ref k8, .int c9, .ref ka, .ref kb, .int cc, .int cd, .int ce, .int cf, .int cg, .int ch, .int ci, .int cj, .int ck, .ref kl, .int l45_6, .int l45_5, .ref ko])), (k6, .inl (cI, 4, .inl c6)), (k7, .inl (cI, 144, .inl c7)), (kl, .inl (cI, 8, .inl g185_kl))] H → va_D A [(k, .inr (11, [.ref k0, .ref k1, .ref k2, .int c3, .ref k4, .ref k5, .ref k6, .ref k7, .ref k8, .int c9, .ref ka, .ref kb, .int cc, .int cd, .int ce, .int cf, .int cg, .int ch, .int ci, .int cj, .int ck, .ref kl, .int l45_6, .int l45_5, .ref ko])), (k6, .inl (cI, 4, .inl c6)), (k7, .inl (cI, 144, .inl c7)), (kl, .inl (cI, 8, .inl g185_kl))] → va_S A s.heap H locs → W p l e ({ frames := 1, cells := 0, slots := 0, locals := 23 } : Room) s m args below meth c H locs 0 0 Q (F0 m 185 ls []) := by
                              intro fu_; induction fu_ with
                              | zero => intro l185_8 g185_kl i185_0 hm; exact absurd hm (by omega)
                              | succ fu_ ih185 =>
                                  intro l185_8 g185_kl i185_0 hm ls H locs hl hP hD hS
                                  have lo_l185_8 := k_lo l185_8
                                  have hi_l185_8 := k_hi l185_8
                                  refine lv_iload hx hb dX11_findLoad_185 (lv_at hl 0 rfl) ?_
                                  refine lv_iload_n hx hb dX11_findLoad_187 rfl (lv_at hl 5 rfl) ?_
                                  refine b_icmp_ge hx hb rfl rfl (tgt := 213) dX11_findLoad_188 (by decide) (fun c_25 => ?_) (fun c_25 => ?_)
                                  · obtain ⟨v_26, ev_26⟩ : ∃ y : Int32, y = l28_4 + (-1) := ⟨_, rfl⟩
                                    have tv_26 : v_26.toInt = l28_4.toInt + (-1) := by rw [ev_26]; exact k_addv rfl zl_m1 (by omega) (by omega)
                                    refine lv_iinc (v := v_26) (lv' := [(4, .int v_26), (8, .int l185_8), (7, .int l45_7), (6, .int l45_6), (5, .int l45_5), (3, .int v_3), (0, .ref k), (1, .int a0), (2, .int a1)]) hx hb dX11_findLoad_213 hl (k := 4) rfl (by rw [ev_26]; rfl) (by decide) rfl ?_
                                    clear hl
                                    intro ls hl
                                    refine lv_goto (tgt := 28) hx hb dX11_findLoad_216 (by decide) ?_
                                    exact ih28 v_26 l45_6 l45_5 g185_kl (by first | omega | decide | assumption | rfl) (by first | omega | decide | assumption | rfl) (by omega) ls _ _ (lv_sub hl [0, 5, 6, 7, 8] rfl) (hP.sub [0, 1, 2, 3] rfl) (hD.sub [0, 1, 2, 3] (by decide) rfl) hS
                                  · refine lv_aload_n hx hb dX11_findLoad_191 rfl (lv_at hl 6 rfl) ?_
                                    refine va_get (D := D) (ci := 11) (v := .ref kl) (C := RX11) (T := TX11) (N := 25) hx hb hT giX11 hown hK hP 0 rfl rfl 21 (by decide) (hT (Cond.fieldLink RX11 40 "DesertWireModel" "best" "[I") mw_1177) (fun _ h9 => h9) rfl dX11_findLoad_192 ?_
                                    refine lv_iload hx hb dX11_findLoad_195 (lv_at hl 0 rfl) ?_
                                    refine lv_aload_n hx hb dX11_findLoad_197 rfl (lv_at hl 6 rfl) ?_
                                    refine lv_iload hx hb dX11_findLoad_198 (lv_at hl 4 rfl) ?_
                                    refine lv_iload hx hb dX11_findLoad_200 (lv_at hl 0 rfl) ?_
                                    refine lv_iload_n hx hb dX11_findLoad_202 rfl (lv_at hl 5 rfl) ?_
                                    refine kJi (wr := [(k, .inr (11, [.ref k0, .ref k1, .ref k2, .int c3, .ref k4, .ref k5, .ref k6, .ref k7, .ref k8, .int c9, .ref ka, .ref kb, .int cc, .int cd, .int ce, .int cf, .int cg, .int ch, .int ci, .int cj, .int ck, .ref kl, .int l45_6, .int l45_5, .ref ko])), (k6, .inl (cI, 4, .inl c6)), (k7, .inl (cI, 144, .inl c7)), (kl, .inl (cI, 8, .inl g185_kl))]) (va_runV (As := [.int l28_4, .int l185_8, .int v_3]) (rest := [.int l185_8, .ref kl]) ⟨hx, hb, hml, hown, hT⟩ (c_X11_digitG l D cI aK aV k H.size l28_4 l185_8 v_3) (cwV 3 hT (gV_in mw_1507 mw_1504 mw_1506 mw_p5_11 mw_12) rfl rfl rfl (by decide +kernel) ⟨Nat.le_of_ble_eq_true rfl, Nat.le_of_ble_eq_true rfl⟩) (kRecvX (q0 := 0) (ci := 11) hK hP hD hN hXS hS hA rfl rfl [] rfl (by decide)) rfl rfl hl.1 rfl (lv_room (Nat.le_of_ble_eq_true rfl)) dX11_findLoad_203 ⟨Nat.le_of_ble_eq_true rfl, Nat.le_of_ble_eq_true rfl⟩) hP hD hS hA [] [0, 1, 2, 3] rfl rfl (by decide) (by decide) ?_
                                    clear hP hD hS
                                    intro r_27 u_29 H locs w_28 hP hD hS
                                    replace hP : va_P D vwCl [(k, .inr (11, [.ref k0, .ref k1, .ref k2, .int c3, .ref k4, .ref k5, .ref k6, .ref k7, .ref k8, .int c9, .ref ka, .ref kb, .int cc, .int cd, .int ce, .int cf, .int cg, .int ch, .int ci, .int cj, .int ck, .ref kl, .int l45_6, .int l45_5, .ref ko])), (k6, .inl (cI, 4, .inl c6)), (k7, .inl (cI, 144, .inl c7)), (kl, .inl (cI, 8, .inl g185_kl))] H := hP
                                    replace hD : va_D A [(k, .inr (11, [.ref k0, .ref k1, .ref k2, .int c3, .ref k4, .ref k5, .ref k6, .ref k7, .ref k8, .int c9, .ref ka, .ref kb, .int cc, .int cd, .int ce, .int cf, .int cg, .int ch, .int ci, .int cj, .int ck, .ref kl, .int l45_6, .int l45_5, .ref ko])), (k6, .inl (cI, 4, .inl c6)), (k7, .inl (cI, 144, .inl c7)), (kl, .inl (cI, 8, .inl g185_kl))] := hD
                                    have lo_r_27 := k_lo r_27
                                    have hi_r_27 := k_hi r_27
                                    refine va_iast hx hb hK hP hD hS 3 0 rfl rfl (k_in (by omega) (by omega)) dX11_findLoad_206 ?_
                                    clear hP hD hS
                                    intro H locs hP hD hS
                                    replace hP : va_P D vwCl [(k, .inr (11, [.ref k0, .ref k1, .ref k2, .int c3, .ref k4, .ref k5, .ref k6, .ref k7, .ref k8, .int c9, .ref ka, .ref kb, .int cc, .int cd, .int ce, .int cf, .int cg, .int ch, .int ci, .int cj, .int ck, .ref kl, .int l45_6, .int l45_5, .ref ko])), (k6, .inl (cI, 4, .inl c6)), (k7, .inl (cI, 144, .inl c7)), (kl, .inl (cI, 8, .inl (upd g185_kl l185_8.toNatClampNeg r_27)))] H := hP
                                    replace hD : va_D A [(k, .inr (11, [.ref k0, .ref k1, .ref k2, .int c3, .ref k4, .ref k5, .ref k6, .ref k7, .ref k8, .int c9, .ref ka, .ref kb, .int cc, .int cd, .int ce, .int cf, .int cg, .int ch, .int ci, .int cj, .int ck, .ref kl, .int l45_6, .int l45_5, .ref ko])), (k6, .inl (cI, 4, .inl c6)), (k7, .inl (cI, 144, .inl c7)), (kl, .inl (cI, 8, .inl (upd g185_kl l185_8.toNatClampNeg r_27)))] := hD
                                    obtain ⟨f_30, ef_30⟩ : ∃ g : Nat → Int32, g = upd g185_kl l185_8.toNatClampNeg r_27 := ⟨_, rfl⟩
                                    rw [← ef_30] at hP hD
                                    obtain ⟨v_31, ev_31⟩ : ∃ y : Int32, y = l185_8 + 1 := ⟨_, rfl⟩
                                    have tv_31 : v_31.toInt = l185_8.toInt + 1 := by rw [ev_31]; exact k_addv rfl zl_1 (by omega) (by omega)
                                    refine lv_iinc (v := v_31) (lv' := [(8, .int v_31), (7, .int l45_7), (6, .int l45_6), (5, .int l45_5), (4, .int l28_4), (3, .int v_3), (0, .ref k), (1, .int a0), (2, .int a1)]) hx hb dX11_findLoad_207 hl (k := 0) rfl (by rw [ev_31]; rfl) (by decide) rfl ?_
                                    clear hl
                                    intro ls hl
                                    refine lv_goto (tgt := 185) hx hb dX11_findLoad_210 (by decide) ?_
                                    exact ih185 v_31 f_30 (by first | omega | decide | assumption | rfl) (by omega) ls _ _ (lv_sub hl [0, 1, 2, 3, 4, 5, 6, 7, 8] rfl) (hP.sub [0, 1, 2, 3] rfl) (hD.sub [0, 1, 2, 3] (by decide) rfl) hS
                            exact hloop_185 _ 0 g28_kl (by first | omega | (simp only [zl_0] <;> omega) | decide | assumption | rfl) (Nat.lt_succ_self _) ls _ _ (lv_sub hl [0, 1, 2, 3, 4, 5, 6, 7, 8] rfl) hP hD hS
                · refine lv_iload hx hb dX11_findLoad_51 (lv_at hl 1 rfl) ?_
                  refine b_if_eq hx hb rfl (tgt := 132) dX11_findLoad_53 (by decide) (fun c_32 => ?_) (fun c_32 => ?_)
                  · refine lv_iload hx hb dX11_findLoad_132 (lv_at hl 1 rfl) ?_
                    refine b_if_eq hx hb rfl (tgt := 213) dX11_findLoad_134 (by decide) (fun c_33 => ?_) (fun c_33 => by exfalso; omega)
                    obtain ⟨v_34, ev_34⟩ : ∃ y : Int32, y = l28_4 + (-1) := ⟨_, rfl⟩
                    have tv_34 : v_34.toInt = l28_4.toInt + (-1) := by rw [ev_34]; exact k_addv rfl zl_m1 (by omega) (by omega)
                    refine lv_iinc (v := v_34) (lv' := [(4, .int v_34), (8, .int l45_8), (7, .int l45_7), (6, .int l45_6), (5, .int l45_5), (3, .int v_3), (0, .ref k), (1, .int a0), (2, .int a1)]) hx hb dX11_findLoad_213 hl (k := 4) rfl (by rw [ev_34]; rfl) (by decide) rfl ?_
                    clear hl
                    intro ls hl
                    refine lv_goto (tgt := 28) hx hb dX11_findLoad_216 (by decide) ?_
                    exact ih28 v_34 f28_km f28_kn g28_kl (by first | omega | decide | assumption | rfl) (by first | omega | decide | assumption | rfl) (by omega) ls _ _ (lv_sub hl [0, 5, 6, 7, 8] rfl) (hP.sub [0, 1, 2, 3] rfl) (hD.sub [0, 1, 2, 3] (by decide) rfl) hS
                  · refine lv_aload_n hx hb dX11_findLoad_56 rfl (lv_at hl 6 rfl) ?_
                    refine lv_iload hx hb dX11_findLoad_57 (lv_at hl 4 rfl) ?_
                    refine lv_iload hx hb dX11_findLoad_59 (lv_at hl 0 rfl) ?_
                    refine lv_iload_n hx hb dX11_findLoad_61 rfl (lv_at hl 5 rfl) ?_
                    refine kJi (wr := [(k, .inr (11, [.ref k0, .ref k1, .ref k2, .int c3, .ref k4, .ref k5, .ref k6, .ref k7, .ref k8, .int c9, .ref ka, .ref kb, .int cc, .int cd, .int ce, .int cf, .int cg, .int ch, .int ci, .int cj, .int ck, .ref kl, .int f28_km, .int f28_kn, .ref ko])), (k6, .inl (cI, 4, .inl c6)), (k7, .inl (cI, 144, .inl c7)), (kl, .inl (cI, 8, .inl g28_kl))]) (va_runV (As := [.int l28_4, .int l45_8, .int v_3]) (rest := []) ⟨hx, hb, hml, hown, hT⟩ (c_X11_digitG l D cI aK aV k H.size l28_4 l45_8 v_3) (cwV 3 hT (gV_in mw_1507 mw_1504 mw_1506 mw_p5_11 mw_12) rfl rfl rfl (by decide +kernel) ⟨Nat.le_of_ble_eq_true rfl, Nat.le_of_ble_eq_true rfl⟩) (kRecvX (q0 := 0) (ci := 11) hK hP hD hN hXS hS hA rfl rfl [] rfl (by decide)) rfl rfl hl.1 rfl (lv_room (Nat.le_of_ble_eq_true rfl)) dX11_findLoad_62 ⟨Nat.le_of_ble_eq_true rfl, Nat.le_of_ble_eq_true rfl⟩) hP hD hS hA [] [0, 1, 2, 3] rfl rfl (by decide) (by decide) ?_
                    clear hP hD hS
                    intro r_35 u_37 H locs w_36 hP hD hS
                    replace hP : va_P D vwCl [(k, .inr (11, [.ref k0, .ref k1, .ref k2, .int c3, .ref k4, .ref k5, .ref k6, .ref k7, .ref k8, .int c9, .ref ka, .ref kb, .int cc, .int cd, .int ce, .int cf, .int cg, .int ch, .int ci, .int cj, .int ck, .ref kl, .int f28_km, .int f28_kn, .ref ko])), (k6, .inl (cI, 4, .inl c6)), (k7, .inl (cI, 144, .inl c7)), (kl, .inl (cI, 8, .inl g28_kl))] H := hP
                    replace hD : va_D A [(k, .inr (11, [.ref k0, .ref k1, .ref k2, .int c3, .ref k4, .ref k5, .ref k6, .ref k7, .ref k8, .int c9, .ref ka, .ref kb, .int cc, .int cd, .int ce, .int cf, .int cg, .int ch, .int ci, .int cj, .int ck, .ref kl, .int f28_km, .int f28_kn, .ref ko])), (k6, .inl (cI, 4, .inl c6)), (k7, .inl (cI, 144, .inl c7)), (kl, .inl (cI, 8, .inl g28_kl))] := hD
                    have lo_r_35 := k_lo r_35
                    have hi_r_35 := k_hi r_35
                    refine lv_istore (lv' := [(9, .int r_35), (8, .int l45_8), (7, .int l45_7), (6, .int l45_6), (5, .int l45_5), (4, .int l28_4), (3, .int v_3), (0, .ref k), (1, .int a0), (2, .int a1)]) hx hb dX11_findLoad_65 hl (by decide) rfl ?_
                    clear hl
                    intro ls hl
                    refine lv_iload hx hb dX11_findLoad_67 (lv_at hl 0 rfl) ?_
                    refine lv_aload_n hx hb dX11_findLoad_69 rfl (lv_at hl 7 rfl) ?_
                    refine lv_iload_n hx hb dX11_findLoad_70 rfl (lv_at hl 8 rfl) ?_
                    refine lv_iconst (v := 3) hx hb dX11_findLoad_71 (by decide) ?_
                    refine lv_iload hx hb dX11_findLoad_72 (lv_at hl 1 rfl) ?_
                    refine lv_imul hx hb dX11_findLoad_74 ?_
                    refine lv_topi (fun v_38 ev_38 => ?_)
                    have tv_38 : v_38.toInt = 3 * l45_8.toInt := by rw [ev_38]; exact k_mulv zl_3 rfl (by omega) (by omega)
                    refine lv_iconst (v := 2) hx hb dX11_findLoad_75 (by decide) ?_
                    refine lv_iadd hx hb dX11_findLoad_76 ?_
                    refine lv_topi (fun v_39 ev_39 => ?_)
                    have tv_39 : v_39.toInt = v_38.toInt + 2 := by rw [ev_39]; exact k_addv rfl zl_2 (by omega) (by omega)
                    refine kJi (wr := [(k6, .inl (cI, 4, .inl c6)), (kl, .inl (cI, 8, .inl g28_kl))]) (va_runV (As := [.int a0, .int v_39]) (rest := [.int r_35]) ⟨hx, hb, hml, hown, hT⟩ (c_X11_atG l D cI aK aV k k0 k1 k2 k4 k5 k6 k7 k8 ka kb kl ko H.size c3 c9 cc cd ce cf cg ch ci cj ck f28_km f28_kn c7 a0 v_39 (by first | omega | decide | assumption | rfl) (by first | omega | decide | assumption | rfl) (by first | omega | decide | assumption | rfl) (by first | omega | decide | assumption | rfl)) (cwV 2 hT (gV_in mw_1396 mw_1393 mw_1395 mw_p5_2 mw_12) rfl rfl rfl (by decide +kernel) ⟨Nat.le_of_ble_eq_true rfl, Nat.le_of_ble_eq_true rfl⟩) (kRecvX (q0 := 0) (ci := 11) hK hP hD hN hXS hS hA rfl rfl [0, 2] rfl (by decide)) rfl rfl hl.1 rfl (lv_room (Nat.le_of_ble_eq_true rfl)) dX11_findLoad_77 ⟨Nat.le_of_ble_eq_true rfl, Nat.le_of_ble_eq_true rfl⟩) hP hD hS hA [0, 2] [1, 3] rfl rfl (by decide) (by decide) ?_
                    clear hP hD hS
                    intro r_40 u_42 H locs w_41 hP hD hS
                    replace hP : va_P D vwCl [(k6, .inl (cI, 4, .inl c6)), (kl, .inl (cI, 8, .inl g28_kl)), (k, .inr (11, [.ref k0, .ref k1, .ref k2, .int c3, .ref k4, .ref k5, .ref k6, .ref k7, .ref k8, .int c9, .ref ka, .ref kb, .int cc, .int cd, .int ce, .int cf, .int cg, .int ch, .int ci, .int cj, .int ck, .ref kl, .int f28_km, .int f28_kn, .ref ko])), (k7, .inl (cI, 144, .inl c7))] H := hP
                    replace hD : va_D A [(k6, .inl (cI, 4, .inl c6)), (kl, .inl (cI, 8, .inl g28_kl)), (k, .inr (11, [.ref k0, .ref k1, .ref k2, .int c3, .ref k4, .ref k5, .ref k6, .ref k7, .ref k8, .int c9, .ref ka, .ref kb, .int cc, .int cd, .int ce, .int cf, .int cg, .int ch, .int ci, .int cj, .int ck, .ref kl, .int f28_km, .int f28_kn, .ref ko])), (k7, .inl (cI, 144, .inl c7))] := hD
                    have h_43 := w_41
                    have h_43 : r_40 = c7 (36 * a0.toInt.toNat + v_39.toInt.toNat) := h_43
                    have h_43 : r_40 = c7 (36 * a0.toInt.toNat + v_39.toInt.toNat) := h_43
                    have lo_r_40 := k_lo r_40
                    have hi_r_40 := k_hi r_40
                    refine b_icmp_gt hx hb rfl rfl (tgt := 87) dX11_findLoad_80 (by decide) (fun c_44 => ?_) (fun c_44 => ?_)
                    · refine lv_iconst (v := 0) hx hb dX11_findLoad_87 (by decide) ?_
                      refine lv_istore (lv' := [(7, .int 0), (9, .int r_35), (8, .int l45_8), (6, .int l45_6), (5, .int l45_5), (4, .int l28_4), (3, .int v_3), (0, .ref k), (1, .int a0), (2, .int a1)]) hx hb dX11_findLoad_88 hl (by decide) rfl ?_
                      clear hl
                      intro ls hl
                      refine lv_iload hx hb dX11_findLoad_90 (lv_at hl 4 rfl) ?_
                      refine lv_iload hx hb dX11_findLoad_92 (lv_at hl 1 rfl) ?_
                      refine lv_aload_n hx hb dX11_findLoad_94 rfl (lv_at hl 7 rfl) ?_
                      refine lv_iload_n hx hb dX11_findLoad_95 rfl (lv_at hl 8 rfl) ?_
                      refine lv_iconst (v := 3) hx hb dX11_findLoad_96 (by decide) ?_
                      refine lv_iload hx hb dX11_findLoad_97 (lv_at hl 2 rfl) ?_
                      refine lv_imul hx hb dX11_findLoad_99 ?_
                      refine lv_topi (fun v_45 ev_45 => ?_)
                      have tv_45 : v_45.toInt = 3 * l45_8.toInt := by rw [ev_45]; exact k_mulv zl_3 rfl (by omega) (by omega)
                      refine kJi (wr := [(k6, .inl (cI, 4, .inl c6)), (kl, .inl (cI, 8, .inl g28_kl))]) (va_runV (As := [.int a0, .int v_45]) (rest := [.int r_35, .int l45_5]) ⟨hx, hb, hml, hown, hT⟩ (c_X11_atG l D cI aK aV k k0 k1 k2 k4 k5 k6 k7 k8 ka kb kl ko H.size c3 c9 cc cd ce cf cg ch ci cj ck f28_km f28_kn c7 a0 v_45 (by first | omega | decide | assumption | rfl) (by first | omega | decide | assumption | rfl) (by first | omega | decide | assumption | rfl) (by first | omega | decide | assumption | rfl)) (cwV 2 hT (gV_in mw_1396 mw_1393 mw_1395 mw_p5_2 mw_12) rfl rfl rfl (by decide +kernel) ⟨Nat.le_of_ble_eq_true rfl, Nat.le_of_ble_eq_true rfl⟩) (kRecvX (q0 := 2) (ci := 11) hK hP hD hN hXS hS hA rfl rfl [2, 3] rfl (by decide)) rfl rfl hl.1 rfl (lv_room (Nat.le_of_ble_eq_true rfl)) dX11_findLoad_100 ⟨Nat.le_of_ble_eq_true rfl, Nat.le_of_ble_eq_true rfl⟩) hP hD hS hA [2, 3] [0, 1] rfl rfl (by decide) (by decide) ?_
                      clear hP hD hS
                      intro r_46 u_48 H locs w_47 hP hD hS
                      replace hP : va_P D vwCl [(k6, .inl (cI, 4, .inl c6)), (kl, .inl (cI, 8, .inl g28_kl)), (k, .inr (11, [.ref k0, .ref k1, .ref k2, .int c3, .ref k4, .ref k5, .ref k6, .ref k7, .ref k8, .int c9, .ref ka, .ref kb, .int cc, .int cd, .int ce, .int cf, .int cg, .int ch, .int ci, .int cj, .int ck, .ref kl, .int f28_km, .int f28_kn, .ref ko])), (k7, .inl (cI, 144, .inl c7))] H := hP
                      replace hD : va_D A [(k6, .inl (cI, 4, .inl c6)), (kl, .inl (cI, 8, .inl g28_kl)), (k, .inr (11, [.ref k0, .ref k1, .ref k2, .int c3, .ref k4, .ref k5, .ref k6, .ref k7, .ref k8, .int c9, .ref ka, .ref kb, .int cc, .int cd, .int ce, .int cf, .int cg, .int ch, .int ci, .int cj, .int ck, .ref kl, .int f28_km, .int f28_kn, .ref ko])), (k7, .inl (cI, 144, .inl c7))] := hD
                      have h_49 := w_47
                      have h_49 : r_46 = c7 (36 * a0.toInt.toNat + v_45.toInt.toNat) := h_49
                      have h_49 : r_46 = c7 (36 * a0.toInt.toNat + v_45.toInt.toNat) := h_49
                      have lo_r_46 := k_lo r_46
                      have hi_r_46 := k_hi r_46
                      refine lv_imul hx hb dX11_findLoad_103 ?_
                      refine lv_topi (fun v_50 ev_50 => ?_)
                      have lo_v_50 := k_lo v_50
                      have hi_v_50 := k_hi v_50
                      refine lv_iadd hx hb dX11_findLoad_104 ?_
                      refine lv_topi (fun v_51 ev_51 => ?_)
                      have lo_v_51 := k_lo v_51
                      have hi_v_51 := k_hi v_51
                      refine lv_istore (lv' := [(5, .int v_51), (7, .int 0), (9, .int r_35), (8, .int l45_8), (6, .int l45_6), (4, .int l28_4), (3, .int v_3), (0, .ref k), (1, .int a0), (2, .int a1)]) hx hb dX11_findLoad_105 hl (by decide) rfl ?_
                      clear hl
                      intro ls hl
                      refine lv_iload hx hb dX11_findLoad_107 (lv_at hl 4 rfl) ?_
                      refine lv_iload hx hb dX11_findLoad_109 (lv_at hl 2 rfl) ?_
                      refine lv_aload_n hx hb dX11_findLoad_111 rfl (lv_at hl 7 rfl) ?_
                      refine lv_iload_n hx hb dX11_findLoad_112 rfl (lv_at hl 8 rfl) ?_
                      refine lv_iconst (v := 3) hx hb dX11_findLoad_113 (by decide) ?_
                      refine lv_iload hx hb dX11_findLoad_114 (lv_at hl 3 rfl) ?_
                      refine lv_imul hx hb dX11_findLoad_116 ?_
                      refine lv_topi (fun v_52 ev_52 => ?_)
                      have tv_52 : v_52.toInt = 3 * l45_8.toInt := by rw [ev_52]; exact k_mulv zl_3 rfl (by omega) (by omega)
                      refine lv_iconst (v := 1) hx hb dX11_findLoad_117 (by decide) ?_
                      refine lv_iadd hx hb dX11_findLoad_118 ?_
                      refine lv_topi (fun v_53 ev_53 => ?_)
                      have tv_53 : v_53.toInt = v_52.toInt + 1 := by rw [ev_53]; exact k_addv rfl zl_1 (by omega) (by omega)
                      refine kJi (wr := [(k6, .inl (cI, 4, .inl c6)), (kl, .inl (cI, 8, .inl g28_kl))]) (va_runV (As := [.int a0, .int v_53]) (rest := [.int r_35, .int l45_6]) ⟨hx, hb, hml, hown, hT⟩ (c_X11_atG l D cI aK aV k k0 k1 k2 k4 k5 k6 k7 k8 ka kb kl ko H.size c3 c9 cc cd ce cf cg ch ci cj ck f28_km f28_kn c7 a0 v_53 (by first | omega | decide | assumption | rfl) (by first | omega | decide | assumption | rfl) (by first | omega | decide | assumption | rfl) (by first | omega | decide | assumption | rfl)) (cwV 2 hT (gV_in mw_1396 mw_1393 mw_1395 mw_p5_2 mw_12) rfl rfl rfl (by decide +kernel) ⟨Nat.le_of_ble_eq_true rfl, Nat.le_of_ble_eq_true rfl⟩) (kRecvX (q0 := 2) (ci := 11) hK hP hD hN hXS hS hA rfl rfl [2, 3] rfl (by decide)) rfl rfl hl.1 rfl (lv_room (Nat.le_of_ble_eq_true rfl)) dX11_findLoad_119 ⟨Nat.le_of_ble_eq_true rfl, Nat.le_of_ble_eq_true rfl⟩) hP hD hS hA [2, 3] [0, 1] rfl rfl (by decide) (by decide) ?_
                      clear hP hD hS
                      intro r_54 u_56 H locs w_55 hP hD hS
                      replace hP : va_P D vwCl [(k6, .inl (cI, 4, .inl c6)), (kl, .inl (cI, 8, .inl g28_kl)), (k, .inr (11, [.ref k0, .ref k1, .ref k2, .int c3, .ref k4, .ref k5, .ref k6, .ref k7, .ref k8, .int c9, .ref ka, .ref kb, .int cc, .int cd, .int ce, .int cf, .int cg, .int ch, .int ci, .int cj, .int ck, .ref kl, .int f28_km, .int f28_kn, .ref ko])), (k7, .inl (cI, 144, .inl c7))] H := hP
                      replace hD : va_D A [(k6, .inl (cI, 4, .inl c6)), (kl, .inl (cI, 8, .inl g28_kl)), (k, .inr (11, [.ref k0, .ref k1, .ref k2, .int c3, .ref k4, .ref k5, .ref k6, .ref k7, .ref k8, .int c9, .ref ka, .ref kb, .int cc, .int cd, .int ce, .int cf, .int cg, .int ch, .int ci, .int cj, .int ck, .ref kl, .int f28_km, .int f28_kn, .ref ko])), (k7, .inl (cI, 144, .inl c7))] := hD
                      have h_57 := w_55
                      have h_57 : r_54 = c7 (36 * a0.toInt.toNat + v_53.toInt.toNat) := h_57
                      have h_57 : r_54 = c7 (36 * a0.toInt.toNat + v_53.toInt.toNat) := h_57
                      have lo_r_54 := k_lo r_54
                      have hi_r_54 := k_hi r_54
                      refine lv_imul hx hb dX11_findLoad_122 ?_
                      refine lv_topi (fun v_58 ev_58 => ?_)
                      have lo_v_58 := k_lo v_58
                      have hi_v_58 := k_hi v_58
                      refine lv_iadd hx hb dX11_findLoad_123 ?_
                      refine lv_topi (fun v_59 ev_59 => ?_)
                      have lo_v_59 := k_lo v_59
                      have hi_v_59 := k_hi v_59
                      refine lv_istore (lv' := [(6, .int v_59), (5, .int v_51), (7, .int 0), (9, .int r_35), (8, .int l45_8), (4, .int l28_4), (3, .int v_3), (0, .ref k), (1, .int a0), (2, .int a1)]) hx hb dX11_findLoad_124 hl (by decide) rfl ?_
                      clear hl
                      intro ls hl
                      obtain ⟨v_60, ev_60⟩ : ∃ y : Int32, y = l45_8 + 1 := ⟨_, rfl⟩
                      have tv_60 : v_60.toInt = l45_8.toInt + 1 := by rw [ev_60]; exact k_addv rfl zl_1 (by omega) (by omega)
                      refine lv_iinc (v := v_60) (lv' := [(8, .int v_60), (6, .int v_59), (5, .int v_51), (7, .int 0), (9, .int r_35), (4, .int l28_4), (3, .int v_3), (0, .ref k), (1, .int a0), (2, .int a1)]) hx hb dX11_findLoad_126 hl (k := 4) rfl (by rw [ev_60]; rfl) (by decide) rfl ?_
                      clear hl
                      intro ls hl
                      refine lv_goto (tgt := 45) hx hb dX11_findLoad_129 (by decide) ?_
                      exact ih45 v_51 v_59 0 v_60 (by first | omega | (simp only [zl_0] <;> omega) | decide | assumption | rfl) (by first | omega | (simp only [zl_0] <;> omega) | decide | assumption | rfl) (by omega) ls _ _ (lv_sub hl [0, 3, 1, 2, 5, 6, 7, 8, 9] rfl) (hP.sub [2, 0, 3, 1] rfl) (hD.sub [2, 0, 3, 1] (by decide) rfl) hS
                    · refine lv_iconst (v := 1) hx hb dX11_findLoad_83 (by decide) ?_
                      refine lv_goto (tgt := 88) hx hb dX11_findLoad_84 (by decide) ?_
                      refine lv_istore (lv' := [(7, .int 1), (9, .int r_35), (8, .int l45_8), (6, .int l45_6), (5, .int l45_5), (4, .int l28_4), (3, .int v_3), (0, .ref k), (1, .int a0), (2, .int a1)]) hx hb dX11_findLoad_88 hl (by decide) rfl ?_
                      clear hl
                      intro ls hl
                      refine lv_iload hx hb dX11_findLoad_90 (lv_at hl 4 rfl) ?_
                      refine lv_iload hx hb dX11_findLoad_92 (lv_at hl 1 rfl) ?_
                      refine lv_aload_n hx hb dX11_findLoad_94 rfl (lv_at hl 7 rfl) ?_
                      refine lv_iload_n hx hb dX11_findLoad_95 rfl (lv_at hl 8 rfl) ?_
                      refine lv_iconst (v := 3) hx hb dX11_findLoad_96 (by decide) ?_
                      refine lv_iload hx hb dX11_findLoad_97 (lv_at hl 2 rfl) ?_
                      refine lv_imul hx hb dX11_findLoad_99 ?_
                      refine lv_topi (fun v_61 ev_61 => ?_)
                      have tv_61 : v_61.toInt = 3 * l45_8.toInt := by rw [ev_61]; exact k_mulv zl_3 rfl (by omega) (by omega)
                      refine kJi (wr := [(k6, .inl (cI, 4, .inl c6)), (kl, .inl (cI, 8, .inl g28_kl))]) (va_runV (As := [.int a0, .int v_61]) (rest := [.int r_35, .int l45_5]) ⟨hx, hb, hml, hown, hT⟩ (c_X11_atG l D cI aK aV k k0 k1 k2 k4 k5 k6 k7 k8 ka kb kl ko H.size c3 c9 cc cd ce cf cg ch ci cj ck f28_km f28_kn c7 a0 v_61 (by first | omega | decide | assumption | rfl) (by first | omega | decide | assumption | rfl) (by first | omega | decide | assumption | rfl) (by first | omega | decide | assumption | rfl)) (cwV 2 hT (gV_in mw_1396 mw_1393 mw_1395 mw_p5_2 mw_12) rfl rfl rfl (by decide +kernel) ⟨Nat.le_of_ble_eq_true rfl, Nat.le_of_ble_eq_true rfl⟩) (kRecvX (q0 := 2) (ci := 11) hK hP hD hN hXS hS hA rfl rfl [2, 3] rfl (by decide)) rfl rfl hl.1 rfl (lv_room (Nat.le_of_ble_eq_true rfl)) dX11_findLoad_100 ⟨Nat.le_of_ble_eq_true rfl, Nat.le_of_ble_eq_true rfl⟩) hP hD hS hA [2, 3] [0, 1] rfl rfl (by decide) (by decide) ?_
                      clear hP hD hS
                      intro r_62 u_64 H locs w_63 hP hD hS
                      replace hP : va_P D vwCl [(k6, .inl (cI, 4, .inl c6)), (kl, .inl (cI, 8, .inl g28_kl)), (k, .inr (11, [.ref k0, .ref k1, .ref k2, .int c3, .ref k4, .ref k5, .ref k6, .ref k7, .ref k8, .int c9, .ref ka, .ref kb, .int cc, .int cd, .int ce, .int cf, .int cg, .int ch, .int ci, .int cj, .int ck, .ref kl, .int f28_km, .int f28_kn, .ref ko])), (k7, .inl (cI, 144, .inl c7))] H := hP
                      replace hD : va_D A [(k6, .inl (cI, 4, .inl c6)), (kl, .inl (cI, 8, .inl g28_kl)), (k, .inr (11, [.ref k0, .ref k1, .ref k2, .int c3, .ref k4, .ref k5, .ref k6, .ref k7, .ref k8, .int c9, .ref ka, .ref kb, .int cc, .int cd, .int ce, .int cf, .int cg, .int ch, .int ci, .int cj, .int ck, .ref kl, .int f28_km, .int f28_kn, .ref ko])), (k7, .inl (cI, 144, .inl c7))] := hD
                      have h_65 := w_63
                      have h_65 : r_62 = c7 (36 * a0.toInt.toNat + v_61.toInt.toNat) := h_65
                      have h_65 : r_62 = c7 (36 * a0.toInt.toNat + v_61.toInt.toNat) := h_65
                      have lo_r_62 := k_lo r_62
                      have hi_r_62 := k_hi r_62
                      refine lv_imul hx hb dX11_findLoad_103 ?_
                      refine lv_topi (fun v_66 ev_66 => ?_)
                      have lo_v_66 := k_lo v_66
                      have hi_v_66 := k_hi v_66
                      refine lv_iadd hx hb dX11_findLoad_104 ?_
                      refine lv_topi (fun v_67 ev_67 => ?_)
                      have lo_v_67 := k_lo v_67
                      have hi_v_67 := k_hi v_67
                      refine lv_istore (lv' := [(5, .int v_67), (7, .int 1), (9, .int r_35), (8, .int l45_8), (6, .int l45_6), (4, .int l28_4), (3, .int v_3), (0, .ref k), (1, .int a0), (2, .int a1)]) hx hb dX11_findLoad_105 hl (by decide) rfl ?_
                      clear hl
                      intro ls hl
                      refine lv_iload hx hb dX11_findLoad_107 (lv_at hl 4 rfl) ?_
                      refine lv_iload hx hb dX11_findLoad_109 (lv_at hl 2 rfl) ?_
                      refine lv_aload_n hx hb dX11_findLoad_111 rfl (lv_at hl 7 rfl) ?_
                      refine lv_iload_n hx hb dX11_findLoad_112 rfl (lv_at hl 8 rfl) ?_
                      refine lv_iconst (v := 3) hx hb dX11_findLoad_113 (by decide) ?_
                      refine lv_iload hx hb dX11_findLoad_114 (lv_at hl 3 rfl) ?_
                      refine lv_imul hx hb dX11_findLoad_116 ?_
                      refine lv_topi (fun v_68 ev_68 => ?_)
                      have tv_68 : v_68.toInt = 3 * l45_8.toInt := by rw [ev_68]; exact k_mulv zl_3 rfl (by omega) (by omega)
                      refine lv_iconst (v := 1) hx hb dX11_findLoad_117 (by decide) ?_
                      refine lv_iadd hx hb dX11_findLoad_118 ?_
                      refine lv_topi (fun v_69 ev_69 => ?_)
                      have tv_69 : v_69.toInt = v_68.toInt + 1 := by rw [ev_69]; exact k_addv rfl zl_1 (by omega) (by omega)
                      refine kJi (wr := [(k6, .inl (cI, 4, .inl c6)), (kl, .inl (cI, 8, .inl g28_kl))]) (va_runV (As := [.int a0, .int v_69]) (rest := [.int r_35, .int l45_6]) ⟨hx, hb, hml, hown, hT⟩ (c_X11_atG l D cI aK aV k k0 k1 k2 k4 k5 k6 k7 k8 ka kb kl ko H.size c3 c9 cc cd ce cf cg ch ci cj ck f28_km f28_kn c7 a0 v_69 (by first | omega | decide | assumption | rfl) (by first | omega | decide | assumption | rfl) (by first | omega | decide | assumption | rfl) (by first | omega | decide | assumption | rfl)) (cwV 2 hT (gV_in mw_1396 mw_1393 mw_1395 mw_p5_2 mw_12) rfl rfl rfl (by decide +kernel) ⟨Nat.le_of_ble_eq_true rfl, Nat.le_of_ble_eq_true rfl⟩) (kRecvX (q0 := 2) (ci := 11) hK hP hD hN hXS hS hA rfl rfl [2, 3] rfl (by decide)) rfl rfl hl.1 rfl (lv_room (Nat.le_of_ble_eq_true rfl)) dX11_findLoad_119 ⟨Nat.le_of_ble_eq_true rfl, Nat.le_of_ble_eq_true rfl⟩) hP hD hS hA [2, 3] [0, 1] rfl rfl (by decide) (by decide) ?_
                      clear hP hD hS
                      intro r_70 u_72 H locs w_71 hP hD hS
                      replace hP : va_P D vwCl [(k6, .inl (cI, 4, .inl c6)), (kl, .inl (cI, 8, .inl g28_kl)), (k, .inr (11, [.ref k0, .ref k1, .ref k2, .int c3, .ref k4, .ref k5, .ref k6, .ref k7, .ref k8, .int c9, .ref ka, .ref kb, .int cc, .int cd, .int ce, .int cf, .int cg, .int ch, .int ci, .int cj, .int ck, .ref kl, .int f28_km, .int f28_kn, .ref ko])), (k7, .inl (cI, 144, .inl c7))] H := hP
                      replace hD : va_D A [(k6, .inl (cI, 4, .inl c6)), (kl, .inl (cI, 8, .inl g28_kl)), (k, .inr (11, [.ref k0, .ref k1, .ref k2, .int c3, .ref k4, .ref k5, .ref k6, .ref k7, .ref k8, .int c9, .ref ka, .ref kb, .int cc, .int cd, .int ce, .int cf, .int cg, .int ch, .int ci, .int cj, .int ck, .ref kl, .int f28_km, .int f28_kn, .ref ko])), (k7, .inl (cI, 144, .inl c7))] := hD
                      have h_73 := w_71
                      have h_73 : r_70 = c7 (36 * a0.toInt.toNat + v_69.toInt.toNat) := h_73
                      have h_73 : r_70 = c7 (36 * a0.toInt.toNat + v_69.toInt.toNat) := h_73
                      have lo_r_70 := k_lo r_70
                      have hi_r_70 := k_hi r_70
                      refine lv_imul hx hb dX11_findLoad_122 ?_
                      refine lv_topi (fun v_74 ev_74 => ?_)
                      have lo_v_74 := k_lo v_74
                      have hi_v_74 := k_hi v_74
                      refine lv_iadd hx hb dX11_findLoad_123 ?_
                      refine lv_topi (fun v_75 ev_75 => ?_)
                      have lo_v_75 := k_lo v_75
                      have hi_v_75 := k_hi v_75
                      refine lv_istore (lv' := [(6, .int v_75), (5, .int v_67), (7, .int 1), (9, .int r_35), (8, .int l45_8), (4, .int l28_4), (3, .int v_3), (0, .ref k), (1, .int a0), (2, .int a1)]) hx hb dX11_findLoad_124 hl (by decide) rfl ?_
                      clear hl
                      intro ls hl
                      obtain ⟨v_76, ev_76⟩ : ∃ y : Int32, y = l45_8 + 1 := ⟨_, rfl⟩
                      have tv_76 : v_76.toInt = l45_8.toInt + 1 := by rw [ev_76]; exact k_addv rfl zl_1 (by omega) (by omega)
                      refine lv_iinc (v := v_76) (lv' := [(8, .int v_76), (6, .int v_75), (5, .int v_67), (7, .int 1), (9, .int r_35), (4, .int l28_4), (3, .int v_3), (0, .ref k), (1, .int a0), (2, .int a1)]) hx hb dX11_findLoad_126 hl (k := 4) rfl (by rw [ev_76]; rfl) (by decide) rfl ?_
                      clear hl
                      intro ls hl
                      refine lv_goto (tgt := 45) hx hb dX11_findLoad_129 (by decide) ?_
                      exact ih45 v_67 v_75 1 v_76 (by first | omega | (simp only [zl_1] <;> omega) | decide | assumption | rfl) (by first | omega | (simp only [zl_1] <;> omega) | decide | assumption | rfl) (by omega) ls _ _ (lv_sub hl [0, 3, 1, 2, 5, 6, 7, 8, 9] rfl) (hP.sub [2, 0, 3, 1] rfl) (hD.sub [2, 0, 3, 1] (by decide) rfl) hS
          exact hloop_45 _ 0 0 1 0 (by first | omega | (simp only [zl_0, zl_1] <;> omega) | decide | assumption | rfl) (by first | omega | (simp only [zl_0, zl_1] <;> omega) | decide | assumption | rfl) (Nat.lt_succ_self _) ls _ _ (lv_sub hl [0, 1, 2, 3, 4, 5, 6, 7, 8] rfl) hP hD hS
  exact hloop_28 _ v_6 (-1) 0 cl (by first | omega | (simp only [zl_m1, zl_0] <;> omega) | decide | assumption | rfl) (by first | omega | (simp only [zl_m1, zl_0] <;> omega) | decide | assumption | rfl) (Nat.lt_succ_self _) ls _ _ (lv_sub hl [0, 1, 2, 3, 4] rfl) hP hD hS
theorem dX11_load_0 : decode cX11_load 0 = .ok (.aload_n 0, 1) := by decide +kernel
theorem dX11_load_1 : decode cX11_load 1 = .ok (.iload_n 1, 1) := by decide +kernel
theorem dX11_load_2 : decode cX11_load 2 = .ok (.invokevirtual 121, 3) := by decide +kernel
theorem dX11_load_5 : decode cX11_load 5 = .ok (.ifCond .eq 16, 3) := by decide +kernel
theorem dX11_load_8 : decode cX11_load 8 = .ok (.iload_n 2, 1) := by decide +kernel
theorem dX11_load_9 : decode cX11_load 9 = .ok (.invokestatic 111, 3) := by decide +kernel
theorem dX11_load_12 : decode cX11_load 12 = .ok (.ifCond .eq 9, 3) := by decide +kernel
theorem dX11_load_15 : decode cX11_load 15 = .ok (.iload_n 3, 1) := by decide +kernel
theorem dX11_load_16 : decode cX11_load 16 = .ok (.bipush (-2), 2) := by decide +kernel
theorem dX11_load_18 : decode cX11_load 18 = .ok (.if_icmp .ge 10, 3) := by decide +kernel
theorem dX11_load_21 : decode cX11_load 21 = .ok (.aload_n 0, 1) := by decide +kernel
theorem dX11_load_22 : decode cX11_load 22 = .ok (.ldc 63, 2) := by decide +kernel
theorem dX11_load_24 : decode cX11_load 24 = .ok (.invokevirtual 64, 3) := by decide +kernel
theorem dX11_load_27 : decode cX11_load 27 = .ok (.ireturn, 1) := by decide +kernel
theorem dX11_load_28 : decode cX11_load 28 = .ok (.aload_n 0, 1) := by decide +kernel
theorem dX11_load_29 : decode cX11_load 29 = .ok (.getfield 22, 3) := by decide +kernel
theorem dX11_load_32 : decode cX11_load 32 = .ok (.iload_n 2, 1) := by decide +kernel
theorem dX11_load_33 : decode cX11_load 33 = .ok (.iaload, 1) := by decide +kernel
theorem dX11_load_34 : decode cX11_load 34 = .ok (.ifCond .ne 10, 3) := by decide +kernel
theorem dX11_load_37 : decode cX11_load 37 = .ok (.aload_n 0, 1) := by decide +kernel
theorem dX11_load_38 : decode cX11_load 38 = .ok (.ldc 114, 2) := by decide +kernel
theorem dX11_load_40 : decode cX11_load 40 = .ok (.invokevirtual 64, 3) := by decide +kernel
theorem dX11_load_43 : decode cX11_load 43 = .ok (.ireturn, 1) := by decide +kernel
theorem dX11_load_44 : decode cX11_load 44 = .ok (.aload_n 0, 1) := by decide +kernel
theorem dX11_load_45 : decode cX11_load 45 = .ok (.iload_n 2, 1) := by decide +kernel
theorem dX11_load_46 : decode cX11_load 46 = .ok (.invokevirtual 224, 3) := by decide +kernel
theorem dX11_load_49 : decode cX11_load 49 = .ok (.ifCond .ne 10, 3) := by decide +kernel
theorem dX11_load_52 : decode cX11_load 52 = .ok (.aload_n 0, 1) := by decide +kernel
theorem dX11_load_53 : decode cX11_load 53 = .ok (.ldc 83, 2) := by decide +kernel
theorem dX11_load_55 : decode cX11_load 55 = .ok (.invokevirtual 64, 3) := by decide +kernel
theorem dX11_load_58 : decode cX11_load 58 = .ok (.ireturn, 1) := by decide +kernel
theorem dX11_load_59 : decode cX11_load 59 = .ok (.iload_n 3, 1) := by decide +kernel
theorem dX11_load_60 : decode cX11_load 60 = .ok (.aload_n 0, 1) := by decide +kernel
theorem dX11_load_61 : decode cX11_load 61 = .ok (.getfield 25, 3) := by decide +kernel
theorem dX11_load_64 : decode cX11_load 64 = .ok (.iload_n 2, 1) := by decide +kernel
theorem dX11_load_65 : decode cX11_load 65 = .ok (.iaload, 1) := by decide +kernel
theorem dX11_load_66 : decode cX11_load 66 = .ok (.iconst 3, 1) := by decide +kernel
theorem dX11_load_67 : decode cX11_load 67 = .ok (.idiv, 1) := by decide +kernel
theorem dX11_load_68 : decode cX11_load 68 = .ok (.if_icmp .lt 10, 3) := by decide +kernel
theorem dX11_load_71 : decode cX11_load 71 = .ok (.aload_n 0, 1) := by decide +kernel
theorem dX11_load_72 : decode cX11_load 72 = .ok (.ldc 94, 2) := by decide +kernel
theorem dX11_load_74 : decode cX11_load 74 = .ok (.invokevirtual 64, 3) := by decide +kernel
theorem dX11_load_77 : decode cX11_load 77 = .ok (.ireturn, 1) := by decide +kernel
theorem dX11_load_78 : decode cX11_load 78 = .ok (.aload_n 0, 1) := by decide +kernel
theorem dX11_load_79 : decode cX11_load 79 = .ok (.iload_n 2, 1) := by decide +kernel
theorem dX11_load_80 : decode cX11_load 80 = .ok (.bipush 12, 2) := by decide +kernel
theorem dX11_load_82 : decode cX11_load 82 = .ok (.aload_n 0, 1) := by decide +kernel
theorem dX11_load_83 : decode cX11_load 83 = .ok (.iload_n 1, 1) := by decide +kernel
theorem dX11_load_84 : decode cX11_load 84 = .ok (.iconst 3, 1) := by decide +kernel
theorem dX11_load_85 : decode cX11_load 85 = .ok (.invokevirtual 124, 3) := by decide +kernel
theorem dX11_load_88 : decode cX11_load 88 = .ok (.imul, 1) := by decide +kernel
theorem dX11_load_89 : decode cX11_load 89 = .ok (.invokevirtual 227, 3) := by decide +kernel
theorem dX11_load_92 : decode cX11_load 92 = .ok (.iload_n 3, 1) := by decide +kernel
theorem dX11_load_93 : decode cX11_load 93 = .ok (.iconst (-1), 1) := by decide +kernel
theorem dX11_load_94 : decode cX11_load 94 = .ok (.if_icmp .ne 10, 3) := by decide +kernel
theorem dX11_load_97 : decode cX11_load 97 = .ok (.aload_n 0, 1) := by decide +kernel
theorem dX11_load_98 : decode cX11_load 98 = .ok (.getfield 214, 3) := by decide +kernel
theorem dX11_load_101 : decode cX11_load 101 = .ok (.goto 22, 3) := by decide +kernel
theorem dX11_load_104 : decode cX11_load 104 = .ok (.iload_n 3, 1) := by decide +kernel
theorem dX11_load_105 : decode cX11_load 105 = .ok (.bipush (-2), 2) := by decide +kernel
theorem dX11_load_107 : decode cX11_load 107 = .ok (.if_icmp .ne 10, 3) := by decide +kernel
theorem dX11_load_110 : decode cX11_load 110 = .ok (.aload_n 0, 1) := by decide +kernel
theorem dX11_load_111 : decode cX11_load 111 = .ok (.getfield 217, 3) := by decide +kernel
theorem dX11_load_114 : decode cX11_load 114 = .ok (.goto 9, 3) := by decide +kernel
theorem dX11_load_117 : decode cX11_load 117 = .ok (.aload_n 0, 1) := by decide +kernel
theorem dX11_load_118 : decode cX11_load 118 = .ok (.getfield 40, 3) := by decide +kernel
theorem dX11_load_121 : decode cX11_load 121 = .ok (.iload_n 3, 1) := by decide +kernel
theorem dX11_load_122 : decode cX11_load 122 = .ok (.iaload, 1) := by decide +kernel
theorem dX11_load_123 : decode cX11_load 123 = .ok (.ireturn, 1) := by decide +kernel
set_option maxHeartbeats 4000000 in
set_option maxRecDepth 100000 in
theorem c_X11_loadG (l : Launch) (D : va_G) (cI : ClassId) (aK aV : Nat → Nat) (k k0 k1 k2 k4 k5 k6 k7 k8 ka kb kl ko : Nat) (sz : Nat) (c3 : Int32) (c9 : Int32) (cc : Int32) (cd : Int32) (ce : Int32) (cf : Int32) (cg : Int32) (ch : Int32) (ci : Int32) (cj : Int32) (ck : Int32) (cm : Int32) (cn : Int32) (c0 : Nat → Int32) (c4 : Nat → Int32) (c5 : Nat → Int32) (c6 : Nat → Int32) (c7 : Nat → Int32) (cl : Nat → Int32) (a0 : Int32) (a1 : Int32) (a2 : Int32) (pre0 : SB c0) (pre1 : ∀ k : Nat, k < 4 → 0 ≤ (c6 k).toInt ∧ (c6 k).toInt ≤ 36) : Met l yX11_load (gW yX11_load cX11_load 4 (some .int)) ({ frames := 2, cells := 0, slots := 0, locals := 52 } : Room) (kPreX D cI aK aV [.ref k, .int a0, .int a1, .int a2] [(k, .inr (11, [.ref k0, .ref k1, .ref k2, .int c3, .ref k4, .ref k5, .ref k6, .ref k7, .ref k8, .int c9, .ref ka, .ref kb, .int cc, .int cd, .int ce, .int cf, .int cg, .int ch, .int ci, .int cj, .int ck, .ref kl, .int cm, .int cn, .ref ko])), (k0, .inl (cI, 1201, .inl c0)), (k4, .inl (cI, 6, .inl c4)), (k5, .inl (cI, 4, .inl c5)), (k6, .inl (cI, 4, .inl c6)), (k7, .inl (cI, 144, .inl c7)), (kl, .inl (cI, 8, .inl cl))] sz) (va_Qi (fun (r : Int32) (u : Int32 × Int32 × (Nat → Int32) × (Nat → Int32)) => True) (fun u t => kWd D cI (va_A [(k, .inr (11, [.ref k0, .ref k1, .ref k2, .int c3, .ref k4, .ref k5, .ref k6, .ref k7, .ref k8, .int c9, .ref ka, .ref kb, .int cc, .int cd, .int ce, .int cf, .int cg, .int ch, .int ci, .int cj, .int ck, .ref kl, .int cm, .int cn, .ref ko])), (k0, .inl (cI, 1201, .inl c0)), (k4, .inl (cI, 6, .inl c4)), (k5, .inl (cI, 4, .inl c5)), (k6, .inl (cI, 4, .inl c6)), (k7, .inl (cI, 144, .inl c7)), (kl, .inl (cI, 8, .inl cl))] sz) [(k, .inr (11, [.ref k0, .ref k1, .ref k2, .int c3, .ref k4, .ref k5, .ref k6, .ref k7, .ref k8, .int c9, .ref ka, .ref kb, .int cc, .int cd, .int ce, .int cf, .int cg, .int ch, .int ci, .int cj, .int ck, .ref kl, .int u.1, .int u.2.1, .ref ko])), (k0, .inl (cI, 1201, .inl c0)), (k4, .inl (cI, 6, .inl u.2.2.1)), (k5, .inl (cI, 4, .inl c5)), (k6, .inl (cI, 4, .inl c6)), (k7, .inl (cI, 144, .inl c7)), (kl, .inl (cI, 8, .inl u.2.2.2))] t) (va_A [(k, .inr (11, [.ref k0, .ref k1, .ref k2, .int c3, .ref k4, .ref k5, .ref k6, .ref k7, .ref k8, .int c9, .ref ka, .ref kb, .int cc, .int cd, .int ce, .int cf, .int cg, .int ch, .int ci, .int cj, .int ck, .ref kl, .int cm, .int cn, .ref ko])), (k0, .inl (cI, 1201, .inl c0)), (k4, .inl (cI, 6, .inl c4)), (k5, .inl (cI, 4, .inl c5)), (k6, .inl (cI, 4, .inl c6)), (k7, .inl (cI, 144, .inl c7)), (kl, .inl (cI, 8, .inl cl))] sz)) 0 0 (va_A [(k, .inr (11, [.ref k0, .ref k1, .ref k2, .int c3, .ref k4, .ref k5, .ref k6, .ref k7, .ref k8, .int c9, .ref ka, .ref kb, .int cc, .int cd, .int ce, .int cf, .int cg, .int ch, .int ci, .int cj, .int ck, .ref kl, .int cm, .int cn, .ref ko])), (k0, .inl (cI, 1201, .inl c0)), (k4, .inl (cI, 6, .inl c4)), (k5, .inl (cI, 4, .inl c5)), (k6, .inl (cI, 4, .inl c6)), (k7, .inl (cI, 144, .inl c7)), (kl, .inl (cI, 8, .inl cl))] sz) := by
  refine kMetIX (own := RX11) (by decide) rfl (Nat.le_of_ble_eq_true rfl) ?_
  intro p e s m args below meth c hx hb hT hown hname hml A Q hK hP hD hS hA hN hXS hRet ls hl
  have hl : lv_has ls 4 [(0, .ref k), (1, .int a0), (2, .int a1), (3, .int a2)] := hl
  have lo_a0 := k_lo a0
  have hi_a0 := k_hi a0
  have lo_a1 := k_lo a1
  have hi_a1 := k_hi a1
  have lo_a2 := k_lo a2
  have hi_a2 := k_hi a2
  have lo_ci := k_lo ci
  have hi_ci := k_hi ci
  have pre0 : SB c0 := pre0
  have nb_1 : 0 ≤ (c0 0).toInt ∧ (c0 0).toInt ≤ 2000 := SB.n0 pre0
  have nb_2 : 0 ≤ (c0 1).toInt ∧ (c0 1).toInt ≤ 60 := SB.n1 pre0
  have nb_3 : 0 ≤ (c0 2).toInt ∧ (c0 2).toInt ≤ 4 := SB.n2 pre0
  refine lv_aload_n hx hb dX11_load_0 rfl (lv_at hl 0 rfl) ?_
  refine lv_iload_n hx hb dX11_load_1 rfl (lv_at hl 1 rfl) ?_
  refine kJi (wr := [(k4, .inl (cI, 6, .inl c4)), (k5, .inl (cI, 4, .inl c5)), (k6, .inl (cI, 4, .inl c6)), (k7, .inl (cI, 144, .inl c7)), (kl, .inl (cI, 8, .inl cl))]) (va_runV (As := [.int a0]) (rest := []) ⟨hx, hb, hml, hown, hT⟩ (c_X11_isPartyG l D cI aK aV k k0 k1 k2 k4 k5 k6 k7 k8 ka kb kl ko s.heap.size c3 c9 cc cd ce cf cg ch ci cj ck cm cn c0 a0 pre0) (cwV 1 hT (gV_in mw_1412 mw_1409 mw_1411 mw_p5_4 mw_12) rfl rfl rfl (by decide +kernel) ⟨Nat.le_of_ble_eq_true rfl, Nat.le_of_ble_eq_true rfl⟩) (kRecvX (q0 := 0) (ci := 11) hK hP hD hN hXS hS hA rfl rfl [0, 1] rfl (by decide)) rfl rfl hl.1 rfl (lv_room (Nat.le_of_ble_eq_true rfl)) dX11_load_2 ⟨Nat.le_of_ble_eq_true rfl, Nat.le_of_ble_eq_true rfl⟩) hP hD hS hA [0, 1] [2, 3, 4, 5, 6] rfl rfl (by decide) (by decide) ?_
  clear hP hD hS
  intro r_4 u_6 H locs w_5 hP hD hS
  replace hP : va_P D vwCl [(k4, .inl (cI, 6, .inl c4)), (k5, .inl (cI, 4, .inl c5)), (k6, .inl (cI, 4, .inl c6)), (k7, .inl (cI, 144, .inl c7)), (kl, .inl (cI, 8, .inl cl)), (k, .inr (11, [.ref k0, .ref k1, .ref k2, .int c3, .ref k4, .ref k5, .ref k6, .ref k7, .ref k8, .int c9, .ref ka, .ref kb, .int cc, .int cd, .int ce, .int cf, .int cg, .int ch, .int ci, .int cj, .int ck, .ref kl, .int cm, .int cn, .ref ko])), (k0, .inl (cI, 1201, .inl c0))] H := hP
  replace hD : va_D A [(k4, .inl (cI, 6, .inl c4)), (k5, .inl (cI, 4, .inl c5)), (k6, .inl (cI, 4, .inl c6)), (k7, .inl (cI, 144, .inl c7)), (kl, .inl (cI, 8, .inl cl)), (k, .inr (11, [.ref k0, .ref k1, .ref k2, .int c3, .ref k4, .ref k5, .ref k6, .ref k7, .ref k8, .int c9, .ref ka, .ref kb, .int cc, .int cd, .int ce, .int cf, .int cg, .int ch, .int ci, .int cj, .int ck, .ref kl, .int cm, .int cn, .ref ko])), (k0, .inl (cI, 1201, .inl c0))] := hD
  rcases w_5 with ⟨hr_4, h_7, h_8⟩ | ⟨hr_4, h_9⟩
  · have h_7 : 0 ≤ a0.toInt := h_7
    have h_8 : a0.toInt < (c0 2).toInt := h_8
    obtain rfl : r_4 = 1 := hr_4.trans (by decide)
    refine b_if_eq hx hb zl_1 (tgt := 21) dX11_load_5 (by decide) (fun c_10 => by exfalso; omega) (fun c_10 => ?_)
    refine lv_iload_n hx hb dX11_load_8 rfl (lv_at hl 2 rfl) ?_
    refine kJi (wr := [(k4, .inl (cI, 6, .inl c4)), (k5, .inl (cI, 4, .inl c5)), (k6, .inl (cI, 4, .inl c6)), (k7, .inl (cI, 144, .inl c7)), (kl, .inl (cI, 8, .inl cl)), (k, .inr (11, [.ref k0, .ref k1, .ref k2, .int c3, .ref k4, .ref k5, .ref k6, .ref k7, .ref k8, .int c9, .ref ka, .ref kb, .int cc, .int cd, .int ce, .int cf, .int cg, .int ch, .int ci, .int cj, .int ck, .ref kl, .int cm, .int cn, .ref ko])), (k0, .inl (cI, 1201, .inl c0))]) (va_runS (As := [.int a1]) (rest := []) ⟨hx, hb, hml, hown, hT⟩ (c_X11_isSheetG l D cI aK aV H.size a1) (cwS 1 hT (gS_in mw_1391 mw_1389 mw_1390 mw_12) rfl rfl rfl (by decide +kernel) ⟨Nat.le_of_ble_eq_true rfl, Nat.le_of_ble_eq_true rfl⟩) (kStatX hK hP hD hN hXS hS hA [] rfl (by decide)) rfl rfl hl.1 rfl (lv_room (Nat.le_of_ble_eq_true rfl)) dX11_load_9 ⟨Nat.le_of_ble_eq_true rfl, Nat.le_of_ble_eq_true rfl⟩) hP hD hS hA [] [0, 1, 2, 3, 4, 5, 6] rfl rfl (by decide) (by decide) ?_
    clear hP hD hS
    intro r_11 u_13 H locs w_12 hP hD hS
    replace hP : va_P D vwCl [(k4, .inl (cI, 6, .inl c4)), (k5, .inl (cI, 4, .inl c5)), (k6, .inl (cI, 4, .inl c6)), (k7, .inl (cI, 144, .inl c7)), (kl, .inl (cI, 8, .inl cl)), (k, .inr (11, [.ref k0, .ref k1, .ref k2, .int c3, .ref k4, .ref k5, .ref k6, .ref k7, .ref k8, .int c9, .ref ka, .ref kb, .int cc, .int cd, .int ce, .int cf, .int cg, .int ch, .int ci, .int cj, .int ck, .ref kl, .int cm, .int cn, .ref ko])), (k0, .inl (cI, 1201, .inl c0))] H := hP
    replace hD : va_D A [(k4, .inl (cI, 6, .inl c4)), (k5, .inl (cI, 4, .inl c5)), (k6, .inl (cI, 4, .inl c6)), (k7, .inl (cI, 144, .inl c7)), (kl, .inl (cI, 8, .inl cl)), (k, .inr (11, [.ref k0, .ref k1, .ref k2, .int c3, .ref k4, .ref k5, .ref k6, .ref k7, .ref k8, .int c9, .ref ka, .ref kb, .int cc, .int cd, .int ce, .int cf, .int cg, .int ch, .int ci, .int cj, .int ck, .ref kl, .int cm, .int cn, .ref ko])), (k0, .inl (cI, 1201, .inl c0))] := hD
    rcases w_12 with ⟨hr_11, h_14, h_15⟩ | ⟨hr_11, h_16⟩
    · have h_14 : 0 ≤ a1.toInt := h_14
      have h_15 : a1.toInt ≤ 3 := h_15
      obtain rfl : r_11 = 1 := hr_11.trans (by decide)
      refine b_if_eq hx hb zl_1 (tgt := 21) dX11_load_12 (by decide) (fun c_17 => by exfalso; omega) (fun c_17 => ?_)
      refine lv_iload_n hx hb dX11_load_15 rfl (lv_at hl 3 rfl) ?_
      refine lv_bipush (v := (-2)) hx hb dX11_load_16 (by decide) ?_
      refine b_icmp_ge hx hb rfl zl_m2 (tgt := 28) dX11_load_18 (by decide) (fun c_18 => ?_) (fun c_18 => ?_)
      · refine lv_aload_n hx hb dX11_load_28 rfl (lv_at hl 0 rfl) ?_
        refine va_get (D := D) (ci := 11) (v := .ref k5) (C := RX11) (T := TX11) (N := 25) hx hb hT giX11 hown hK hP 5 rfl rfl 5 (by decide) (hT (Cond.fieldLink RX11 22 "DesertWireModel" "bits" "[I") mw_1161) (fun _ h9 => h9) rfl dX11_load_29 ?_
        refine lv_iload_n hx hb dX11_load_32 rfl (lv_at hl 2 rfl) ?_
        refine k_iald (v := (c5 a1.toNatClampNeg)) hx hb hK hP 1 0 rfl rfl (k_in (by omega) (by omega)) rfl dX11_load_33 ?_
        refine lv_topi (fun v_19 ev_19 => ?_)
        have lo_v_19 := k_lo v_19
        have hi_v_19 := k_hi v_19
        have tv_19 : v_19.toInt = (c5 a1.toNatClampNeg).toInt := by rw [ev_19]
        refine b_if_ne hx hb rfl (tgt := 44) dX11_load_34 (by decide) (fun c_20 => ?_) (fun c_20 => ?_)
        · refine lv_aload_n hx hb dX11_load_44 rfl (lv_at hl 0 rfl) ?_
          refine lv_iload_n hx hb dX11_load_45 rfl (lv_at hl 2 rfl) ?_
          refine kJi (wr := [(k4, .inl (cI, 6, .inl c4)), (k5, .inl (cI, 4, .inl c5)), (kl, .inl (cI, 8, .inl cl)), (k0, .inl (cI, 1201, .inl c0))]) (va_runV (As := [.int a1]) (rest := []) ⟨hx, hb, hml, hown, hT⟩ (c_X11_areThingsG l D cI aK aV k k0 k1 k2 k4 k5 k6 k7 k8 ka kb kl ko H.size c3 c9 cc cd ce cf cg ch ci cj ck cm cn c6 c7 a1 pre1 (by first | omega | decide | assumption | rfl) (by first | omega | decide | assumption | rfl)) (cwV 1 hT (gV_in mw_1499 mw_1496 mw_1498 mw_p5_9 mw_12) rfl rfl rfl (by decide +kernel) ⟨Nat.le_of_ble_eq_true rfl, Nat.le_of_ble_eq_true rfl⟩) (kRecvX (q0 := 5) (ci := 11) hK hP hD hN hXS hS hA rfl rfl [5, 2, 3] rfl (by decide)) rfl rfl hl.1 rfl (lv_room (Nat.le_of_ble_eq_true rfl)) dX11_load_46 ⟨Nat.le_of_ble_eq_true rfl, Nat.le_of_ble_eq_true rfl⟩) hP hD hS hA [5, 2, 3] [0, 1, 4, 6] rfl rfl (by decide) (by decide) ?_
          clear hP hD hS
          intro r_21 u_23 H locs w_22 hP hD hS
          replace hP : va_P D vwCl [(k4, .inl (cI, 6, .inl c4)), (k5, .inl (cI, 4, .inl c5)), (kl, .inl (cI, 8, .inl cl)), (k0, .inl (cI, 1201, .inl c0)), (k, .inr (11, [.ref k0, .ref k1, .ref k2, .int c3, .ref k4, .ref k5, .ref k6, .ref k7, .ref k8, .int c9, .ref ka, .ref kb, .int cc, .int cd, .int ce, .int cf, .int cg, .int ch, .int ci, .int cj, .int ck, .ref kl, .int cm, .int cn, .ref ko])), (k6, .inl (cI, 4, .inl c6)), (k7, .inl (cI, 144, .inl c7))] H := hP
          replace hD : va_D A [(k4, .inl (cI, 6, .inl c4)), (k5, .inl (cI, 4, .inl c5)), (kl, .inl (cI, 8, .inl cl)), (k0, .inl (cI, 1201, .inl c0)), (k, .inr (11, [.ref k0, .ref k1, .ref k2, .int c3, .ref k4, .ref k5, .ref k6, .ref k7, .ref k8, .int c9, .ref ka, .ref kb, .int cc, .int cd, .int ce, .int cf, .int cg, .int ch, .int ci, .int cj, .int ck, .ref kl, .int cm, .int cn, .ref ko])), (k6, .inl (cI, 4, .inl c6)), (k7, .inl (cI, 144, .inl c7))] := hD
          rcases w_22 with ⟨hr_21, h_24, h_25⟩ | hr_21
          · have h_24 : 3 ≤ (c6 a1.toNatClampNeg).toInt := h_24
            have h_25 : (c6 a1.toNatClampNeg).toInt ≤ 24 := h_25
            obtain rfl : r_21 = 1 := hr_21.trans (by decide)
            refine b_if_ne hx hb zl_1 (tgt := 59) dX11_load_49 (by decide) (fun c_26 => ?_) (fun c_26 => by exfalso; omega)
            refine lv_iload_n hx hb dX11_load_59 rfl (lv_at hl 3 rfl) ?_
            refine lv_aload_n hx hb dX11_load_60 rfl (lv_at hl 0 rfl) ?_
            refine va_get (D := D) (ci := 11) (v := .ref k6) (C := RX11) (T := TX11) (N := 25) hx hb hT giX11 hown hK hP 4 rfl rfl 6 (by decide) (hT (Cond.fieldLink RX11 25 "DesertWireModel" "size" "[I") mw_1162) (fun _ h9 => h9) rfl dX11_load_61 ?_
            refine lv_iload_n hx hb dX11_load_64 rfl (lv_at hl 2 rfl) ?_
            refine k_iald (v := (c6 a1.toNatClampNeg)) hx hb hK hP 5 0 rfl rfl (k_in (by omega) (by omega)) rfl dX11_load_65 ?_
            refine lv_topi (fun v_27 ev_27 => ?_)
            have lo_v_27 := k_lo v_27
            have hi_v_27 := k_hi v_27
            have tv_27 : v_27.toInt = (c6 a1.toNatClampNeg).toInt := by rw [ev_27]
            have b_28 : 0 ≤ v_27.toInt ∧ v_27.toInt ≤ 36 := by rw [tv_27]; exact pre1 a1.toNatClampNeg (by rw [k_clamp]; omega)
            refine lv_iconst (v := 3) hx hb dX11_load_66 (by decide) ?_
            refine lv_idiv hx hb dX11_load_67 (by decide) ?_
            refine lv_topi (fun v_29 ev_29 => ?_)
            have tv_29 : v_29.toInt = v_27.toInt / 3 := k_divv (w := 0) ev_29 zl_3 (by omega) (by decide)
            have lo_v_29 := k_lo v_29
            have hi_v_29 := k_hi v_29
            refine b_icmp_lt hx hb rfl rfl (tgt := 78) dX11_load_68 (by decide) (fun c_30 => ?_) (fun c_30 => ?_)
            · refine lv_aload_n hx hb dX11_load_78 rfl (lv_at hl 0 rfl) ?_
              refine lv_iload_n hx hb dX11_load_79 rfl (lv_at hl 2 rfl) ?_
              refine lv_bipush (v := 12) hx hb dX11_load_80 (by decide) ?_
              refine lv_aload_n hx hb dX11_load_82 rfl (lv_at hl 0 rfl) ?_
              refine lv_iload_n hx hb dX11_load_83 rfl (lv_at hl 1 rfl) ?_
              refine lv_iconst (v := 3) hx hb dX11_load_84 (by decide) ?_
              refine kJi (wr := [(k4, .inl (cI, 6, .inl c4)), (k5, .inl (cI, 4, .inl c5)), (kl, .inl (cI, 8, .inl cl)), (k6, .inl (cI, 4, .inl c6)), (k7, .inl (cI, 144, .inl c7))]) (va_runV (As := [.int a0, .int 3]) (rest := [.int 12, .int a1, .ref k]) ⟨hx, hb, hml, hown, hT⟩ (c_X11_partyG3 l D cI aK aV k k0 k1 k2 k4 k5 k6 k7 k8 ka kb kl ko H.size c3 c9 cc cd ce cf cg ch ci cj ck cm cn c0 a0 3 (by first | omega | (simp only [zl_3] <;> omega) | decide | assumption | rfl) (by first | omega | (simp only [zl_3] <;> omega) | decide | assumption | rfl) (by first | omega | (simp only [zl_3] <;> omega) | decide | assumption | rfl)) (cwV 2 hT (gV_in mw_1416 mw_1413 mw_1415 mw_p5_5 mw_12) rfl rfl rfl (by decide +kernel) ⟨Nat.le_of_ble_eq_true rfl, Nat.le_of_ble_eq_true rfl⟩) (kRecvX (q0 := 4) (ci := 11) hK hP hD hN hXS hS hA rfl rfl [4, 3] rfl (by decide)) rfl rfl hl.1 rfl (lv_room (Nat.le_of_ble_eq_true rfl)) dX11_load_85 ⟨Nat.le_of_ble_eq_true rfl, Nat.le_of_ble_eq_true rfl⟩) hP hD hS hA [4, 3] [0, 1, 2, 5, 6] rfl rfl (by decide) (by decide) ?_
              clear hP hD hS
              intro r_31 u_33 H locs w_32 hP hD hS
              replace hP : va_P D vwCl [(k4, .inl (cI, 6, .inl c4)), (k5, .inl (cI, 4, .inl c5)), (kl, .inl (cI, 8, .inl cl)), (k6, .inl (cI, 4, .inl c6)), (k7, .inl (cI, 144, .inl c7)), (k, .inr (11, [.ref k0, .ref k1, .ref k2, .int c3, .ref k4, .ref k5, .ref k6, .ref k7, .ref k8, .int c9, .ref ka, .ref kb, .int cc, .int cd, .int ce, .int cf, .int cg, .int ch, .int ci, .int cj, .int ck, .ref kl, .int cm, .int cn, .ref ko])), (k0, .inl (cI, 1201, .inl c0))] H := hP
              replace hD : va_D A [(k4, .inl (cI, 6, .inl c4)), (k5, .inl (cI, 4, .inl c5)), (kl, .inl (cI, 8, .inl cl)), (k6, .inl (cI, 4, .inl c6)), (k7, .inl (cI, 144, .inl c7)), (k, .inr (11, [.ref k0, .ref k1, .ref k2, .int c3, .ref k4, .ref k5, .ref k6, .ref k7, .ref k8, .int c9, .ref ka, .ref kb, .int cc, .int cd, .int ce, .int cf, .int cg, .int ch, .int ci, .int cj, .int ck, .ref kl, .int cm, .int cn, .ref ko])), (k0, .inl (cI, 1201, .inl c0))] := hD
              have h_34 := w_32
              have h_34 : r_31 = pW c0 a0 3 := h_34
              have t_35 : r_31.toInt = (pW c0 a0 3).toInt := by rw [h_34]
              have lo_r_31 := k_lo r_31
              have hi_r_31 := k_hi r_31
              refine lv_imul hx hb dX11_load_88 ?_
              refine lv_topi (fun v_36 ev_36 => ?_)
              have lo_v_36 := k_lo v_36
              have hi_v_36 := k_hi v_36
              refine kJv (wr := [(k4, .inl (cI, 6, .inl c4)), (k5, .inl (cI, 4, .inl c5)), (k0, .inl (cI, 1201, .inl c0))]) (va_runV (As := [.int a1, .int v_36]) (rest := []) ⟨hx, hb, hml, hown, hT⟩ (c_X11_findLoadG l D cI aK aV k k0 k1 k2 k4 k5 k6 k7 k8 ka kb kl ko H.size c3 c9 cc cd ce cf cg ch ci cj ck cm cn c6 c7 cl a1 v_36 pre1 (by first | omega | decide | assumption | rfl) (by first | omega | decide | assumption | rfl) (by first | omega | decide | assumption | rfl) (by first | omega | decide | assumption | rfl)) (cwV 2 hT (gV_in mw_1503 mw_1500 mw_1502 mw_p5_10 mw_12) rfl rfl rfl (by decide +kernel) ⟨Nat.le_of_ble_eq_true rfl, Nat.le_of_ble_eq_true rfl⟩) (kRecvX (q0 := 5) (ci := 11) hK hP hD hN hXS hS hA rfl rfl [5, 3, 4, 2] rfl (by decide)) rfl rfl hl.1 rfl (lv_room (Nat.le_of_ble_eq_true rfl)) dX11_load_89 ⟨Nat.le_of_ble_eq_true rfl, Nat.le_of_ble_eq_true rfl⟩) hP hD hS hA [5, 3, 4, 2] [0, 1, 6] rfl rfl (by decide) (by decide) ?_
              clear hP hD hS
              intro u_42 H locs w_38 hP hD hS
              obtain ⟨scm_39, scn_40, scl_41⟩ := u_42
              replace hP : va_P D vwCl [(k4, .inl (cI, 6, .inl c4)), (k5, .inl (cI, 4, .inl c5)), (k0, .inl (cI, 1201, .inl c0)), (k, .inr (11, [.ref k0, .ref k1, .ref k2, .int c3, .ref k4, .ref k5, .ref k6, .ref k7, .ref k8, .int c9, .ref ka, .ref kb, .int cc, .int cd, .int ce, .int cf, .int cg, .int ch, .int ci, .int cj, .int ck, .ref kl, .int scm_39, .int scn_40, .ref ko])), (k6, .inl (cI, 4, .inl c6)), (k7, .inl (cI, 144, .inl c7)), (kl, .inl (cI, 8, .inl scl_41))] H := hP
              replace hD : va_D A [(k4, .inl (cI, 6, .inl c4)), (k5, .inl (cI, 4, .inl c5)), (k0, .inl (cI, 1201, .inl c0)), (k, .inr (11, [.ref k0, .ref k1, .ref k2, .int c3, .ref k4, .ref k5, .ref k6, .ref k7, .ref k8, .int c9, .ref ka, .ref kb, .int cc, .int cd, .int ce, .int cf, .int cg, .int ch, .int ci, .int cj, .int ck, .ref kl, .int scm_39, .int scn_40, .ref ko])), (k6, .inl (cI, 4, .inl c6)), (k7, .inl (cI, 144, .inl c7)), (kl, .inl (cI, 8, .inl scl_41))] := hD
              have lo_scm_39 := k_lo scm_39
              have hi_scm_39 := k_hi scm_39
              have lo_scn_40 := k_lo scn_40
              have hi_scn_40 := k_hi scn_40
              refine lv_iload_n hx hb dX11_load_92 rfl (lv_at hl 3 rfl) ?_
              refine lv_iconst (v := (-1)) hx hb dX11_load_93 (by decide) ?_
              refine b_icmp_ne hx hb rfl zl_m1 (tgt := 104) dX11_load_94 (by decide) (fun c_43 => ?_) (fun c_43 => ?_)
              · refine lv_iload_n hx hb dX11_load_104 rfl (lv_at hl 3 rfl) ?_
                refine lv_bipush (v := (-2)) hx hb dX11_load_105 (by decide) ?_
                refine b_icmp_ne hx hb rfl zl_m2 (tgt := 117) dX11_load_107 (by decide) (fun c_44 => ?_) (fun c_44 => ?_)
                · refine lv_aload_n hx hb dX11_load_117 rfl (lv_at hl 0 rfl) ?_
                  refine va_get (D := D) (ci := 11) (v := .ref kl) (C := RX11) (T := TX11) (N := 25) hx hb hT giX11 hown hK hP 3 rfl rfl 21 (by decide) (hT (Cond.fieldLink RX11 40 "DesertWireModel" "best" "[I") mw_1177) (fun _ h9 => h9) rfl dX11_load_118 ?_
                  refine lv_iload_n hx hb dX11_load_121 rfl (lv_at hl 3 rfl) ?_
                  refine k_iald (v := (scl_41 a2.toNatClampNeg)) hx hb hK hP 6 0 rfl rfl (k_in (by omega) (by omega)) rfl dX11_load_122 ?_
                  refine lv_topi (fun v_45 ev_45 => ?_)
                  have lo_v_45 := k_lo v_45
                  have hi_v_45 := k_hi v_45
                  have tv_45 : v_45.toInt = (scl_41 a2.toNatClampNeg).toInt := by rw [ev_45]
                  exact hRet (scm_39, scn_40, c4, scl_41) [3, 2, 0, 1, 4, 5, 6] trivial hP hD (by decide) rfl hS rfl dX11_load_123
                · refine lv_aload_n hx hb dX11_load_110 rfl (lv_at hl 0 rfl) ?_
                  refine va_get (D := D) (ci := 11) (v := .int scn_40) (C := RX11) (T := TX11) (N := 25) hx hb hT giX11 hown hK hP 3 rfl rfl 23 (by decide) (hT (Cond.fieldLink RX11 217 "DesertWireModel" "bestWeight" "I") mw_1179) (fun _ h9 => h9) rfl dX11_load_111 ?_
                  refine lv_goto (tgt := 123) hx hb dX11_load_114 (by decide) ?_
                  exact hRet (scm_39, scn_40, c4, scl_41) [3, 2, 0, 1, 4, 5, 6] trivial hP hD (by decide) rfl hS rfl dX11_load_123
              · refine lv_aload_n hx hb dX11_load_97 rfl (lv_at hl 0 rfl) ?_
                refine va_get (D := D) (ci := 11) (v := .int scm_39) (C := RX11) (T := TX11) (N := 25) hx hb hT giX11 hown hK hP 3 rfl rfl 22 (by decide) (hT (Cond.fieldLink RX11 214 "DesertWireModel" "bestWorth" "I") mw_1178) (fun _ h9 => h9) rfl dX11_load_98 ?_
                refine lv_goto (tgt := 123) hx hb dX11_load_101 (by decide) ?_
                exact hRet (scm_39, scn_40, c4, scl_41) [3, 2, 0, 1, 4, 5, 6] trivial hP hD (by decide) rfl hS rfl dX11_load_123
            · refine lv_aload_n hx hb dX11_load_71 rfl (lv_at hl 0 rfl) ?_
              refine lv_ldc (v := (-1000003)) hx hb hown (hT _ mw_1356) dX11_load_72 ?_
              refine kJi (wr := [(k5, .inl (cI, 4, .inl c5)), (kl, .inl (cI, 8, .inl cl)), (k0, .inl (cI, 1201, .inl c0)), (k6, .inl (cI, 4, .inl c6)), (k7, .inl (cI, 144, .inl c7))]) (va_runV (As := [.int (-1000003)]) (rest := []) ⟨hx, hb, hml, hown, hT⟩ (c_X11_findingG l D cI aK aV k k0 k1 k2 k4 k5 k6 k7 k8 ka kb kl ko H.size c3 c9 cc cd ce cf cg ch ci cj ck cm cn c4 (-1000003) (by first | omega | (simp only [zl_m1000003] <;> omega) | decide | assumption | rfl) (by first | omega | (simp only [zl_m1000003] <;> omega) | decide | assumption | rfl)) (cwV 1 hT (gV_in mw_1243 mw_1240 mw_1242 mw_p3_8 mw_12) rfl rfl rfl (by decide +kernel) ⟨Nat.le_of_ble_eq_true rfl, Nat.le_of_ble_eq_true rfl⟩) (kRecvX (q0 := 4) (ci := 11) hK hP hD hN hXS hS hA rfl rfl [4, 0] rfl (by decide)) rfl rfl hl.1 rfl (lv_room (Nat.le_of_ble_eq_true rfl)) dX11_load_74 ⟨Nat.le_of_ble_eq_true rfl, Nat.le_of_ble_eq_true rfl⟩) hP hD hS hA [4, 0] [1, 2, 3, 5, 6] rfl rfl (by decide) (by decide) ?_
              clear hP hD hS
              intro r_46 sc4_48 H locs w_47 hP hD hS
              replace hP : va_P D vwCl [(k5, .inl (cI, 4, .inl c5)), (kl, .inl (cI, 8, .inl cl)), (k0, .inl (cI, 1201, .inl c0)), (k6, .inl (cI, 4, .inl c6)), (k7, .inl (cI, 144, .inl c7)), (k, .inr (11, [.ref k0, .ref k1, .ref k2, .int c3, .ref k4, .ref k5, .ref k6, .ref k7, .ref k8, .int c9, .ref ka, .ref kb, .int cc, .int cd, .int ce, .int cf, .int cg, .int ch, .int ci, .int cj, .int ck, .ref kl, .int cm, .int cn, .ref ko])), (k4, .inl (cI, 6, .inl sc4_48))] H := hP
              replace hD : va_D A [(k5, .inl (cI, 4, .inl c5)), (kl, .inl (cI, 8, .inl cl)), (k0, .inl (cI, 1201, .inl c0)), (k6, .inl (cI, 4, .inl c6)), (k7, .inl (cI, 144, .inl c7)), (k, .inr (11, [.ref k0, .ref k1, .ref k2, .int c3, .ref k4, .ref k5, .ref k6, .ref k7, .ref k8, .int c9, .ref ka, .ref kb, .int cc, .int cd, .int ce, .int cf, .int cg, .int ch, .int ci, .int cj, .int ck, .ref kl, .int cm, .int cn, .ref ko])), (k4, .inl (cI, 6, .inl sc4_48))] := hD
              have hr_46 := w_47
              obtain rfl : r_46 = (-1000003) := hr_46.trans (by decide)
              exact hRet (cm, cn, sc4_48, cl) [5, 2, 6, 0, 3, 4, 1] trivial hP hD (by decide) rfl hS rfl dX11_load_77
          · obtain rfl : r_21 = 0 := hr_21.trans (by decide)
            refine b_if_ne hx hb zl_0 (tgt := 59) dX11_load_49 (by decide) (fun c_49 => by exfalso; omega) (fun c_49 => ?_)
            refine lv_aload_n hx hb dX11_load_52 rfl (lv_at hl 0 rfl) ?_
            refine lv_ldc (v := (-1000005)) hx hb hown (hT _ mw_1283) dX11_load_53 ?_
            refine kJi (wr := [(k5, .inl (cI, 4, .inl c5)), (kl, .inl (cI, 8, .inl cl)), (k0, .inl (cI, 1201, .inl c0)), (k6, .inl (cI, 4, .inl c6)), (k7, .inl (cI, 144, .inl c7))]) (va_runV (As := [.int (-1000005)]) (rest := []) ⟨hx, hb, hml, hown, hT⟩ (c_X11_findingG l D cI aK aV k k0 k1 k2 k4 k5 k6 k7 k8 ka kb kl ko H.size c3 c9 cc cd ce cf cg ch ci cj ck cm cn c4 (-1000005) (by first | omega | (simp only [zl_m1000005] <;> omega) | decide | assumption | rfl) (by first | omega | (simp only [zl_m1000005] <;> omega) | decide | assumption | rfl)) (cwV 1 hT (gV_in mw_1243 mw_1240 mw_1242 mw_p3_8 mw_12) rfl rfl rfl (by decide +kernel) ⟨Nat.le_of_ble_eq_true rfl, Nat.le_of_ble_eq_true rfl⟩) (kRecvX (q0 := 4) (ci := 11) hK hP hD hN hXS hS hA rfl rfl [4, 0] rfl (by decide)) rfl rfl hl.1 rfl (lv_room (Nat.le_of_ble_eq_true rfl)) dX11_load_55 ⟨Nat.le_of_ble_eq_true rfl, Nat.le_of_ble_eq_true rfl⟩) hP hD hS hA [4, 0] [1, 2, 3, 5, 6] rfl rfl (by decide) (by decide) ?_
            clear hP hD hS
            intro r_50 sc4_52 H locs w_51 hP hD hS
            replace hP : va_P D vwCl [(k5, .inl (cI, 4, .inl c5)), (kl, .inl (cI, 8, .inl cl)), (k0, .inl (cI, 1201, .inl c0)), (k6, .inl (cI, 4, .inl c6)), (k7, .inl (cI, 144, .inl c7)), (k, .inr (11, [.ref k0, .ref k1, .ref k2, .int c3, .ref k4, .ref k5, .ref k6, .ref k7, .ref k8, .int c9, .ref ka, .ref kb, .int cc, .int cd, .int ce, .int cf, .int cg, .int ch, .int ci, .int cj, .int ck, .ref kl, .int cm, .int cn, .ref ko])), (k4, .inl (cI, 6, .inl sc4_52))] H := hP
            replace hD : va_D A [(k5, .inl (cI, 4, .inl c5)), (kl, .inl (cI, 8, .inl cl)), (k0, .inl (cI, 1201, .inl c0)), (k6, .inl (cI, 4, .inl c6)), (k7, .inl (cI, 144, .inl c7)), (k, .inr (11, [.ref k0, .ref k1, .ref k2, .int c3, .ref k4, .ref k5, .ref k6, .ref k7, .ref k8, .int c9, .ref ka, .ref kb, .int cc, .int cd, .int ce, .int cf, .int cg, .int ch, .int ci, .int cj, .int ck, .ref kl, .int cm, .int cn, .ref ko])), (k4, .inl (cI, 6, .inl sc4_52))] := hD
            have hr_50 := w_51
            obtain rfl : r_50 = (-1000005) := hr_50.trans (by decide)
            exact hRet (cm, cn, sc4_52, cl) [5, 2, 6, 0, 3, 4, 1] trivial hP hD (by decide) rfl hS rfl dX11_load_58
        · refine lv_aload_n hx hb dX11_load_37 rfl (lv_at hl 0 rfl) ?_
          refine lv_ldc (v := (-1000002)) hx hb hown (hT _ mw_1392) dX11_load_38 ?_
          refine kJi (wr := [(k5, .inl (cI, 4, .inl c5)), (k6, .inl (cI, 4, .inl c6)), (k7, .inl (cI, 144, .inl c7)), (kl, .inl (cI, 8, .inl cl)), (k0, .inl (cI, 1201, .inl c0))]) (va_runV (As := [.int (-1000002)]) (rest := []) ⟨hx, hb, hml, hown, hT⟩ (c_X11_findingG l D cI aK aV k k0 k1 k2 k4 k5 k6 k7 k8 ka kb kl ko H.size c3 c9 cc cd ce cf cg ch ci cj ck cm cn c4 (-1000002) (by first | omega | (simp only [zl_m1000002] <;> omega) | decide | assumption | rfl) (by first | omega | (simp only [zl_m1000002] <;> omega) | decide | assumption | rfl)) (cwV 1 hT (gV_in mw_1243 mw_1240 mw_1242 mw_p3_8 mw_12) rfl rfl rfl (by decide +kernel) ⟨Nat.le_of_ble_eq_true rfl, Nat.le_of_ble_eq_true rfl⟩) (kRecvX (q0 := 5) (ci := 11) hK hP hD hN hXS hS hA rfl rfl [5, 0] rfl (by decide)) rfl rfl hl.1 rfl (lv_room (Nat.le_of_ble_eq_true rfl)) dX11_load_40 ⟨Nat.le_of_ble_eq_true rfl, Nat.le_of_ble_eq_true rfl⟩) hP hD hS hA [5, 0] [1, 2, 3, 4, 6] rfl rfl (by decide) (by decide) ?_
          clear hP hD hS
          intro r_53 sc4_55 H locs w_54 hP hD hS
          replace hP : va_P D vwCl [(k5, .inl (cI, 4, .inl c5)), (k6, .inl (cI, 4, .inl c6)), (k7, .inl (cI, 144, .inl c7)), (kl, .inl (cI, 8, .inl cl)), (k0, .inl (cI, 1201, .inl c0)), (k, .inr (11, [.ref k0, .ref k1, .ref k2, .int c3, .ref k4, .ref k5, .ref k6, .ref k7, .ref k8, .int c9, .ref ka, .ref kb, .int cc, .int cd, .int ce, .int cf, .int cg, .int ch, .int ci, .int cj, .int ck, .ref kl, .int cm, .int cn, .ref ko])), (k4, .inl (cI, 6, .inl sc4_55))] H := hP
          replace hD : va_D A [(k5, .inl (cI, 4, .inl c5)), (k6, .inl (cI, 4, .inl c6)), (k7, .inl (cI, 144, .inl c7)), (kl, .inl (cI, 8, .inl cl)), (k0, .inl (cI, 1201, .inl c0)), (k, .inr (11, [.ref k0, .ref k1, .ref k2, .int c3, .ref k4, .ref k5, .ref k6, .ref k7, .ref k8, .int c9, .ref ka, .ref kb, .int cc, .int cd, .int ce, .int cf, .int cg, .int ch, .int ci, .int cj, .int ck, .ref kl, .int cm, .int cn, .ref ko])), (k4, .inl (cI, 6, .inl sc4_55))] := hD
          have hr_53 := w_54
          obtain rfl : r_53 = (-1000002) := hr_53.trans (by decide)
          exact hRet (cm, cn, sc4_55, cl) [5, 4, 6, 0, 1, 2, 3] trivial hP hD (by decide) rfl hS rfl dX11_load_43
      · refine lv_aload_n hx hb dX11_load_21 rfl (lv_at hl 0 rfl) ?_
        refine lv_ldc (v := (-1000001)) hx hb hown (hT _ mw_1239) dX11_load_22 ?_
        refine kJi (wr := [(k5, .inl (cI, 4, .inl c5)), (k6, .inl (cI, 4, .inl c6)), (k7, .inl (cI, 144, .inl c7)), (kl, .inl (cI, 8, .inl cl)), (k0, .inl (cI, 1201, .inl c0))]) (va_runV (As := [.int (-1000001)]) (rest := []) ⟨hx, hb, hml, hown, hT⟩ (c_X11_findingG l D cI aK aV k k0 k1 k2 k4 k5 k6 k7 k8 ka kb kl ko H.size c3 c9 cc cd ce cf cg ch ci cj ck cm cn c4 (-1000001) (by first | omega | (simp only [zl_m1000001] <;> omega) | decide | assumption | rfl) (by first | omega | (simp only [zl_m1000001] <;> omega) | decide | assumption | rfl)) (cwV 1 hT (gV_in mw_1243 mw_1240 mw_1242 mw_p3_8 mw_12) rfl rfl rfl (by decide +kernel) ⟨Nat.le_of_ble_eq_true rfl, Nat.le_of_ble_eq_true rfl⟩) (kRecvX (q0 := 5) (ci := 11) hK hP hD hN hXS hS hA rfl rfl [5, 0] rfl (by decide)) rfl rfl hl.1 rfl (lv_room (Nat.le_of_ble_eq_true rfl)) dX11_load_24 ⟨Nat.le_of_ble_eq_true rfl, Nat.le_of_ble_eq_true rfl⟩) hP hD hS hA [5, 0] [1, 2, 3, 4, 6] rfl rfl (by decide) (by decide) ?_
        clear hP hD hS
        intro r_56 sc4_58 H locs w_57 hP hD hS
        replace hP : va_P D vwCl [(k5, .inl (cI, 4, .inl c5)), (k6, .inl (cI, 4, .inl c6)), (k7, .inl (cI, 144, .inl c7)), (kl, .inl (cI, 8, .inl cl)), (k0, .inl (cI, 1201, .inl c0)), (k, .inr (11, [.ref k0, .ref k1, .ref k2, .int c3, .ref k4, .ref k5, .ref k6, .ref k7, .ref k8, .int c9, .ref ka, .ref kb, .int cc, .int cd, .int ce, .int cf, .int cg, .int ch, .int ci, .int cj, .int ck, .ref kl, .int cm, .int cn, .ref ko])), (k4, .inl (cI, 6, .inl sc4_58))] H := hP
        replace hD : va_D A [(k5, .inl (cI, 4, .inl c5)), (k6, .inl (cI, 4, .inl c6)), (k7, .inl (cI, 144, .inl c7)), (kl, .inl (cI, 8, .inl cl)), (k0, .inl (cI, 1201, .inl c0)), (k, .inr (11, [.ref k0, .ref k1, .ref k2, .int c3, .ref k4, .ref k5, .ref k6, .ref k7, .ref k8, .int c9, .ref ka, .ref kb, .int cc, .int cd, .int ce, .int cf, .int cg, .int ch, .int ci, .int cj, .int ck, .ref kl, .int cm, .int cn, .ref ko])), (k4, .inl (cI, 6, .inl sc4_58))] := hD
        have hr_56 := w_57
        obtain rfl : r_56 = (-1000001) := hr_56.trans (by decide)
        exact hRet (cm, cn, sc4_58, cl) [5, 4, 6, 0, 1, 2, 3] trivial hP hD (by decide) rfl hS rfl dX11_load_27
    · have h_16 : a1.toInt < 0 ∨ 3 < a1.toInt := h_16
      obtain rfl : r_11 = 0 := hr_11.trans (by decide)
      refine b_if_eq hx hb zl_0 (tgt := 21) dX11_load_12 (by decide) (fun c_59 => ?_) (fun c_59 => by exfalso; omega)
      refine lv_aload_n hx hb dX11_load_21 rfl (lv_at hl 0 rfl) ?_
      refine lv_ldc (v := (-1000001)) hx hb hown (hT _ mw_1239) dX11_load_22 ?_
      refine kJi (wr := [(k5, .inl (cI, 4, .inl c5)), (k6, .inl (cI, 4, .inl c6)), (k7, .inl (cI, 144, .inl c7)), (kl, .inl (cI, 8, .inl cl)), (k0, .inl (cI, 1201, .inl c0))]) (va_runV (As := [.int (-1000001)]) (rest := []) ⟨hx, hb, hml, hown, hT⟩ (c_X11_findingG l D cI aK aV k k0 k1 k2 k4 k5 k6 k7 k8 ka kb kl ko H.size c3 c9 cc cd ce cf cg ch ci cj ck cm cn c4 (-1000001) (by first | omega | (simp only [zl_m1000001] <;> omega) | decide | assumption | rfl) (by first | omega | (simp only [zl_m1000001] <;> omega) | decide | assumption | rfl)) (cwV 1 hT (gV_in mw_1243 mw_1240 mw_1242 mw_p3_8 mw_12) rfl rfl rfl (by decide +kernel) ⟨Nat.le_of_ble_eq_true rfl, Nat.le_of_ble_eq_true rfl⟩) (kRecvX (q0 := 5) (ci := 11) hK hP hD hN hXS hS hA rfl rfl [5, 0] rfl (by decide)) rfl rfl hl.1 rfl (lv_room (Nat.le_of_ble_eq_true rfl)) dX11_load_24 ⟨Nat.le_of_ble_eq_true rfl, Nat.le_of_ble_eq_true rfl⟩) hP hD hS hA [5, 0] [1, 2, 3, 4, 6] rfl rfl (by decide) (by decide) ?_
      clear hP hD hS
      intro r_60 sc4_62 H locs w_61 hP hD hS
      replace hP : va_P D vwCl [(k5, .inl (cI, 4, .inl c5)), (k6, .inl (cI, 4, .inl c6)), (k7, .inl (cI, 144, .inl c7)), (kl, .inl (cI, 8, .inl cl)), (k0, .inl (cI, 1201, .inl c0)), (k, .inr (11, [.ref k0, .ref k1, .ref k2, .int c3, .ref k4, .ref k5, .ref k6, .ref k7, .ref k8, .int c9, .ref ka, .ref kb, .int cc, .int cd, .int ce, .int cf, .int cg, .int ch, .int ci, .int cj, .int ck, .ref kl, .int cm, .int cn, .ref ko])), (k4, .inl (cI, 6, .inl sc4_62))] H := hP
      replace hD : va_D A [(k5, .inl (cI, 4, .inl c5)), (k6, .inl (cI, 4, .inl c6)), (k7, .inl (cI, 144, .inl c7)), (kl, .inl (cI, 8, .inl cl)), (k0, .inl (cI, 1201, .inl c0)), (k, .inr (11, [.ref k0, .ref k1, .ref k2, .int c3, .ref k4, .ref k5, .ref k6, .ref k7, .ref k8, .int c9, .ref ka, .ref kb, .int cc, .int cd, .int ce, .int cf, .int cg, .int ch, .int ci, .int cj, .int ck, .ref kl, .int cm, .int cn, .ref ko])), (k4, .inl (cI, 6, .inl sc4_62))] := hD
      have hr_60 := w_61
      obtain rfl : r_60 = (-1000001) := hr_60.trans (by decide)
      exact hRet (cm, cn, sc4_62, cl) [5, 4, 6, 0, 1, 2, 3] trivial hP hD (by decide) rfl hS rfl dX11_load_27
  · have h_9 : a0.toInt < 0 ∨ (c0 2).toInt ≤ a0.toInt := h_9
    obtain rfl : r_4 = 0 := hr_4.trans (by decide)
    refine b_if_eq hx hb zl_0 (tgt := 21) dX11_load_5 (by decide) (fun c_63 => ?_) (fun c_63 => by exfalso; omega)
    refine lv_aload_n hx hb dX11_load_21 rfl (lv_at hl 0 rfl) ?_
    refine lv_ldc (v := (-1000001)) hx hb hown (hT _ mw_1239) dX11_load_22 ?_
    refine kJi (wr := [(k5, .inl (cI, 4, .inl c5)), (k6, .inl (cI, 4, .inl c6)), (k7, .inl (cI, 144, .inl c7)), (kl, .inl (cI, 8, .inl cl)), (k0, .inl (cI, 1201, .inl c0))]) (va_runV (As := [.int (-1000001)]) (rest := []) ⟨hx, hb, hml, hown, hT⟩ (c_X11_findingG l D cI aK aV k k0 k1 k2 k4 k5 k6 k7 k8 ka kb kl ko H.size c3 c9 cc cd ce cf cg ch ci cj ck cm cn c4 (-1000001) (by first | omega | (simp only [zl_m1000001] <;> omega) | decide | assumption | rfl) (by first | omega | (simp only [zl_m1000001] <;> omega) | decide | assumption | rfl)) (cwV 1 hT (gV_in mw_1243 mw_1240 mw_1242 mw_p3_8 mw_12) rfl rfl rfl (by decide +kernel) ⟨Nat.le_of_ble_eq_true rfl, Nat.le_of_ble_eq_true rfl⟩) (kRecvX (q0 := 5) (ci := 11) hK hP hD hN hXS hS hA rfl rfl [5, 0] rfl (by decide)) rfl rfl hl.1 rfl (lv_room (Nat.le_of_ble_eq_true rfl)) dX11_load_24 ⟨Nat.le_of_ble_eq_true rfl, Nat.le_of_ble_eq_true rfl⟩) hP hD hS hA [5, 0] [1, 2, 3, 4, 6] rfl rfl (by decide) (by decide) ?_
    clear hP hD hS
    intro r_64 sc4_66 H locs w_65 hP hD hS
    replace hP : va_P D vwCl [(k5, .inl (cI, 4, .inl c5)), (k6, .inl (cI, 4, .inl c6)), (k7, .inl (cI, 144, .inl c7)), (kl, .inl (cI, 8, .inl cl)), (k0, .inl (cI, 1201, .inl c0)), (k, .inr (11, [.ref k0, .ref k1, .ref k2, .int c3, .ref k4, .ref k5, .ref k6, .ref k7, .ref k8, .int c9, .ref ka, .ref kb, .int cc, .int cd, .int ce, .int cf, .int cg, .int ch, .int ci, .int cj, .int ck, .ref kl, .int cm, .int cn, .ref ko])), (k4, .inl (cI, 6, .inl sc4_66))] H := hP
    replace hD : va_D A [(k5, .inl (cI, 4, .inl c5)), (k6, .inl (cI, 4, .inl c6)), (k7, .inl (cI, 144, .inl c7)), (kl, .inl (cI, 8, .inl cl)), (k0, .inl (cI, 1201, .inl c0)), (k, .inr (11, [.ref k0, .ref k1, .ref k2, .int c3, .ref k4, .ref k5, .ref k6, .ref k7, .ref k8, .int c9, .ref ka, .ref kb, .int cc, .int cd, .int ce, .int cf, .int cg, .int ch, .int ci, .int cj, .int ck, .ref kl, .int cm, .int cn, .ref ko])), (k4, .inl (cI, 6, .inl sc4_66))] := hD
    have hr_64 := w_65
    obtain rfl : r_64 = (-1000001) := hr_64.trans (by decide)
    exact hRet (cm, cn, sc4_66, cl) [5, 4, 6, 0, 1, 2, 3] trivial hP hD (by decide) rfl hS rfl dX11_load_27

set_option maxHeartbeats 4000000 in
set_option maxRecDepth 100000 in
theorem c_X11_effortH (l : Launch) (D : va_G) (cI : ClassId) (aK aV : Nat → Nat) (k k0 k1 k2 k4 k5 k6 k7 k8 ka kb kl ko : Nat) (sz : Nat) (c3 : Int32) (c9 : Int32) (cc : Int32) (cd : Int32) (ce : Int32) (cf : Int32) (cg : Int32) (ch : Int32) (ci : Int32) (cj : Int32) (ck : Int32) (cm : Int32) (cn : Int32) (c0 : Nat → Int32) (a0 : Int32) (a1 : Int32) (pre0 : SB c0) (pre1 : 0 ≤ a0.toInt) (pre2 : a0.toInt ≤ 39) (pre3 : 0 ≤ a1.toInt) (pre4 : a1.toInt ≤ 9) : Met l yX11_effort (gW yX11_effort cX11_effort 4 (some .int)) ({ frames := 0, cells := 0, slots := 0, locals := 0 } : Room) (kPreX D cI aK aV [.ref k, .int a0, .int a1] [(k, .inr (11, [.ref k0, .ref k1, .ref k2, .int c3, .ref k4, .ref k5, .ref k6, .ref k7, .ref k8, .int c9, .ref ka, .ref kb, .int cc, .int cd, .int ce, .int cf, .int cg, .int ch, .int ci, .int cj, .int ck, .ref kl, .int cm, .int cn, .ref ko])), (k0, .inl (cI, 1201, .inl c0))] sz) (va_Qi (fun (r : Int32) (u : Unit) => 10 ≤ r.toInt ∧ r.toInt ≤ 110) (fun u t => kWd D cI (va_A [(k, .inr (11, [.ref k0, .ref k1, .ref k2, .int c3, .ref k4, .ref k5, .ref k6, .ref k7, .ref k8, .int c9, .ref ka, .ref kb, .int cc, .int cd, .int ce, .int cf, .int cg, .int ch, .int ci, .int cj, .int ck, .ref kl, .int cm, .int cn, .ref ko])), (k0, .inl (cI, 1201, .inl c0))] sz) [(k, .inr (11, [.ref k0, .ref k1, .ref k2, .int c3, .ref k4, .ref k5, .ref k6, .ref k7, .ref k8, .int c9, .ref ka, .ref kb, .int cc, .int cd, .int ce, .int cf, .int cg, .int ch, .int ci, .int cj, .int ck, .ref kl, .int cm, .int cn, .ref ko])), (k0, .inl (cI, 1201, .inl c0))] t) (va_A [(k, .inr (11, [.ref k0, .ref k1, .ref k2, .int c3, .ref k4, .ref k5, .ref k6, .ref k7, .ref k8, .int c9, .ref ka, .ref kb, .int cc, .int cd, .int ce, .int cf, .int cg, .int ch, .int ci, .int cj, .int ck, .ref kl, .int cm, .int cn, .ref ko])), (k0, .inl (cI, 1201, .inl c0))] sz)) 0 0 (va_A [(k, .inr (11, [.ref k0, .ref k1, .ref k2, .int c3, .ref k4, .ref k5, .ref k6, .ref k7, .ref k8, .int c9, .ref ka, .ref kb, .int cc, .int cd, .int ce, .int cf, .int cg, .int ch, .int ci, .int cj, .int ck, .ref kl, .int cm, .int cn, .ref ko])), (k0, .inl (cI, 1201, .inl c0))] sz) := by
  refine kMetIX (own := RX11) (by decide) rfl (Nat.le_of_ble_eq_true rfl) ?_
  intro p e s m args below meth c hx hb hT hown hname hml A Q hK hP hD hS hA hN hXS hRet ls hl
  have hl : lv_has ls 4 [(0, .ref k), (1, .int a0), (2, .int a1)] := hl
  have lo_a0 := k_lo a0
  have hi_a0 := k_hi a0
  have lo_a1 := k_lo a1
  have hi_a1 := k_hi a1
  have lo_ci := k_lo ci
  have hi_ci := k_hi ci
  have pre0 : SB c0 := pre0
  have nb_1 : 0 ≤ (c0 0).toInt ∧ (c0 0).toInt ≤ 2000 := SB.n0 pre0
  have nb_2 : 0 ≤ (c0 1).toInt ∧ (c0 1).toInt ≤ 60 := SB.n1 pre0
  have nb_3 : 0 ≤ (c0 2).toInt ∧ (c0 2).toInt ≤ 4 := SB.n2 pre0
  refine lv_aload_n hx hb dX11_effort_0 rfl (lv_at hl 0 rfl) ?_
  refine va_get (D := D) (ci := 11) (v := .ref k0) (C := RX11) (T := TX11) (N := 25) hx hb hT giX11 hown hK hP 0 rfl rfl 0 (by decide) (hT (Cond.fieldLink RX11 9 "DesertWireModel" "s" "[I") mw_1156) (fun _ h9 => h9) rfl dX11_effort_1 ?_
  refine lv_bipush (v := 19) hx hb dX11_effort_4 (by decide) ?_
  refine lv_iload_n hx hb dX11_effort_6 rfl (lv_at hl 1 rfl) ?_
  refine lv_iadd hx hb dX11_effort_7 ?_
  refine lv_topi (fun v_4 ev_4 => ?_)
  have tv_4 : v_4.toInt = 19 + a0.toInt := by rw [ev_4]; exact k_addv zl_19 rfl (by omega) (by omega)
  refine k_iald (v := (c0 v_4.toNatClampNeg)) hx hb hK hP 1 0 rfl rfl (k_in (by omega) (by omega)) rfl dX11_effort_8 ?_
  refine lv_topi (fun v_5 ev_5 => ?_)
  have lo_v_5 := k_lo v_5
  have hi_v_5 := k_hi v_5
  have tv_5 : v_5.toInt = (c0 v_4.toNatClampNeg).toInt := by rw [ev_5]
  refine lv_istore_n (lv' := [(3, .int v_5), (0, .ref k), (1, .int a0), (2, .int a1)]) hx hb dX11_effort_9 rfl hl (by decide) rfl ?_
  clear hl
  intro ls hl
  refine lv_iload_n hx hb dX11_effort_10 rfl (lv_at hl 0 rfl) ?_
  refine b_if_ne hx hb rfl (tgt := 19) dX11_effort_11 (by decide) (fun c_6 => ?_) (fun c_6 => ?_)
  · refine lv_iload_n hx hb dX11_effort_19 rfl (lv_at hl 0 rfl) ?_
    refine lv_iconst (v := 1) hx hb dX11_effort_20 (by decide) ?_
    refine b_icmp_ne hx hb rfl zl_1 (tgt := 29) dX11_effort_21 (by decide) (fun c_7 => ?_) (fun c_7 => ?_)
    · refine lv_bipush (v := 20) hx hb dX11_effort_29 (by decide) ?_
      refine lv_bipush (v := 10) hx hb dX11_effort_31 (by decide) ?_
      refine lv_iload_n hx hb dX11_effort_33 rfl (lv_at hl 3 rfl) ?_
      refine lv_imul hx hb dX11_effort_34 ?_
      refine lv_topi (fun v_8 ev_8 => ?_)
      have tv_8 : v_8.toInt = 10 * a1.toInt := by rw [ev_8]; exact k_mulv zl_10 rfl (by omega) (by omega)
      refine lv_iadd hx hb dX11_effort_35 ?_
      refine lv_topi (fun v_9 ev_9 => ?_)
      have tv_9 : v_9.toInt = 20 + v_8.toInt := by rw [ev_9]; exact k_addv zl_20 rfl (by omega) (by omega)
      exact hRet () [0, 1] ⟨(by first | omega | decide | assumption | rfl), (by first | omega | decide | assumption | rfl)⟩ hP hD (by decide) rfl hS rfl dX11_effort_36
    · refine lv_bipush (v := 40) hx hb dX11_effort_24 (by decide) ?_
      refine lv_goto (tgt := 36) hx hb dX11_effort_26 (by decide) ?_
      exact hRet () [0, 1] ⟨(by first | omega | (simp only [zl_40] <;> omega) | decide | assumption | rfl), (by first | omega | (simp only [zl_40] <;> omega) | decide | assumption | rfl)⟩ hP hD (by decide) rfl hS rfl dX11_effort_36
  · refine lv_bipush (v := 10) hx hb dX11_effort_14 (by decide) ?_
    refine lv_goto (tgt := 36) hx hb dX11_effort_16 (by decide) ?_
    exact hRet () [0, 1] ⟨(by first | omega | (simp only [zl_10] <;> omega) | decide | assumption | rfl), (by first | omega | (simp only [zl_10] <;> omega) | decide | assumption | rfl)⟩ hP hD (by decide) rfl hS rfl dX11_effort_36
theorem dX11_doneIn_0 : decode cX11_doneIn 0 = .ok (.aload_n 0, 1) := by decide +kernel
theorem dX11_doneIn_1 : decode cX11_doneIn 1 = .ok (.getfield 9, 3) := by decide +kernel
theorem dX11_doneIn_4 : decode cX11_doneIn 4 = .ok (.iconst 0, 1) := by decide +kernel
theorem dX11_doneIn_5 : decode cX11_doneIn 5 = .ok (.iaload, 1) := by decide +kernel
theorem dX11_doneIn_6 : decode cX11_doneIn 6 = .ok (.istore 5, 2) := by decide +kernel
theorem dX11_doneIn_8 : decode cX11_doneIn 8 = .ok (.aload_n 0, 1) := by decide +kernel
theorem dX11_doneIn_9 : decode cX11_doneIn 9 = .ok (.iload_n 1, 1) := by decide +kernel
theorem dX11_doneIn_10 : decode cX11_doneIn 10 = .ok (.iconst 1, 1) := by decide +kernel
theorem dX11_doneIn_11 : decode cX11_doneIn 11 = .ok (.invokevirtual 124, 3) := by decide +kernel
theorem dX11_doneIn_14 : decode cX11_doneIn 14 = .ok (.istore 6, 2) := by decide +kernel
theorem dX11_doneIn_16 : decode cX11_doneIn 16 = .ok (.aload_n 0, 1) := by decide +kernel
theorem dX11_doneIn_17 : decode cX11_doneIn 17 = .ok (.iload_n 1, 1) := by decide +kernel
theorem dX11_doneIn_18 : decode cX11_doneIn 18 = .ok (.iconst 2, 1) := by decide +kernel
theorem dX11_doneIn_19 : decode cX11_doneIn 19 = .ok (.invokevirtual 124, 3) := by decide +kernel
theorem dX11_doneIn_22 : decode cX11_doneIn 22 = .ok (.istore 7, 2) := by decide +kernel
theorem dX11_doneIn_24 : decode cX11_doneIn 24 = .ok (.aload_n 0, 1) := by decide +kernel
theorem dX11_doneIn_25 : decode cX11_doneIn 25 = .ok (.iload_n 1, 1) := by decide +kernel
theorem dX11_doneIn_26 : decode cX11_doneIn 26 = .ok (.iconst 0, 1) := by decide +kernel
theorem dX11_doneIn_27 : decode cX11_doneIn 27 = .ok (.invokevirtual 124, 3) := by decide +kernel
theorem dX11_doneIn_30 : decode cX11_doneIn 30 = .ok (.istore 8, 2) := by decide +kernel
theorem dX11_doneIn_32 : decode cX11_doneIn 32 = .ok (.iload 8, 2) := by decide +kernel
theorem dX11_doneIn_34 : decode cX11_doneIn 34 = .ok (.iload_n 2, 1) := by decide +kernel
theorem dX11_doneIn_35 : decode cX11_doneIn 35 = .ok (.iload 6, 2) := by decide +kernel
theorem dX11_doneIn_37 : decode cX11_doneIn 37 = .ok (.iadd, 1) := by decide +kernel
theorem dX11_doneIn_38 : decode cX11_doneIn 38 = .ok (.if_icmp .eq 76, 3) := by decide +kernel
theorem dX11_doneIn_41 : decode cX11_doneIn 41 = .ok (.iload 5, 2) := by decide +kernel
theorem dX11_doneIn_43 : decode cX11_doneIn 43 = .ok (.iload 8, 2) := by decide +kernel
theorem dX11_doneIn_45 : decode cX11_doneIn 45 = .ok (.aload_n 0, 1) := by decide +kernel
theorem dX11_doneIn_46 : decode cX11_doneIn 46 = .ok (.iload_n 1, 1) := by decide +kernel
theorem dX11_doneIn_47 : decode cX11_doneIn 47 = .ok (.iconst 0, 1) := by decide +kernel
theorem dX11_doneIn_48 : decode cX11_doneIn 48 = .ok (.invokevirtual 124, 3) := by decide +kernel
theorem dX11_doneIn_51 : decode cX11_doneIn 51 = .ok (.if_icmp .ne 7, 3) := by decide +kernel
theorem dX11_doneIn_54 : decode cX11_doneIn 54 = .ok (.iconst 0, 1) := by decide +kernel
theorem dX11_doneIn_55 : decode cX11_doneIn 55 = .ok (.goto 4, 3) := by decide +kernel
theorem dX11_doneIn_58 : decode cX11_doneIn 58 = .ok (.iconst 1, 1) := by decide +kernel
theorem dX11_doneIn_59 : decode cX11_doneIn 59 = .ok (.iadd, 1) := by decide +kernel
theorem dX11_doneIn_60 : decode cX11_doneIn 60 = .ok (.istore 5, 2) := by decide +kernel
theorem dX11_doneIn_62 : decode cX11_doneIn 62 = .ok (.aload_n 0, 1) := by decide +kernel
theorem dX11_doneIn_63 : decode cX11_doneIn 63 = .ok (.iload_n 3, 1) := by decide +kernel
theorem dX11_doneIn_64 : decode cX11_doneIn 64 = .ok (.bipush 12, 2) := by decide +kernel
theorem dX11_doneIn_66 : decode cX11_doneIn 66 = .ok (.iload 4, 2) := by decide +kernel
theorem dX11_doneIn_68 : decode cX11_doneIn 68 = .ok (.imul, 1) := by decide +kernel
theorem dX11_doneIn_69 : decode cX11_doneIn 69 = .ok (.iload 5, 2) := by decide +kernel
theorem dX11_doneIn_71 : decode cX11_doneIn 71 = .ok (.bipush 30, 2) := by decide +kernel
theorem dX11_doneIn_73 : decode cX11_doneIn 73 = .ok (.idiv, 1) := by decide +kernel
theorem dX11_doneIn_74 : decode cX11_doneIn 74 = .ok (.bipush 12, 2) := by decide +kernel
theorem dX11_doneIn_76 : decode cX11_doneIn 76 = .ok (.irem, 1) := by decide +kernel
theorem dX11_doneIn_77 : decode cX11_doneIn 77 = .ok (.iadd, 1) := by decide +kernel
theorem dX11_doneIn_78 : decode cX11_doneIn 78 = .ok (.invokevirtual 115, 3) := by decide +kernel
theorem dX11_doneIn_81 : decode cX11_doneIn 81 = .ok (.istore 9, 2) := by decide +kernel
theorem dX11_doneIn_83 : decode cX11_doneIn 83 = .ok (.iload 5, 2) := by decide +kernel
theorem dX11_doneIn_85 : decode cX11_doneIn 85 = .ok (.aload_n 0, 1) := by decide +kernel
theorem dX11_doneIn_86 : decode cX11_doneIn 86 = .ok (.iload 8, 2) := by decide +kernel
theorem dX11_doneIn_88 : decode cX11_doneIn 88 = .ok (.iload 9, 2) := by decide +kernel
theorem dX11_doneIn_90 : decode cX11_doneIn 90 = .ok (.invokevirtual 105, 3) := by decide +kernel
theorem dX11_doneIn_93 : decode cX11_doneIn 93 = .ok (.iload 7, 2) := by decide +kernel
theorem dX11_doneIn_95 : decode cX11_doneIn 95 = .ok (.iadd, 1) := by decide +kernel
theorem dX11_doneIn_96 : decode cX11_doneIn 96 = .ok (.iconst 1, 1) := by decide +kernel
theorem dX11_doneIn_97 : decode cX11_doneIn 97 = .ok (.isub, 1) := by decide +kernel
theorem dX11_doneIn_98 : decode cX11_doneIn 98 = .ok (.iload 7, 2) := by decide +kernel
theorem dX11_doneIn_100 : decode cX11_doneIn 100 = .ok (.idiv, 1) := by decide +kernel
theorem dX11_doneIn_101 : decode cX11_doneIn 101 = .ok (.iadd, 1) := by decide +kernel
theorem dX11_doneIn_102 : decode cX11_doneIn 102 = .ok (.istore 5, 2) := by decide +kernel
theorem dX11_doneIn_104 : decode cX11_doneIn 104 = .ok (.iload 8, 2) := by decide +kernel
theorem dX11_doneIn_106 : decode cX11_doneIn 106 = .ok (.iload 6, 2) := by decide +kernel
theorem dX11_doneIn_108 : decode cX11_doneIn 108 = .ok (.iadd, 1) := by decide +kernel
theorem dX11_doneIn_109 : decode cX11_doneIn 109 = .ok (.istore 8, 2) := by decide +kernel
theorem dX11_doneIn_111 : decode cX11_doneIn 111 = .ok (.goto (-79), 3) := by decide +kernel
theorem dX11_doneIn_114 : decode cX11_doneIn 114 = .ok (.iload 5, 2) := by decide +kernel
theorem dX11_doneIn_116 : decode cX11_doneIn 116 = .ok (.aload_n 0, 1) := by decide +kernel
theorem dX11_doneIn_117 : decode cX11_doneIn 117 = .ok (.getfield 9, 3) := by decide +kernel
theorem dX11_doneIn_120 : decode cX11_doneIn 120 = .ok (.iconst 0, 1) := by decide +kernel
theorem dX11_doneIn_121 : decode cX11_doneIn 121 = .ok (.iaload, 1) := by decide +kernel
theorem dX11_doneIn_122 : decode cX11_doneIn 122 = .ok (.isub, 1) := by decide +kernel
theorem dX11_doneIn_123 : decode cX11_doneIn 123 = .ok (.ireturn, 1) := by decide +kernel
set_option maxHeartbeats 4000000 in
set_option maxRecDepth 100000 in
theorem c_X11_doneInGp (l : Launch) (D : va_G) (cI : ClassId) (aK aV : Nat → Nat) (k k0 k1 k2 k4 k5 k6 k7 k8 ka kb kl ko : Nat) (sz : Nat) (c3 : Int32) (c9 : Int32) (cc : Int32) (cd : Int32) (ce : Int32) (cf : Int32) (cg : Int32) (ch : Int32) (ci : Int32) (cj : Int32) (ck : Int32) (cm : Int32) (cn : Int32) (c0 : Nat → Int32) (c6 : Nat → Int32) (c7 : Nat → Int32) (a0 : Int32) (a1 : Int32) (a2 : Int32) (a3 : Int32) (pre0 : SB c0) (pre1 : 0 ≤ a0.toInt) (pre2 : a0.toInt ≤ 3) (pre3 : (pW c0 a0 1).toInt = 1) (pre4 : 1 ≤ (pW c0 a0 2).toInt) (pre5 : 0 ≤ a2.toInt) (pre6 : a2.toInt ≤ 3) (pre7 : 0 ≤ a3.toInt) (pre8 : a3.toInt ≤ 2) (pre9 : 12 * a3.toInt + 12 ≤ (c6 a2.toNatClampNeg).toInt) (pre10 : ∀ k : Nat, (k : Int) < (c6 a2.toNatClampNeg).toInt → 0 ≤ (c7 (36 * a2.toInt.toNat + k)).toInt ∧ (c7 (36 * a2.toInt.toNat + k)).toInt ≤ 9) (pre11 : (pW c0 a0 0).toInt ≤ a1.toInt) (pre12 : a1.toInt ≤ 39) : Met l yX11_doneIn (gW yX11_doneIn cX11_doneIn 10 (some .int)) ({ frames := 1, cells := 0, slots := 0, locals := 23 } : Room) (kPreX D cI aK aV [.ref k, .int a0, .int a1, .int a2, .int a3] [(k, .inr (11, [.ref k0, .ref k1, .ref k2, .int c3, .ref k4, .ref k5, .ref k6, .ref k7, .ref k8, .int c9, .ref ka, .ref kb, .int cc, .int cd, .int ce, .int cf, .int cg, .int ch, .int ci, .int cj, .int ck, .ref kl, .int cm, .int cn, .ref ko])), (k0, .inl (cI, 1201, .inl c0)), (k6, .inl (cI, 4, .inl c6)), (k7, .inl (cI, 144, .inl c7))] sz) (va_Qi (fun (r : Int32) (u : Unit) => True) (fun u t => kWd D cI (va_A [(k, .inr (11, [.ref k0, .ref k1, .ref k2, .int c3, .ref k4, .ref k5, .ref k6, .ref k7, .ref k8, .int c9, .ref ka, .ref kb, .int cc, .int cd, .int ce, .int cf, .int cg, .int ch, .int ci, .int cj, .int ck, .ref kl, .int cm, .int cn, .ref ko])), (k0, .inl (cI, 1201, .inl c0)), (k6, .inl (cI, 4, .inl c6)), (k7, .inl (cI, 144, .inl c7))] sz) [(k, .inr (11, [.ref k0, .ref k1, .ref k2, .int c3, .ref k4, .ref k5, .ref k6, .ref k7, .ref k8, .int c9, .ref ka, .ref kb, .int cc, .int cd, .int ce, .int cf, .int cg, .int ch, .int ci, .int cj, .int ck, .ref kl, .int cm, .int cn, .ref ko])), (k0, .inl (cI, 1201, .inl c0)), (k6, .inl (cI, 4, .inl c6)), (k7, .inl (cI, 144, .inl c7))] t) (va_A [(k, .inr (11, [.ref k0, .ref k1, .ref k2, .int c3, .ref k4, .ref k5, .ref k6, .ref k7, .ref k8, .int c9, .ref ka, .ref kb, .int cc, .int cd, .int ce, .int cf, .int cg, .int ch, .int ci, .int cj, .int ck, .ref kl, .int cm, .int cn, .ref ko])), (k0, .inl (cI, 1201, .inl c0)), (k6, .inl (cI, 4, .inl c6)), (k7, .inl (cI, 144, .inl c7))] sz)) 0 0 (va_A [(k, .inr (11, [.ref k0, .ref k1, .ref k2, .int c3, .ref k4, .ref k5, .ref k6, .ref k7, .ref k8, .int c9, .ref ka, .ref kb, .int cc, .int cd, .int ce, .int cf, .int cg, .int ch, .int ci, .int cj, .int ck, .ref kl, .int cm, .int cn, .ref ko])), (k0, .inl (cI, 1201, .inl c0)), (k6, .inl (cI, 4, .inl c6)), (k7, .inl (cI, 144, .inl c7))] sz) := by
  refine kMetIX (own := RX11) (by decide) rfl (Nat.le_of_ble_eq_true rfl) ?_
  intro p e s m args below meth c hx hb hT hown hname hml A Q hK hP hD hS hA hN hXS hRet ls hl
  have hl : lv_has ls 10 [(0, .ref k), (1, .int a0), (2, .int a1), (3, .int a2), (4, .int a3)] := hl
  have lo_a0 := k_lo a0
  have hi_a0 := k_hi a0
  have lo_a1 := k_lo a1
  have hi_a1 := k_hi a1
  have lo_a2 := k_lo a2
  have hi_a2 := k_hi a2
  have lo_a3 := k_lo a3
  have hi_a3 := k_hi a3
  have lo_ci := k_lo ci
  have hi_ci := k_hi ci
  have pre0 : SB c0 := pre0
  have nb_1 : 0 ≤ (c0 0).toInt ∧ (c0 0).toInt ≤ 2000 := SB.n0 pre0
  have nb_2 : 0 ≤ (c0 1).toInt ∧ (c0 1).toInt ≤ 60 := SB.n1 pre0
  have nb_3 : 0 ≤ (c0 2).toInt ∧ (c0 2).toInt ≤ 4 := SB.n2 pre0
  refine lv_aload_n hx hb dX11_doneIn_0 rfl (lv_at hl 0 rfl) ?_
  refine va_get (D := D) (ci := 11) (v := .ref k0) (C := RX11) (T := TX11) (N := 25) hx hb hT giX11 hown hK hP 0 rfl rfl 0 (by decide) (hT (Cond.fieldLink RX11 9 "DesertWireModel" "s" "[I") mw_1156) (fun _ h9 => h9) rfl dX11_doneIn_1 ?_
  refine lv_iconst (v := 0) hx hb dX11_doneIn_4 (by decide) ?_
  refine k_iald (v := (c0 0)) hx hb hK hP 1 0 rfl rfl (k_inl (by decide)) rfl dX11_doneIn_5 ?_
  refine lv_topi (fun v_4 ev_4 => ?_)
  have lo_v_4 := k_lo v_4
  have hi_v_4 := k_hi v_4
  have tv_4 : v_4.toInt = (c0 0).toInt := by rw [ev_4]
  have b_5 : 0 ≤ v_4.toInt ∧ v_4.toInt ≤ 2000 := by first | (rw [tv_4]; exact SB.n0 pre0) | exact SB.n0 pre0 | omega
  refine lv_istore (lv' := [(5, .int v_4), (0, .ref k), (1, .int a0), (2, .int a1), (3, .int a2), (4, .int a3)]) hx hb dX11_doneIn_6 hl (by decide) rfl ?_
  clear hl
  intro ls hl
  refine lv_aload_n hx hb dX11_doneIn_8 rfl (lv_at hl 1 rfl) ?_
  refine lv_iload_n hx hb dX11_doneIn_9 rfl (lv_at hl 2 rfl) ?_
  refine lv_iconst (v := 1) hx hb dX11_doneIn_10 (by decide) ?_
  refine kJi (wr := [(k6, .inl (cI, 4, .inl c6)), (k7, .inl (cI, 144, .inl c7))]) (va_runV (As := [.int a0, .int 1]) (rest := []) ⟨hx, hb, hml, hown, hT⟩ (c_X11_partyG1 l D cI aK aV k k0 k1 k2 k4 k5 k6 k7 k8 ka kb kl ko s.heap.size c3 c9 cc cd ce cf cg ch ci cj ck cm cn c0 a0 1 (by first | omega | (simp only [zl_1] <;> omega) | decide | assumption | rfl) (by first | omega | (simp only [zl_1] <;> omega) | decide | assumption | rfl) (by first | omega | (simp only [zl_1] <;> omega) | decide | assumption | rfl)) (cwV 2 hT (gV_in mw_1416 mw_1413 mw_1415 mw_p5_5 mw_12) rfl rfl rfl (by decide +kernel) ⟨Nat.le_of_ble_eq_true rfl, Nat.le_of_ble_eq_true rfl⟩) (kRecvX (q0 := 0) (ci := 11) hK hP hD hN hXS hS hA rfl rfl [0, 1] rfl (by decide)) rfl rfl hl.1 rfl (lv_room (Nat.le_of_ble_eq_true rfl)) dX11_doneIn_11 ⟨Nat.le_of_ble_eq_true rfl, Nat.le_of_ble_eq_true rfl⟩) hP hD hS hA [0, 1] [2, 3] rfl rfl (by decide) (by decide) ?_
  clear hP hD hS
  intro r_6 u_8 H locs w_7 hP hD hS
  replace hP : va_P D vwCl [(k6, .inl (cI, 4, .inl c6)), (k7, .inl (cI, 144, .inl c7)), (k, .inr (11, [.ref k0, .ref k1, .ref k2, .int c3, .ref k4, .ref k5, .ref k6, .ref k7, .ref k8, .int c9, .ref ka, .ref kb, .int cc, .int cd, .int ce, .int cf, .int cg, .int ch, .int ci, .int cj, .int ck, .ref kl, .int cm, .int cn, .ref ko])), (k0, .inl (cI, 1201, .inl c0))] H := hP
  replace hD : va_D A [(k6, .inl (cI, 4, .inl c6)), (k7, .inl (cI, 144, .inl c7)), (k, .inr (11, [.ref k0, .ref k1, .ref k2, .int c3, .ref k4, .ref k5, .ref k6, .ref k7, .ref k8, .int c9, .ref ka, .ref kb, .int cc, .int cd, .int ce, .int cf, .int cg, .int ch, .int ci, .int cj, .int ck, .ref kl, .int cm, .int cn, .ref ko])), (k0, .inl (cI, 1201, .inl c0))] := hD
  have h_9 := w_7
  have h_9 : r_6 = pW c0 a0 1 := h_9
  have t_10 : r_6.toInt = (pW c0 a0 1).toInt := by rw [h_9]
  have lo_r_6 := k_lo r_6
  have hi_r_6 := k_hi r_6
  refine lv_istore (lv' := [(6, .int r_6), (5, .int v_4), (0, .ref k), (1, .int a0), (2, .int a1), (3, .int a2), (4, .int a3)]) hx hb dX11_doneIn_14 hl (by decide) rfl ?_
  clear hl
  intro ls hl
  refine lv_aload_n hx hb dX11_doneIn_16 rfl (lv_at hl 2 rfl) ?_
  refine lv_iload_n hx hb dX11_doneIn_17 rfl (lv_at hl 3 rfl) ?_
  refine lv_iconst (v := 2) hx hb dX11_doneIn_18 (by decide) ?_
  refine kJi (wr := [(k6, .inl (cI, 4, .inl c6)), (k7, .inl (cI, 144, .inl c7))]) (va_runV (As := [.int a0, .int 2]) (rest := []) ⟨hx, hb, hml, hown, hT⟩ (c_X11_partyG2 l D cI aK aV k k0 k1 k2 k4 k5 k6 k7 k8 ka kb kl ko H.size c3 c9 cc cd ce cf cg ch ci cj ck cm cn c0 a0 2 (by first | omega | (simp only [zl_2] <;> omega) | decide | assumption | rfl) (by first | omega | (simp only [zl_2] <;> omega) | decide | assumption | rfl) (by first | omega | (simp only [zl_2] <;> omega) | decide | assumption | rfl)) (cwV 2 hT (gV_in mw_1416 mw_1413 mw_1415 mw_p5_5 mw_12) rfl rfl rfl (by decide +kernel) ⟨Nat.le_of_ble_eq_true rfl, Nat.le_of_ble_eq_true rfl⟩) (kRecvX (q0 := 2) (ci := 11) hK hP hD hN hXS hS hA rfl rfl [2, 3] rfl (by decide)) rfl rfl hl.1 rfl (lv_room (Nat.le_of_ble_eq_true rfl)) dX11_doneIn_19 ⟨Nat.le_of_ble_eq_true rfl, Nat.le_of_ble_eq_true rfl⟩) hP hD hS hA [2, 3] [0, 1] rfl rfl (by decide) (by decide) ?_
  clear hP hD hS
  intro r_11 u_13 H locs w_12 hP hD hS
  replace hP : va_P D vwCl [(k6, .inl (cI, 4, .inl c6)), (k7, .inl (cI, 144, .inl c7)), (k, .inr (11, [.ref k0, .ref k1, .ref k2, .int c3, .ref k4, .ref k5, .ref k6, .ref k7, .ref k8, .int c9, .ref ka, .ref kb, .int cc, .int cd, .int ce, .int cf, .int cg, .int ch, .int ci, .int cj, .int ck, .ref kl, .int cm, .int cn, .ref ko])), (k0, .inl (cI, 1201, .inl c0))] H := hP
  replace hD : va_D A [(k6, .inl (cI, 4, .inl c6)), (k7, .inl (cI, 144, .inl c7)), (k, .inr (11, [.ref k0, .ref k1, .ref k2, .int c3, .ref k4, .ref k5, .ref k6, .ref k7, .ref k8, .int c9, .ref ka, .ref kb, .int cc, .int cd, .int ce, .int cf, .int cg, .int ch, .int ci, .int cj, .int ck, .ref kl, .int cm, .int cn, .ref ko])), (k0, .inl (cI, 1201, .inl c0))] := hD
  have h_14 := w_12
  have h_14 : r_11 = pW c0 a0 2 := h_14
  have t_15 : r_11.toInt = (pW c0 a0 2).toInt := by rw [h_14]
  have b_16 : 0 ≤ r_11.toInt ∧ r_11.toInt ≤ 50 := by rw [h_14]; exact SB.p2 pre0 (by omega) (by omega)
  have lo_r_11 := k_lo r_11
  have hi_r_11 := k_hi r_11
  refine lv_istore (lv' := [(7, .int r_11), (6, .int r_6), (5, .int v_4), (0, .ref k), (1, .int a0), (2, .int a1), (3, .int a2), (4, .int a3)]) hx hb dX11_doneIn_22 hl (by decide) rfl ?_
  clear hl
  intro ls hl
  refine lv_aload_n hx hb dX11_doneIn_24 rfl (lv_at hl 3 rfl) ?_
  refine lv_iload_n hx hb dX11_doneIn_25 rfl (lv_at hl 4 rfl) ?_
  refine lv_iconst (v := 0) hx hb dX11_doneIn_26 (by decide) ?_
  refine kJi (wr := [(k6, .inl (cI, 4, .inl c6)), (k7, .inl (cI, 144, .inl c7))]) (va_runV (As := [.int a0, .int 0]) (rest := []) ⟨hx, hb, hml, hown, hT⟩ (c_X11_partyG0 l D cI aK aV k k0 k1 k2 k4 k5 k6 k7 k8 ka kb kl ko H.size c3 c9 cc cd ce cf cg ch ci cj ck cm cn c0 a0 0 (by first | omega | (simp only [zl_0] <;> omega) | decide | assumption | rfl) (by first | omega | (simp only [zl_0] <;> omega) | decide | assumption | rfl) (by first | omega | (simp only [zl_0] <;> omega) | decide | assumption | rfl)) (cwV 2 hT (gV_in mw_1416 mw_1413 mw_1415 mw_p5_5 mw_12) rfl rfl rfl (by decide +kernel) ⟨Nat.le_of_ble_eq_true rfl, Nat.le_of_ble_eq_true rfl⟩) (kRecvX (q0 := 2) (ci := 11) hK hP hD hN hXS hS hA rfl rfl [2, 3] rfl (by decide)) rfl rfl hl.1 rfl (lv_room (Nat.le_of_ble_eq_true rfl)) dX11_doneIn_27 ⟨Nat.le_of_ble_eq_true rfl, Nat.le_of_ble_eq_true rfl⟩) hP hD hS hA [2, 3] [0, 1] rfl rfl (by decide) (by decide) ?_
  clear hP hD hS
  intro r_17 u_19 H locs w_18 hP hD hS
  replace hP : va_P D vwCl [(k6, .inl (cI, 4, .inl c6)), (k7, .inl (cI, 144, .inl c7)), (k, .inr (11, [.ref k0, .ref k1, .ref k2, .int c3, .ref k4, .ref k5, .ref k6, .ref k7, .ref k8, .int c9, .ref ka, .ref kb, .int cc, .int cd, .int ce, .int cf, .int cg, .int ch, .int ci, .int cj, .int ck, .ref kl, .int cm, .int cn, .ref ko])), (k0, .inl (cI, 1201, .inl c0))] H := hP
  replace hD : va_D A [(k6, .inl (cI, 4, .inl c6)), (k7, .inl (cI, 144, .inl c7)), (k, .inr (11, [.ref k0, .ref k1, .ref k2, .int c3, .ref k4, .ref k5, .ref k6, .ref k7, .ref k8, .int c9, .ref ka, .ref kb, .int cc, .int cd, .int ce, .int cf, .int cg, .int ch, .int ci, .int cj, .int ck, .ref kl, .int cm, .int cn, .ref ko])), (k0, .inl (cI, 1201, .inl c0))] := hD
  have h_20 := w_18
  have h_20 : r_17 = pW c0 a0 0 := h_20
  have t_21 : r_17.toInt = (pW c0 a0 0).toInt := by rw [h_20]
  have b_22 : 0 ≤ r_17.toInt ∧ r_17.toInt ≤ 39 := by rw [h_20]; exact SB.p0 pre0 (by omega) (by omega)
  have lo_r_17 := k_lo r_17
  have hi_r_17 := k_hi r_17
  refine lv_istore (lv' := [(8, .int r_17), (7, .int r_11), (6, .int r_6), (5, .int v_4), (0, .ref k), (1, .int a0), (2, .int a1), (3, .int a2), (4, .int a3)]) hx hb dX11_doneIn_30 hl (by decide) rfl ?_
  clear hl
  intro ls hl
  have hloop_32 : ∀ (fu_ : Nat) (l32_5 : Int32) (l32_8 : Int32), v_4.toInt ≤ l32_5.toInt → r_17.toInt ≤ l32_8.toInt → (pW c0 a0 0).toInt ≤ l32_8.toInt → l32_8.toInt ≤ a1.toInt + 1 → 0 ≤ l32_5.toInt → l32_5.toInt + 111 * (pW c0 a0 0).toInt ≤ 2000 + 111 * l32_8.toInt → (a1.toInt + 1 - l32_8.toInt).toNat < fu_ → ∀ (ls : Array Slot) (H : Heap) (locs : List Loc), lv_has ls 10 [(8, .int l32_8), (7, .int r_11), (6, .int r_6), (5, .int l32_5), (0, .ref k), (1, .int a0), (2, .int a1), (3, .int a2), (4, .int a3)] → va_P D vwCl [(k6, .inl (cI, 4, .inl c6)), (k7, .inl (cI, 144, .inl c7)), (k, .inr (11, [.ref k0, .ref k1, .ref k2, .int c3, .ref k4, .ref k5, .ref k6, .ref k7, .ref k8, .int c9, .ref ka, .ref kb, .int cc, .int cd, .int ce, .int cf, .int cg, .int ch, .int ci, .int cj, .int ck, .ref kl, .int cm, .int cn, .ref ko])), (k0, .inl (cI, 1201, .inl c0))] H → va_D A [(k6, .inl (cI, 4, .inl c6)), (k7, .inl (cI, 144, .inl c7)), (k, .inr (11, [.ref k0, .ref k1, .ref k2, .int c3, .ref k4, .ref k5, .ref k6, .ref k7, .ref k8, .int c9, .ref ka, .ref kb, .int cc, .int cd, .int ce, .int cf, .int cg, .int ch, .int ci, .int cj, .int ck, .ref kl, .int cm, .int cn, .ref ko])), (k0, .inl (cI, 1201, .inl c0))] → va_S A s.heap H locs → W p l e ({ frames := 1, cells := 0, slots := 0, locals := 23 } : Room) s m args below meth c H locs 0 0 Q (F0 m 32 ls []) := by
    intro fu_; induction fu_ with
    | zero => intro l32_5 l32_8 i32_0 i32_1 i32_2 i32_3 i32_4 i32_5 hm; exact absurd hm (by omega)
    | succ fu_ ih32 =>
        intro l32_5 l32_8 i32_0 i32_1 i32_2 i32_3 i32_4 i32_5 hm ls H locs hl hP hD hS
        have lo_l32_5 := k_lo l32_5
        have hi_l32_5 := k_hi l32_5
        have lo_l32_8 := k_lo l32_8
        have hi_l32_8 := k_hi l32_8
        refine lv_iload hx hb dX11_doneIn_32 (lv_at hl 0 rfl) ?_
        refine lv_iload_n hx hb dX11_doneIn_34 rfl (lv_at hl 6 rfl) ?_
        refine lv_iload hx hb dX11_doneIn_35 (lv_at hl 2 rfl) ?_
        refine lv_iadd hx hb dX11_doneIn_37 ?_
        refine lv_topi (fun v_23 ev_23 => ?_)
        have tv_23 : v_23.toInt = a1.toInt + r_6.toInt := by rw [ev_23]; exact k_addv rfl rfl (by omega) (by omega)
        refine b_icmp_eq hx hb rfl rfl (tgt := 114) dX11_doneIn_38 (by decide) (fun c_24 => ?_) (fun c_24 => ?_)
        · refine lv_iload hx hb dX11_doneIn_114 (lv_at hl 3 rfl) ?_
          refine lv_aload_n hx hb dX11_doneIn_116 rfl (lv_at hl 4 rfl) ?_
          refine va_get (D := D) (ci := 11) (v := .ref k0) (C := RX11) (T := TX11) (N := 25) hx hb hT giX11 hown hK hP 2 rfl rfl 0 (by decide) (hT (Cond.fieldLink RX11 9 "DesertWireModel" "s" "[I") mw_1156) (fun _ h9 => h9) rfl dX11_doneIn_117 ?_
          refine lv_iconst (v := 0) hx hb dX11_doneIn_120 (by decide) ?_
          refine k_iald (v := (c0 0)) hx hb hK hP 3 0 rfl rfl (k_inl (by decide)) rfl dX11_doneIn_121 ?_
          refine lv_topi (fun v_25 ev_25 => ?_)
          have lo_v_25 := k_lo v_25
          have hi_v_25 := k_hi v_25
          have tv_25 : v_25.toInt = (c0 0).toInt := by rw [ev_25]
          have b_26 : 0 ≤ v_25.toInt ∧ v_25.toInt ≤ 2000 := by first | (rw [tv_25]; exact SB.n0 pre0) | exact SB.n0 pre0 | omega
          refine lv_isub hx hb dX11_doneIn_122 ?_
          refine lv_topi (fun v_27 ev_27 => ?_)
          have tv_27 : v_27.toInt = l32_5.toInt - v_25.toInt := by rw [ev_27]; exact k_subv rfl rfl (by omega) (by omega)
          exact hRet () [2, 3, 0, 1] trivial hP hD (by decide) rfl hS rfl dX11_doneIn_123
        · refine lv_iload hx hb dX11_doneIn_41 (lv_at hl 3 rfl) ?_
          refine lv_iload hx hb dX11_doneIn_43 (lv_at hl 0 rfl) ?_
          refine lv_aload_n hx hb dX11_doneIn_45 rfl (lv_at hl 4 rfl) ?_
          refine lv_iload_n hx hb dX11_doneIn_46 rfl (lv_at hl 5 rfl) ?_
          refine lv_iconst (v := 0) hx hb dX11_doneIn_47 (by decide) ?_
          refine kJi (wr := [(k6, .inl (cI, 4, .inl c6)), (k7, .inl (cI, 144, .inl c7))]) (va_runV (As := [.int a0, .int 0]) (rest := [.int l32_8, .int l32_5]) ⟨hx, hb, hml, hown, hT⟩ (c_X11_partyG0 l D cI aK aV k k0 k1 k2 k4 k5 k6 k7 k8 ka kb kl ko H.size c3 c9 cc cd ce cf cg ch ci cj ck cm cn c0 a0 0 (by first | omega | (simp only [zl_0] <;> omega) | decide | assumption | rfl) (by first | omega | (simp only [zl_0] <;> omega) | decide | assumption | rfl) (by first | omega | (simp only [zl_0] <;> omega) | decide | assumption | rfl)) (cwV 2 hT (gV_in mw_1416 mw_1413 mw_1415 mw_p5_5 mw_12) rfl rfl rfl (by decide +kernel) ⟨Nat.le_of_ble_eq_true rfl, Nat.le_of_ble_eq_true rfl⟩) (kRecvX (q0 := 2) (ci := 11) hK hP hD hN hXS hS hA rfl rfl [2, 3] rfl (by decide)) rfl rfl hl.1 rfl (lv_room (Nat.le_of_ble_eq_true rfl)) dX11_doneIn_48 ⟨Nat.le_of_ble_eq_true rfl, Nat.le_of_ble_eq_true rfl⟩) hP hD hS hA [2, 3] [0, 1] rfl rfl (by decide) (by decide) ?_
          clear hP hD hS
          intro r_28 u_30 H locs w_29 hP hD hS
          replace hP : va_P D vwCl [(k6, .inl (cI, 4, .inl c6)), (k7, .inl (cI, 144, .inl c7)), (k, .inr (11, [.ref k0, .ref k1, .ref k2, .int c3, .ref k4, .ref k5, .ref k6, .ref k7, .ref k8, .int c9, .ref ka, .ref kb, .int cc, .int cd, .int ce, .int cf, .int cg, .int ch, .int ci, .int cj, .int ck, .ref kl, .int cm, .int cn, .ref ko])), (k0, .inl (cI, 1201, .inl c0))] H := hP
          replace hD : va_D A [(k6, .inl (cI, 4, .inl c6)), (k7, .inl (cI, 144, .inl c7)), (k, .inr (11, [.ref k0, .ref k1, .ref k2, .int c3, .ref k4, .ref k5, .ref k6, .ref k7, .ref k8, .int c9, .ref ka, .ref kb, .int cc, .int cd, .int ce, .int cf, .int cg, .int ch, .int ci, .int cj, .int ck, .ref kl, .int cm, .int cn, .ref ko])), (k0, .inl (cI, 1201, .inl c0))] := hD
          have h_31 := w_29
          have h_31 : r_28 = pW c0 a0 0 := h_31
          have t_32 : r_28.toInt = (pW c0 a0 0).toInt := by rw [h_31]
          have b_33 : 0 ≤ r_28.toInt ∧ r_28.toInt ≤ 39 := by rw [h_31]; exact SB.p0 pre0 (by omega) (by omega)
          have lo_r_28 := k_lo r_28
          have hi_r_28 := k_hi r_28
          refine b_icmp_ne hx hb rfl rfl (tgt := 58) dX11_doneIn_51 (by decide) (fun c_34 => ?_) (fun c_34 => ?_)
          · refine lv_iconst (v := 1) hx hb dX11_doneIn_58 (by decide) ?_
            refine lv_iadd hx hb dX11_doneIn_59 ?_
            refine lv_topi (fun v_35 ev_35 => ?_)
            have tv_35 : v_35.toInt = l32_5.toInt + 1 := by rw [ev_35]; exact k_addv rfl zl_1 (by omega) (by omega)
            refine lv_istore (lv' := [(5, .int v_35), (8, .int l32_8), (7, .int r_11), (6, .int r_6), (0, .ref k), (1, .int a0), (2, .int a1), (3, .int a2), (4, .int a3)]) hx hb dX11_doneIn_60 hl (by decide) rfl ?_
            clear hl
            intro ls hl
            refine lv_aload_n hx hb dX11_doneIn_62 rfl (lv_at hl 4 rfl) ?_
            refine lv_iload_n hx hb dX11_doneIn_63 rfl (lv_at hl 7 rfl) ?_
            refine lv_bipush (v := 12) hx hb dX11_doneIn_64 (by decide) ?_
            refine lv_iload hx hb dX11_doneIn_66 (lv_at hl 8 rfl) ?_
            refine lv_imul hx hb dX11_doneIn_68 ?_
            refine lv_topi (fun v_36 ev_36 => ?_)
            have tv_36 : v_36.toInt = 12 * a3.toInt := by rw [ev_36]; exact k_mulv zl_12 rfl (by omega) (by omega)
            refine lv_iload hx hb dX11_doneIn_69 (lv_at hl 0 rfl) ?_
            refine lv_bipush (v := 30) hx hb dX11_doneIn_71 (by decide) ?_
            refine lv_idiv hx hb dX11_doneIn_73 (by decide) ?_
            refine lv_topi (fun v_37 ev_37 => ?_)
            have tv_37 : v_37.toInt = v_35.toInt / 30 := k_divv (w := 0) ev_37 zl_30 (by omega) (by decide)
            have lo_v_37 := k_lo v_37
            have hi_v_37 := k_hi v_37
            refine lv_bipush (v := 12) hx hb dX11_doneIn_74 (by decide) ?_
            refine lv_irem hx hb dX11_doneIn_76 (by decide) ?_
            refine lv_topi (fun v_38 ev_38 => ?_)
            have tv_38 : v_38.toInt = v_37.toInt % 12 := k_remv (w := 0) ev_38 zl_12 (by omega) (by decide)
            have lo_v_38 := k_lo v_38
            have hi_v_38 := k_hi v_38
            refine lv_iadd hx hb dX11_doneIn_77 ?_
            refine lv_topi (fun v_39 ev_39 => ?_)
            have tv_39 : v_39.toInt = v_36.toInt + v_38.toInt := by rw [ev_39]; exact k_addv rfl rfl (by omega) (by omega)
            refine kJi (wr := [(k6, .inl (cI, 4, .inl c6)), (k0, .inl (cI, 1201, .inl c0))]) (va_runV (As := [.int a2, .int v_39]) (rest := []) ⟨hx, hb, hml, hown, hT⟩ (c_X11_atG l D cI aK aV k k0 k1 k2 k4 k5 k6 k7 k8 ka kb kl ko H.size c3 c9 cc cd ce cf cg ch ci cj ck cm cn c7 a2 v_39 (by first | omega | decide | assumption | rfl) (by first | omega | decide | assumption | rfl) (by first | omega | decide | assumption | rfl) (by first | omega | decide | assumption | rfl)) (cwV 2 hT (gV_in mw_1396 mw_1393 mw_1395 mw_p5_2 mw_12) rfl rfl rfl (by decide +kernel) ⟨Nat.le_of_ble_eq_true rfl, Nat.le_of_ble_eq_true rfl⟩) (kRecvX (q0 := 2) (ci := 11) hK hP hD hN hXS hS hA rfl rfl [2, 1] rfl (by decide)) rfl rfl hl.1 rfl (lv_room (Nat.le_of_ble_eq_true rfl)) dX11_doneIn_78 ⟨Nat.le_of_ble_eq_true rfl, Nat.le_of_ble_eq_true rfl⟩) hP hD hS hA [2, 1] [0, 3] rfl rfl (by decide) (by decide) ?_
            clear hP hD hS
            intro r_40 u_42 H locs w_41 hP hD hS
            replace hP : va_P D vwCl [(k6, .inl (cI, 4, .inl c6)), (k0, .inl (cI, 1201, .inl c0)), (k, .inr (11, [.ref k0, .ref k1, .ref k2, .int c3, .ref k4, .ref k5, .ref k6, .ref k7, .ref k8, .int c9, .ref ka, .ref kb, .int cc, .int cd, .int ce, .int cf, .int cg, .int ch, .int ci, .int cj, .int ck, .ref kl, .int cm, .int cn, .ref ko])), (k7, .inl (cI, 144, .inl c7))] H := hP
            replace hD : va_D A [(k6, .inl (cI, 4, .inl c6)), (k0, .inl (cI, 1201, .inl c0)), (k, .inr (11, [.ref k0, .ref k1, .ref k2, .int c3, .ref k4, .ref k5, .ref k6, .ref k7, .ref k8, .int c9, .ref ka, .ref kb, .int cc, .int cd, .int ce, .int cf, .int cg, .int ch, .int ci, .int cj, .int ck, .ref kl, .int cm, .int cn, .ref ko])), (k7, .inl (cI, 144, .inl c7))] := hD
            have h_43 := w_41
            have h_43 : r_40 = c7 (36 * a2.toInt.toNat + v_39.toInt.toNat) := h_43
            have h_43 : r_40 = c7 (36 * a2.toInt.toNat + v_39.toInt.toNat) := h_43
            have b_44 : 0 ≤ r_40.toInt ∧ r_40.toInt ≤ 9 := by rw [h_43]; exact pre10 v_39.toInt.toNat (by omega)
            have lo_r_40 := k_lo r_40
            have hi_r_40 := k_hi r_40
            refine lv_istore (lv' := [(9, .int r_40), (5, .int v_35), (8, .int l32_8), (7, .int r_11), (6, .int r_6), (0, .ref k), (1, .int a0), (2, .int a1), (3, .int a2), (4, .int a3)]) hx hb dX11_doneIn_81 hl (by decide) rfl ?_
            clear hl
            intro ls hl
            refine lv_iload hx hb dX11_doneIn_83 (lv_at hl 1 rfl) ?_
            refine lv_aload_n hx hb dX11_doneIn_85 rfl (lv_at hl 5 rfl) ?_
            refine lv_iload hx hb dX11_doneIn_86 (lv_at hl 2 rfl) ?_
            refine lv_iload hx hb dX11_doneIn_88 (lv_at hl 0 rfl) ?_
            refine kJi (wr := [(k6, .inl (cI, 4, .inl c6)), (k7, .inl (cI, 144, .inl c7))]) (va_runV (As := [.int l32_8, .int r_40]) (rest := [.int v_35]) ⟨hx, hb, hml, hown, hT⟩ (c_X11_effortH l D cI aK aV k k0 k1 k2 k4 k5 k6 k7 k8 ka kb kl ko H.size c3 c9 cc cd ce cf cg ch ci cj ck cm cn c0 l32_8 r_40 pre0 (by first | omega | decide | assumption | rfl) (by first | omega | decide | assumption | rfl) (by first | omega | decide | assumption | rfl) (by first | omega | decide | assumption | rfl)) (cwV 2 hT (gV_in mw_1380 mw_1377 mw_1379 mw_p5_0 mw_12) rfl rfl rfl (by decide +kernel) ⟨Nat.le_of_ble_eq_true rfl, Nat.le_of_ble_eq_true rfl⟩) (kRecvX (q0 := 2) (ci := 11) hK hP hD hN hXS hS hA rfl rfl [2, 1] rfl (by decide)) rfl rfl hl.1 rfl (lv_room (Nat.le_of_ble_eq_true rfl)) dX11_doneIn_90 ⟨Nat.le_of_ble_eq_true rfl, Nat.le_of_ble_eq_true rfl⟩) hP hD hS hA [2, 1] [0, 3] rfl rfl (by decide) (by decide) ?_
            clear hP hD hS
            intro r_45 u_47 H locs w_46 hP hD hS
            replace hP : va_P D vwCl [(k6, .inl (cI, 4, .inl c6)), (k7, .inl (cI, 144, .inl c7)), (k, .inr (11, [.ref k0, .ref k1, .ref k2, .int c3, .ref k4, .ref k5, .ref k6, .ref k7, .ref k8, .int c9, .ref ka, .ref kb, .int cc, .int cd, .int ce, .int cf, .int cg, .int ch, .int ci, .int cj, .int ck, .ref kl, .int cm, .int cn, .ref ko])), (k0, .inl (cI, 1201, .inl c0))] H := hP
            replace hD : va_D A [(k6, .inl (cI, 4, .inl c6)), (k7, .inl (cI, 144, .inl c7)), (k, .inr (11, [.ref k0, .ref k1, .ref k2, .int c3, .ref k4, .ref k5, .ref k6, .ref k7, .ref k8, .int c9, .ref ka, .ref kb, .int cc, .int cd, .int ce, .int cf, .int cg, .int ch, .int ci, .int cj, .int ck, .ref kl, .int cm, .int cn, .ref ko])), (k0, .inl (cI, 1201, .inl c0))] := hD
            obtain ⟨h_48, h_49⟩ := w_46
            have h_48 : 10 ≤ r_45.toInt := h_48
            have h_49 : r_45.toInt ≤ 110 := h_49
            have lo_r_45 := k_lo r_45
            have hi_r_45 := k_hi r_45
            refine lv_iload hx hb dX11_doneIn_93 (lv_at hl 3 rfl) ?_
            refine lv_iadd hx hb dX11_doneIn_95 ?_
            refine lv_topi (fun v_50 ev_50 => ?_)
            have tv_50 : v_50.toInt = r_45.toInt + r_11.toInt := by rw [ev_50]; exact k_addv rfl rfl (by omega) (by omega)
            refine lv_iconst (v := 1) hx hb dX11_doneIn_96 (by decide) ?_
            refine lv_isub hx hb dX11_doneIn_97 ?_
            refine lv_topi (fun v_51 ev_51 => ?_)
            have tv_51 : v_51.toInt = v_50.toInt - 1 := by rw [ev_51]; exact k_subv rfl zl_1 (by omega) (by omega)
            refine lv_iload hx hb dX11_doneIn_98 (lv_at hl 3 rfl) ?_
            refine lv_idiv hx hb dX11_doneIn_100 (k_ne0 (by omega)) ?_
            refine lv_topi (fun v_52 ev_52 => ?_)
            have lo_v_52 := k_lo v_52
            have hi_v_52 := k_hi v_52
            have q_53 := k_ceil (e := r_45) ev_52 (by omega) (by omega) (by omega)
            refine lv_iadd hx hb dX11_doneIn_101 ?_
            refine lv_topi (fun v_54 ev_54 => ?_)
            have tv_54 : v_54.toInt = v_35.toInt + v_52.toInt := by rw [ev_54]; exact k_addv rfl rfl (by omega) (by omega)
            refine lv_istore (lv' := [(5, .int v_54), (9, .int r_40), (8, .int l32_8), (7, .int r_11), (6, .int r_6), (0, .ref k), (1, .int a0), (2, .int a1), (3, .int a2), (4, .int a3)]) hx hb dX11_doneIn_102 hl (by decide) rfl ?_
            clear hl
            intro ls hl
            refine lv_iload hx hb dX11_doneIn_104 (lv_at hl 2 rfl) ?_
            refine lv_iload hx hb dX11_doneIn_106 (lv_at hl 4 rfl) ?_
            refine lv_iadd hx hb dX11_doneIn_108 ?_
            refine lv_topi (fun v_55 ev_55 => ?_)
            have tv_55 : v_55.toInt = l32_8.toInt + r_6.toInt := by rw [ev_55]; exact k_addv rfl rfl (by omega) (by omega)
            refine lv_istore (lv' := [(8, .int v_55), (5, .int v_54), (9, .int r_40), (7, .int r_11), (6, .int r_6), (0, .ref k), (1, .int a0), (2, .int a1), (3, .int a2), (4, .int a3)]) hx hb dX11_doneIn_109 hl (by decide) rfl ?_
            clear hl
            intro ls hl
            refine lv_goto (tgt := 32) hx hb dX11_doneIn_111 (by decide) ?_
            exact ih32 v_54 v_55 (by first | omega | decide | assumption | rfl) (by first | omega | decide | assumption | rfl) (by first | omega | decide | assumption | rfl) (by first | omega | decide | assumption | rfl) (by first | omega | decide | assumption | rfl) (by first | omega | decide | assumption | rfl) (by omega) ls _ _ (lv_sub hl [0, 3, 4, 1, 5, 6, 7, 8, 9] rfl) (hP.sub [0, 1, 2, 3] rfl) (hD.sub [0, 1, 2, 3] (by decide) rfl) hS
          · refine lv_iconst (v := 0) hx hb dX11_doneIn_54 (by decide) ?_
            refine lv_goto (tgt := 59) hx hb dX11_doneIn_55 (by decide) ?_
            refine lv_iadd hx hb dX11_doneIn_59 ?_
            refine lv_topi (fun v_56 ev_56 => ?_)
            have tv_56 : v_56.toInt = l32_5.toInt + 0 := by rw [ev_56]; exact k_addv rfl zl_0 (by omega) (by omega)
            refine lv_istore (lv' := [(5, .int v_56), (8, .int l32_8), (7, .int r_11), (6, .int r_6), (0, .ref k), (1, .int a0), (2, .int a1), (3, .int a2), (4, .int a3)]) hx hb dX11_doneIn_60 hl (by decide) rfl ?_
            clear hl
            intro ls hl
            refine lv_aload_n hx hb dX11_doneIn_62 rfl (lv_at hl 4 rfl) ?_
            refine lv_iload_n hx hb dX11_doneIn_63 rfl (lv_at hl 7 rfl) ?_
            refine lv_bipush (v := 12) hx hb dX11_doneIn_64 (by decide) ?_
            refine lv_iload hx hb dX11_doneIn_66 (lv_at hl 8 rfl) ?_
            refine lv_imul hx hb dX11_doneIn_68 ?_
            refine lv_topi (fun v_57 ev_57 => ?_)
            have tv_57 : v_57.toInt = 12 * a3.toInt := by rw [ev_57]; exact k_mulv zl_12 rfl (by omega) (by omega)
            refine lv_iload hx hb dX11_doneIn_69 (lv_at hl 0 rfl) ?_
            refine lv_bipush (v := 30) hx hb dX11_doneIn_71 (by decide) ?_
            refine lv_idiv hx hb dX11_doneIn_73 (by decide) ?_
            refine lv_topi (fun v_58 ev_58 => ?_)
            have tv_58 : v_58.toInt = v_56.toInt / 30 := k_divv (w := 0) ev_58 zl_30 (by omega) (by decide)
            have lo_v_58 := k_lo v_58
            have hi_v_58 := k_hi v_58
            refine lv_bipush (v := 12) hx hb dX11_doneIn_74 (by decide) ?_
            refine lv_irem hx hb dX11_doneIn_76 (by decide) ?_
            refine lv_topi (fun v_59 ev_59 => ?_)
            have tv_59 : v_59.toInt = v_58.toInt % 12 := k_remv (w := 0) ev_59 zl_12 (by omega) (by decide)
            have lo_v_59 := k_lo v_59
            have hi_v_59 := k_hi v_59
            refine lv_iadd hx hb dX11_doneIn_77 ?_
            refine lv_topi (fun v_60 ev_60 => ?_)
            have tv_60 : v_60.toInt = v_57.toInt + v_59.toInt := by rw [ev_60]; exact k_addv rfl rfl (by omega) (by omega)
            refine kJi (wr := [(k6, .inl (cI, 4, .inl c6)), (k0, .inl (cI, 1201, .inl c0))]) (va_runV (As := [.int a2, .int v_60]) (rest := []) ⟨hx, hb, hml, hown, hT⟩ (c_X11_atG l D cI aK aV k k0 k1 k2 k4 k5 k6 k7 k8 ka kb kl ko H.size c3 c9 cc cd ce cf cg ch ci cj ck cm cn c7 a2 v_60 (by first | omega | decide | assumption | rfl) (by first | omega | decide | assumption | rfl) (by first | omega | decide | assumption | rfl) (by first | omega | decide | assumption | rfl)) (cwV 2 hT (gV_in mw_1396 mw_1393 mw_1395 mw_p5_2 mw_12) rfl rfl rfl (by decide +kernel) ⟨Nat.le_of_ble_eq_true rfl, Nat.le_of_ble_eq_true rfl⟩) (kRecvX (q0 := 2) (ci := 11) hK hP hD hN hXS hS hA rfl rfl [2, 1] rfl (by decide)) rfl rfl hl.1 rfl (lv_room (Nat.le_of_ble_eq_true rfl)) dX11_doneIn_78 ⟨Nat.le_of_ble_eq_true rfl, Nat.le_of_ble_eq_true rfl⟩) hP hD hS hA [2, 1] [0, 3] rfl rfl (by decide) (by decide) ?_
            clear hP hD hS
            intro r_61 u_63 H locs w_62 hP hD hS
            replace hP : va_P D vwCl [(k6, .inl (cI, 4, .inl c6)), (k0, .inl (cI, 1201, .inl c0)), (k, .inr (11, [.ref k0, .ref k1, .ref k2, .int c3, .ref k4, .ref k5, .ref k6, .ref k7, .ref k8, .int c9, .ref ka, .ref kb, .int cc, .int cd, .int ce, .int cf, .int cg, .int ch, .int ci, .int cj, .int ck, .ref kl, .int cm, .int cn, .ref ko])), (k7, .inl (cI, 144, .inl c7))] H := hP
            replace hD : va_D A [(k6, .inl (cI, 4, .inl c6)), (k0, .inl (cI, 1201, .inl c0)), (k, .inr (11, [.ref k0, .ref k1, .ref k2, .int c3, .ref k4, .ref k5, .ref k6, .ref k7, .ref k8, .int c9, .ref ka, .ref kb, .int cc, .int cd, .int ce, .int cf, .int cg, .int ch, .int ci, .int cj, .int ck, .ref kl, .int cm, .int cn, .ref ko])), (k7, .inl (cI, 144, .inl c7))] := hD
            have h_64 := w_62
            have h_64 : r_61 = c7 (36 * a2.toInt.toNat + v_60.toInt.toNat) := h_64
            have h_64 : r_61 = c7 (36 * a2.toInt.toNat + v_60.toInt.toNat) := h_64
            have b_65 : 0 ≤ r_61.toInt ∧ r_61.toInt ≤ 9 := by rw [h_64]; exact pre10 v_60.toInt.toNat (by omega)
            have lo_r_61 := k_lo r_61
            have hi_r_61 := k_hi r_61
            refine lv_istore (lv' := [(9, .int r_61), (5, .int v_56), (8, .int l32_8), (7, .int r_11), (6, .int r_6), (0, .ref k), (1, .int a0), (2, .int a1), (3, .int a2), (4, .int a3)]) hx hb dX11_doneIn_81 hl (by decide) rfl ?_
            clear hl
            intro ls hl
            refine lv_iload hx hb dX11_doneIn_83 (lv_at hl 1 rfl) ?_
            refine lv_aload_n hx hb dX11_doneIn_85 rfl (lv_at hl 5 rfl) ?_
            refine lv_iload hx hb dX11_doneIn_86 (lv_at hl 2 rfl) ?_
            refine lv_iload hx hb dX11_doneIn_88 (lv_at hl 0 rfl) ?_
            refine kJi (wr := [(k6, .inl (cI, 4, .inl c6)), (k7, .inl (cI, 144, .inl c7))]) (va_runV (As := [.int l32_8, .int r_61]) (rest := [.int v_56]) ⟨hx, hb, hml, hown, hT⟩ (c_X11_effortH l D cI aK aV k k0 k1 k2 k4 k5 k6 k7 k8 ka kb kl ko H.size c3 c9 cc cd ce cf cg ch ci cj ck cm cn c0 l32_8 r_61 pre0 (by first | omega | decide | assumption | rfl) (by first | omega | decide | assumption | rfl) (by first | omega | decide | assumption | rfl) (by first | omega | decide | assumption | rfl)) (cwV 2 hT (gV_in mw_1380 mw_1377 mw_1379 mw_p5_0 mw_12) rfl rfl rfl (by decide +kernel) ⟨Nat.le_of_ble_eq_true rfl, Nat.le_of_ble_eq_true rfl⟩) (kRecvX (q0 := 2) (ci := 11) hK hP hD hN hXS hS hA rfl rfl [2, 1] rfl (by decide)) rfl rfl hl.1 rfl (lv_room (Nat.le_of_ble_eq_true rfl)) dX11_doneIn_90 ⟨Nat.le_of_ble_eq_true rfl, Nat.le_of_ble_eq_true rfl⟩) hP hD hS hA [2, 1] [0, 3] rfl rfl (by decide) (by decide) ?_
            clear hP hD hS
            intro r_66 u_68 H locs w_67 hP hD hS
            replace hP : va_P D vwCl [(k6, .inl (cI, 4, .inl c6)), (k7, .inl (cI, 144, .inl c7)), (k, .inr (11, [.ref k0, .ref k1, .ref k2, .int c3, .ref k4, .ref k5, .ref k6, .ref k7, .ref k8, .int c9, .ref ka, .ref kb, .int cc, .int cd, .int ce, .int cf, .int cg, .int ch, .int ci, .int cj, .int ck, .ref kl, .int cm, .int cn, .ref ko])), (k0, .inl (cI, 1201, .inl c0))] H := hP
            replace hD : va_D A [(k6, .inl (cI, 4, .inl c6)), (k7, .inl (cI, 144, .inl c7)), (k, .inr (11, [.ref k0, .ref k1, .ref k2, .int c3, .ref k4, .ref k5, .ref k6, .ref k7, .ref k8, .int c9, .ref ka, .ref kb, .int cc, .int cd, .int ce, .int cf, .int cg, .int ch, .int ci, .int cj, .int ck, .ref kl, .int cm, .int cn, .ref ko])), (k0, .inl (cI, 1201, .inl c0))] := hD
            obtain ⟨h_69, h_70⟩ := w_67
            have h_69 : 10 ≤ r_66.toInt := h_69
            have h_70 : r_66.toInt ≤ 110 := h_70
            have lo_r_66 := k_lo r_66
            have hi_r_66 := k_hi r_66
            refine lv_iload hx hb dX11_doneIn_93 (lv_at hl 3 rfl) ?_
            refine lv_iadd hx hb dX11_doneIn_95 ?_
            refine lv_topi (fun v_71 ev_71 => ?_)
            have tv_71 : v_71.toInt = r_66.toInt + r_11.toInt := by rw [ev_71]; exact k_addv rfl rfl (by omega) (by omega)
            refine lv_iconst (v := 1) hx hb dX11_doneIn_96 (by decide) ?_
            refine lv_isub hx hb dX11_doneIn_97 ?_
            refine lv_topi (fun v_72 ev_72 => ?_)
            have tv_72 : v_72.toInt = v_71.toInt - 1 := by rw [ev_72]; exact k_subv rfl zl_1 (by omega) (by omega)
            refine lv_iload hx hb dX11_doneIn_98 (lv_at hl 3 rfl) ?_
            refine lv_idiv hx hb dX11_doneIn_100 (k_ne0 (by omega)) ?_
            refine lv_topi (fun v_73 ev_73 => ?_)
            have lo_v_73 := k_lo v_73
            have hi_v_73 := k_hi v_73
            have q_74 := k_ceil (e := r_66) ev_73 (by omega) (by omega) (by omega)
            refine lv_iadd hx hb dX11_doneIn_101 ?_
            refine lv_topi (fun v_75 ev_75 => ?_)
            have tv_75 : v_75.toInt = v_56.toInt + v_73.toInt := by rw [ev_75]; exact k_addv rfl rfl (by omega) (by omega)
            refine lv_istore (lv' := [(5, .int v_75), (9, .int r_61), (8, .int l32_8), (7, .int r_11), (6, .int r_6), (0, .ref k), (1, .int a0), (2, .int a1), (3, .int a2), (4, .int a3)]) hx hb dX11_doneIn_102 hl (by decide) rfl ?_
            clear hl
            intro ls hl
            refine lv_iload hx hb dX11_doneIn_104 (lv_at hl 2 rfl) ?_
            refine lv_iload hx hb dX11_doneIn_106 (lv_at hl 4 rfl) ?_
            refine lv_iadd hx hb dX11_doneIn_108 ?_
            refine lv_topi (fun v_76 ev_76 => ?_)
            have tv_76 : v_76.toInt = l32_8.toInt + r_6.toInt := by rw [ev_76]; exact k_addv rfl rfl (by omega) (by omega)
            refine lv_istore (lv' := [(8, .int v_76), (5, .int v_75), (9, .int r_61), (7, .int r_11), (6, .int r_6), (0, .ref k), (1, .int a0), (2, .int a1), (3, .int a2), (4, .int a3)]) hx hb dX11_doneIn_109 hl (by decide) rfl ?_
            clear hl
            intro ls hl
            refine lv_goto (tgt := 32) hx hb dX11_doneIn_111 (by decide) ?_
            exact ih32 v_75 v_76 (by first | omega | decide | assumption | rfl) (by first | omega | decide | assumption | rfl) (by first | omega | decide | assumption | rfl) (by first | omega | decide | assumption | rfl) (by first | omega | decide | assumption | rfl) (by first | omega | decide | assumption | rfl) (by omega) ls _ _ (lv_sub hl [0, 3, 4, 1, 5, 6, 7, 8, 9] rfl) (hP.sub [0, 1, 2, 3] rfl) (hD.sub [0, 1, 2, 3] (by decide) rfl) hS
  exact hloop_32 _ v_4 r_17 (by first | omega | decide | assumption | rfl) (by first | omega | decide | assumption | rfl) (by first | omega | decide | assumption | rfl) (by first | omega | decide | assumption | rfl) (by first | omega | decide | assumption | rfl) (by first | omega | decide | assumption | rfl) (Nat.lt_succ_self _) ls _ _ (lv_sub hl [0, 1, 2, 3, 4, 5, 6, 7, 8] rfl) hP hD hS

set_option maxHeartbeats 4000000 in
set_option maxRecDepth 100000 in
theorem c_X11_doneInGm (l : Launch) (D : va_G) (cI : ClassId) (aK aV : Nat → Nat) (k k0 k1 k2 k4 k5 k6 k7 k8 ka kb kl ko : Nat) (sz : Nat) (c3 : Int32) (c9 : Int32) (cc : Int32) (cd : Int32) (ce : Int32) (cf : Int32) (cg : Int32) (ch : Int32) (ci : Int32) (cj : Int32) (ck : Int32) (cm : Int32) (cn : Int32) (c0 : Nat → Int32) (c6 : Nat → Int32) (c7 : Nat → Int32) (a0 : Int32) (a1 : Int32) (a2 : Int32) (a3 : Int32) (pre0 : SB c0) (pre1 : 0 ≤ a0.toInt) (pre2 : a0.toInt ≤ 3) (pre3 : (pW c0 a0 1).toInt = (-1)) (pre4 : 1 ≤ (pW c0 a0 2).toInt) (pre5 : 0 ≤ a2.toInt) (pre6 : a2.toInt ≤ 3) (pre7 : 0 ≤ a3.toInt) (pre8 : a3.toInt ≤ 2) (pre9 : 12 * a3.toInt + 12 ≤ (c6 a2.toNatClampNeg).toInt) (pre10 : ∀ k : Nat, (k : Int) < (c6 a2.toNatClampNeg).toInt → 0 ≤ (c7 (36 * a2.toInt.toNat + k)).toInt ∧ (c7 (36 * a2.toInt.toNat + k)).toInt ≤ 9) (pre11 : a1.toInt ≤ (pW c0 a0 0).toInt) (pre12 : 0 ≤ a1.toInt) : Met l yX11_doneIn (gW yX11_doneIn cX11_doneIn 10 (some .int)) ({ frames := 1, cells := 0, slots := 0, locals := 23 } : Room) (kPreX D cI aK aV [.ref k, .int a0, .int a1, .int a2, .int a3] [(k, .inr (11, [.ref k0, .ref k1, .ref k2, .int c3, .ref k4, .ref k5, .ref k6, .ref k7, .ref k8, .int c9, .ref ka, .ref kb, .int cc, .int cd, .int ce, .int cf, .int cg, .int ch, .int ci, .int cj, .int ck, .ref kl, .int cm, .int cn, .ref ko])), (k0, .inl (cI, 1201, .inl c0)), (k6, .inl (cI, 4, .inl c6)), (k7, .inl (cI, 144, .inl c7))] sz) (va_Qi (fun (r : Int32) (u : Unit) => True) (fun u t => kWd D cI (va_A [(k, .inr (11, [.ref k0, .ref k1, .ref k2, .int c3, .ref k4, .ref k5, .ref k6, .ref k7, .ref k8, .int c9, .ref ka, .ref kb, .int cc, .int cd, .int ce, .int cf, .int cg, .int ch, .int ci, .int cj, .int ck, .ref kl, .int cm, .int cn, .ref ko])), (k0, .inl (cI, 1201, .inl c0)), (k6, .inl (cI, 4, .inl c6)), (k7, .inl (cI, 144, .inl c7))] sz) [(k, .inr (11, [.ref k0, .ref k1, .ref k2, .int c3, .ref k4, .ref k5, .ref k6, .ref k7, .ref k8, .int c9, .ref ka, .ref kb, .int cc, .int cd, .int ce, .int cf, .int cg, .int ch, .int ci, .int cj, .int ck, .ref kl, .int cm, .int cn, .ref ko])), (k0, .inl (cI, 1201, .inl c0)), (k6, .inl (cI, 4, .inl c6)), (k7, .inl (cI, 144, .inl c7))] t) (va_A [(k, .inr (11, [.ref k0, .ref k1, .ref k2, .int c3, .ref k4, .ref k5, .ref k6, .ref k7, .ref k8, .int c9, .ref ka, .ref kb, .int cc, .int cd, .int ce, .int cf, .int cg, .int ch, .int ci, .int cj, .int ck, .ref kl, .int cm, .int cn, .ref ko])), (k0, .inl (cI, 1201, .inl c0)), (k6, .inl (cI, 4, .inl c6)), (k7, .inl (cI, 144, .inl c7))] sz)) 0 0 (va_A [(k, .inr (11, [.ref k0, .ref k1, .ref k2, .int c3, .ref k4, .ref k5, .ref k6, .ref k7, .ref k8, .int c9, .ref ka, .ref kb, .int cc, .int cd, .int ce, .int cf, .int cg, .int ch, .int ci, .int cj, .int ck, .ref kl, .int cm, .int cn, .ref ko])), (k0, .inl (cI, 1201, .inl c0)), (k6, .inl (cI, 4, .inl c6)), (k7, .inl (cI, 144, .inl c7))] sz) := by
  refine kMetIX (own := RX11) (by decide) rfl (Nat.le_of_ble_eq_true rfl) ?_
  intro p e s m args below meth c hx hb hT hown hname hml A Q hK hP hD hS hA hN hXS hRet ls hl
  have hl : lv_has ls 10 [(0, .ref k), (1, .int a0), (2, .int a1), (3, .int a2), (4, .int a3)] := hl
  have lo_a0 := k_lo a0
  have hi_a0 := k_hi a0
  have lo_a1 := k_lo a1
  have hi_a1 := k_hi a1
  have lo_a2 := k_lo a2
  have hi_a2 := k_hi a2
  have lo_a3 := k_lo a3
  have hi_a3 := k_hi a3
  have lo_ci := k_lo ci
  have hi_ci := k_hi ci
  have pre0 : SB c0 := pre0
  have nb_1 : 0 ≤ (c0 0).toInt ∧ (c0 0).toInt ≤ 2000 := SB.n0 pre0
  have nb_2 : 0 ≤ (c0 1).toInt ∧ (c0 1).toInt ≤ 60 := SB.n1 pre0
  have nb_3 : 0 ≤ (c0 2).toInt ∧ (c0 2).toInt ≤ 4 := SB.n2 pre0
  refine lv_aload_n hx hb dX11_doneIn_0 rfl (lv_at hl 0 rfl) ?_
  refine va_get (D := D) (ci := 11) (v := .ref k0) (C := RX11) (T := TX11) (N := 25) hx hb hT giX11 hown hK hP 0 rfl rfl 0 (by decide) (hT (Cond.fieldLink RX11 9 "DesertWireModel" "s" "[I") mw_1156) (fun _ h9 => h9) rfl dX11_doneIn_1 ?_
  refine lv_iconst (v := 0) hx hb dX11_doneIn_4 (by decide) ?_
  refine k_iald (v := (c0 0)) hx hb hK hP 1 0 rfl rfl (k_inl (by decide)) rfl dX11_doneIn_5 ?_
  refine lv_topi (fun v_4 ev_4 => ?_)
  have lo_v_4 := k_lo v_4
  have hi_v_4 := k_hi v_4
  have tv_4 : v_4.toInt = (c0 0).toInt := by rw [ev_4]
  have b_5 : 0 ≤ v_4.toInt ∧ v_4.toInt ≤ 2000 := by first | (rw [tv_4]; exact SB.n0 pre0) | exact SB.n0 pre0 | omega
  refine lv_istore (lv' := [(5, .int v_4), (0, .ref k), (1, .int a0), (2, .int a1), (3, .int a2), (4, .int a3)]) hx hb dX11_doneIn_6 hl (by decide) rfl ?_
  clear hl
  intro ls hl
  refine lv_aload_n hx hb dX11_doneIn_8 rfl (lv_at hl 1 rfl) ?_
  refine lv_iload_n hx hb dX11_doneIn_9 rfl (lv_at hl 2 rfl) ?_
  refine lv_iconst (v := 1) hx hb dX11_doneIn_10 (by decide) ?_
  refine kJi (wr := [(k6, .inl (cI, 4, .inl c6)), (k7, .inl (cI, 144, .inl c7))]) (va_runV (As := [.int a0, .int 1]) (rest := []) ⟨hx, hb, hml, hown, hT⟩ (c_X11_partyG1 l D cI aK aV k k0 k1 k2 k4 k5 k6 k7 k8 ka kb kl ko s.heap.size c3 c9 cc cd ce cf cg ch ci cj ck cm cn c0 a0 1 (by first | omega | (simp only [zl_1] <;> omega) | decide | assumption | rfl) (by first | omega | (simp only [zl_1] <;> omega) | decide | assumption | rfl) (by first | omega | (simp only [zl_1] <;> omega) | decide | assumption | rfl)) (cwV 2 hT (gV_in mw_1416 mw_1413 mw_1415 mw_p5_5 mw_12) rfl rfl rfl (by decide +kernel) ⟨Nat.le_of_ble_eq_true rfl, Nat.le_of_ble_eq_true rfl⟩) (kRecvX (q0 := 0) (ci := 11) hK hP hD hN hXS hS hA rfl rfl [0, 1] rfl (by decide)) rfl rfl hl.1 rfl (lv_room (Nat.le_of_ble_eq_true rfl)) dX11_doneIn_11 ⟨Nat.le_of_ble_eq_true rfl, Nat.le_of_ble_eq_true rfl⟩) hP hD hS hA [0, 1] [2, 3] rfl rfl (by decide) (by decide) ?_
  clear hP hD hS
  intro r_6 u_8 H locs w_7 hP hD hS
  replace hP : va_P D vwCl [(k6, .inl (cI, 4, .inl c6)), (k7, .inl (cI, 144, .inl c7)), (k, .inr (11, [.ref k0, .ref k1, .ref k2, .int c3, .ref k4, .ref k5, .ref k6, .ref k7, .ref k8, .int c9, .ref ka, .ref kb, .int cc, .int cd, .int ce, .int cf, .int cg, .int ch, .int ci, .int cj, .int ck, .ref kl, .int cm, .int cn, .ref ko])), (k0, .inl (cI, 1201, .inl c0))] H := hP
  replace hD : va_D A [(k6, .inl (cI, 4, .inl c6)), (k7, .inl (cI, 144, .inl c7)), (k, .inr (11, [.ref k0, .ref k1, .ref k2, .int c3, .ref k4, .ref k5, .ref k6, .ref k7, .ref k8, .int c9, .ref ka, .ref kb, .int cc, .int cd, .int ce, .int cf, .int cg, .int ch, .int ci, .int cj, .int ck, .ref kl, .int cm, .int cn, .ref ko])), (k0, .inl (cI, 1201, .inl c0))] := hD
  have h_9 := w_7
  have h_9 : r_6 = pW c0 a0 1 := h_9
  have t_10 : r_6.toInt = (pW c0 a0 1).toInt := by rw [h_9]
  have lo_r_6 := k_lo r_6
  have hi_r_6 := k_hi r_6
  refine lv_istore (lv' := [(6, .int r_6), (5, .int v_4), (0, .ref k), (1, .int a0), (2, .int a1), (3, .int a2), (4, .int a3)]) hx hb dX11_doneIn_14 hl (by decide) rfl ?_
  clear hl
  intro ls hl
  refine lv_aload_n hx hb dX11_doneIn_16 rfl (lv_at hl 2 rfl) ?_
  refine lv_iload_n hx hb dX11_doneIn_17 rfl (lv_at hl 3 rfl) ?_
  refine lv_iconst (v := 2) hx hb dX11_doneIn_18 (by decide) ?_
  refine kJi (wr := [(k6, .inl (cI, 4, .inl c6)), (k7, .inl (cI, 144, .inl c7))]) (va_runV (As := [.int a0, .int 2]) (rest := []) ⟨hx, hb, hml, hown, hT⟩ (c_X11_partyG2 l D cI aK aV k k0 k1 k2 k4 k5 k6 k7 k8 ka kb kl ko H.size c3 c9 cc cd ce cf cg ch ci cj ck cm cn c0 a0 2 (by first | omega | (simp only [zl_2] <;> omega) | decide | assumption | rfl) (by first | omega | (simp only [zl_2] <;> omega) | decide | assumption | rfl) (by first | omega | (simp only [zl_2] <;> omega) | decide | assumption | rfl)) (cwV 2 hT (gV_in mw_1416 mw_1413 mw_1415 mw_p5_5 mw_12) rfl rfl rfl (by decide +kernel) ⟨Nat.le_of_ble_eq_true rfl, Nat.le_of_ble_eq_true rfl⟩) (kRecvX (q0 := 2) (ci := 11) hK hP hD hN hXS hS hA rfl rfl [2, 3] rfl (by decide)) rfl rfl hl.1 rfl (lv_room (Nat.le_of_ble_eq_true rfl)) dX11_doneIn_19 ⟨Nat.le_of_ble_eq_true rfl, Nat.le_of_ble_eq_true rfl⟩) hP hD hS hA [2, 3] [0, 1] rfl rfl (by decide) (by decide) ?_
  clear hP hD hS
  intro r_11 u_13 H locs w_12 hP hD hS
  replace hP : va_P D vwCl [(k6, .inl (cI, 4, .inl c6)), (k7, .inl (cI, 144, .inl c7)), (k, .inr (11, [.ref k0, .ref k1, .ref k2, .int c3, .ref k4, .ref k5, .ref k6, .ref k7, .ref k8, .int c9, .ref ka, .ref kb, .int cc, .int cd, .int ce, .int cf, .int cg, .int ch, .int ci, .int cj, .int ck, .ref kl, .int cm, .int cn, .ref ko])), (k0, .inl (cI, 1201, .inl c0))] H := hP
  replace hD : va_D A [(k6, .inl (cI, 4, .inl c6)), (k7, .inl (cI, 144, .inl c7)), (k, .inr (11, [.ref k0, .ref k1, .ref k2, .int c3, .ref k4, .ref k5, .ref k6, .ref k7, .ref k8, .int c9, .ref ka, .ref kb, .int cc, .int cd, .int ce, .int cf, .int cg, .int ch, .int ci, .int cj, .int ck, .ref kl, .int cm, .int cn, .ref ko])), (k0, .inl (cI, 1201, .inl c0))] := hD
  have h_14 := w_12
  have h_14 : r_11 = pW c0 a0 2 := h_14
  have t_15 : r_11.toInt = (pW c0 a0 2).toInt := by rw [h_14]
  have b_16 : 0 ≤ r_11.toInt ∧ r_11.toInt ≤ 50 := by rw [h_14]; exact SB.p2 pre0 (by omega) (by omega)
  have lo_r_11 := k_lo r_11
  have hi_r_11 := k_hi r_11
  refine lv_istore (lv' := [(7, .int r_11), (6, .int r_6), (5, .int v_4), (0, .ref k), (1, .int a0), (2, .int a1), (3, .int a2), (4, .int a3)]) hx hb dX11_doneIn_22 hl (by decide) rfl ?_
  clear hl
  intro ls hl
  refine lv_aload_n hx hb dX11_doneIn_24 rfl (lv_at hl 3 rfl) ?_
  refine lv_iload_n hx hb dX11_doneIn_25 rfl (lv_at hl 4 rfl) ?_
  refine lv_iconst (v := 0) hx hb dX11_doneIn_26 (by decide) ?_
  refine kJi (wr := [(k6, .inl (cI, 4, .inl c6)), (k7, .inl (cI, 144, .inl c7))]) (va_runV (As := [.int a0, .int 0]) (rest := []) ⟨hx, hb, hml, hown, hT⟩ (c_X11_partyG0 l D cI aK aV k k0 k1 k2 k4 k5 k6 k7 k8 ka kb kl ko H.size c3 c9 cc cd ce cf cg ch ci cj ck cm cn c0 a0 0 (by first | omega | (simp only [zl_0] <;> omega) | decide | assumption | rfl) (by first | omega | (simp only [zl_0] <;> omega) | decide | assumption | rfl) (by first | omega | (simp only [zl_0] <;> omega) | decide | assumption | rfl)) (cwV 2 hT (gV_in mw_1416 mw_1413 mw_1415 mw_p5_5 mw_12) rfl rfl rfl (by decide +kernel) ⟨Nat.le_of_ble_eq_true rfl, Nat.le_of_ble_eq_true rfl⟩) (kRecvX (q0 := 2) (ci := 11) hK hP hD hN hXS hS hA rfl rfl [2, 3] rfl (by decide)) rfl rfl hl.1 rfl (lv_room (Nat.le_of_ble_eq_true rfl)) dX11_doneIn_27 ⟨Nat.le_of_ble_eq_true rfl, Nat.le_of_ble_eq_true rfl⟩) hP hD hS hA [2, 3] [0, 1] rfl rfl (by decide) (by decide) ?_
  clear hP hD hS
  intro r_17 u_19 H locs w_18 hP hD hS
  replace hP : va_P D vwCl [(k6, .inl (cI, 4, .inl c6)), (k7, .inl (cI, 144, .inl c7)), (k, .inr (11, [.ref k0, .ref k1, .ref k2, .int c3, .ref k4, .ref k5, .ref k6, .ref k7, .ref k8, .int c9, .ref ka, .ref kb, .int cc, .int cd, .int ce, .int cf, .int cg, .int ch, .int ci, .int cj, .int ck, .ref kl, .int cm, .int cn, .ref ko])), (k0, .inl (cI, 1201, .inl c0))] H := hP
  replace hD : va_D A [(k6, .inl (cI, 4, .inl c6)), (k7, .inl (cI, 144, .inl c7)), (k, .inr (11, [.ref k0, .ref k1, .ref k2, .int c3, .ref k4, .ref k5, .ref k6, .ref k7, .ref k8, .int c9, .ref ka, .ref kb, .int cc, .int cd, .int ce, .int cf, .int cg, .int ch, .int ci, .int cj, .int ck, .ref kl, .int cm, .int cn, .ref ko])), (k0, .inl (cI, 1201, .inl c0))] := hD
  have h_20 := w_18
  have h_20 : r_17 = pW c0 a0 0 := h_20
  have t_21 : r_17.toInt = (pW c0 a0 0).toInt := by rw [h_20]
  have b_22 : 0 ≤ r_17.toInt ∧ r_17.toInt ≤ 39 := by rw [h_20]; exact SB.p0 pre0 (by omega) (by omega)
  have lo_r_17 := k_lo r_17
  have hi_r_17 := k_hi r_17
  refine lv_istore (lv' := [(8, .int r_17), (7, .int r_11), (6, .int r_6), (5, .int v_4), (0, .ref k), (1, .int a0), (2, .int a1), (3, .int a2), (4, .int a3)]) hx hb dX11_doneIn_30 hl (by decide) rfl ?_
  clear hl
  intro ls hl
  have hloop_32 : ∀ (fu_ : Nat) (l32_5 : Int32) (l32_8 : Int32), v_4.toInt ≤ l32_5.toInt → l32_8.toInt ≤ r_17.toInt → l32_8.toInt ≤ (pW c0 a0 0).toInt → a1.toInt ≤ l32_8.toInt + 1 → 0 ≤ l32_5.toInt → l32_5.toInt + 111 * l32_8.toInt ≤ 2000 + 111 * (pW c0 a0 0).toInt → (l32_8.toInt + 1 - a1.toInt).toNat < fu_ → ∀ (ls : Array Slot) (H : Heap) (locs : List Loc), lv_has ls 10 [(8, .int l32_8), (7, .int r_11), (6, .int r_6), (5, .int l32_5), (0, .ref k), (1, .int a0), (2, .int a1), (3, .int a2), (4, .int a3)] → va_P D vwCl [(k6, .inl (cI, 4, .inl c6)), (k7, .inl (cI, 144, .inl c7)), (k, .inr (11, [.ref k0, .ref k1, .ref k2, .int c3, .ref k4, .ref k5, .ref k6, .ref k7, .ref k8, .int c9, .ref ka, .ref kb, .int cc, .int cd, .int ce, .int cf, .int cg, .int ch, .int ci, .int cj, .int ck, .ref kl, .int cm, .int cn, .ref ko])), (k0, .inl (cI, 1201, .inl c0))] H → va_D A [(k6, .inl (cI, 4, .inl c6)), (k7, .inl (cI, 144, .inl c7)), (k, .inr (11, [.ref k0, .ref k1, .ref k2, .int c3, .ref k4, .ref k5, .ref k6, .ref k7, .ref k8, .int c9, .ref ka, .ref kb, .int cc, .int cd, .int ce, .int cf, .int cg, .int ch, .int ci, .int cj, .int ck, .ref kl, .int cm, .int cn, .ref ko])), (k0, .inl (cI, 1201, .inl c0))] → va_S A s.heap H locs → W p l e ({ frames := 1, cells := 0, slots := 0, locals := 23 } : Room) s m args below meth c H locs 0 0 Q (F0 m 32 ls []) := by
    intro fu_; induction fu_ with
    | zero => intro l32_5 l32_8 i32_0 i32_1 i32_2 i32_3 i32_4 i32_5 hm; exact absurd hm (by omega)
    | succ fu_ ih32 =>
        intro l32_5 l32_8 i32_0 i32_1 i32_2 i32_3 i32_4 i32_5 hm ls H locs hl hP hD hS
        have lo_l32_5 := k_lo l32_5
        have hi_l32_5 := k_hi l32_5
        have lo_l32_8 := k_lo l32_8
        have hi_l32_8 := k_hi l32_8
        refine lv_iload hx hb dX11_doneIn_32 (lv_at hl 0 rfl) ?_
        refine lv_iload_n hx hb dX11_doneIn_34 rfl (lv_at hl 6 rfl) ?_
        refine lv_iload hx hb dX11_doneIn_35 (lv_at hl 2 rfl) ?_
        refine lv_iadd hx hb dX11_doneIn_37 ?_
        refine lv_topi (fun v_23 ev_23 => ?_)
        have tv_23 : v_23.toInt = a1.toInt + r_6.toInt := by rw [ev_23]; exact k_addv rfl rfl (by omega) (by omega)
        refine b_icmp_eq hx hb rfl rfl (tgt := 114) dX11_doneIn_38 (by decide) (fun c_24 => ?_) (fun c_24 => ?_)
        · refine lv_iload hx hb dX11_doneIn_114 (lv_at hl 3 rfl) ?_
          refine lv_aload_n hx hb dX11_doneIn_116 rfl (lv_at hl 4 rfl) ?_
          refine va_get (D := D) (ci := 11) (v := .ref k0) (C := RX11) (T := TX11) (N := 25) hx hb hT giX11 hown hK hP 2 rfl rfl 0 (by decide) (hT (Cond.fieldLink RX11 9 "DesertWireModel" "s" "[I") mw_1156) (fun _ h9 => h9) rfl dX11_doneIn_117 ?_
          refine lv_iconst (v := 0) hx hb dX11_doneIn_120 (by decide) ?_
          refine k_iald (v := (c0 0)) hx hb hK hP 3 0 rfl rfl (k_inl (by decide)) rfl dX11_doneIn_121 ?_
          refine lv_topi (fun v_25 ev_25 => ?_)
          have lo_v_25 := k_lo v_25
          have hi_v_25 := k_hi v_25
          have tv_25 : v_25.toInt = (c0 0).toInt := by rw [ev_25]
          have b_26 : 0 ≤ v_25.toInt ∧ v_25.toInt ≤ 2000 := by first | (rw [tv_25]; exact SB.n0 pre0) | exact SB.n0 pre0 | omega
          refine lv_isub hx hb dX11_doneIn_122 ?_
          refine lv_topi (fun v_27 ev_27 => ?_)
          have tv_27 : v_27.toInt = l32_5.toInt - v_25.toInt := by rw [ev_27]; exact k_subv rfl rfl (by omega) (by omega)
          exact hRet () [2, 3, 0, 1] trivial hP hD (by decide) rfl hS rfl dX11_doneIn_123
        · refine lv_iload hx hb dX11_doneIn_41 (lv_at hl 3 rfl) ?_
          refine lv_iload hx hb dX11_doneIn_43 (lv_at hl 0 rfl) ?_
          refine lv_aload_n hx hb dX11_doneIn_45 rfl (lv_at hl 4 rfl) ?_
          refine lv_iload_n hx hb dX11_doneIn_46 rfl (lv_at hl 5 rfl) ?_
          refine lv_iconst (v := 0) hx hb dX11_doneIn_47 (by decide) ?_
          refine kJi (wr := [(k6, .inl (cI, 4, .inl c6)), (k7, .inl (cI, 144, .inl c7))]) (va_runV (As := [.int a0, .int 0]) (rest := [.int l32_8, .int l32_5]) ⟨hx, hb, hml, hown, hT⟩ (c_X11_partyG0 l D cI aK aV k k0 k1 k2 k4 k5 k6 k7 k8 ka kb kl ko H.size c3 c9 cc cd ce cf cg ch ci cj ck cm cn c0 a0 0 (by first | omega | (simp only [zl_0] <;> omega) | decide | assumption | rfl) (by first | omega | (simp only [zl_0] <;> omega) | decide | assumption | rfl) (by first | omega | (simp only [zl_0] <;> omega) | decide | assumption | rfl)) (cwV 2 hT (gV_in mw_1416 mw_1413 mw_1415 mw_p5_5 mw_12) rfl rfl rfl (by decide +kernel) ⟨Nat.le_of_ble_eq_true rfl, Nat.le_of_ble_eq_true rfl⟩) (kRecvX (q0 := 2) (ci := 11) hK hP hD hN hXS hS hA rfl rfl [2, 3] rfl (by decide)) rfl rfl hl.1 rfl (lv_room (Nat.le_of_ble_eq_true rfl)) dX11_doneIn_48 ⟨Nat.le_of_ble_eq_true rfl, Nat.le_of_ble_eq_true rfl⟩) hP hD hS hA [2, 3] [0, 1] rfl rfl (by decide) (by decide) ?_
          clear hP hD hS
          intro r_28 u_30 H locs w_29 hP hD hS
          replace hP : va_P D vwCl [(k6, .inl (cI, 4, .inl c6)), (k7, .inl (cI, 144, .inl c7)), (k, .inr (11, [.ref k0, .ref k1, .ref k2, .int c3, .ref k4, .ref k5, .ref k6, .ref k7, .ref k8, .int c9, .ref ka, .ref kb, .int cc, .int cd, .int ce, .int cf, .int cg, .int ch, .int ci, .int cj, .int ck, .ref kl, .int cm, .int cn, .ref ko])), (k0, .inl (cI, 1201, .inl c0))] H := hP
          replace hD : va_D A [(k6, .inl (cI, 4, .inl c6)), (k7, .inl (cI, 144, .inl c7)), (k, .inr (11, [.ref k0, .ref k1, .ref k2, .int c3, .ref k4, .ref k5, .ref k6, .ref k7, .ref k8, .int c9, .ref ka, .ref kb, .int cc, .int cd, .int ce, .int cf, .int cg, .int ch, .int ci, .int cj, .int ck, .ref kl, .int cm, .int cn, .ref ko])), (k0, .inl (cI, 1201, .inl c0))] := hD
          have h_31 := w_29
          have h_31 : r_28 = pW c0 a0 0 := h_31
          have t_32 : r_28.toInt = (pW c0 a0 0).toInt := by rw [h_31]
          have b_33 : 0 ≤ r_28.toInt ∧ r_28.toInt ≤ 39 := by rw [h_31]; exact SB.p0 pre0 (by omega) (by omega)
          have lo_r_28 := k_lo r_28
          have hi_r_28 := k_hi r_28
          refine b_icmp_ne hx hb rfl rfl (tgt := 58) dX11_doneIn_51 (by decide) (fun c_34 => ?_) (fun c_34 => ?_)
          · refine lv_iconst (v := 1) hx hb dX11_doneIn_58 (by decide) ?_
            refine lv_iadd hx hb dX11_doneIn_59 ?_
            refine lv_topi (fun v_35 ev_35 => ?_)
            have tv_35 : v_35.toInt = l32_5.toInt + 1 := by rw [ev_35]; exact k_addv rfl zl_1 (by omega) (by omega)
            refine lv_istore (lv' := [(5, .int v_35), (8, .int l32_8), (7, .int r_11), (6, .int r_6), (0, .ref k), (1, .int a0), (2, .int a1), (3, .int a2), (4, .int a3)]) hx hb dX11_doneIn_60 hl (by decide) rfl ?_
            clear hl
            intro ls hl
            refine lv_aload_n hx hb dX11_doneIn_62 rfl (lv_at hl 4 rfl) ?_
            refine lv_iload_n hx hb dX11_doneIn_63 rfl (lv_at hl 7 rfl) ?_
            refine lv_bipush (v := 12) hx hb dX11_doneIn_64 (by decide) ?_
            refine lv_iload hx hb dX11_doneIn_66 (lv_at hl 8 rfl) ?_
            refine lv_imul hx hb dX11_doneIn_68 ?_
            refine lv_topi (fun v_36 ev_36 => ?_)
            have tv_36 : v_36.toInt = 12 * a3.toInt := by rw [ev_36]; exact k_mulv zl_12 rfl (by omega) (by omega)
            refine lv_iload hx hb dX11_doneIn_69 (lv_at hl 0 rfl) ?_
            refine lv_bipush (v := 30) hx hb dX11_doneIn_71 (by decide) ?_
            refine lv_idiv hx hb dX11_doneIn_73 (by decide) ?_
            refine lv_topi (fun v_37 ev_37 => ?_)
            have tv_37 : v_37.toInt = v_35.toInt / 30 := k_divv (w := 0) ev_37 zl_30 (by omega) (by decide)
            have lo_v_37 := k_lo v_37
            have hi_v_37 := k_hi v_37
            refine lv_bipush (v := 12) hx hb dX11_doneIn_74 (by decide) ?_
            refine lv_irem hx hb dX11_doneIn_76 (by decide) ?_
            refine lv_topi (fun v_38 ev_38 => ?_)
            have tv_38 : v_38.toInt = v_37.toInt % 12 := k_remv (w := 0) ev_38 zl_12 (by omega) (by decide)
            have lo_v_38 := k_lo v_38
            have hi_v_38 := k_hi v_38
            refine lv_iadd hx hb dX11_doneIn_77 ?_
            refine lv_topi (fun v_39 ev_39 => ?_)
            have tv_39 : v_39.toInt = v_36.toInt + v_38.toInt := by rw [ev_39]; exact k_addv rfl rfl (by omega) (by omega)
            refine kJi (wr := [(k6, .inl (cI, 4, .inl c6)), (k0, .inl (cI, 1201, .inl c0))]) (va_runV (As := [.int a2, .int v_39]) (rest := []) ⟨hx, hb, hml, hown, hT⟩ (c_X11_atG l D cI aK aV k k0 k1 k2 k4 k5 k6 k7 k8 ka kb kl ko H.size c3 c9 cc cd ce cf cg ch ci cj ck cm cn c7 a2 v_39 (by first | omega | decide | assumption | rfl) (by first | omega | decide | assumption | rfl) (by first | omega | decide | assumption | rfl) (by first | omega | decide | assumption | rfl)) (cwV 2 hT (gV_in mw_1396 mw_1393 mw_1395 mw_p5_2 mw_12) rfl rfl rfl (by decide +kernel) ⟨Nat.le_of_ble_eq_true rfl, Nat.le_of_ble_eq_true rfl⟩) (kRecvX (q0 := 2) (ci := 11) hK hP hD hN hXS hS hA rfl rfl [2, 1] rfl (by decide)) rfl rfl hl.1 rfl (lv_room (Nat.le_of_ble_eq_true rfl)) dX11_doneIn_78 ⟨Nat.le_of_ble_eq_true rfl, Nat.le_of_ble_eq_true rfl⟩) hP hD hS hA [2, 1] [0, 3] rfl rfl (by decide) (by decide) ?_
            clear hP hD hS
            intro r_40 u_42 H locs w_41 hP hD hS
            replace hP : va_P D vwCl [(k6, .inl (cI, 4, .inl c6)), (k0, .inl (cI, 1201, .inl c0)), (k, .inr (11, [.ref k0, .ref k1, .ref k2, .int c3, .ref k4, .ref k5, .ref k6, .ref k7, .ref k8, .int c9, .ref ka, .ref kb, .int cc, .int cd, .int ce, .int cf, .int cg, .int ch, .int ci, .int cj, .int ck, .ref kl, .int cm, .int cn, .ref ko])), (k7, .inl (cI, 144, .inl c7))] H := hP
            replace hD : va_D A [(k6, .inl (cI, 4, .inl c6)), (k0, .inl (cI, 1201, .inl c0)), (k, .inr (11, [.ref k0, .ref k1, .ref k2, .int c3, .ref k4, .ref k5, .ref k6, .ref k7, .ref k8, .int c9, .ref ka, .ref kb, .int cc, .int cd, .int ce, .int cf, .int cg, .int ch, .int ci, .int cj, .int ck, .ref kl, .int cm, .int cn, .ref ko])), (k7, .inl (cI, 144, .inl c7))] := hD
            have h_43 := w_41
            have h_43 : r_40 = c7 (36 * a2.toInt.toNat + v_39.toInt.toNat) := h_43
            have h_43 : r_40 = c7 (36 * a2.toInt.toNat + v_39.toInt.toNat) := h_43
            have b_44 : 0 ≤ r_40.toInt ∧ r_40.toInt ≤ 9 := by rw [h_43]; exact pre10 v_39.toInt.toNat (by omega)
            have lo_r_40 := k_lo r_40
            have hi_r_40 := k_hi r_40
            refine lv_istore (lv' := [(9, .int r_40), (5, .int v_35), (8, .int l32_8), (7, .int r_11), (6, .int r_6), (0, .ref k), (1, .int a0), (2, .int a1), (3, .int a2), (4, .int a3)]) hx hb dX11_doneIn_81 hl (by decide) rfl ?_
            clear hl
            intro ls hl
            refine lv_iload hx hb dX11_doneIn_83 (lv_at hl 1 rfl) ?_
            refine lv_aload_n hx hb dX11_doneIn_85 rfl (lv_at hl 5 rfl) ?_
            refine lv_iload hx hb dX11_doneIn_86 (lv_at hl 2 rfl) ?_
            refine lv_iload hx hb dX11_doneIn_88 (lv_at hl 0 rfl) ?_
            refine kJi (wr := [(k6, .inl (cI, 4, .inl c6)), (k7, .inl (cI, 144, .inl c7))]) (va_runV (As := [.int l32_8, .int r_40]) (rest := [.int v_35]) ⟨hx, hb, hml, hown, hT⟩ (c_X11_effortH l D cI aK aV k k0 k1 k2 k4 k5 k6 k7 k8 ka kb kl ko H.size c3 c9 cc cd ce cf cg ch ci cj ck cm cn c0 l32_8 r_40 pre0 (by first | omega | decide | assumption | rfl) (by first | omega | decide | assumption | rfl) (by first | omega | decide | assumption | rfl) (by first | omega | decide | assumption | rfl)) (cwV 2 hT (gV_in mw_1380 mw_1377 mw_1379 mw_p5_0 mw_12) rfl rfl rfl (by decide +kernel) ⟨Nat.le_of_ble_eq_true rfl, Nat.le_of_ble_eq_true rfl⟩) (kRecvX (q0 := 2) (ci := 11) hK hP hD hN hXS hS hA rfl rfl [2, 1] rfl (by decide)) rfl rfl hl.1 rfl (lv_room (Nat.le_of_ble_eq_true rfl)) dX11_doneIn_90 ⟨Nat.le_of_ble_eq_true rfl, Nat.le_of_ble_eq_true rfl⟩) hP hD hS hA [2, 1] [0, 3] rfl rfl (by decide) (by decide) ?_
            clear hP hD hS
            intro r_45 u_47 H locs w_46 hP hD hS
            replace hP : va_P D vwCl [(k6, .inl (cI, 4, .inl c6)), (k7, .inl (cI, 144, .inl c7)), (k, .inr (11, [.ref k0, .ref k1, .ref k2, .int c3, .ref k4, .ref k5, .ref k6, .ref k7, .ref k8, .int c9, .ref ka, .ref kb, .int cc, .int cd, .int ce, .int cf, .int cg, .int ch, .int ci, .int cj, .int ck, .ref kl, .int cm, .int cn, .ref ko])), (k0, .inl (cI, 1201, .inl c0))] H := hP
            replace hD : va_D A [(k6, .inl (cI, 4, .inl c6)), (k7, .inl (cI, 144, .inl c7)), (k, .inr (11, [.ref k0, .ref k1, .ref k2, .int c3, .ref k4, .ref k5, .ref k6, .ref k7, .ref k8, .int c9, .ref ka, .ref kb, .int cc, .int cd, .int ce, .int cf, .int cg, .int ch, .int ci, .int cj, .int ck, .ref kl, .int cm, .int cn, .ref ko])), (k0, .inl (cI, 1201, .inl c0))] := hD
            obtain ⟨h_48, h_49⟩ := w_46
            have h_48 : 10 ≤ r_45.toInt := h_48
            have h_49 : r_45.toInt ≤ 110 := h_49
            have lo_r_45 := k_lo r_45
            have hi_r_45 := k_hi r_45
            refine lv_iload hx hb dX11_doneIn_93 (lv_at hl 3 rfl) ?_
            refine lv_iadd hx hb dX11_doneIn_95 ?_
            refine lv_topi (fun v_50 ev_50 => ?_)
            have tv_50 : v_50.toInt = r_45.toInt + r_11.toInt := by rw [ev_50]; exact k_addv rfl rfl (by omega) (by omega)
            refine lv_iconst (v := 1) hx hb dX11_doneIn_96 (by decide) ?_
            refine lv_isub hx hb dX11_doneIn_97 ?_
            refine lv_topi (fun v_51 ev_51 => ?_)
            have tv_51 : v_51.toInt = v_50.toInt - 1 := by rw [ev_51]; exact k_subv rfl zl_1 (by omega) (by omega)
            refine lv_iload hx hb dX11_doneIn_98 (lv_at hl 3 rfl) ?_
            refine lv_idiv hx hb dX11_doneIn_100 (k_ne0 (by omega)) ?_
            refine lv_topi (fun v_52 ev_52 => ?_)
            have lo_v_52 := k_lo v_52
            have hi_v_52 := k_hi v_52
            have q_53 := k_ceil (e := r_45) ev_52 (by omega) (by omega) (by omega)
            refine lv_iadd hx hb dX11_doneIn_101 ?_
            refine lv_topi (fun v_54 ev_54 => ?_)
            have tv_54 : v_54.toInt = v_35.toInt + v_52.toInt := by rw [ev_54]; exact k_addv rfl rfl (by omega) (by omega)
            refine lv_istore (lv' := [(5, .int v_54), (9, .int r_40), (8, .int l32_8), (7, .int r_11), (6, .int r_6), (0, .ref k), (1, .int a0), (2, .int a1), (3, .int a2), (4, .int a3)]) hx hb dX11_doneIn_102 hl (by decide) rfl ?_
            clear hl
            intro ls hl
            refine lv_iload hx hb dX11_doneIn_104 (lv_at hl 2 rfl) ?_
            refine lv_iload hx hb dX11_doneIn_106 (lv_at hl 4 rfl) ?_
            refine lv_iadd hx hb dX11_doneIn_108 ?_
            refine lv_topi (fun v_55 ev_55 => ?_)
            have tv_55 : v_55.toInt = l32_8.toInt + r_6.toInt := by rw [ev_55]; exact k_addv rfl rfl (by omega) (by omega)
            refine lv_istore (lv' := [(8, .int v_55), (5, .int v_54), (9, .int r_40), (7, .int r_11), (6, .int r_6), (0, .ref k), (1, .int a0), (2, .int a1), (3, .int a2), (4, .int a3)]) hx hb dX11_doneIn_109 hl (by decide) rfl ?_
            clear hl
            intro ls hl
            refine lv_goto (tgt := 32) hx hb dX11_doneIn_111 (by decide) ?_
            exact ih32 v_54 v_55 (by first | omega | decide | assumption | rfl) (by first | omega | decide | assumption | rfl) (by first | omega | decide | assumption | rfl) (by first | omega | decide | assumption | rfl) (by first | omega | decide | assumption | rfl) (by first | omega | decide | assumption | rfl) (by omega) ls _ _ (lv_sub hl [0, 3, 4, 1, 5, 6, 7, 8, 9] rfl) (hP.sub [0, 1, 2, 3] rfl) (hD.sub [0, 1, 2, 3] (by decide) rfl) hS
          · refine lv_iconst (v := 0) hx hb dX11_doneIn_54 (by decide) ?_
            refine lv_goto (tgt := 59) hx hb dX11_doneIn_55 (by decide) ?_
            refine lv_iadd hx hb dX11_doneIn_59 ?_
            refine lv_topi (fun v_56 ev_56 => ?_)
            have tv_56 : v_56.toInt = l32_5.toInt + 0 := by rw [ev_56]; exact k_addv rfl zl_0 (by omega) (by omega)
            refine lv_istore (lv' := [(5, .int v_56), (8, .int l32_8), (7, .int r_11), (6, .int r_6), (0, .ref k), (1, .int a0), (2, .int a1), (3, .int a2), (4, .int a3)]) hx hb dX11_doneIn_60 hl (by decide) rfl ?_
            clear hl
            intro ls hl
            refine lv_aload_n hx hb dX11_doneIn_62 rfl (lv_at hl 4 rfl) ?_
            refine lv_iload_n hx hb dX11_doneIn_63 rfl (lv_at hl 7 rfl) ?_
            refine lv_bipush (v := 12) hx hb dX11_doneIn_64 (by decide) ?_
            refine lv_iload hx hb dX11_doneIn_66 (lv_at hl 8 rfl) ?_
            refine lv_imul hx hb dX11_doneIn_68 ?_
            refine lv_topi (fun v_57 ev_57 => ?_)
            have tv_57 : v_57.toInt = 12 * a3.toInt := by rw [ev_57]; exact k_mulv zl_12 rfl (by omega) (by omega)
            refine lv_iload hx hb dX11_doneIn_69 (lv_at hl 0 rfl) ?_
            refine lv_bipush (v := 30) hx hb dX11_doneIn_71 (by decide) ?_
            refine lv_idiv hx hb dX11_doneIn_73 (by decide) ?_
            refine lv_topi (fun v_58 ev_58 => ?_)
            have tv_58 : v_58.toInt = v_56.toInt / 30 := k_divv (w := 0) ev_58 zl_30 (by omega) (by decide)
            have lo_v_58 := k_lo v_58
            have hi_v_58 := k_hi v_58
            refine lv_bipush (v := 12) hx hb dX11_doneIn_74 (by decide) ?_
            refine lv_irem hx hb dX11_doneIn_76 (by decide) ?_
            refine lv_topi (fun v_59 ev_59 => ?_)
            have tv_59 : v_59.toInt = v_58.toInt % 12 := k_remv (w := 0) ev_59 zl_12 (by omega) (by decide)
            have lo_v_59 := k_lo v_59
            have hi_v_59 := k_hi v_59
            refine lv_iadd hx hb dX11_doneIn_77 ?_
            refine lv_topi (fun v_60 ev_60 => ?_)
            have tv_60 : v_60.toInt = v_57.toInt + v_59.toInt := by rw [ev_60]; exact k_addv rfl rfl (by omega) (by omega)
            refine kJi (wr := [(k6, .inl (cI, 4, .inl c6)), (k0, .inl (cI, 1201, .inl c0))]) (va_runV (As := [.int a2, .int v_60]) (rest := []) ⟨hx, hb, hml, hown, hT⟩ (c_X11_atG l D cI aK aV k k0 k1 k2 k4 k5 k6 k7 k8 ka kb kl ko H.size c3 c9 cc cd ce cf cg ch ci cj ck cm cn c7 a2 v_60 (by first | omega | decide | assumption | rfl) (by first | omega | decide | assumption | rfl) (by first | omega | decide | assumption | rfl) (by first | omega | decide | assumption | rfl)) (cwV 2 hT (gV_in mw_1396 mw_1393 mw_1395 mw_p5_2 mw_12) rfl rfl rfl (by decide +kernel) ⟨Nat.le_of_ble_eq_true rfl, Nat.le_of_ble_eq_true rfl⟩) (kRecvX (q0 := 2) (ci := 11) hK hP hD hN hXS hS hA rfl rfl [2, 1] rfl (by decide)) rfl rfl hl.1 rfl (lv_room (Nat.le_of_ble_eq_true rfl)) dX11_doneIn_78 ⟨Nat.le_of_ble_eq_true rfl, Nat.le_of_ble_eq_true rfl⟩) hP hD hS hA [2, 1] [0, 3] rfl rfl (by decide) (by decide) ?_
            clear hP hD hS
            intro r_61 u_63 H locs w_62 hP hD hS
            replace hP : va_P D vwCl [(k6, .inl (cI, 4, .inl c6)), (k0, .inl (cI, 1201, .inl c0)), (k, .inr (11, [.ref k0, .ref k1, .ref k2, .int c3, .ref k4, .ref k5, .ref k6, .ref k7, .ref k8, .int c9, .ref ka, .ref kb, .int cc, .int cd, .int ce, .int cf, .int cg, .int ch, .int ci, .int cj, .int ck, .ref kl, .int cm, .int cn, .ref ko])), (k7, .inl (cI, 144, .inl c7))] H := hP
            replace hD : va_D A [(k6, .inl (cI, 4, .inl c6)), (k0, .inl (cI, 1201, .inl c0)), (k, .inr (11, [.ref k0, .ref k1, .ref k2, .int c3, .ref k4, .ref k5, .ref k6, .ref k7, .ref k8, .int c9, .ref ka, .ref kb, .int cc, .int cd, .int ce, .int cf, .int cg, .int ch, .int ci, .int cj, .int ck, .ref kl, .int cm, .int cn, .ref ko])), (k7, .inl (cI, 144, .inl c7))] := hD
            have h_64 := w_62
            have h_64 : r_61 = c7 (36 * a2.toInt.toNat + v_60.toInt.toNat) := h_64
            have h_64 : r_61 = c7 (36 * a2.toInt.toNat + v_60.toInt.toNat) := h_64
            have b_65 : 0 ≤ r_61.toInt ∧ r_61.toInt ≤ 9 := by rw [h_64]; exact pre10 v_60.toInt.toNat (by omega)
            have lo_r_61 := k_lo r_61
            have hi_r_61 := k_hi r_61
            refine lv_istore (lv' := [(9, .int r_61), (5, .int v_56), (8, .int l32_8), (7, .int r_11), (6, .int r_6), (0, .ref k), (1, .int a0), (2, .int a1), (3, .int a2), (4, .int a3)]) hx hb dX11_doneIn_81 hl (by decide) rfl ?_
            clear hl
            intro ls hl
            refine lv_iload hx hb dX11_doneIn_83 (lv_at hl 1 rfl) ?_
            refine lv_aload_n hx hb dX11_doneIn_85 rfl (lv_at hl 5 rfl) ?_
            refine lv_iload hx hb dX11_doneIn_86 (lv_at hl 2 rfl) ?_
            refine lv_iload hx hb dX11_doneIn_88 (lv_at hl 0 rfl) ?_
            refine kJi (wr := [(k6, .inl (cI, 4, .inl c6)), (k7, .inl (cI, 144, .inl c7))]) (va_runV (As := [.int l32_8, .int r_61]) (rest := [.int v_56]) ⟨hx, hb, hml, hown, hT⟩ (c_X11_effortH l D cI aK aV k k0 k1 k2 k4 k5 k6 k7 k8 ka kb kl ko H.size c3 c9 cc cd ce cf cg ch ci cj ck cm cn c0 l32_8 r_61 pre0 (by first | omega | decide | assumption | rfl) (by first | omega | decide | assumption | rfl) (by first | omega | decide | assumption | rfl) (by first | omega | decide | assumption | rfl)) (cwV 2 hT (gV_in mw_1380 mw_1377 mw_1379 mw_p5_0 mw_12) rfl rfl rfl (by decide +kernel) ⟨Nat.le_of_ble_eq_true rfl, Nat.le_of_ble_eq_true rfl⟩) (kRecvX (q0 := 2) (ci := 11) hK hP hD hN hXS hS hA rfl rfl [2, 1] rfl (by decide)) rfl rfl hl.1 rfl (lv_room (Nat.le_of_ble_eq_true rfl)) dX11_doneIn_90 ⟨Nat.le_of_ble_eq_true rfl, Nat.le_of_ble_eq_true rfl⟩) hP hD hS hA [2, 1] [0, 3] rfl rfl (by decide) (by decide) ?_
            clear hP hD hS
            intro r_66 u_68 H locs w_67 hP hD hS
            replace hP : va_P D vwCl [(k6, .inl (cI, 4, .inl c6)), (k7, .inl (cI, 144, .inl c7)), (k, .inr (11, [.ref k0, .ref k1, .ref k2, .int c3, .ref k4, .ref k5, .ref k6, .ref k7, .ref k8, .int c9, .ref ka, .ref kb, .int cc, .int cd, .int ce, .int cf, .int cg, .int ch, .int ci, .int cj, .int ck, .ref kl, .int cm, .int cn, .ref ko])), (k0, .inl (cI, 1201, .inl c0))] H := hP
            replace hD : va_D A [(k6, .inl (cI, 4, .inl c6)), (k7, .inl (cI, 144, .inl c7)), (k, .inr (11, [.ref k0, .ref k1, .ref k2, .int c3, .ref k4, .ref k5, .ref k6, .ref k7, .ref k8, .int c9, .ref ka, .ref kb, .int cc, .int cd, .int ce, .int cf, .int cg, .int ch, .int ci, .int cj, .int ck, .ref kl, .int cm, .int cn, .ref ko])), (k0, .inl (cI, 1201, .inl c0))] := hD
            obtain ⟨h_69, h_70⟩ := w_67
            have h_69 : 10 ≤ r_66.toInt := h_69
            have h_70 : r_66.toInt ≤ 110 := h_70
            have lo_r_66 := k_lo r_66
            have hi_r_66 := k_hi r_66
            refine lv_iload hx hb dX11_doneIn_93 (lv_at hl 3 rfl) ?_
            refine lv_iadd hx hb dX11_doneIn_95 ?_
            refine lv_topi (fun v_71 ev_71 => ?_)
            have tv_71 : v_71.toInt = r_66.toInt + r_11.toInt := by rw [ev_71]; exact k_addv rfl rfl (by omega) (by omega)
            refine lv_iconst (v := 1) hx hb dX11_doneIn_96 (by decide) ?_
            refine lv_isub hx hb dX11_doneIn_97 ?_
            refine lv_topi (fun v_72 ev_72 => ?_)
            have tv_72 : v_72.toInt = v_71.toInt - 1 := by rw [ev_72]; exact k_subv rfl zl_1 (by omega) (by omega)
            refine lv_iload hx hb dX11_doneIn_98 (lv_at hl 3 rfl) ?_
            refine lv_idiv hx hb dX11_doneIn_100 (k_ne0 (by omega)) ?_
            refine lv_topi (fun v_73 ev_73 => ?_)
            have lo_v_73 := k_lo v_73
            have hi_v_73 := k_hi v_73
            have q_74 := k_ceil (e := r_66) ev_73 (by omega) (by omega) (by omega)
            refine lv_iadd hx hb dX11_doneIn_101 ?_
            refine lv_topi (fun v_75 ev_75 => ?_)
            have tv_75 : v_75.toInt = v_56.toInt + v_73.toInt := by rw [ev_75]; exact k_addv rfl rfl (by omega) (by omega)
            refine lv_istore (lv' := [(5, .int v_75), (9, .int r_61), (8, .int l32_8), (7, .int r_11), (6, .int r_6), (0, .ref k), (1, .int a0), (2, .int a1), (3, .int a2), (4, .int a3)]) hx hb dX11_doneIn_102 hl (by decide) rfl ?_
            clear hl
            intro ls hl
            refine lv_iload hx hb dX11_doneIn_104 (lv_at hl 2 rfl) ?_
            refine lv_iload hx hb dX11_doneIn_106 (lv_at hl 4 rfl) ?_
            refine lv_iadd hx hb dX11_doneIn_108 ?_
            refine lv_topi (fun v_76 ev_76 => ?_)
            have tv_76 : v_76.toInt = l32_8.toInt + r_6.toInt := by rw [ev_76]; exact k_addv rfl rfl (by omega) (by omega)
            refine lv_istore (lv' := [(8, .int v_76), (5, .int v_75), (9, .int r_61), (7, .int r_11), (6, .int r_6), (0, .ref k), (1, .int a0), (2, .int a1), (3, .int a2), (4, .int a3)]) hx hb dX11_doneIn_109 hl (by decide) rfl ?_
            clear hl
            intro ls hl
            refine lv_goto (tgt := 32) hx hb dX11_doneIn_111 (by decide) ?_
            exact ih32 v_75 v_76 (by first | omega | decide | assumption | rfl) (by first | omega | decide | assumption | rfl) (by first | omega | decide | assumption | rfl) (by first | omega | decide | assumption | rfl) (by first | omega | decide | assumption | rfl) (by first | omega | decide | assumption | rfl) (by omega) ls _ _ (lv_sub hl [0, 3, 4, 1, 5, 6, 7, 8, 9] rfl) (hP.sub [0, 1, 2, 3] rfl) (hD.sub [0, 1, 2, 3] (by decide) rfl) hS
  exact hloop_32 _ v_4 r_17 (by first | omega | decide | assumption | rfl) (by first | omega | decide | assumption | rfl) (by first | omega | decide | assumption | rfl) (by first | omega | decide | assumption | rfl) (by first | omega | decide | assumption | rfl) (by first | omega | decide | assumption | rfl) (Nat.lt_succ_self _) ls _ _ (lv_sub hl [0, 1, 2, 3, 4, 5, 6, 7, 8] rfl) hP hD hS
