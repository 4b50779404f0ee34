theorem bn_cX11_restore_0 : BN cX11_restore 0 0x568bc080a00ad45602012e414015a8ac1c015a8ad5a4100adce6131582c029b0c0096a2b := by
  unfold BN; decide +kernel
theorem dX11_restore_0 : decode cX11_restore 0 = .ok (.aload_n 0, 1) := dR0 (k := 0) (i := 0) bn_cX11_restore_0 dop_42 (by decide +kernel)
theorem dX11_restore_1 : decode cX11_restore 1 = .ok (.getfield 279, 3) := dR2 (f := Instr.getfield) (k := 0) (i := 1) bn_cX11_restore_0 dop_180 279 (by decide +kernel)
theorem dX11_restore_4 : decode cX11_restore 4 = .ok (.ifCond .ne 10, 3) := dR2s (f := Instr.ifCond .ne) (k := 0) (i := 4) bn_cX11_restore_0 dop_154 10 10 (by decide +kernel)
theorem dX11_restore_7 : decode cX11_restore 7 = .ok (.aload_n 0, 1) := dR0 (k := 0) (i := 7) bn_cX11_restore_0 dop_42 (by decide +kernel)
theorem dX11_restore_8 : decode cX11_restore 8 = .ok (.ldc 114, 2) := dR1 (f := Instr.ldc) (k := 0) (i := 8) bn_cX11_restore_0 dop_18 114 (by decide +kernel)
theorem dX11_restore_10 : decode cX11_restore 10 = .ok (.invokevirtual 64, 3) := dR2 (f := Instr.invokevirtual) (k := 0) (i := 10) bn_cX11_restore_0 dop_182 64 (by decide +kernel)
theorem dX11_restore_13 : decode cX11_restore 13 = .ok (.ireturn, 1) := dR0 (k := 0) (i := 13) bn_cX11_restore_0 dop_172 (by decide +kernel)
theorem dX11_restore_14 : decode cX11_restore 14 = .ok (.aload_n 0, 1) := dR0 (k := 0) (i := 14) bn_cX11_restore_0 dop_42 (by decide +kernel)
theorem dX11_restore_15 : decode cX11_restore 15 = .ok (.getfield 13, 3) := dR2 (f := Instr.getfield) (k := 0) (i := 15) bn_cX11_restore_0 dop_180 13 (by decide +kernel)
theorem dX11_restore_18 : decode cX11_restore 18 = .ok (.aload_n 0, 1) := dR0 (k := 0) (i := 18) bn_cX11_restore_0 dop_42 (by decide +kernel)
theorem dX11_restore_19 : decode cX11_restore 19 = .ok (.getfield 9, 3) := dR2 (f := Instr.getfield) (k := 0) (i := 19) bn_cX11_restore_0 dop_180 9 (by decide +kernel)
theorem dX11_restore_22 : decode cX11_restore 22 = .ok (.invokestatic 257, 3) := dR2 (f := Instr.invokestatic) (k := 0) (i := 22) bn_cX11_restore_0 dop_184 257 (by decide +kernel)
theorem dX11_restore_25 : decode cX11_restore 25 = .ok (.aload_n 0, 1) := dR0 (k := 0) (i := 25) bn_cX11_restore_0 dop_42 (by decide +kernel)
theorem dX11_restore_26 : decode cX11_restore 26 = .ok (.getfield 9, 3) := dR2 (f := Instr.getfield) (k := 0) (i := 26) bn_cX11_restore_0 dop_180 9 (by decide +kernel)
theorem dX11_restore_29 : decode cX11_restore 29 = .ok (.iconst 0, 1) := dR0 (k := 0) (i := 29) bn_cX11_restore_0 dop_3 (by decide +kernel)
theorem dX11_restore_30 : decode cX11_restore 30 = .ok (.iaload, 1) := dR0 (k := 0) (i := 30) bn_cX11_restore_0 dop_46 (by decide +kernel)
theorem dX11_restore_31 : decode cX11_restore 31 = .ok (.ireturn, 1) := dR0 (k := 0) (i := 31) bn_cX11_restore_0 dop_172 (by decide +kernel)
set_option maxHeartbeats 4000000 in
set_option maxRecDepth 100000 in
theorem c_X11_restoreG (l : Launch) (D : va_G) (cI : ClassId) (aK aV : Nat → Nat) (k k0 k1 k2 k4 k5 k6 k7 k8 ka kb kl ko : Nat) (sz : Nat) (c3 : Int32) (c9 : Int32) (cc : Int32) (cd : Int32) (ce : Int32) (cf : Int32) (cg : Int32) (ch : Int32) (ci : Int32) (cj : Int32) (ck : Int32) (cm : Int32) (cn : Int32) (c0 : Nat → Int32) (c1 : Nat → Int32) (c4 : Nat → Int32) (pre0 : SIX c0 (-1)) (pre1 : SIX c1 (-1)) : Met l yX11_restore (gW yX11_restore cX11_restore 1 (some .int)) ({ frames := 1, cells := 0, slots := 0, locals := 22 } : Room) (kPreX D cI aK aV [.ref k] [(k, .inr (11, [.ref k0, .ref k1, .ref k2, .int c3, .ref k4, .ref k5, .ref k6, .ref k7, .ref k8, .int c9, .ref ka, .ref kb, .int cc, .int cd, .int ce, .int cf, .int cg, .int ch, .int ci, .int cj, .int ck, .ref kl, .int cm, .int cn, .ref ko])), (k0, .inl (cI, 1201, .inl c0)), (k1, .inl (cI, 1201, .inl c1)), (k4, .inl (cI, 6, .inl c4))] sz) (va_Qi (fun (r : Int32) (u : (Nat → Int32) × (Nat → Int32)) => SIX u.1 (-1) ∧ r = restR c3 (c1 0) ∧ u.1 = ifF c3 c0 c1) (fun u t => kWd D cI (va_A [(k, .inr (11, [.ref k0, .ref k1, .ref k2, .int c3, .ref k4, .ref k5, .ref k6, .ref k7, .ref k8, .int c9, .ref ka, .ref kb, .int cc, .int cd, .int ce, .int cf, .int cg, .int ch, .int ci, .int cj, .int ck, .ref kl, .int cm, .int cn, .ref ko])), (k0, .inl (cI, 1201, .inl c0)), (k1, .inl (cI, 1201, .inl c1)), (k4, .inl (cI, 6, .inl c4))] sz) [(k, .inr (11, [.ref k0, .ref k1, .ref k2, .int c3, .ref k4, .ref k5, .ref k6, .ref k7, .ref k8, .int c9, .ref ka, .ref kb, .int cc, .int cd, .int ce, .int cf, .int cg, .int ch, .int ci, .int cj, .int ck, .ref kl, .int cm, .int cn, .ref ko])), (k0, .inl (cI, 1201, .inl u.1)), (k1, .inl (cI, 1201, .inl c1)), (k4, .inl (cI, 6, .inl u.2))] t) (va_A [(k, .inr (11, [.ref k0, .ref k1, .ref k2, .int c3, .ref k4, .ref k5, .ref k6, .ref k7, .ref k8, .int c9, .ref ka, .ref kb, .int cc, .int cd, .int ce, .int cf, .int cg, .int ch, .int ci, .int cj, .int ck, .ref kl, .int cm, .int cn, .ref ko])), (k0, .inl (cI, 1201, .inl c0)), (k1, .inl (cI, 1201, .inl c1)), (k4, .inl (cI, 6, .inl c4))] sz)) 0 0 (va_A [(k, .inr (11, [.ref k0, .ref k1, .ref k2, .int c3, .ref k4, .ref k5, .ref k6, .ref k7, .ref k8, .int c9, .ref ka, .ref kb, .int cc, .int cd, .int ce, .int cf, .int cg, .int ch, .int ci, .int cj, .int ck, .ref kl, .int cm, .int cn, .ref ko])), (k0, .inl (cI, 1201, .inl c0)), (k1, .inl (cI, 1201, .inl c1)), (k4, .inl (cI, 6, .inl c4))] sz) := by
  refine kMetIX (own := RX11) (by decide +kernel) rfl (Nat.le_of_ble_eq_true rfl) ?_
  intro p e s m args below meth c hx hb hT hown hname hml A Q hK hP hD hS hA hN hXS hRet ls hl
  have hl : lv_has ls 1 [(0, .ref k)] := hl
  have lo_c3 := k_lo c3
  have hi_c3 := k_hi c3
  have lo_ci := k_lo ci
  have hi_ci := k_hi ci
  have pre0 : SIX c0 (-1) := pre0
  have nb_1 : 0 ≤ (c0 0).toInt ∧ (c0 0).toInt ≤ 2000 := SB.n0 (And.left pre0)
  have nb_2 : 0 ≤ (c0 1).toInt ∧ (c0 1).toInt ≤ 60 := SB.n1 (And.left pre0)
  have nb_3 : 0 ≤ (c0 2).toInt ∧ (c0 2).toInt ≤ 4 := SB.n2 (And.left pre0)
  have pre1 : SIX c1 (-1) := pre1
  refine lv_aload_n hx hb dX11_restore_0 rfl (lv_at hl 0 rfl) ?_
  refine va_get (D := D) (ci := 11) (v := .int c3) (C := RX11) (T := TX11) (N := 25) hx hb hT giX11 hown hK hP 0 rfl rfl 3 (by decide +kernel) (hT (Cond.fieldLink RX11 279 "DesertWireModel" "images" "I") mw_1159) (fun _ h9 => h9) rfl dX11_restore_1 ?_
  refine b_if_ne hx hb rfl (tgt := 14) dX11_restore_4 (by decide +kernel) (fun c_4 => ?_) (fun c_4 => ?_)
  · refine lv_aload_n hx hb dX11_restore_14 rfl (lv_at hl 0 rfl) ?_
    refine va_get (D := D) (ci := 11) (v := .ref k1) (C := RX11) (T := TX11) (N := 25) hx hb hT giX11 hown hK hP 0 rfl rfl 1 (by decide +kernel) (hT (Cond.fieldLink RX11 13 "DesertWireModel" "kept" "[I") mw_1157) (fun _ h9 => h9) rfl dX11_restore_15 ?_
    refine lv_aload_n hx hb dX11_restore_18 rfl (lv_at hl 0 rfl) ?_
    refine va_get (D := D) (ci := 11) (v := .ref k0) (C := RX11) (T := TX11) (N := 25) hx hb hT giX11 hown hK hP 0 rfl rfl 0 (by decide +kernel) (hT (Cond.fieldLink RX11 9 "DesertWireModel" "s" "[I") mw_1156) (fun _ h9 => h9) rfl dX11_restore_19 ?_
    refine kJv (wr := [(k, .inr (11, [.ref k0, .ref k1, .ref k2, .int c3, .ref k4, .ref k5, .ref k6, .ref k7, .ref k8, .int c9, .ref ka, .ref kb, .int cc, .int cd, .int ce, .int cf, .int cg, .int ch, .int ci, .int cj, .int ck, .ref kl, .int cm, .int cn, .ref ko])), (k4, .inl (cI, 6, .inl c4))]) (va_runS (As := [.ref k1, .ref k0]) (rest := []) ⟨hx, hb, hml, hown, hT⟩ (c_X11_copyG l D cI aK aV k1 k0 s.heap.size c1 c0) (cwS 2 hT (gS_in mw_1558 mw_1556 mw_1557 mw_12) rfl rfl rfl (by decide +kernel) ⟨Nat.le_of_ble_eq_true rfl, Nat.le_of_ble_eq_true rfl⟩) (kStatX hK hP hD hN hXS hS hA [2, 1] rfl (by decide +kernel)) rfl rfl hl.1 rfl (lv_room (Nat.le_of_ble_eq_true rfl)) dX11_restore_22 ⟨Nat.le_of_ble_eq_true rfl, Nat.le_of_ble_eq_true rfl⟩) hP hD hS hA [2, 1] [0, 3] rfl rfl (by decide +kernel) (by decide +kernel) ?_
    clear hP hD hS
    intro ser_7 H locs w_6 hP hD hS
    replace hP : va_P D vwCl [(k, .inr (11, [.ref k0, .ref k1, .ref k2, .int c3, .ref k4, .ref k5, .ref k6, .ref k7, .ref k8, .int c9, .ref ka, .ref kb, .int cc, .int cd, .int ce, .int cf, .int cg, .int ch, .int ci, .int cj, .int ck, .ref kl, .int cm, .int cn, .ref ko])), (k4, .inl (cI, 6, .inl c4)), (k1, .inl (cI, 1201, .inl c1)), (k0, .inl (cI, 1201, .inl ser_7))] H := hP
    replace hD : va_D A [(k, .inr (11, [.ref k0, .ref k1, .ref k2, .int c3, .ref k4, .ref k5, .ref k6, .ref k7, .ref k8, .int c9, .ref ka, .ref kb, .int cc, .int cd, .int ce, .int cf, .int cg, .int ch, .int ci, .int cj, .int ck, .ref kl, .int cm, .int cn, .ref ko])), (k4, .inl (cI, 6, .inl c4)), (k1, .inl (cI, 1201, .inl c1)), (k0, .inl (cI, 1201, .inl ser_7))] := hD
    have h_8 := w_6
    have h_8 : ser_7 = c1 := h_8
    have hS_9 : SIX ser_7 (-1) := by rw [h_8]; exact pre1
    have n_10 : (ser_7 0).toInt = (c1 0).toInt := by rw [h_8]
    have n_11 : (ser_7 1).toInt = (c1 1).toInt := by rw [h_8]
    have n_12 : (ser_7 2).toInt = (c1 2).toInt := by rw [h_8]
    refine lv_aload_n hx hb dX11_restore_25 rfl (lv_at hl 0 rfl) ?_
    refine va_get (D := D) (ci := 11) (v := .ref k0) (C := RX11) (T := TX11) (N := 25) hx hb hT giX11 hown hK hP 0 rfl rfl 0 (by decide +kernel) (hT (Cond.fieldLink RX11 9 "DesertWireModel" "s" "[I") mw_1156) (fun _ h9 => h9) rfl dX11_restore_26 ?_
    refine lv_iconst (v := 0) hx hb dX11_restore_29 (by decide +kernel) ?_
    refine k_iald (v := (ser_7 0)) hx hb hK hP 3 0 rfl rfl (k_inl (by decide +kernel)) rfl dX11_restore_30 ?_
    refine lv_topi (fun v_13 ev_13 => ?_)
    have lo_v_13 := k_lo v_13
    have hi_v_13 := k_hi v_13
    have tv_13 : v_13.toInt = (ser_7 0).toInt := by rw [ev_13]
    have b_14 : 0 ≤ v_13.toInt ∧ v_13.toInt ≤ 2000 := by first | (rw [tv_13]; exact SB.n0 (And.left hS_9)) | exact SB.n0 (And.left hS_9) | omega
    exact hRet (ser_7, c4) [0, 3, 2, 1] ⟨hS_9, (by (try dsimp only); unfold restR; (repeat (first | rw [if_pos (by omega)] | rw [if_neg (by omega)])); first | done | exact (by rw [ev_13, h_8])), (by (try dsimp only); unfold ifF; (repeat (first | rw [if_pos (by omega)] | rw [if_neg (by omega)])); first | done | exact h_8)⟩ hP hD (by decide +kernel) rfl hS rfl dX11_restore_31
  · refine lv_aload_n hx hb dX11_restore_7 rfl (lv_at hl 0 rfl) ?_
    refine lv_ldc (v := (-1000002)) hx hb hown (hT _ mw_1392) dX11_restore_8 ?_
    refine kJi (wr := [(k0, .inl (cI, 1201, .inl c0)), (k1, .inl (cI, 1201, .inl c1))]) (va_runV (As := [.int (-1000002)]) (rest := []) ⟨hx, hb, hml, hown, hT⟩ (c_X11_findingG l D cI aK aV k k0 k1 k2 k4 k5 k6 k7 k8 ka kb kl ko s.heap.size c3 c9 cc cd ce cf cg ch ci cj ck cm cn c4 (-1000002) (by first | omega | (simp only [zl_m1000002]; first | done | omega) | decide | assumption | rfl) (by first | omega | (simp only [zl_m1000002]; first | done | omega) | decide | assumption | rfl)) (cwV 1 hT (gV_in mw_1243 mw_1240 mw_1242 mw_p3_8 mw_12) rfl rfl rfl (by decide +kernel) ⟨Nat.le_of_ble_eq_true rfl, Nat.le_of_ble_eq_true rfl⟩) (kRecvX (q0 := 0) (ci := 11) hK hP hD hN hXS hS hA rfl rfl [0, 3] rfl (by decide +kernel)) rfl rfl hl.1 rfl (lv_room (Nat.le_of_ble_eq_true rfl)) dX11_restore_10 ⟨Nat.le_of_ble_eq_true rfl, Nat.le_of_ble_eq_true rfl⟩) hP hD hS hA [0, 3] [1, 2] rfl rfl (by decide +kernel) (by decide +kernel) ?_
    clear hP hD hS
    intro r_15 sc4_17 H locs w_16 hP hD hS
    replace hP : va_P D vwCl [(k0, .inl (cI, 1201, .inl c0)), (k1, .inl (cI, 1201, .inl c1)), (k, .inr (11, [.ref k0, .ref k1, .ref k2, .int c3, .ref k4, .ref k5, .ref k6, .ref k7, .ref k8, .int c9, .ref ka, .ref kb, .int cc, .int cd, .int ce, .int cf, .int cg, .int ch, .int ci, .int cj, .int ck, .ref kl, .int cm, .int cn, .ref ko])), (k4, .inl (cI, 6, .inl sc4_17))] H := hP
    replace hD : va_D A [(k0, .inl (cI, 1201, .inl c0)), (k1, .inl (cI, 1201, .inl c1)), (k, .inr (11, [.ref k0, .ref k1, .ref k2, .int c3, .ref k4, .ref k5, .ref k6, .ref k7, .ref k8, .int c9, .ref ka, .ref kb, .int cc, .int cd, .int ce, .int cf, .int cg, .int ch, .int ci, .int cj, .int ck, .ref kl, .int cm, .int cn, .ref ko])), (k4, .inl (cI, 6, .inl sc4_17))] := hD
    have hr_15 := w_16
    obtain rfl : r_15 = (-1000002) := hr_15.trans (by decide +kernel)
    exact hRet (c0, sc4_17) [2, 0, 1, 3] ⟨pre0, (by (try dsimp only); unfold restR; (repeat (first | rw [if_pos (by omega)] | rw [if_neg (by omega)]))), (by (try dsimp only); unfold ifF; (repeat (first | rw [if_pos (by omega)] | rw [if_neg (by omega)])))⟩ hP hD (by decide +kernel) rfl hS rfl dX11_restore_13
theorem bn_cX11_ahead_0 : BN cX11_ahead 0 0xd0ac0c371781414015a8ac14015401804b71582c02a1050443a1700aa0fa015b8743c2b06805460a08875e900540080c857f8056e2b07005461c030580c370202802b6088056a2b1580804b9088056a2b028680a3b050056a2b5690402b72004c560b00a6cf4015b878561300a8c14110e848029a18005720b088103a1c00a91a20809184382f0202802b5158a8029a1800572c900848081c := by
  unfold BN; decide +kernel
theorem dX11_ahead_0 : decode cX11_ahead 0 = .ok (.iload_n 1, 1) := dR0 (k := 0) (i := 0) bn_cX11_ahead_0 dop_27 (by decide +kernel)
theorem dX11_ahead_1 : decode cX11_ahead 1 = .ok (.iconst 0, 1) := dR0 (k := 0) (i := 1) bn_cX11_ahead_0 dop_3 (by decide +kernel)
theorem dX11_ahead_2 : decode cX11_ahead 2 = .ok (.sipush 200, 3) := dR2s (f := Instr.sipush) (k := 0) (i := 2) bn_cX11_ahead_0 dop_17 200 200 (by decide +kernel)
theorem dX11_ahead_5 : decode cX11_ahead 5 = .ok (.invokestatic 47, 3) := dR2 (f := Instr.invokestatic) (k := 0) (i := 5) bn_cX11_ahead_0 dop_184 47 (by decide +kernel)
theorem dX11_ahead_8 : decode cX11_ahead 8 = .ok (.ifCond .eq 41, 3) := dR2s (f := Instr.ifCond .eq) (k := 0) (i := 8) bn_cX11_ahead_0 dop_153 41 41 (by decide +kernel)
theorem dX11_ahead_11 : decode cX11_ahead 11 = .ok (.aload_n 0, 1) := dR0 (k := 0) (i := 11) bn_cX11_ahead_0 dop_42 (by decide +kernel)
theorem dX11_ahead_12 : decode cX11_ahead 12 = .ok (.getfield 9, 3) := dR2 (f := Instr.getfield) (k := 0) (i := 12) bn_cX11_ahead_0 dop_180 9 (by decide +kernel)
theorem dX11_ahead_15 : decode cX11_ahead 15 = .ok (.iconst 0, 1) := dR0 (k := 0) (i := 15) bn_cX11_ahead_0 dop_3 (by decide +kernel)
theorem dX11_ahead_16 : decode cX11_ahead 16 = .ok (.iaload, 1) := dR0 (k := 0) (i := 16) bn_cX11_ahead_0 dop_46 (by decide +kernel)
theorem dX11_ahead_17 : decode cX11_ahead 17 = .ok (.iload_n 1, 1) := dR0 (k := 0) (i := 17) bn_cX11_ahead_0 dop_27 (by decide +kernel)
theorem dX11_ahead_18 : decode cX11_ahead 18 = .ok (.iadd, 1) := dR0 (k := 0) (i := 18) bn_cX11_ahead_0 dop_96 (by decide +kernel)
theorem dX11_ahead_19 : decode cX11_ahead 19 = .ok (.sipush 2000, 3) := dR2s (f := Instr.sipush) (k := 0) (i := 19) bn_cX11_ahead_0 dop_17 2000 2000 (by decide +kernel)
theorem dX11_ahead_22 : decode cX11_ahead 22 = .ok (.if_icmp .gt 27, 3) := dR2s (f := Instr.if_icmp .gt) (k := 0) (i := 22) bn_cX11_ahead_0 dop_163 27 27 (by decide +kernel)
theorem dX11_ahead_25 : decode cX11_ahead 25 = .ok (.iload_n 2, 1) := dR0 (k := 0) (i := 25) bn_cX11_ahead_0 dop_28 (by decide +kernel)
theorem dX11_ahead_26 : decode cX11_ahead 26 = .ok (.iconst 0, 1) := dR0 (k := 0) (i := 26) bn_cX11_ahead_0 dop_3 (by decide +kernel)
theorem dX11_ahead_27 : decode cX11_ahead 27 = .ok (.bipush 10, 2) := dR1s (f := Instr.bipush) (k := 0) (i := 27) bn_cX11_ahead_0 dop_16 10 10 (by decide +kernel)
theorem dX11_ahead_29 : decode cX11_ahead 29 = .ok (.invokestatic 47, 3) := dR2 (f := Instr.invokestatic) (k := 0) (i := 29) bn_cX11_ahead_0 dop_184 47 (by decide +kernel)
theorem dX11_ahead_32 : decode cX11_ahead 32 = .ok (.ifCond .eq 17, 3) := dR2s (f := Instr.ifCond .eq) (k := 0) (i := 32) bn_cX11_ahead_0 dop_153 17 17 (by decide +kernel)
theorem dX11_ahead_35 : decode cX11_ahead 35 = .ok (.iload_n 2, 1) := dR0 (k := 0) (i := 35) bn_cX11_ahead_0 dop_28 (by decide +kernel)
theorem dX11_ahead_36 : decode cX11_ahead 36 = .ok (.bipush 9, 2) := dR1s (f := Instr.bipush) (k := 0) (i := 36) bn_cX11_ahead_0 dop_16 9 9 (by decide +kernel)
theorem dX11_ahead_38 : decode cX11_ahead 38 = .ok (.if_icmp .ge 18, 3) := dR2s (f := Instr.if_icmp .ge) (k := 0) (i := 38) bn_cX11_ahead_0 dop_162 18 18 (by decide +kernel)
theorem dX11_ahead_41 : decode cX11_ahead 41 = .ok (.aload_n 0, 1) := dR0 (k := 0) (i := 41) bn_cX11_ahead_0 dop_42 (by decide +kernel)
theorem dX11_ahead_42 : decode cX11_ahead 42 = .ok (.iload_n 3, 1) := dR0 (k := 0) (i := 42) bn_cX11_ahead_0 dop_29 (by decide +kernel)
theorem dX11_ahead_43 : decode cX11_ahead 43 = .ok (.invokevirtual 121, 3) := dR2 (f := Instr.invokevirtual) (k := 0) (i := 43) bn_cX11_ahead_0 dop_182 121 (by decide +kernel)
theorem dX11_ahead_46 : decode cX11_ahead 46 = .ok (.ifCond .ne 10, 3) := dR2s (f := Instr.ifCond .ne) (k := 0) (i := 46) bn_cX11_ahead_0 dop_154 10 10 (by decide +kernel)
theorem dX11_ahead_49 : decode cX11_ahead 49 = .ok (.aload_n 0, 1) := dR0 (k := 0) (i := 49) bn_cX11_ahead_0 dop_42 (by decide +kernel)
theorem dX11_ahead_50 : decode cX11_ahead 50 = .ok (.ldc 63, 2) := dR1 (f := Instr.ldc) (k := 0) (i := 50) bn_cX11_ahead_0 dop_18 63 (by decide +kernel)
theorem dX11_ahead_52 : decode cX11_ahead 52 = .ok (.invokevirtual 64, 3) := dR2 (f := Instr.invokevirtual) (k := 0) (i := 52) bn_cX11_ahead_0 dop_182 64 (by decide +kernel)
theorem dX11_ahead_55 : decode cX11_ahead 55 = .ok (.ireturn, 1) := dR0 (k := 0) (i := 55) bn_cX11_ahead_0 dop_172 (by decide +kernel)
theorem dX11_ahead_56 : decode cX11_ahead 56 = .ok (.aload_n 0, 1) := dR0 (k := 0) (i := 56) bn_cX11_ahead_0 dop_42 (by decide +kernel)
theorem dX11_ahead_57 : decode cX11_ahead 57 = .ok (.getfield 9, 3) := dR2 (f := Instr.getfield) (k := 0) (i := 57) bn_cX11_ahead_0 dop_180 9 (by decide +kernel)
theorem dX11_ahead_60 : decode cX11_ahead 60 = .ok (.astore 4, 2) := dR1 (f := Instr.astore) (k := 0) (i := 60) bn_cX11_ahead_0 dop_58 4 (by decide +kernel)
theorem dX11_ahead_62 : decode cX11_ahead 62 = .ok (.aload 4, 2) := dR1 (f := Instr.aload) (k := 0) (i := 62) bn_cX11_ahead_0 dop_25 4 (by decide +kernel)
theorem dX11_ahead_64 : decode cX11_ahead 64 = .ok (.aload_n 0, 1) := dR0 (k := 0) (i := 64) bn_cX11_ahead_0 dop_42 (by decide +kernel)
theorem dX11_ahead_65 : decode cX11_ahead 65 = .ok (.getfield 16, 3) := dR2 (f := Instr.getfield) (k := 0) (i := 65) bn_cX11_ahead_0 dop_180 16 (by decide +kernel)
theorem dX11_ahead_68 : decode cX11_ahead 68 = .ok (.invokestatic 257, 3) := dR2 (f := Instr.invokestatic) (k := 0) (i := 68) bn_cX11_ahead_0 dop_184 257 (by decide +kernel)
theorem dX11_ahead_71 : decode cX11_ahead 71 = .ok (.aload_n 0, 1) := dR0 (k := 0) (i := 71) bn_cX11_ahead_0 dop_42 (by decide +kernel)
theorem dX11_ahead_72 : decode cX11_ahead 72 = .ok (.aload_n 0, 1) := dR0 (k := 0) (i := 72) bn_cX11_ahead_0 dop_42 (by decide +kernel)
theorem dX11_ahead_73 : decode cX11_ahead 73 = .ok (.getfield 16, 3) := dR2 (f := Instr.getfield) (k := 0) (i := 73) bn_cX11_ahead_0 dop_180 16 (by decide +kernel)
theorem dX11_ahead_76 : decode cX11_ahead 76 = .ok (.putfield 9, 3) := dR2 (f := Instr.putfield) (k := 0) (i := 76) bn_cX11_ahead_0 dop_181 9 (by decide +kernel)
theorem dX11_ahead_79 : decode cX11_ahead 79 = .ok (.iconst 0, 1) := dR0 (k := 0) (i := 79) bn_cX11_ahead_0 dop_3 (by decide +kernel)
theorem dX11_ahead_80 : decode cX11_ahead 80 = .ok (.istore 5, 2) := dR1 (f := Instr.istore) (k := 0) (i := 80) bn_cX11_ahead_0 dop_54 5 (by decide +kernel)
theorem dX11_ahead_82 : decode cX11_ahead 82 = .ok (.iload 5, 2) := dR1 (f := Instr.iload) (k := 0) (i := 82) bn_cX11_ahead_0 dop_21 5 (by decide +kernel)
theorem dX11_ahead_84 : decode cX11_ahead 84 = .ok (.iload_n 1, 1) := dR0 (k := 0) (i := 84) bn_cX11_ahead_0 dop_27 (by decide +kernel)
theorem dX11_ahead_85 : decode cX11_ahead 85 = .ok (.if_icmp .ge 13, 3) := dR2s (f := Instr.if_icmp .ge) (k := 0) (i := 85) bn_cX11_ahead_0 dop_162 13 13 (by decide +kernel)
theorem dX11_ahead_88 : decode cX11_ahead 88 = .ok (.aload_n 0, 1) := dR0 (k := 0) (i := 88) bn_cX11_ahead_0 dop_42 (by decide +kernel)
theorem dX11_ahead_89 : decode cX11_ahead 89 = .ok (.invokevirtual 254, 3) := dR2 (f := Instr.invokevirtual) (k := 0) (i := 89) bn_cX11_ahead_0 dop_182 254 (by decide +kernel)
theorem dX11_ahead_92 : decode cX11_ahead 92 = .ok (.iinc 5 1, 3) := dRii (f := Instr.iinc) (k := 0) (i := 92) bn_cX11_ahead_0 dop_132 5 1 1 (by decide +kernel)
theorem dX11_ahead_95 : decode cX11_ahead 95 = .ok (.goto (-13), 3) := dR2s (f := Instr.goto) (k := 0) (i := 95) bn_cX11_ahead_0 dop_167 65523 (-13) (by decide +kernel)
theorem dX11_ahead_98 : decode cX11_ahead 98 = .ok (.iload_n 2, 1) := dR0 (k := 0) (i := 98) bn_cX11_ahead_0 dop_28 (by decide +kernel)
theorem dX11_ahead_99 : decode cX11_ahead 99 = .ok (.bipush 9, 2) := dR1s (f := Instr.bipush) (k := 0) (i := 99) bn_cX11_ahead_0 dop_16 9 9 (by decide +kernel)
theorem dX11_ahead_101 : decode cX11_ahead 101 = .ok (.if_icmp .ge 12, 3) := dR2s (f := Instr.if_icmp .ge) (k := 0) (i := 101) bn_cX11_ahead_0 dop_162 12 12 (by decide +kernel)
theorem dX11_ahead_104 : decode cX11_ahead 104 = .ok (.aload_n 0, 1) := dR0 (k := 0) (i := 104) bn_cX11_ahead_0 dop_42 (by decide +kernel)
theorem dX11_ahead_105 : decode cX11_ahead 105 = .ok (.iload_n 3, 1) := dR0 (k := 0) (i := 105) bn_cX11_ahead_0 dop_29 (by decide +kernel)
theorem dX11_ahead_106 : decode cX11_ahead 106 = .ok (.iload_n 2, 1) := dR0 (k := 0) (i := 106) bn_cX11_ahead_0 dop_28 (by decide +kernel)
theorem dX11_ahead_107 : decode cX11_ahead 107 = .ok (.invokevirtual 124, 3) := dR2 (f := Instr.invokevirtual) (k := 0) (i := 107) bn_cX11_ahead_0 dop_182 124 (by decide +kernel)
theorem dX11_ahead_110 : decode cX11_ahead 110 = .ok (.goto 22, 3) := dR2s (f := Instr.goto) (k := 0) (i := 110) bn_cX11_ahead_0 dop_167 22 22 (by decide +kernel)
theorem dX11_ahead_113 : decode cX11_ahead 113 = .ok (.iload_n 2, 1) := dR0 (k := 0) (i := 113) bn_cX11_ahead_0 dop_28 (by decide +kernel)
theorem dX11_ahead_114 : decode cX11_ahead 114 = .ok (.bipush 9, 2) := dR1s (f := Instr.bipush) (k := 0) (i := 114) bn_cX11_ahead_0 dop_16 9 9 (by decide +kernel)
theorem dX11_ahead_116 : decode cX11_ahead 116 = .ok (.if_icmp .ne 10, 3) := dR2s (f := Instr.if_icmp .ne) (k := 0) (i := 116) bn_cX11_ahead_0 dop_160 10 10 (by decide +kernel)
theorem dX11_ahead_119 : decode cX11_ahead 119 = .ok (.aload_n 0, 1) := dR0 (k := 0) (i := 119) bn_cX11_ahead_0 dop_42 (by decide +kernel)
theorem dX11_ahead_120 : decode cX11_ahead 120 = .ok (.invokevirtual 261, 3) := dR2 (f := Instr.invokevirtual) (k := 0) (i := 120) bn_cX11_ahead_0 dop_182 261 (by decide +kernel)
theorem dX11_ahead_123 : decode cX11_ahead 123 = .ok (.goto 9, 3) := dR2s (f := Instr.goto) (k := 0) (i := 123) bn_cX11_ahead_0 dop_167 9 9 (by decide +kernel)
theorem dX11_ahead_126 : decode cX11_ahead 126 = .ok (.aload_n 0, 1) := dR0 (k := 0) (i := 126) bn_cX11_ahead_0 dop_42 (by decide +kernel)
theorem dX11_ahead_127 : decode cX11_ahead 127 = .ok (.getfield 9, 3) := dR2 (f := Instr.getfield) (k := 0) (i := 127) bn_cX11_ahead_0 dop_180 9 (by decide +kernel)
theorem bn_cX11_ahead_128 : BN cX11_ahead 128 0x2b40c16050056c050d0ac0c37178141401 := by
  unfold BN; decide +kernel
theorem dX11_ahead_130 : decode cX11_ahead 130 = .ok (.iconst 1, 1) := dR0 (k := 128) (i := 2) bn_cX11_ahead_128 dop_4 (by decide +kernel)
theorem dX11_ahead_131 : decode cX11_ahead 131 = .ok (.iaload, 1) := dR0 (k := 128) (i := 3) bn_cX11_ahead_128 dop_46 (by decide +kernel)
theorem dX11_ahead_132 : decode cX11_ahead 132 = .ok (.istore 5, 2) := dR1 (f := Instr.istore) (k := 128) (i := 4) bn_cX11_ahead_128 dop_54 5 (by decide +kernel)
theorem dX11_ahead_134 : decode cX11_ahead 134 = .ok (.aload_n 0, 1) := dR0 (k := 128) (i := 6) bn_cX11_ahead_128 dop_42 (by decide +kernel)
theorem dX11_ahead_135 : decode cX11_ahead 135 = .ok (.aload 4, 2) := dR1 (f := Instr.aload) (k := 128) (i := 7) bn_cX11_ahead_128 dop_25 4 (by decide +kernel)
theorem dX11_ahead_137 : decode cX11_ahead 137 = .ok (.putfield 9, 3) := dR2 (f := Instr.putfield) (k := 128) (i := 9) bn_cX11_ahead_128 dop_181 9 (by decide +kernel)
theorem dX11_ahead_140 : decode cX11_ahead 140 = .ok (.iload 5, 2) := dR1 (f := Instr.iload) (k := 128) (i := 12) bn_cX11_ahead_128 dop_21 5 (by decide +kernel)
theorem dX11_ahead_142 : decode cX11_ahead 142 = .ok (.ireturn, 1) := dR0 (k := 128) (i := 14) bn_cX11_ahead_128 dop_172 (by decide +kernel)
set_option maxHeartbeats 4000000 in
set_option maxRecDepth 100000 in
theorem c_X11_aheadG (l : Launch) (D : va_G) (cI : ClassId) (aK aV : Nat → Nat) (k k0 k1 k2 k4 k5 k6 k7 k8 ka kb kl ko : Nat) (sz : Nat) (c3 : Int32) (c9 : Int32) (cc : Int32) (cd : Int32) (ce : Int32) (cf : Int32) (cg : Int32) (ch : Int32) (ci : Int32) (cj : Int32) (ck : Int32) (cm : Int32) (cn : Int32) (c0 : Nat → Int32) (c2 : Nat → Int32) (c4 : Nat → Int32) (a0 : Int32) (a1 : Int32) (a2 : Int32) (pre0 : SIX c0 (-1)) : Met l yX11_ahead (gW yX11_ahead cX11_ahead 6 (some .int)) ({ frames := 6, cells := 0, slots := 0, locals := 132 } : Room) (kPreX D cI aK aV [.ref k, .int a0, .int a1, .int a2] [(k, .inr (11, [.ref k0, .ref k1, .ref k2, .int c3, .ref k4, .ref k5, .ref k6, .ref k7, .ref k8, .int c9, .ref ka, .ref kb, .int cc, .int cd, .int ce, .int cf, .int cg, .int ch, .int ci, .int cj, .int ck, .ref kl, .int cm, .int cn, .ref ko])), (k0, .inl (cI, 1201, .inl c0)), (k2, .inl (cI, 1201, .inl c2)), (k4, .inl (cI, 6, .inl c4))] sz) (va_Qi (fun (r : Int32) (u : (Nat → Int32) × (Nat → Int32)) => r = ahdR c0 a0 a1 a2) (fun u t => kWd D cI (va_A [(k, .inr (11, [.ref k0, .ref k1, .ref k2, .int c3, .ref k4, .ref k5, .ref k6, .ref k7, .ref k8, .int c9, .ref ka, .ref kb, .int cc, .int cd, .int ce, .int cf, .int cg, .int ch, .int ci, .int cj, .int ck, .ref kl, .int cm, .int cn, .ref ko])), (k0, .inl (cI, 1201, .inl c0)), (k2, .inl (cI, 1201, .inl c2)), (k4, .inl (cI, 6, .inl c4))] sz) [(k, .inr (11, [.ref k0, .ref k1, .ref k2, .int c3, .ref k4, .ref k5, .ref k6, .ref k7, .ref k8, .int c9, .ref ka, .ref kb, .int cc, .int cd, .int ce, .int cf, .int cg, .int ch, .int ci, .int cj, .int ck, .ref kl, .int cm, .int cn, .ref ko])), (k0, .inl (cI, 1201, .inl c0)), (k2, .inl (cI, 1201, .inl u.1)), (k4, .inl (cI, 6, .inl u.2))] t) (va_A [(k, .inr (11, [.ref k0, .ref k1, .ref k2, .int c3, .ref k4, .ref k5, .ref k6, .ref k7, .ref k8, .int c9, .ref ka, .ref kb, .int cc, .int cd, .int ce, .int cf, .int cg, .int ch, .int ci, .int cj, .int ck, .ref kl, .int cm, .int cn, .ref ko])), (k0, .inl (cI, 1201, .inl c0)), (k2, .inl (cI, 1201, .inl c2)), (k4, .inl (cI, 6, .inl c4))] sz)) 0 0 (va_A [(k, .inr (11, [.ref k0, .ref k1, .ref k2, .int c3, .ref k4, .ref k5, .ref k6, .ref k7, .ref k8, .int c9, .ref ka, .ref kb, .int cc, .int cd, .int ce, .int cf, .int cg, .int ch, .int ci, .int cj, .int ck, .ref kl, .int cm, .int cn, .ref ko])), (k0, .inl (cI, 1201, .inl c0)), (k2, .inl (cI, 1201, .inl c2)), (k4, .inl (cI, 6, .inl c4))] sz) := by
  refine kMetIX (own := RX11) (by decide +kernel) rfl (Nat.le_of_ble_eq_true rfl) ?_
  intro p e s m args below meth c hx hb hT hown hname hml A Q hK hP hD hS hA hN hXS hRet ls hl
  have hl : lv_has ls 6 [(0, .ref k), (1, .int a0), (2, .int a1), (3, .int a2)] := hl
  have lo_a0 := k_lo a0
  have hi_a0 := k_hi a0
  have lo_a1 := k_lo a1
  have hi_a1 := k_hi a1
  have lo_a2 := k_lo a2
  have hi_a2 := k_hi a2
  have lo_ci := k_lo ci
  have hi_ci := k_hi ci
  have pre0 : SIX c0 (-1) := pre0
  have nb_1 : 0 ≤ (c0 0).toInt ∧ (c0 0).toInt ≤ 2000 := SB.n0 (And.left pre0)
  have nb_2 : 0 ≤ (c0 1).toInt ∧ (c0 1).toInt ≤ 60 := SB.n1 (And.left pre0)
  have nb_3 : 0 ≤ (c0 2).toInt ∧ (c0 2).toInt ≤ 4 := SB.n2 (And.left pre0)
  refine lv_iload_n hx hb dX11_ahead_0 rfl (lv_at hl 1 rfl) ?_
  refine lv_iconst (v := 0) hx hb dX11_ahead_1 (by decide +kernel) ?_
  refine lv_sipush (v := 200) hx hb dX11_ahead_2 (by decide +kernel) ?_
  refine kJi (wr := [(k, .inr (11, [.ref k0, .ref k1, .ref k2, .int c3, .ref k4, .ref k5, .ref k6, .ref k7, .ref k8, .int c9, .ref ka, .ref kb, .int cc, .int cd, .int ce, .int cf, .int cg, .int ch, .int ci, .int cj, .int ck, .ref kl, .int cm, .int cn, .ref ko])), (k0, .inl (cI, 1201, .inl c0)), (k2, .inl (cI, 1201, .inl c2)), (k4, .inl (cI, 6, .inl c4))]) (va_runS (As := [.int a0, .int 0, .int 200]) (rest := []) ⟨hx, hb, hml, hown, hT⟩ (c_X11_inG l D cI aK aV s.heap.size a0 0 200) (cwS 3 hT (gS_in mw_1238 mw_1236 mw_1237 mw_12) rfl rfl rfl (by decide +kernel) ⟨Nat.le_of_ble_eq_true rfl, Nat.le_of_ble_eq_true rfl⟩) (kStatX hK hP hD hN hXS hS hA [] rfl (by decide +kernel)) rfl rfl hl.1 rfl (lv_room (Nat.le_of_ble_eq_true rfl)) dX11_ahead_5 ⟨Nat.le_of_ble_eq_true rfl, Nat.le_of_ble_eq_true rfl⟩) hP hD hS hA [] [0, 1, 2, 3] rfl rfl (by decide +kernel) (by decide +kernel) ?_
  clear hP hD hS
  intro r_4 u_6 H locs w_5 hP hD hS
  replace hP : va_P D vwCl [(k, .inr (11, [.ref k0, .ref k1, .ref k2, .int c3, .ref k4, .ref k5, .ref k6, .ref k7, .ref k8, .int c9, .ref ka, .ref kb, .int cc, .int cd, .int ce, .int cf, .int cg, .int ch, .int ci, .int cj, .int ck, .ref kl, .int cm, .int cn, .ref ko])), (k0, .inl (cI, 1201, .inl c0)), (k2, .inl (cI, 1201, .inl c2)), (k4, .inl (cI, 6, .inl c4))] H := hP
  replace hD : va_D A [(k, .inr (11, [.ref k0, .ref k1, .ref k2, .int c3, .ref k4, .ref k5, .ref k6, .ref k7, .ref k8, .int c9, .ref ka, .ref kb, .int cc, .int cd, .int ce, .int cf, .int cg, .int ch, .int ci, .int cj, .int ck, .ref kl, .int cm, .int cn, .ref ko])), (k0, .inl (cI, 1201, .inl c0)), (k2, .inl (cI, 1201, .inl c2)), (k4, .inl (cI, 6, .inl c4))] := hD
  rcases w_5 with ⟨hr_4, h_7, h_8⟩ | ⟨hr_4, h_9⟩
  · try simp only [zl_0, zl_200] at h_7
    have h_7 : 0 ≤ a0.toInt := h_7
    try simp only [zl_0, zl_200] at h_8
    have h_8 : a0.toInt ≤ 200 := h_8
    obtain rfl : r_4 = 1 := hr_4.trans (by decide +kernel)
    refine b_if_eq hx hb zl_1 (tgt := 49) dX11_ahead_8 (by decide +kernel) (fun c_10 => by exfalso; omega) (fun c_10 => ?_)
    refine lv_aload_n hx hb dX11_ahead_11 rfl (lv_at hl 0 rfl) ?_
    refine va_get (D := D) (ci := 11) (v := .ref k0) (C := RX11) (T := TX11) (N := 25) hx hb hT giX11 hown hK hP 0 rfl rfl 0 (by decide +kernel) (hT (Cond.fieldLink RX11 9 "DesertWireModel" "s" "[I") mw_1156) (fun _ h9 => h9) rfl dX11_ahead_12 ?_
    refine lv_iconst (v := 0) hx hb dX11_ahead_15 (by decide +kernel) ?_
    refine k_iald (v := (c0 0)) hx hb hK hP 1 0 rfl rfl (k_inl (by decide +kernel)) rfl dX11_ahead_16 ?_
    refine lv_topi (fun v_11 ev_11 => ?_)
    have lo_v_11 := k_lo v_11
    have hi_v_11 := k_hi v_11
    have tv_11 : v_11.toInt = (c0 0).toInt := by rw [ev_11]
    have b_12 : 0 ≤ v_11.toInt ∧ v_11.toInt ≤ 2000 := by first | (rw [tv_11]; exact SB.n0 (And.left pre0)) | exact SB.n0 (And.left pre0) | omega
    refine lv_iload_n hx hb dX11_ahead_17 rfl (lv_at hl 1 rfl) ?_
    refine lv_iadd hx hb dX11_ahead_18 ?_
    refine lv_topi (fun v_13 ev_13 => ?_)
    have tv_13 : v_13.toInt = v_11.toInt + a0.toInt := by rw [ev_13]; exact k_addv rfl rfl (by omega) (by omega)
    refine lv_sipush (v := 2000) hx hb dX11_ahead_19 (by decide +kernel) ?_
    refine b_icmp_gt hx hb rfl zl_2000 (tgt := 49) dX11_ahead_22 (by decide +kernel) (fun c_14 => ?_) (fun c_14 => ?_)
    · refine lv_aload_n hx hb dX11_ahead_49 rfl (lv_at hl 0 rfl) ?_
      refine lv_ldc (v := (-1000001)) hx hb hown (hT _ mw_1239) dX11_ahead_50 ?_
      refine kJi (wr := [(k0, .inl (cI, 1201, .inl c0)), (k2, .inl (cI, 1201, .inl c2))]) (va_runV (As := [.int (-1000001)]) (rest := []) ⟨hx, hb, hml, hown, hT⟩ (c_X11_findingG l D cI aK aV k k0 k1 k2 k4 k5 k6 k7 k8 ka kb kl ko H.size c3 c9 cc cd ce cf cg ch ci cj ck cm cn c4 (-1000001) (by first | omega | (simp only [zl_m1000001]; first | done | omega) | decide | assumption | rfl) (by first | omega | (simp only [zl_m1000001]; first | done | omega) | decide | assumption | rfl)) (cwV 1 hT (gV_in mw_1243 mw_1240 mw_1242 mw_p3_8 mw_12) rfl rfl rfl (by decide +kernel) ⟨Nat.le_of_ble_eq_true rfl, Nat.le_of_ble_eq_true rfl⟩) (kRecvX (q0 := 0) (ci := 11) hK hP hD hN hXS hS hA rfl rfl [0, 3] rfl (by decide +kernel)) rfl rfl hl.1 rfl (lv_room (Nat.le_of_ble_eq_true rfl)) dX11_ahead_52 ⟨Nat.le_of_ble_eq_true rfl, Nat.le_of_ble_eq_true rfl⟩) hP hD hS hA [0, 3] [1, 2] rfl rfl (by decide +kernel) (by decide +kernel) ?_
      clear hP hD hS
      intro r_15 sc4_17 H locs w_16 hP hD hS
      replace hP : va_P D vwCl [(k0, .inl (cI, 1201, .inl c0)), (k2, .inl (cI, 1201, .inl c2)), (k, .inr (11, [.ref k0, .ref k1, .ref k2, .int c3, .ref k4, .ref k5, .ref k6, .ref k7, .ref k8, .int c9, .ref ka, .ref kb, .int cc, .int cd, .int ce, .int cf, .int cg, .int ch, .int ci, .int cj, .int ck, .ref kl, .int cm, .int cn, .ref ko])), (k4, .inl (cI, 6, .inl sc4_17))] H := hP
      replace hD : va_D A [(k0, .inl (cI, 1201, .inl c0)), (k2, .inl (cI, 1201, .inl c2)), (k, .inr (11, [.ref k0, .ref k1, .ref k2, .int c3, .ref k4, .ref k5, .ref k6, .ref k7, .ref k8, .int c9, .ref ka, .ref kb, .int cc, .int cd, .int ce, .int cf, .int cg, .int ch, .int ci, .int cj, .int ck, .ref kl, .int cm, .int cn, .ref ko])), (k4, .inl (cI, 6, .inl sc4_17))] := hD
      have hr_15 := w_16
      obtain rfl : r_15 = (-1000001) := hr_15.trans (by decide +kernel)
      exact hRet (c2, sc4_17) [2, 0, 1, 3] (by (try dsimp only); unfold ahdR; (repeat (first | rw [if_pos (by omega)] | rw [if_neg (by omega)]))) hP hD (by decide +kernel) rfl hS rfl dX11_ahead_55
    · refine lv_iload_n hx hb dX11_ahead_25 rfl (lv_at hl 2 rfl) ?_
      refine lv_iconst (v := 0) hx hb dX11_ahead_26 (by decide +kernel) ?_
      refine lv_bipush (v := 10) hx hb dX11_ahead_27 (by decide +kernel) ?_
      refine kJi (wr := [(k, .inr (11, [.ref k0, .ref k1, .ref k2, .int c3, .ref k4, .ref k5, .ref k6, .ref k7, .ref k8, .int c9, .ref ka, .ref kb, .int cc, .int cd, .int ce, .int cf, .int cg, .int ch, .int ci, .int cj, .int ck, .ref kl, .int cm, .int cn, .ref ko])), (k0, .inl (cI, 1201, .inl c0)), (k2, .inl (cI, 1201, .inl c2)), (k4, .inl (cI, 6, .inl c4))]) (va_runS (As := [.int a1, .int 0, .int 10]) (rest := []) ⟨hx, hb, hml, hown, hT⟩ (c_X11_inG l D cI aK aV H.size a1 0 10) (cwS 3 hT (gS_in mw_1238 mw_1236 mw_1237 mw_12) rfl rfl rfl (by decide +kernel) ⟨Nat.le_of_ble_eq_true rfl, Nat.le_of_ble_eq_true rfl⟩) (kStatX hK hP hD hN hXS hS hA [] rfl (by decide +kernel)) rfl rfl hl.1 rfl (lv_room (Nat.le_of_ble_eq_true rfl)) dX11_ahead_29 ⟨Nat.le_of_ble_eq_true rfl, Nat.le_of_ble_eq_true rfl⟩) hP hD hS hA [] [0, 1, 2, 3] rfl rfl (by decide +kernel) (by decide +kernel) ?_
      clear hP hD hS
      intro r_18 u_20 H locs w_19 hP hD hS
      replace hP : va_P D vwCl [(k, .inr (11, [.ref k0, .ref k1, .ref k2, .int c3, .ref k4, .ref k5, .ref k6, .ref k7, .ref k8, .int c9, .ref ka, .ref kb, .int cc, .int cd, .int ce, .int cf, .int cg, .int ch, .int ci, .int cj, .int ck, .ref kl, .int cm, .int cn, .ref ko])), (k0, .inl (cI, 1201, .inl c0)), (k2, .inl (cI, 1201, .inl c2)), (k4, .inl (cI, 6, .inl c4))] H := hP
      replace hD : va_D A [(k, .inr (11, [.ref k0, .ref k1, .ref k2, .int c3, .ref k4, .ref k5, .ref k6, .ref k7, .ref k8, .int c9, .ref ka, .ref kb, .int cc, .int cd, .int ce, .int cf, .int cg, .int ch, .int ci, .int cj, .int ck, .ref kl, .int cm, .int cn, .ref ko])), (k0, .inl (cI, 1201, .inl c0)), (k2, .inl (cI, 1201, .inl c2)), (k4, .inl (cI, 6, .inl c4))] := hD
      rcases w_19 with ⟨hr_18, h_21, h_22⟩ | ⟨hr_18, h_23⟩
      · try simp only [zl_0, zl_10] at h_21
        have h_21 : 0 ≤ a1.toInt := h_21
        try simp only [zl_0, zl_10] at h_22
        have h_22 : a1.toInt ≤ 10 := h_22
        obtain rfl : r_18 = 1 := hr_18.trans (by decide +kernel)
        refine b_if_eq hx hb zl_1 (tgt := 49) dX11_ahead_32 (by decide +kernel) (fun c_24 => by exfalso; omega) (fun c_24 => ?_)
        refine lv_iload_n hx hb dX11_ahead_35 rfl (lv_at hl 2 rfl) ?_
        refine lv_bipush (v := 9) hx hb dX11_ahead_36 (by decide +kernel) ?_
        refine b_icmp_ge hx hb rfl zl_9 (tgt := 56) dX11_ahead_38 (by decide +kernel) (fun c_25 => ?_) (fun c_25 => ?_)
        · refine lv_aload_n hx hb dX11_ahead_56 rfl (lv_at hl 0 rfl) ?_
          refine va_get (D := D) (ci := 11) (v := .ref k0) (C := RX11) (T := TX11) (N := 25) hx hb hT giX11 hown hK hP 0 rfl rfl 0 (by decide +kernel) (hT (Cond.fieldLink RX11 9 "DesertWireModel" "s" "[I") mw_1156) (fun _ h9 => h9) rfl dX11_ahead_57 ?_
          refine lv_astore (lv' := [(4, .ref k0), (0, .ref k), (1, .int a0), (2, .int a1), (3, .int a2)]) hx hb dX11_ahead_60 hl (by decide +kernel) rfl ?_
          clear hl
          intro ls hl
          refine lv_aload hx hb dX11_ahead_62 (lv_at hl 0 rfl) ?_
          refine lv_aload_n hx hb dX11_ahead_64 rfl (lv_at hl 1 rfl) ?_
          refine va_get (D := D) (ci := 11) (v := .ref k2) (C := RX11) (T := TX11) (N := 25) hx hb hT giX11 hown hK hP 0 rfl rfl 2 (by decide +kernel) (hT (Cond.fieldLink RX11 16 "DesertWireModel" "trial" "[I") mw_1158) (fun _ h9 => h9) rfl dX11_ahead_65 ?_
          refine kJv (wr := [(k, .inr (11, [.ref k0, .ref k1, .ref k2, .int c3, .ref k4, .ref k5, .ref k6, .ref k7, .ref k8, .int c9, .ref ka, .ref kb, .int cc, .int cd, .int ce, .int cf, .int cg, .int ch, .int ci, .int cj, .int ck, .ref kl, .int cm, .int cn, .ref ko])), (k4, .inl (cI, 6, .inl c4))]) (va_runS (As := [.ref k0, .ref k2]) (rest := []) ⟨hx, hb, hml, hown, hT⟩ (c_X11_copyG l D cI aK aV k0 k2 H.size c0 c2) (cwS 2 hT (gS_in mw_1558 mw_1556 mw_1557 mw_12) rfl rfl rfl (by decide +kernel) ⟨Nat.le_of_ble_eq_true rfl, Nat.le_of_ble_eq_true rfl⟩) (kStatX hK hP hD hN hXS hS hA [1, 2] rfl (by decide +kernel)) rfl rfl hl.1 rfl (lv_room (Nat.le_of_ble_eq_true rfl)) dX11_ahead_68 ⟨Nat.le_of_ble_eq_true rfl, Nat.le_of_ble_eq_true rfl⟩) hP hD hS hA [1, 2] [0, 3] rfl rfl (by decide +kernel) (by decide +kernel) ?_
          clear hP hD hS
          intro ser_28 H locs w_27 hP hD hS
          replace hP : va_P D vwCl [(k, .inr (11, [.ref k0, .ref k1, .ref k2, .int c3, .ref k4, .ref k5, .ref k6, .ref k7, .ref k8, .int c9, .ref ka, .ref kb, .int cc, .int cd, .int ce, .int cf, .int cg, .int ch, .int ci, .int cj, .int ck, .ref kl, .int cm, .int cn, .ref ko])), (k4, .inl (cI, 6, .inl c4)), (k0, .inl (cI, 1201, .inl c0)), (k2, .inl (cI, 1201, .inl ser_28))] H := hP
          replace hD : va_D A [(k, .inr (11, [.ref k0, .ref k1, .ref k2, .int c3, .ref k4, .ref k5, .ref k6, .ref k7, .ref k8, .int c9, .ref ka, .ref kb, .int cc, .int cd, .int ce, .int cf, .int cg, .int ch, .int ci, .int cj, .int ck, .ref kl, .int cm, .int cn, .ref ko])), (k4, .inl (cI, 6, .inl c4)), (k0, .inl (cI, 1201, .inl c0)), (k2, .inl (cI, 1201, .inl ser_28))] := hD
          have h_29 := w_27
          have h_29 : ser_28 = c0 := h_29
          have hS_30 : SIX ser_28 (-1) := by rw [h_29]; exact pre0
          have n_31 : (ser_28 0).toInt = (c0 0).toInt := by rw [h_29]
          have n_32 : (ser_28 1).toInt = (c0 1).toInt := by rw [h_29]
          have n_33 : (ser_28 2).toInt = (c0 2).toInt := by rw [h_29]
          refine lv_aload_n hx hb dX11_ahead_71 rfl (lv_at hl 1 rfl) ?_
          refine lv_aload_n hx hb dX11_ahead_72 rfl (lv_at hl 1 rfl) ?_
          refine va_get (D := D) (ci := 11) (v := .ref k2) (C := RX11) (T := TX11) (N := 25) hx hb hT giX11 hown hK hP 0 rfl rfl 2 (by decide +kernel) (hT (Cond.fieldLink RX11 16 "DesertWireModel" "trial" "[I") mw_1158) (fun _ h9 => h9) rfl dX11_ahead_73 ?_
          refine va_put (D := D) (ci := 11) (v := .ref k2) (ty := .array .int) (C := RX11) (T := TX11) (N := 25) hx hb hT giX11 tyX11 tyX11_ok nmX11 hown hK hP hD hS 0 rfl rfl 0 (by decide +kernel) (hT (Cond.fieldLink RX11 9 "DesertWireModel" "s" "[I") mw_1156) (fun _ h9 => h9) rfl (by decide +kernel) rfl rfl (Nat.le_of_ble_eq_true rfl) dX11_ahead_76 ?_
          clear hP hD hS
          intro H locs hP hD hS
          replace hP : va_P D vwCl [(k, .inr (11, [.ref k2, .ref k1, .ref k2, .int c3, .ref k4, .ref k5, .ref k6, .ref k7, .ref k8, .int c9, .ref ka, .ref kb, .int cc, .int cd, .int ce, .int cf, .int cg, .int ch, .int ci, .int cj, .int ck, .ref kl, .int cm, .int cn, .ref ko])), (k4, .inl (cI, 6, .inl c4)), (k0, .inl (cI, 1201, .inl c0)), (k2, .inl (cI, 1201, .inl ser_28))] H := hP
          replace hD : va_D A [(k, .inr (11, [.ref k2, .ref k1, .ref k2, .int c3, .ref k4, .ref k5, .ref k6, .ref k7, .ref k8, .int c9, .ref ka, .ref kb, .int cc, .int cd, .int ce, .int cf, .int cg, .int ch, .int ci, .int cj, .int ck, .ref kl, .int cm, .int cn, .ref ko])), (k4, .inl (cI, 6, .inl c4)), (k0, .inl (cI, 1201, .inl c0)), (k2, .inl (cI, 1201, .inl ser_28))] := hD
          refine lv_iconst (v := 0) hx hb dX11_ahead_79 (by decide +kernel) ?_
          refine lv_istore (lv' := [(5, .int 0), (4, .ref k0), (0, .ref k), (1, .int a0), (2, .int a1), (3, .int a2)]) hx hb dX11_ahead_80 hl (by decide +kernel) rfl ?_
          clear hl
          intro ls hl
          have hloop_82 : ∀ (fu_ : Nat) (l82_5 : Int32) (g82_k2 : Nat → Int32), 0 ≤ l82_5.toInt → SIX g82_k2 (-1) → (g82_k2 0).toInt = (c0 0).toInt + l82_5.toInt → l82_5.toInt ≤ a0.toInt → (g82_k2 2).toInt = (c0 2).toInt → g82_k2 = daysF c0 l82_5.toInt.toNat → (a0.toInt - l82_5.toInt).toNat < fu_ → ∀ (ls : Array Slot) (H : Heap) (locs : List Loc), lv_has ls 6 [(5, .int l82_5), (4, .ref k0), (0, .ref k), (1, .int a0), (2, .int a1), (3, .int a2)] → va_P D vwCl [(k, .inr (11, [.ref k2, .ref k1, .ref k2, .int c3, .ref k4, .ref k5, .ref k6, .ref k7, .ref k8, .int c9, .ref ka, .ref kb, .int cc, .int cd, .int ce, .int cf, .int cg, .int ch, .int ci, .int cj, .int ck, .ref kl, .int cm, .int cn, .ref ko])), (k4, .inl (cI, 6, .inl c4)), (k0, .inl (cI, 1201, .inl c0)), (k2, .inl (cI, 1201, .inl g82_k2))] H → va_D A [(k, .inr (11, [.ref k2, .ref k1, .ref k2, .int c3, .ref k4, .ref k5, .ref k6, .ref k7, .ref k8, .int c9, .ref ka, .ref kb, .int cc, .int cd, .int ce, .int cf, .int cg, .int ch, .int ci, .int cj, .int ck, .ref kl, .int cm, .int cn, .ref ko])), (k4, .inl (cI, 6, .inl c4)), (k0, .inl (cI, 1201, .inl c0)), (k2, .inl (cI, 1201, .inl g82_k2))] → va_S A s.heap H locs → W p l e ({ frames := 6, cells := 0, slots := 0, locals := 132 } : Room) s m args below meth c H locs 0 0 Q (F0 m 82 ls []) := by
            intro fu_; induction fu_ with
            | zero => intro l82_5 g82_k2 i82_0 i82_1 i82_2 i82_3 i82_4 i82_5 hm; exact absurd hm (by omega)
            | succ fu_ ih82 =>
                intro l82_5 g82_k2 i82_0 i82_1 i82_2 i82_3 i82_4 i82_5 hm ls H locs hl hP hD hS
                have lo_l82_5 := k_lo l82_5
                have hi_l82_5 := k_hi l82_5
                have i82_1 : SIX g82_k2 (-1) := i82_1
                have i82_5 : g82_k2 = daysF c0 l82_5.toInt.toNat := i82_5
                refine lv_iload hx hb dX11_ahead_82 (lv_at hl 0 rfl) ?_
                refine lv_iload_n hx hb dX11_ahead_84 rfl (lv_at hl 3 rfl) ?_
                refine b_icmp_ge hx hb rfl rfl (tgt := 98) dX11_ahead_85 (by decide +kernel) (fun c_34 => ?_) (fun c_34 => ?_)
                · refine lv_iload_n hx hb dX11_ahead_98 rfl (lv_at hl 4 rfl) ?_
                  refine lv_bipush (v := 9) hx hb dX11_ahead_99 (by decide +kernel) ?_
                  refine b_icmp_ge hx hb rfl zl_9 (tgt := 113) dX11_ahead_101 (by decide +kernel) (fun c_35 => ?_) (fun c_35 => by exfalso; omega)
                  refine lv_iload_n hx hb dX11_ahead_113 rfl (lv_at hl 4 rfl) ?_
                  refine lv_bipush (v := 9) hx hb dX11_ahead_114 (by decide +kernel) ?_
                  refine b_icmp_ne hx hb rfl zl_9 (tgt := 126) dX11_ahead_116 (by decide +kernel) (fun c_36 => ?_) (fun c_36 => ?_)
                  · refine lv_aload_n hx hb dX11_ahead_126 rfl (lv_at hl 2 rfl) ?_
                    refine va_get (D := D) (ci := 11) (v := .ref k2) (C := RX11) (T := TX11) (N := 25) hx hb hT giX11 hown hK hP 0 rfl rfl 0 (by decide +kernel) (hT (Cond.fieldLink RX11 9 "DesertWireModel" "s" "[I") mw_1156) (fun _ h9 => h9) rfl dX11_ahead_127 ?_
                    refine lv_iconst (v := 1) hx hb dX11_ahead_130 (by decide +kernel) ?_
                    refine k_iald (v := (g82_k2 1)) hx hb hK hP 3 0 rfl rfl (k_inl (by decide +kernel)) rfl dX11_ahead_131 ?_
                    refine lv_topi (fun v_37 ev_37 => ?_)
                    have lo_v_37 := k_lo v_37
                    have hi_v_37 := k_hi v_37
                    have tv_37 : v_37.toInt = (g82_k2 1).toInt := by rw [ev_37]
                    have b_38 : 0 ≤ v_37.toInt ∧ v_37.toInt ≤ 60 := by first | (rw [tv_37]; exact SB.n1 (And.left i82_1)) | exact SB.n1 (And.left i82_1) | omega
                    refine lv_istore (lv' := [(5, .int v_37), (4, .ref k0), (0, .ref k), (1, .int a0), (2, .int a1), (3, .int a2)]) hx hb dX11_ahead_132 hl (by decide +kernel) rfl ?_
                    clear hl
                    intro ls hl
                    refine lv_aload_n hx hb dX11_ahead_134 rfl (lv_at hl 2 rfl) ?_
                    refine lv_aload hx hb dX11_ahead_135 (lv_at hl 1 rfl) ?_
                    refine va_put (D := D) (ci := 11) (v := .ref k0) (ty := .array .int) (C := RX11) (T := TX11) (N := 25) hx hb hT giX11 tyX11 tyX11_ok nmX11 hown hK hP hD hS 0 rfl rfl 0 (by decide +kernel) (hT (Cond.fieldLink RX11 9 "DesertWireModel" "s" "[I") mw_1156) (fun _ h9 => h9) rfl (by decide +kernel) rfl rfl (Nat.le_of_ble_eq_true rfl) dX11_ahead_137 ?_
                    clear hP hD hS
                    intro H locs hP hD hS
                    replace hP : va_P D vwCl [(k, .inr (11, [.ref k0, .ref k1, .ref k2, .int c3, .ref k4, .ref k5, .ref k6, .ref k7, .ref k8, .int c9, .ref ka, .ref kb, .int cc, .int cd, .int ce, .int cf, .int cg, .int ch, .int ci, .int cj, .int ck, .ref kl, .int cm, .int cn, .ref ko])), (k4, .inl (cI, 6, .inl c4)), (k0, .inl (cI, 1201, .inl c0)), (k2, .inl (cI, 1201, .inl g82_k2))] H := hP
                    replace hD : va_D A [(k, .inr (11, [.ref k0, .ref k1, .ref k2, .int c3, .ref k4, .ref k5, .ref k6, .ref k7, .ref k8, .int c9, .ref ka, .ref kb, .int cc, .int cd, .int ce, .int cf, .int cg, .int ch, .int ci, .int cj, .int ck, .ref kl, .int cm, .int cn, .ref ko])), (k4, .inl (cI, 6, .inl c4)), (k0, .inl (cI, 1201, .inl c0)), (k2, .inl (cI, 1201, .inl g82_k2))] := hD
                    refine lv_iload hx hb dX11_ahead_140 (lv_at hl 0 rfl) ?_
                    exact hRet (g82_k2, c4) [0, 2, 3, 1] (by unfold ahdR; rw [show daysF c0 a0.toInt.toNat = g82_k2 from (by rw [show a0.toInt.toNat = l82_5.toInt.toNat from by omega]; exact i82_5.symm)]; (repeat (first | rw [if_pos (by omega)] | rw [if_neg (by omega)])); first | done | exact ev_37) hP hD (by decide +kernel) rfl hS rfl dX11_ahead_142
                  · refine lv_aload_n hx hb dX11_ahead_119 rfl (lv_at hl 2 rfl) ?_
                    refine kJi (wr := [(k4, .inl (cI, 6, .inl c4)), (k0, .inl (cI, 1201, .inl c0))]) (va_runV (As := []) (rest := []) ⟨hx, hb, hml, hown, hT⟩ (c_X11_wiredG l D cI aK aV k k2 k1 k2 k4 k5 k6 k7 k8 ka kb kl ko H.size c3 c9 cc cd ce cf cg ch ci cj ck cm cn g82_k2 (And.left i82_1)) (cwV 0 hT (gV_in mw_1562 mw_1559 mw_1561 mw_p6_4 mw_12) rfl rfl rfl (by decide +kernel) ⟨Nat.le_of_ble_eq_true rfl, Nat.le_of_ble_eq_true rfl⟩) (kRecvX (q0 := 0) (ci := 11) hK hP hD hN hXS hS hA rfl rfl [0, 3] rfl (by decide +kernel)) rfl rfl hl.1 rfl (lv_room (Nat.le_of_ble_eq_true rfl)) dX11_ahead_120 ⟨Nat.le_of_ble_eq_true rfl, Nat.le_of_ble_eq_true rfl⟩) hP hD hS hA [0, 3] [1, 2] rfl rfl (by decide +kernel) (by decide +kernel) ?_
                    clear hP hD hS
                    intro r_39 u_41 H locs w_40 hP hD hS
                    replace hP : va_P D vwCl [(k4, .inl (cI, 6, .inl c4)), (k0, .inl (cI, 1201, .inl c0)), (k, .inr (11, [.ref k2, .ref k1, .ref k2, .int c3, .ref k4, .ref k5, .ref k6, .ref k7, .ref k8, .int c9, .ref ka, .ref kb, .int cc, .int cd, .int ce, .int cf, .int cg, .int ch, .int ci, .int cj, .int ck, .ref kl, .int cm, .int cn, .ref ko])), (k2, .inl (cI, 1201, .inl g82_k2))] H := hP
                    replace hD : va_D A [(k4, .inl (cI, 6, .inl c4)), (k0, .inl (cI, 1201, .inl c0)), (k, .inr (11, [.ref k2, .ref k1, .ref k2, .int c3, .ref k4, .ref k5, .ref k6, .ref k7, .ref k8, .int c9, .ref ka, .ref kb, .int cc, .int cd, .int ce, .int cf, .int cg, .int ch, .int ci, .int cj, .int ck, .ref kl, .int cm, .int cn, .ref ko])), (k2, .inl (cI, 1201, .inl g82_k2))] := hD
                    have h_42 := w_40
                    have h_42 : r_39 = wmN g82_k2 40 := h_42
                    have lo_r_39 := k_lo r_39
                    have hi_r_39 := k_hi r_39
                    refine lv_goto (tgt := 132) hx hb dX11_ahead_123 (by decide +kernel) ?_
                    refine lv_istore (lv' := [(5, .int r_39), (4, .ref k0), (0, .ref k), (1, .int a0), (2, .int a1), (3, .int a2)]) hx hb dX11_ahead_132 hl (by decide +kernel) rfl ?_
                    clear hl
                    intro ls hl
                    refine lv_aload_n hx hb dX11_ahead_134 rfl (lv_at hl 2 rfl) ?_
                    refine lv_aload hx hb dX11_ahead_135 (lv_at hl 1 rfl) ?_
                    refine va_put (D := D) (ci := 11) (v := .ref k0) (ty := .array .int) (C := RX11) (T := TX11) (N := 25) hx hb hT giX11 tyX11 tyX11_ok nmX11 hown hK hP hD hS 2 rfl rfl 0 (by decide +kernel) (hT (Cond.fieldLink RX11 9 "DesertWireModel" "s" "[I") mw_1156) (fun _ h9 => h9) rfl (by decide +kernel) rfl rfl (Nat.le_of_ble_eq_true rfl) dX11_ahead_137 ?_
                    clear hP hD hS
                    intro H locs hP hD hS
                    replace hP : va_P D vwCl [(k4, .inl (cI, 6, .inl c4)), (k0, .inl (cI, 1201, .inl c0)), (k, .inr (11, [.ref k0, .ref k1, .ref k2, .int c3, .ref k4, .ref k5, .ref k6, .ref k7, .ref k8, .int c9, .ref ka, .ref kb, .int cc, .int cd, .int ce, .int cf, .int cg, .int ch, .int ci, .int cj, .int ck, .ref kl, .int cm, .int cn, .ref ko])), (k2, .inl (cI, 1201, .inl g82_k2))] H := hP
                    replace hD : va_D A [(k4, .inl (cI, 6, .inl c4)), (k0, .inl (cI, 1201, .inl c0)), (k, .inr (11, [.ref k0, .ref k1, .ref k2, .int c3, .ref k4, .ref k5, .ref k6, .ref k7, .ref k8, .int c9, .ref ka, .ref kb, .int cc, .int cd, .int ce, .int cf, .int cg, .int ch, .int ci, .int cj, .int ck, .ref kl, .int cm, .int cn, .ref ko])), (k2, .inl (cI, 1201, .inl g82_k2))] := hD
                    refine lv_iload hx hb dX11_ahead_140 (lv_at hl 0 rfl) ?_
                    exact hRet (g82_k2, c4) [2, 1, 3, 0] (by unfold ahdR; rw [show daysF c0 a0.toInt.toNat = g82_k2 from (by rw [show a0.toInt.toNat = l82_5.toInt.toNat from by omega]; exact i82_5.symm)]; (repeat (first | rw [if_pos (by omega)] | rw [if_neg (by omega)])); first | done | exact h_42) hP hD (by decide +kernel) rfl hS rfl dX11_ahead_142
                · refine lv_aload_n hx hb dX11_ahead_88 rfl (lv_at hl 2 rfl) ?_
                  refine kJv (wr := [(k4, .inl (cI, 6, .inl c4)), (k0, .inl (cI, 1201, .inl c0))]) (va_runV (As := []) (rest := []) ⟨hx, hb, hml, hown, hT⟩ (c_X11_oneDayG l D cI aK aV k k2 k1 k2 k4 k5 k6 k7 k8 ka kb kl ko H.size c3 c9 cc cd ce cf cg ch ci cj ck cm cn g82_k2 i82_1 (by first | omega | decide | assumption | rfl)) (cwV 0 hT (gV_in mw_1535 mw_1532 mw_1534 mw_p5_15 mw_12) rfl rfl rfl (by decide +kernel) ⟨Nat.le_of_ble_eq_true rfl, Nat.le_of_ble_eq_true rfl⟩) (kRecvX (q0 := 0) (ci := 11) hK hP hD hN hXS hS hA rfl rfl [0, 3] rfl (by decide +kernel)) rfl rfl hl.1 rfl (lv_room (Nat.le_of_ble_eq_true rfl)) dX11_ahead_89 ⟨Nat.le_of_ble_eq_true rfl, Nat.le_of_ble_eq_true rfl⟩) hP hD hS hA [0, 3] [1, 2] rfl rfl (by decide +kernel) (by decide +kernel) ?_
                  clear hP hD hS
                  intro sc0_45 H locs w_44 hP hD hS
                  replace hP : va_P D vwCl [(k4, .inl (cI, 6, .inl c4)), (k0, .inl (cI, 1201, .inl c0)), (k, .inr (11, [.ref k2, .ref k1, .ref k2, .int c3, .ref k4, .ref k5, .ref k6, .ref k7, .ref k8, .int c9, .ref ka, .ref kb, .int cc, .int cd, .int ce, .int cf, .int cg, .int ch, .int ci, .int cj, .int ck, .ref kl, .int cm, .int cn, .ref ko])), (k2, .inl (cI, 1201, .inl sc0_45))] H := hP
                  replace hD : va_D A [(k4, .inl (cI, 6, .inl c4)), (k0, .inl (cI, 1201, .inl c0)), (k, .inr (11, [.ref k2, .ref k1, .ref k2, .int c3, .ref k4, .ref k5, .ref k6, .ref k7, .ref k8, .int c9, .ref ka, .ref kb, .int cc, .int cd, .int ce, .int cf, .int cg, .int ch, .int ci, .int cj, .int ck, .ref kl, .int cm, .int cn, .ref ko])), (k2, .inl (cI, 1201, .inl sc0_45))] := hD
                  obtain ⟨h_46, h_47, h_48, h_49⟩ := w_44
                  have h_46 : SIX sc0_45 (-1) := h_46
                  have h_47 : (sc0_45 0).toInt = (g82_k2 0).toInt + 1 := h_47
                  have h_48 : (sc0_45 2).toInt = (g82_k2 2).toInt := h_48
                  have h_49 : sc0_45 = dayS g82_k2 := h_49
                  obtain ⟨v_50, ev_50⟩ : ∃ y : Int32, y = l82_5 + 1 := ⟨_, rfl⟩
                  have tv_50 : v_50.toInt = l82_5.toInt + 1 := by rw [ev_50]; exact k_addv rfl zl_1 (by omega) (by omega)
                  refine lv_iinc (v := v_50) (lv' := [(5, .int v_50), (4, .ref k0), (0, .ref k), (1, .int a0), (2, .int a1), (3, .int a2)]) hx hb dX11_ahead_92 hl (k := 0) rfl (by rw [ev_50]; rfl) (by decide +kernel) rfl ?_
                  clear hl
                  intro ls hl
                  refine lv_goto (tgt := 82) hx hb dX11_ahead_95 (by decide +kernel) ?_
                  exact ih82 v_50 sc0_45 (by first | omega | decide | assumption | rfl) h_46 (by first | omega | decide | assumption | rfl) (by first | omega | decide | assumption | rfl) (by first | omega | decide | assumption | rfl) (by rw [h_49, i82_5]; exact daysF_s (by omega) (by omega)) (by omega) ls _ _ (lv_sub hl [0, 1, 2, 3, 4, 5] rfl) (hP.sub [2, 0, 1, 3] rfl) (hD.sub [2, 0, 1, 3] (by decide +kernel) rfl) hS
          exact hloop_82 _ 0 ser_28 (by first | omega | (simp only [zl_0]; first | done | omega) | decide | assumption | rfl) hS_30 (by first | omega | (simp only [zl_0]; first | done | omega) | decide | assumption | rfl) (by first | omega | (simp only [zl_0]; first | done | omega) | decide | assumption | rfl) (by first | omega | (simp only [zl_0]; first | done | omega) | decide | assumption | rfl) (by rw [zl_0]; exact h_29) (Nat.lt_succ_self _) ls _ _ (lv_sub hl [0, 1, 2, 3, 4, 5] rfl) hP hD hS
        · refine lv_aload_n hx hb dX11_ahead_41 rfl (lv_at hl 0 rfl) ?_
          refine lv_iload_n hx hb dX11_ahead_42 rfl (lv_at hl 3 rfl) ?_
          refine kJi (wr := [(k2, .inl (cI, 1201, .inl c2)), (k4, .inl (cI, 6, .inl c4))]) (va_runV (As := [.int a2]) (rest := []) ⟨hx, hb, hml, hown, hT⟩ (c_X11_isPartyG l D cI aK aV k k0 k1 k2 k4 k5 k6 k7 k8 ka kb kl ko H.size c3 c9 cc cd ce cf cg ch ci cj ck cm cn c0 a2 (And.left pre0)) (cwV 1 hT (gV_in mw_1412 mw_1409 mw_1411 mw_p5_4 mw_12) rfl rfl rfl (by decide +kernel) ⟨Nat.le_of_ble_eq_true rfl, Nat.le_of_ble_eq_true rfl⟩) (kRecvX (q0 := 0) (ci := 11) hK hP hD hN hXS hS hA rfl rfl [0, 1] rfl (by decide +kernel)) rfl rfl hl.1 rfl (lv_room (Nat.le_of_ble_eq_true rfl)) dX11_ahead_43 ⟨Nat.le_of_ble_eq_true rfl, Nat.le_of_ble_eq_true rfl⟩) hP hD hS hA [0, 1] [2, 3] rfl rfl (by decide +kernel) (by decide +kernel) ?_
          clear hP hD hS
          intro r_51 u_53 H locs w_52 hP hD hS
          replace hP : va_P D vwCl [(k2, .inl (cI, 1201, .inl c2)), (k4, .inl (cI, 6, .inl c4)), (k, .inr (11, [.ref k0, .ref k1, .ref k2, .int c3, .ref k4, .ref k5, .ref k6, .ref k7, .ref k8, .int c9, .ref ka, .ref kb, .int cc, .int cd, .int ce, .int cf, .int cg, .int ch, .int ci, .int cj, .int ck, .ref kl, .int cm, .int cn, .ref ko])), (k0, .inl (cI, 1201, .inl c0))] H := hP
          replace hD : va_D A [(k2, .inl (cI, 1201, .inl c2)), (k4, .inl (cI, 6, .inl c4)), (k, .inr (11, [.ref k0, .ref k1, .ref k2, .int c3, .ref k4, .ref k5, .ref k6, .ref k7, .ref k8, .int c9, .ref ka, .ref kb, .int cc, .int cd, .int ce, .int cf, .int cg, .int ch, .int ci, .int cj, .int ck, .ref kl, .int cm, .int cn, .ref ko])), (k0, .inl (cI, 1201, .inl c0))] := hD
          rcases w_52 with ⟨hr_51, h_54, h_55⟩ | ⟨hr_51, h_56⟩
          · have h_54 : 0 ≤ a2.toInt := h_54
            have h_55 : a2.toInt < (c0 2).toInt := h_55
            obtain rfl : r_51 = 1 := hr_51.trans (by decide +kernel)
            refine b_if_ne hx hb zl_1 (tgt := 56) dX11_ahead_46 (by decide +kernel) (fun c_57 => ?_) (fun c_57 => by exfalso; omega)
            refine lv_aload_n hx hb dX11_ahead_56 rfl (lv_at hl 0 rfl) ?_
            refine va_get (D := D) (ci := 11) (v := .ref k0) (C := RX11) (T := TX11) (N := 25) hx hb hT giX11 hown hK hP 2 rfl rfl 0 (by decide +kernel) (hT (Cond.fieldLink RX11 9 "DesertWireModel" "s" "[I") mw_1156) (fun _ h9 => h9) rfl dX11_ahead_57 ?_
            refine lv_astore (lv' := [(4, .ref k0), (0, .ref k), (1, .int a0), (2, .int a1), (3, .int a2)]) hx hb dX11_ahead_60 hl (by decide +kernel) rfl ?_
            clear hl
            intro ls hl
            refine lv_aload hx hb dX11_ahead_62 (lv_at hl 0 rfl) ?_
            refine lv_aload_n hx hb dX11_ahead_64 rfl (lv_at hl 1 rfl) ?_
            refine va_get (D := D) (ci := 11) (v := .ref k2) (C := RX11) (T := TX11) (N := 25) hx hb hT giX11 hown hK hP 2 rfl rfl 2 (by decide +kernel) (hT (Cond.fieldLink RX11 16 "DesertWireModel" "trial" "[I") mw_1158) (fun _ h9 => h9) rfl dX11_ahead_65 ?_
            refine kJv (wr := [(k4, .inl (cI, 6, .inl c4)), (k, .inr (11, [.ref k0, .ref k1, .ref k2, .int c3, .ref k4, .ref k5, .ref k6, .ref k7, .ref k8, .int c9, .ref ka, .ref kb, .int cc, .int cd, .int ce, .int cf, .int cg, .int ch, .int ci, .int cj, .int ck, .ref kl, .int cm, .int cn, .ref ko]))]) (va_runS (As := [.ref k0, .ref k2]) (rest := []) ⟨hx, hb, hml, hown, hT⟩ (c_X11_copyG l D cI aK aV k0 k2 H.size c0 c2) (cwS 2 hT (gS_in mw_1558 mw_1556 mw_1557 mw_12) rfl rfl rfl (by decide +kernel) ⟨Nat.le_of_ble_eq_true rfl, Nat.le_of_ble_eq_true rfl⟩) (kStatX hK hP hD hN hXS hS hA [3, 0] rfl (by decide +kernel)) rfl rfl hl.1 rfl (lv_room (Nat.le_of_ble_eq_true rfl)) dX11_ahead_68 ⟨Nat.le_of_ble_eq_true rfl, Nat.le_of_ble_eq_true rfl⟩) hP hD hS hA [3, 0] [1, 2] rfl rfl (by decide +kernel) (by decide +kernel) ?_
            clear hP hD hS
            intro ser_60 H locs w_59 hP hD hS
            replace hP : va_P D vwCl [(k4, .inl (cI, 6, .inl c4)), (k, .inr (11, [.ref k0, .ref k1, .ref k2, .int c3, .ref k4, .ref k5, .ref k6, .ref k7, .ref k8, .int c9, .ref ka, .ref kb, .int cc, .int cd, .int ce, .int cf, .int cg, .int ch, .int ci, .int cj, .int ck, .ref kl, .int cm, .int cn, .ref ko])), (k0, .inl (cI, 1201, .inl c0)), (k2, .inl (cI, 1201, .inl ser_60))] H := hP
            replace hD : va_D A [(k4, .inl (cI, 6, .inl c4)), (k, .inr (11, [.ref k0, .ref k1, .ref k2, .int c3, .ref k4, .ref k5, .ref k6, .ref k7, .ref k8, .int c9, .ref ka, .ref kb, .int cc, .int cd, .int ce, .int cf, .int cg, .int ch, .int ci, .int cj, .int ck, .ref kl, .int cm, .int cn, .ref ko])), (k0, .inl (cI, 1201, .inl c0)), (k2, .inl (cI, 1201, .inl ser_60))] := hD
            have h_61 := w_59
            have h_61 : ser_60 = c0 := h_61
            have hS_62 : SIX ser_60 (-1) := by rw [h_61]; exact pre0
            have n_63 : (ser_60 0).toInt = (c0 0).toInt := by rw [h_61]
            have n_64 : (ser_60 1).toInt = (c0 1).toInt := by rw [h_61]
            have n_65 : (ser_60 2).toInt = (c0 2).toInt := by rw [h_61]
            refine lv_aload_n hx hb dX11_ahead_71 rfl (lv_at hl 1 rfl) ?_
            refine lv_aload_n hx hb dX11_ahead_72 rfl (lv_at hl 1 rfl) ?_
            refine va_get (D := D) (ci := 11) (v := .ref k2) (C := RX11) (T := TX11) (N := 25) hx hb hT giX11 hown hK hP 1 rfl rfl 2 (by decide +kernel) (hT (Cond.fieldLink RX11 16 "DesertWireModel" "trial" "[I") mw_1158) (fun _ h9 => h9) rfl dX11_ahead_73 ?_
            refine va_put (D := D) (ci := 11) (v := .ref k2) (ty := .array .int) (C := RX11) (T := TX11) (N := 25) hx hb hT giX11 tyX11 tyX11_ok nmX11 hown hK hP hD hS 1 rfl rfl 0 (by decide +kernel) (hT (Cond.fieldLink RX11 9 "DesertWireModel" "s" "[I") mw_1156) (fun _ h9 => h9) rfl (by decide +kernel) rfl rfl (Nat.le_of_ble_eq_true rfl) dX11_ahead_76 ?_
            clear hP hD hS
            intro H locs hP hD hS
            replace hP : va_P D vwCl [(k4, .inl (cI, 6, .inl c4)), (k, .inr (11, [.ref k2, .ref k1, .ref k2, .int c3, .ref k4, .ref k5, .ref k6, .ref k7, .ref k8, .int c9, .ref ka, .ref kb, .int cc, .int cd, .int ce, .int cf, .int cg, .int ch, .int ci, .int cj, .int ck, .ref kl, .int cm, .int cn, .ref ko])), (k0, .inl (cI, 1201, .inl c0)), (k2, .inl (cI, 1201, .inl ser_60))] H := hP
            replace hD : va_D A [(k4, .inl (cI, 6, .inl c4)), (k, .inr (11, [.ref k2, .ref k1, .ref k2, .int c3, .ref k4, .ref k5, .ref k6, .ref k7, .ref k8, .int c9, .ref ka, .ref kb, .int cc, .int cd, .int ce, .int cf, .int cg, .int ch, .int ci, .int cj, .int ck, .ref kl, .int cm, .int cn, .ref ko])), (k0, .inl (cI, 1201, .inl c0)), (k2, .inl (cI, 1201, .inl ser_60))] := hD
            refine lv_iconst (v := 0) hx hb dX11_ahead_79 (by decide +kernel) ?_
            refine lv_istore (lv' := [(5, .int 0), (4, .ref k0), (0, .ref k), (1, .int a0), (2, .int a1), (3, .int a2)]) hx hb dX11_ahead_80 hl (by decide +kernel) rfl ?_
            clear hl
            intro ls hl
            have hloop_82 : ∀ (fu_ : Nat) (l82_5 : Int32) (g82_k2 : Nat → Int32), 0 ≤ l82_5.toInt → SIX g82_k2 (-1) → (g82_k2 0).toInt = (c0 0).toInt + l82_5.toInt → l82_5.toInt ≤ a0.toInt → (g82_k2 2).toInt = (c0 2).toInt → g82_k2 = daysF c0 l82_5.toInt.toNat → (a0.toInt - l82_5.toInt).toNat < fu_ → ∀ (ls : Array Slot) (H : Heap) (locs : List Loc), lv_has ls 6 [(5, .int l82_5), (4, .ref k0), (0, .ref k), (1, .int a0), (2, .int a1), (3, .int a2)] → va_P D vwCl [(k4, .inl (cI, 6, .inl c4)), (k, .inr (11, [.ref k2, .ref k1, .ref k2, .int c3, .ref k4, .ref k5, .ref k6, .ref k7, .ref k8, .int c9, .ref ka, .ref kb, .int cc, .int cd, .int ce, .int cf, .int cg, .int ch, .int ci, .int cj, .int ck, .ref kl, .int cm, .int cn, .ref ko])), (k0, .inl (cI, 1201, .inl c0)), (k2, .inl (cI, 1201, .inl g82_k2))] H → va_D A [(k4, .inl (cI, 6, .inl c4)), (k, .inr (11, [.ref k2, .ref k1, .ref k2, .int c3, .ref k4, .ref k5, .ref k6, .ref k7, .ref k8, .int c9, .ref ka, .ref kb, .int cc, .int cd, .int ce, .int cf, .int cg, .int ch, .int ci, .int cj, .int ck, .ref kl, .int cm, .int cn, .ref ko])), (k0, .inl (cI, 1201, .inl c0)), (k2, .inl (cI, 1201, .inl g82_k2))] → va_S A s.heap H locs → W p l e ({ frames := 6, cells := 0, slots := 0, locals := 132 } : Room) s m args below meth c H locs 0 0 Q (F0 m 82 ls []) := by
              intro fu_; induction fu_ with
              | zero => intro l82_5 g82_k2 i82_0 i82_1 i82_2 i82_3 i82_4 i82_5 hm; exact absurd hm (by omega)
              | succ fu_ ih82 =>
                  intro l82_5 g82_k2 i82_0 i82_1 i82_2 i82_3 i82_4 i82_5 hm ls H locs hl hP hD hS
                  have lo_l82_5 := k_lo l82_5
                  have hi_l82_5 := k_hi l82_5
                  have i82_1 : SIX g82_k2 (-1) := i82_1
                  have i82_5 : g82_k2 = daysF c0 l82_5.toInt.toNat := i82_5
                  refine lv_iload hx hb dX11_ahead_82 (lv_at hl 0 rfl) ?_
                  refine lv_iload_n hx hb dX11_ahead_84 rfl (lv_at hl 3 rfl) ?_
                  refine b_icmp_ge hx hb rfl rfl (tgt := 98) dX11_ahead_85 (by decide +kernel) (fun c_66 => ?_) (fun c_66 => ?_)
                  · refine lv_iload_n hx hb dX11_ahead_98 rfl (lv_at hl 4 rfl) ?_
                    refine lv_bipush (v := 9) hx hb dX11_ahead_99 (by decide +kernel) ?_
                    refine b_icmp_ge hx hb rfl zl_9 (tgt := 113) dX11_ahead_101 (by decide +kernel) (fun c_67 => by exfalso; omega) (fun c_67 => ?_)
                    refine lv_aload_n hx hb dX11_ahead_104 rfl (lv_at hl 2 rfl) ?_
                    refine lv_iload_n hx hb dX11_ahead_105 rfl (lv_at hl 5 rfl) ?_
                    refine lv_iload_n hx hb dX11_ahead_106 rfl (lv_at hl 4 rfl) ?_
                    refine kJi (wr := [(k4, .inl (cI, 6, .inl c4)), (k0, .inl (cI, 1201, .inl c0))]) (va_runV (As := [.int a2, .int a1]) (rest := []) ⟨hx, hb, hml, hown, hT⟩ (c_X11_partyGV l D cI aK aV k k2 k1 k2 k4 k5 k6 k7 k8 ka kb kl ko H.size c3 c9 cc cd ce cf cg ch ci cj ck cm cn g82_k2 a2 a1 (by first | omega | decide | assumption | rfl) (by first | omega | decide | assumption | rfl) (by first | omega | decide | assumption | rfl) (by first | omega | decide | assumption | rfl)) (cwV 2 hT (gV_in mw_1416 mw_1413 mw_1415 mw_p5_5 mw_12) rfl rfl rfl (by decide +kernel) ⟨Nat.le_of_ble_eq_true rfl, Nat.le_of_ble_eq_true rfl⟩) (kRecvX (q0 := 1) (ci := 11) hK hP hD hN hXS hS hA rfl rfl [1, 3] rfl (by decide +kernel)) rfl rfl hl.1 rfl (lv_room (Nat.le_of_ble_eq_true rfl)) dX11_ahead_107 ⟨Nat.le_of_ble_eq_true rfl, Nat.le_of_ble_eq_true rfl⟩) hP hD hS hA [1, 3] [0, 2] rfl rfl (by decide +kernel) (by decide +kernel) ?_
                    clear hP hD hS
                    intro r_68 u_70 H locs w_69 hP hD hS
                    replace hP : va_P D vwCl [(k4, .inl (cI, 6, .inl c4)), (k0, .inl (cI, 1201, .inl c0)), (k, .inr (11, [.ref k2, .ref k1, .ref k2, .int c3, .ref k4, .ref k5, .ref k6, .ref k7, .ref k8, .int c9, .ref ka, .ref kb, .int cc, .int cd, .int ce, .int cf, .int cg, .int ch, .int ci, .int cj, .int ck, .ref kl, .int cm, .int cn, .ref ko])), (k2, .inl (cI, 1201, .inl g82_k2))] H := hP
                    replace hD : va_D A [(k4, .inl (cI, 6, .inl c4)), (k0, .inl (cI, 1201, .inl c0)), (k, .inr (11, [.ref k2, .ref k1, .ref k2, .int c3, .ref k4, .ref k5, .ref k6, .ref k7, .ref k8, .int c9, .ref ka, .ref kb, .int cc, .int cd, .int ce, .int cf, .int cg, .int ch, .int ci, .int cj, .int ck, .ref kl, .int cm, .int cn, .ref ko])), (k2, .inl (cI, 1201, .inl g82_k2))] := hD
                    have h_71 := w_69
                    have h_71 : r_68 = g82_k2 (459 + 9 * a2.toInt.toNat + a1.toInt.toNat) := h_71
                    have lo_r_68 := k_lo r_68
                    have hi_r_68 := k_hi r_68
                    refine lv_goto (tgt := 132) hx hb dX11_ahead_110 (by decide +kernel) ?_
                    refine lv_istore (lv' := [(5, .int r_68), (4, .ref k0), (0, .ref k), (1, .int a0), (2, .int a1), (3, .int a2)]) hx hb dX11_ahead_132 hl (by decide +kernel) rfl ?_
                    clear hl
                    intro ls hl
                    refine lv_aload_n hx hb dX11_ahead_134 rfl (lv_at hl 2 rfl) ?_
                    refine lv_aload hx hb dX11_ahead_135 (lv_at hl 1 rfl) ?_
                    refine va_put (D := D) (ci := 11) (v := .ref k0) (ty := .array .int) (C := RX11) (T := TX11) (N := 25) hx hb hT giX11 tyX11 tyX11_ok nmX11 hown hK hP hD hS 2 rfl rfl 0 (by decide +kernel) (hT (Cond.fieldLink RX11 9 "DesertWireModel" "s" "[I") mw_1156) (fun _ h9 => h9) rfl (by decide +kernel) rfl rfl (Nat.le_of_ble_eq_true rfl) dX11_ahead_137 ?_
                    clear hP hD hS
                    intro H locs hP hD hS
                    replace hP : va_P D vwCl [(k4, .inl (cI, 6, .inl c4)), (k0, .inl (cI, 1201, .inl c0)), (k, .inr (11, [.ref k0, .ref k1, .ref k2, .int c3, .ref k4, .ref k5, .ref k6, .ref k7, .ref k8, .int c9, .ref ka, .ref kb, .int cc, .int cd, .int ce, .int cf, .int cg, .int ch, .int ci, .int cj, .int ck, .ref kl, .int cm, .int cn, .ref ko])), (k2, .inl (cI, 1201, .inl g82_k2))] H := hP
                    replace hD : va_D A [(k4, .inl (cI, 6, .inl c4)), (k0, .inl (cI, 1201, .inl c0)), (k, .inr (11, [.ref k0, .ref k1, .ref k2, .int c3, .ref k4, .ref k5, .ref k6, .ref k7, .ref k8, .int c9, .ref ka, .ref kb, .int cc, .int cd, .int ce, .int cf, .int cg, .int ch, .int ci, .int cj, .int ck, .ref kl, .int cm, .int cn, .ref ko])), (k2, .inl (cI, 1201, .inl g82_k2))] := hD
                    refine lv_iload hx hb dX11_ahead_140 (lv_at hl 0 rfl) ?_
                    exact hRet (g82_k2, c4) [2, 1, 3, 0] (by unfold ahdR; rw [show daysF c0 a0.toInt.toNat = g82_k2 from (by rw [show a0.toInt.toNat = l82_5.toInt.toNat from by omega]; exact i82_5.symm)]; (repeat (first | rw [if_pos (by omega)] | rw [if_neg (by omega)])); first | done | assumption) hP hD (by decide +kernel) rfl hS rfl dX11_ahead_142
                  · refine lv_aload_n hx hb dX11_ahead_88 rfl (lv_at hl 2 rfl) ?_
                    refine kJv (wr := [(k4, .inl (cI, 6, .inl c4)), (k0, .inl (cI, 1201, .inl c0))]) (va_runV (As := []) (rest := []) ⟨hx, hb, hml, hown, hT⟩ (c_X11_oneDayG l D cI aK aV k k2 k1 k2 k4 k5 k6 k7 k8 ka kb kl ko H.size c3 c9 cc cd ce cf cg ch ci cj ck cm cn g82_k2 i82_1 (by first | omega | decide | assumption | rfl)) (cwV 0 hT (gV_in mw_1535 mw_1532 mw_1534 mw_p5_15 mw_12) rfl rfl rfl (by decide +kernel) ⟨Nat.le_of_ble_eq_true rfl, Nat.le_of_ble_eq_true rfl⟩) (kRecvX (q0 := 1) (ci := 11) hK hP hD hN hXS hS hA rfl rfl [1, 3] rfl (by decide +kernel)) rfl rfl hl.1 rfl (lv_room (Nat.le_of_ble_eq_true rfl)) dX11_ahead_89 ⟨Nat.le_of_ble_eq_true rfl, Nat.le_of_ble_eq_true rfl⟩) hP hD hS hA [1, 3] [0, 2] rfl rfl (by decide +kernel) (by decide +kernel) ?_
                    clear hP hD hS
                    intro sc0_74 H locs w_73 hP hD hS
                    replace hP : va_P D vwCl [(k4, .inl (cI, 6, .inl c4)), (k0, .inl (cI, 1201, .inl c0)), (k, .inr (11, [.ref k2, .ref k1, .ref k2, .int c3, .ref k4, .ref k5, .ref k6, .ref k7, .ref k8, .int c9, .ref ka, .ref kb, .int cc, .int cd, .int ce, .int cf, .int cg, .int ch, .int ci, .int cj, .int ck, .ref kl, .int cm, .int cn, .ref ko])), (k2, .inl (cI, 1201, .inl sc0_74))] H := hP
                    replace hD : va_D A [(k4, .inl (cI, 6, .inl c4)), (k0, .inl (cI, 1201, .inl c0)), (k, .inr (11, [.ref k2, .ref k1, .ref k2, .int c3, .ref k4, .ref k5, .ref k6, .ref k7, .ref k8, .int c9, .ref ka, .ref kb, .int cc, .int cd, .int ce, .int cf, .int cg, .int ch, .int ci, .int cj, .int ck, .ref kl, .int cm, .int cn, .ref ko])), (k2, .inl (cI, 1201, .inl sc0_74))] := hD
                    obtain ⟨h_75, h_76, h_77, h_78⟩ := w_73
                    have h_75 : SIX sc0_74 (-1) := h_75
                    have h_76 : (sc0_74 0).toInt = (g82_k2 0).toInt + 1 := h_76
                    have h_77 : (sc0_74 2).toInt = (g82_k2 2).toInt := h_77
                    have h_78 : sc0_74 = dayS g82_k2 := h_78
                    obtain ⟨v_79, ev_79⟩ : ∃ y : Int32, y = l82_5 + 1 := ⟨_, rfl⟩
                    have tv_79 : v_79.toInt = l82_5.toInt + 1 := by rw [ev_79]; exact k_addv rfl zl_1 (by omega) (by omega)
                    refine lv_iinc (v := v_79) (lv' := [(5, .int v_79), (4, .ref k0), (0, .ref k), (1, .int a0), (2, .int a1), (3, .int a2)]) hx hb dX11_ahead_92 hl (k := 0) rfl (by rw [ev_79]; rfl) (by decide +kernel) rfl ?_
                    clear hl
                    intro ls hl
                    refine lv_goto (tgt := 82) hx hb dX11_ahead_95 (by decide +kernel) ?_
                    exact ih82 v_79 sc0_74 (by first | omega | decide | assumption | rfl) h_75 (by first | omega | decide | assumption | rfl) (by first | omega | decide | assumption | rfl) (by first | omega | decide | assumption | rfl) (by rw [h_78, i82_5]; exact daysF_s (by omega) (by omega)) (by omega) ls _ _ (lv_sub hl [0, 1, 2, 3, 4, 5] rfl) (hP.sub [0, 2, 1, 3] rfl) (hD.sub [0, 2, 1, 3] (by decide +kernel) rfl) hS
            exact hloop_82 _ 0 ser_60 (by first | omega | (simp only [zl_0]; first | done | omega) | decide | assumption | rfl) hS_62 (by first | omega | (simp only [zl_0]; first | done | omega) | decide | assumption | rfl) (by first | omega | (simp only [zl_0]; first | done | omega) | decide | assumption | rfl) (by first | omega | (simp only [zl_0]; first | done | omega) | decide | assumption | rfl) (by rw [zl_0]; exact h_61) (Nat.lt_succ_self _) ls _ _ (lv_sub hl [0, 1, 2, 3, 4, 5] rfl) hP hD hS
          · have h_56 : a2.toInt < 0 ∨ (c0 2).toInt ≤ a2.toInt := h_56
            obtain rfl : r_51 = 0 := hr_51.trans (by decide +kernel)
            refine b_if_ne hx hb zl_0 (tgt := 56) dX11_ahead_46 (by decide +kernel) (fun c_80 => by exfalso; omega) (fun c_80 => ?_)
            refine lv_aload_n hx hb dX11_ahead_49 rfl (lv_at hl 0 rfl) ?_
            refine lv_ldc (v := (-1000001)) hx hb hown (hT _ mw_1239) dX11_ahead_50 ?_
            refine kJi (wr := [(k2, .inl (cI, 1201, .inl c2)), (k0, .inl (cI, 1201, .inl c0))]) (va_runV (As := [.int (-1000001)]) (rest := []) ⟨hx, hb, hml, hown, hT⟩ (c_X11_findingG l D cI aK aV k k0 k1 k2 k4 k5 k6 k7 k8 ka kb kl ko H.size c3 c9 cc cd ce cf cg ch ci cj ck cm cn c4 (-1000001) (by first | omega | (simp only [zl_m1000001]; first | done | omega) | decide | assumption | rfl) (by first | omega | (simp only [zl_m1000001]; first | done | omega) | decide | assumption | rfl)) (cwV 1 hT (gV_in mw_1243 mw_1240 mw_1242 mw_p3_8 mw_12) rfl rfl rfl (by decide +kernel) ⟨Nat.le_of_ble_eq_true rfl, Nat.le_of_ble_eq_true rfl⟩) (kRecvX (q0 := 2) (ci := 11) hK hP hD hN hXS hS hA rfl rfl [2, 1] rfl (by decide +kernel)) rfl rfl hl.1 rfl (lv_room (Nat.le_of_ble_eq_true rfl)) dX11_ahead_52 ⟨Nat.le_of_ble_eq_true rfl, Nat.le_of_ble_eq_true rfl⟩) hP hD hS hA [2, 1] [0, 3] rfl rfl (by decide +kernel) (by decide +kernel) ?_
            clear hP hD hS
            intro r_81 sc4_83 H locs w_82 hP hD hS
            replace hP : va_P D vwCl [(k2, .inl (cI, 1201, .inl c2)), (k0, .inl (cI, 1201, .inl c0)), (k, .inr (11, [.ref k0, .ref k1, .ref k2, .int c3, .ref k4, .ref k5, .ref k6, .ref k7, .ref k8, .int c9, .ref ka, .ref kb, .int cc, .int cd, .int ce, .int cf, .int cg, .int ch, .int ci, .int cj, .int ck, .ref kl, .int cm, .int cn, .ref ko])), (k4, .inl (cI, 6, .inl sc4_83))] H := hP
            replace hD : va_D A [(k2, .inl (cI, 1201, .inl c2)), (k0, .inl (cI, 1201, .inl c0)), (k, .inr (11, [.ref k0, .ref k1, .ref k2, .int c3, .ref k4, .ref k5, .ref k6, .ref k7, .ref k8, .int c9, .ref ka, .ref kb, .int cc, .int cd, .int ce, .int cf, .int cg, .int ch, .int ci, .int cj, .int ck, .ref kl, .int cm, .int cn, .ref ko])), (k4, .inl (cI, 6, .inl sc4_83))] := hD
            have hr_81 := w_82
            obtain rfl : r_81 = (-1000001) := hr_81.trans (by decide +kernel)
            exact hRet (c2, sc4_83) [2, 1, 0, 3] (by (try dsimp only); unfold ahdR; (repeat (first | rw [if_pos (by omega)] | rw [if_neg (by omega)]))) hP hD (by decide +kernel) rfl hS rfl dX11_ahead_55
      · try simp only [zl_0, zl_10] at h_23
        have h_23 : a1.toInt < 0 ∨ 10 < a1.toInt := h_23
        obtain rfl : r_18 = 0 := hr_18.trans (by decide +kernel)
        refine b_if_eq hx hb zl_0 (tgt := 49) dX11_ahead_32 (by decide +kernel) (fun c_84 => ?_) (fun c_84 => by exfalso; omega)
        refine lv_aload_n hx hb dX11_ahead_49 rfl (lv_at hl 0 rfl) ?_
        refine lv_ldc (v := (-1000001)) hx hb hown (hT _ mw_1239) dX11_ahead_50 ?_
        refine kJi (wr := [(k0, .inl (cI, 1201, .inl c0)), (k2, .inl (cI, 1201, .inl c2))]) (va_runV (As := [.int (-1000001)]) (rest := []) ⟨hx, hb, hml, hown, hT⟩ (c_X11_findingG l D cI aK aV k k0 k1 k2 k4 k5 k6 k7 k8 ka kb kl ko H.size c3 c9 cc cd ce cf cg ch ci cj ck cm cn c4 (-1000001) (by first | omega | (simp only [zl_m1000001]; first | done | omega) | decide | assumption | rfl) (by first | omega | (simp only [zl_m1000001]; first | done | omega) | decide | assumption | rfl)) (cwV 1 hT (gV_in mw_1243 mw_1240 mw_1242 mw_p3_8 mw_12) rfl rfl rfl (by decide +kernel) ⟨Nat.le_of_ble_eq_true rfl, Nat.le_of_ble_eq_true rfl⟩) (kRecvX (q0 := 0) (ci := 11) hK hP hD hN hXS hS hA rfl rfl [0, 3] rfl (by decide +kernel)) rfl rfl hl.1 rfl (lv_room (Nat.le_of_ble_eq_true rfl)) dX11_ahead_52 ⟨Nat.le_of_ble_eq_true rfl, Nat.le_of_ble_eq_true rfl⟩) hP hD hS hA [0, 3] [1, 2] rfl rfl (by decide +kernel) (by decide +kernel) ?_
        clear hP hD hS
        intro r_85 sc4_87 H locs w_86 hP hD hS
        replace hP : va_P D vwCl [(k0, .inl (cI, 1201, .inl c0)), (k2, .inl (cI, 1201, .inl c2)), (k, .inr (11, [.ref k0, .ref k1, .ref k2, .int c3, .ref k4, .ref k5, .ref k6, .ref k7, .ref k8, .int c9, .ref ka, .ref kb, .int cc, .int cd, .int ce, .int cf, .int cg, .int ch, .int ci, .int cj, .int ck, .ref kl, .int cm, .int cn, .ref ko])), (k4, .inl (cI, 6, .inl sc4_87))] H := hP
        replace hD : va_D A [(k0, .inl (cI, 1201, .inl c0)), (k2, .inl (cI, 1201, .inl c2)), (k, .inr (11, [.ref k0, .ref k1, .ref k2, .int c3, .ref k4, .ref k5, .ref k6, .ref k7, .ref k8, .int c9, .ref ka, .ref kb, .int cc, .int cd, .int ce, .int cf, .int cg, .int ch, .int ci, .int cj, .int ck, .ref kl, .int cm, .int cn, .ref ko])), (k4, .inl (cI, 6, .inl sc4_87))] := hD
        have hr_85 := w_86
        obtain rfl : r_85 = (-1000001) := hr_85.trans (by decide +kernel)
        exact hRet (c2, sc4_87) [2, 0, 1, 3] (by (try dsimp only); unfold ahdR; (repeat (first | rw [if_pos (by omega)] | rw [if_neg (by omega)]))) hP hD (by decide +kernel) rfl hS rfl dX11_ahead_55
  · try simp only [zl_0, zl_200] at h_9
    have h_9 : a0.toInt < 0 ∨ 200 < a0.toInt := h_9
    obtain rfl : r_4 = 0 := hr_4.trans (by decide +kernel)
    refine b_if_eq hx hb zl_0 (tgt := 49) dX11_ahead_8 (by decide +kernel) (fun c_88 => ?_) (fun c_88 => by exfalso; omega)
    refine lv_aload_n hx hb dX11_ahead_49 rfl (lv_at hl 0 rfl) ?_
    refine lv_ldc (v := (-1000001)) hx hb hown (hT _ mw_1239) dX11_ahead_50 ?_
    refine kJi (wr := [(k0, .inl (cI, 1201, .inl c0)), (k2, .inl (cI, 1201, .inl c2))]) (va_runV (As := [.int (-1000001)]) (rest := []) ⟨hx, hb, hml, hown, hT⟩ (c_X11_findingG l D cI aK aV k k0 k1 k2 k4 k5 k6 k7 k8 ka kb kl ko H.size c3 c9 cc cd ce cf cg ch ci cj ck cm cn c4 (-1000001) (by first | omega | (simp only [zl_m1000001]; first | done | omega) | decide | assumption | rfl) (by first | omega | (simp only [zl_m1000001]; first | done | omega) | decide | assumption | rfl)) (cwV 1 hT (gV_in mw_1243 mw_1240 mw_1242 mw_p3_8 mw_12) rfl rfl rfl (by decide +kernel) ⟨Nat.le_of_ble_eq_true rfl, Nat.le_of_ble_eq_true rfl⟩) (kRecvX (q0 := 0) (ci := 11) hK hP hD hN hXS hS hA rfl rfl [0, 3] rfl (by decide +kernel)) rfl rfl hl.1 rfl (lv_room (Nat.le_of_ble_eq_true rfl)) dX11_ahead_52 ⟨Nat.le_of_ble_eq_true rfl, Nat.le_of_ble_eq_true rfl⟩) hP hD hS hA [0, 3] [1, 2] rfl rfl (by decide +kernel) (by decide +kernel) ?_
    clear hP hD hS
    intro r_89 sc4_91 H locs w_90 hP hD hS
    replace hP : va_P D vwCl [(k0, .inl (cI, 1201, .inl c0)), (k2, .inl (cI, 1201, .inl c2)), (k, .inr (11, [.ref k0, .ref k1, .ref k2, .int c3, .ref k4, .ref k5, .ref k6, .ref k7, .ref k8, .int c9, .ref ka, .ref kb, .int cc, .int cd, .int ce, .int cf, .int cg, .int ch, .int ci, .int cj, .int ck, .ref kl, .int cm, .int cn, .ref ko])), (k4, .inl (cI, 6, .inl sc4_91))] H := hP
    replace hD : va_D A [(k0, .inl (cI, 1201, .inl c0)), (k2, .inl (cI, 1201, .inl c2)), (k, .inr (11, [.ref k0, .ref k1, .ref k2, .int c3, .ref k4, .ref k5, .ref k6, .ref k7, .ref k8, .int c9, .ref ka, .ref kb, .int cc, .int cd, .int ce, .int cf, .int cg, .int ch, .int ci, .int cj, .int ck, .ref kl, .int cm, .int cn, .ref ko])), (k4, .inl (cI, 6, .inl sc4_91))] := hD
    have hr_89 := w_90
    obtain rfl : r_89 = (-1000001) := hr_89.trans (by decide +kernel)
    exact hRet (c2, sc4_91) [2, 0, 1, 3] (by (try dsimp only); unfold ahdR; (repeat (first | rw [if_pos (by omega)] | rw [if_neg (by omega)]))) hP hD (by decide +kernel) rfl hS rfl dX11_ahead_55
theorem bn_cX11_areWired_0 : BN cX11_areWired 0 0x15a1e72c01500202a147e0402805500504005346000adc0a1615844029a0f07402a40e8142c051b8707e05 := by
  unfold BN; decide +kernel
theorem dX11_areWired_0 : decode cX11_areWired 0 = .ok (.iconst 1, 1) := dR0 (k := 0) (i := 0) bn_cX11_areWired_0 dop_4 (by decide +kernel)
theorem dX11_areWired_1 : decode cX11_areWired 1 = .ok (.istore_n 3, 1) := dR0 (k := 0) (i := 1) bn_cX11_areWired_0 dop_62 (by decide +kernel)
theorem dX11_areWired_2 : decode cX11_areWired 2 = .ok (.iload_n 1, 1) := dR0 (k := 0) (i := 2) bn_cX11_areWired_0 dop_27 (by decide +kernel)
theorem dX11_areWired_3 : decode cX11_areWired 3 = .ok (.istore 4, 2) := dR1 (f := Instr.istore) (k := 0) (i := 3) bn_cX11_areWired_0 dop_54 4 (by decide +kernel)
theorem dX11_areWired_5 : decode cX11_areWired 5 = .ok (.iload 4, 2) := dR1 (f := Instr.iload) (k := 0) (i := 5) bn_cX11_areWired_0 dop_21 4 (by decide +kernel)
theorem dX11_areWired_7 : decode cX11_areWired 7 = .ok (.iload_n 2, 1) := dR0 (k := 0) (i := 7) bn_cX11_areWired_0 dop_28 (by decide +kernel)
theorem dX11_areWired_8 : decode cX11_areWired 8 = .ok (.if_icmp .gt 28, 3) := dR2s (f := Instr.if_icmp .gt) (k := 0) (i := 8) bn_cX11_areWired_0 dop_163 28 28 (by decide +kernel)
theorem dX11_areWired_11 : decode cX11_areWired 11 = .ok (.iload_n 3, 1) := dR0 (k := 0) (i := 11) bn_cX11_areWired_0 dop_29 (by decide +kernel)
theorem dX11_areWired_12 : decode cX11_areWired 12 = .ok (.ifCond .eq 16, 3) := dR2s (f := Instr.ifCond .eq) (k := 0) (i := 12) bn_cX11_areWired_0 dop_153 16 16 (by decide +kernel)
theorem dX11_areWired_15 : decode cX11_areWired 15 = .ok (.aload_n 0, 1) := dR0 (k := 0) (i := 15) bn_cX11_areWired_0 dop_42 (by decide +kernel)
theorem dX11_areWired_16 : decode cX11_areWired 16 = .ok (.iload 4, 2) := dR1 (f := Instr.iload) (k := 0) (i := 16) bn_cX11_areWired_0 dop_21 4 (by decide +kernel)
theorem dX11_areWired_18 : decode cX11_areWired 18 = .ok (.invokevirtual 95, 3) := dR2 (f := Instr.invokevirtual) (k := 0) (i := 18) bn_cX11_areWired_0 dop_182 95 (by decide +kernel)
theorem dX11_areWired_21 : decode cX11_areWired 21 = .ok (.ifCond .eq 7, 3) := dR2s (f := Instr.ifCond .eq) (k := 0) (i := 21) bn_cX11_areWired_0 dop_153 7 7 (by decide +kernel)
theorem dX11_areWired_24 : decode cX11_areWired 24 = .ok (.iconst 1, 1) := dR0 (k := 0) (i := 24) bn_cX11_areWired_0 dop_4 (by decide +kernel)
theorem dX11_areWired_25 : decode cX11_areWired 25 = .ok (.goto 4, 3) := dR2s (f := Instr.goto) (k := 0) (i := 25) bn_cX11_areWired_0 dop_167 4 4 (by decide +kernel)
theorem dX11_areWired_28 : decode cX11_areWired 28 = .ok (.iconst 0, 1) := dR0 (k := 0) (i := 28) bn_cX11_areWired_0 dop_3 (by decide +kernel)
theorem dX11_areWired_29 : decode cX11_areWired 29 = .ok (.istore_n 3, 1) := dR0 (k := 0) (i := 29) bn_cX11_areWired_0 dop_62 (by decide +kernel)
theorem dX11_areWired_30 : decode cX11_areWired 30 = .ok (.iinc 4 1, 3) := dRii (f := Instr.iinc) (k := 0) (i := 30) bn_cX11_areWired_0 dop_132 4 1 1 (by decide +kernel)
theorem dX11_areWired_33 : decode cX11_areWired 33 = .ok (.goto (-28), 3) := dR2s (f := Instr.goto) (k := 0) (i := 33) bn_cX11_areWired_0 dop_167 65508 (-28) (by decide +kernel)
theorem dX11_areWired_36 : decode cX11_areWired 36 = .ok (.iload_n 3, 1) := dR0 (k := 0) (i := 36) bn_cX11_areWired_0 dop_29 (by decide +kernel)
theorem dX11_areWired_37 : decode cX11_areWired 37 = .ok (.ireturn, 1) := dR0 (k := 0) (i := 37) bn_cX11_areWired_0 dop_172 (by decide +kernel)
set_option maxHeartbeats 4000000 in
set_option maxRecDepth 100000 in
theorem c_X11_areWiredG (l : Launch) (D : va_G) (cI : ClassId) (aK aV : Nat → Nat) (k k0 k1 k2 k4 k5 k6 k7 k8 ka kb kl ko : Nat) (sz : Nat) (c3 : Int32) (c9 : Int32) (cc : Int32) (cd : Int32) (ce : Int32) (cf : Int32) (cg : Int32) (ch : Int32) (ci : Int32) (cj : Int32) (ck : Int32) (cm : Int32) (cn : Int32) (c0 : Nat → Int32) (a0 : Int32) (a1 : Int32) (pre0 : SB c0) (pre1 : 0 ≤ a0.toInt) (pre2 : a0.toInt ≤ 39) (pre3 : a1.toInt ≤ 39) (pre4 : a0.toInt ≤ a1.toInt) : Met l yX11_areWired (gW yX11_areWired cX11_areWired 5 (some .boolean)) ({ frames := 4, cells := 0, slots := 0, locals := 87 } : Room) (kPreX D cI aK aV [.ref k, .int a0, .int a1] [(k, .inr (11, [.ref k0, .ref k1, .ref k2, .int c3, .ref k4, .ref k5, .ref k6, .ref k7, .ref k8, .int c9, .ref ka, .ref kb, .int cc, .int cd, .int ce, .int cf, .int cg, .int ch, .int ci, .int cj, .int ck, .ref kl, .int cm, .int cn, .ref ko])), (k0, .inl (cI, 1201, .inl c0))] sz) (va_Qi (fun (r : Int32) (u : Unit) => (r = 1 ∧ awF c0 a0.toInt a1.toInt = true) ∨ (r = 0 ∧ awF c0 a0.toInt a1.toInt = false)) (fun u t => kWd D cI (va_A [(k, .inr (11, [.ref k0, .ref k1, .ref k2, .int c3, .ref k4, .ref k5, .ref k6, .ref k7, .ref k8, .int c9, .ref ka, .ref kb, .int cc, .int cd, .int ce, .int cf, .int cg, .int ch, .int ci, .int cj, .int ck, .ref kl, .int cm, .int cn, .ref ko])), (k0, .inl (cI, 1201, .inl c0))] sz) [(k, .inr (11, [.ref k0, .ref k1, .ref k2, .int c3, .ref k4, .ref k5, .ref k6, .ref k7, .ref k8, .int c9, .ref ka, .ref kb, .int cc, .int cd, .int ce, .int cf, .int cg, .int ch, .int ci, .int cj, .int ck, .ref kl, .int cm, .int cn, .ref ko])), (k0, .inl (cI, 1201, .inl c0))] t) (va_A [(k, .inr (11, [.ref k0, .ref k1, .ref k2, .int c3, .ref k4, .ref k5, .ref k6, .ref k7, .ref k8, .int c9, .ref ka, .ref kb, .int cc, .int cd, .int ce, .int cf, .int cg, .int ch, .int ci, .int cj, .int ck, .ref kl, .int cm, .int cn, .ref ko])), (k0, .inl (cI, 1201, .inl c0))] sz)) 0 0 (va_A [(k, .inr (11, [.ref k0, .ref k1, .ref k2, .int c3, .ref k4, .ref k5, .ref k6, .ref k7, .ref k8, .int c9, .ref ka, .ref kb, .int cc, .int cd, .int ce, .int cf, .int cg, .int ch, .int ci, .int cj, .int ck, .ref kl, .int cm, .int cn, .ref ko])), (k0, .inl (cI, 1201, .inl c0))] sz) := by
  refine kMetIX (own := RX11) (by decide +kernel) rfl (Nat.le_of_ble_eq_true rfl) ?_
  intro p e s m args below meth c hx hb hT hown hname hml A Q hK hP hD hS hA hN hXS hRet ls hl
  have hl : lv_has ls 5 [(0, .ref k), (1, .int a0), (2, .int a1)] := hl
  have lo_a0 := k_lo a0
  have hi_a0 := k_hi a0
  have lo_a1 := k_lo a1
  have hi_a1 := k_hi a1
  have lo_ci := k_lo ci
  have hi_ci := k_hi ci
  have pre0 : SB c0 := pre0
  have nb_1 : 0 ≤ (c0 0).toInt ∧ (c0 0).toInt ≤ 2000 := SB.n0 pre0
  have nb_2 : 0 ≤ (c0 1).toInt ∧ (c0 1).toInt ≤ 60 := SB.n1 pre0
  have nb_3 : 0 ≤ (c0 2).toInt ∧ (c0 2).toInt ≤ 4 := SB.n2 pre0
  refine lv_iconst (v := 1) hx hb dX11_areWired_0 (by decide +kernel) ?_
  refine lv_istore_n (lv' := [(3, .int 1), (0, .ref k), (1, .int a0), (2, .int a1)]) hx hb dX11_areWired_1 rfl hl (by decide +kernel) rfl ?_
  clear hl
  intro ls hl
  refine lv_iload_n hx hb dX11_areWired_2 rfl (lv_at hl 2 rfl) ?_
  refine lv_istore (lv' := [(4, .int a0), (3, .int 1), (0, .ref k), (1, .int a0), (2, .int a1)]) hx hb dX11_areWired_3 hl (by decide +kernel) rfl ?_
  clear hl
  intro ls hl
  have hloop_5 : ∀ (fu_ : Nat) (l5_3 : Int32) (l5_4 : Int32), l5_3.toInt ≤ 1 → a0.toInt ≤ l5_4.toInt → 0 ≤ l5_3.toInt → l5_3.toInt ≤ 1 → l5_4.toInt ≤ 40 → a0.toInt ≤ l5_4.toInt → l5_4.toInt ≤ a1.toInt + 1 → (l5_3.toInt ≠ 0 → awN c0 a0.toInt (l5_4.toInt - a0.toInt).toNat = true) → (l5_3.toInt = 0 → awF c0 a0.toInt a1.toInt = false) → (40 - l5_4.toInt).toNat < fu_ → ∀ (ls : Array Slot) (H : Heap) (locs : List Loc), lv_has ls 5 [(4, .int l5_4), (3, .int l5_3), (0, .ref k), (1, .int a0), (2, .int a1)] → va_P D vwCl [(k, .inr (11, [.ref k0, .ref k1, .ref k2, .int c3, .ref k4, .ref k5, .ref k6, .ref k7, .ref k8, .int c9, .ref ka, .ref kb, .int cc, .int cd, .int ce, .int cf, .int cg, .int ch, .int ci, .int cj, .int ck, .ref kl, .int cm, .int cn, .ref ko])), (k0, .inl (cI, 1201, .inl c0))] H → va_D A [(k, .inr (11, [.ref k0, .ref k1, .ref k2, .int c3, .ref k4, .ref k5, .ref k6, .ref k7, .ref k8, .int c9, .ref ka, .ref kb, .int cc, .int cd, .int ce, .int cf, .int cg, .int ch, .int ci, .int cj, .int ck, .ref kl, .int cm, .int cn, .ref ko])), (k0, .inl (cI, 1201, .inl c0))] → va_S A s.heap H locs → W p l e ({ frames := 4, cells := 0, slots := 0, locals := 87 } : Room) s m args below meth c H locs 0 0 Q (F0 m 5 ls []) := by
    intro fu_; induction fu_ with
    | zero => intro l5_3 l5_4 i5_0 i5_1 i5_2 i5_3 i5_4 i5_5 i5_6 i5_7 i5_8 hm; exact absurd hm (by omega)
    | succ fu_ ih5 =>
        intro l5_3 l5_4 i5_0 i5_1 i5_2 i5_3 i5_4 i5_5 i5_6 i5_7 i5_8 hm ls H locs hl hP hD hS
        have lo_l5_3 := k_lo l5_3
        have hi_l5_3 := k_hi l5_3
        have lo_l5_4 := k_lo l5_4
        have hi_l5_4 := k_hi l5_4
        refine lv_iload hx hb dX11_areWired_5 (lv_at hl 0 rfl) ?_
        refine lv_iload_n hx hb dX11_areWired_7 rfl (lv_at hl 4 rfl) ?_
        refine b_icmp_gt hx hb rfl rfl (tgt := 36) dX11_areWired_8 (by decide +kernel) (fun c_4 => ?_) (fun c_4 => ?_)
        · refine lv_iload_n hx hb dX11_areWired_36 rfl (lv_at hl 1 rfl) ?_
          rcases (show l5_3.toInt = 0 ∨ l5_3.toInt = 1 by omega) with h_z | h_z
          · obtain rfl : l5_3 = 0 := k_inj (by rw [zl_0]; omega)
            exact hRet () [0, 1] (Or.inr (⟨rfl, (i5_8 (by decide +kernel))⟩)) hP hD (by decide +kernel) rfl hS rfl dX11_areWired_37
          · obtain rfl : l5_3 = 1 := k_inj (by rw [zl_1]; omega)
            exact hRet () [0, 1] (Or.inl ⟨rfl, (by unfold awF; rw [show a1.toInt + 1 - a0.toInt = l5_4.toInt - a0.toInt from by omega]; exact i5_7 (by decide +kernel))⟩) hP hD (by decide +kernel) rfl hS rfl dX11_areWired_37
        · refine lv_iload_n hx hb dX11_areWired_11 rfl (lv_at hl 1 rfl) ?_
          refine b_if_eq hx hb rfl (tgt := 28) dX11_areWired_12 (by decide +kernel) (fun c_5 => ?_) (fun c_5 => ?_)
          · refine lv_iconst (v := 0) hx hb dX11_areWired_28 (by decide +kernel) ?_
            refine lv_istore_n (lv' := [(3, .int 0), (4, .int l5_4), (0, .ref k), (1, .int a0), (2, .int a1)]) hx hb dX11_areWired_29 rfl hl (by decide +kernel) rfl ?_
            clear hl
            intro ls hl
            obtain ⟨v_6, ev_6⟩ : ∃ y : Int32, y = l5_4 + 1 := ⟨_, rfl⟩
            have tv_6 : v_6.toInt = l5_4.toInt + 1 := by rw [ev_6]; exact k_addv rfl zl_1 (by omega) (by omega)
            refine lv_iinc (v := v_6) (lv' := [(4, .int v_6), (3, .int 0), (0, .ref k), (1, .int a0), (2, .int a1)]) hx hb dX11_areWired_30 hl (k := 1) rfl (by rw [ev_6]; rfl) (by decide +kernel) rfl ?_
            clear hl
            intro ls hl
            refine lv_goto (tgt := 5) hx hb dX11_areWired_33 (by decide +kernel) ?_
            exact ih5 0 v_6 (by first | omega | (simp only [zl_0]; first | done | omega) | decide | assumption | rfl) (by first | omega | (simp only [zl_0]; first | done | omega) | decide | assumption | rfl) (by first | omega | (simp only [zl_0]; first | done | omega) | decide | assumption | rfl) (by first | omega | (simp only [zl_0]; first | done | omega) | decide | assumption | rfl) (by first | omega | (simp only [zl_0]; first | done | omega) | decide | assumption | rfl) (by first | omega | (simp only [zl_0]; first | done | omega) | decide | assumption | rfl) (by first | omega | (simp only [zl_0]; first | done | omega) | decide | assumption | rfl) (fun hz => absurd zl_0 hz) (fun _ => i5_8 (by omega)) (by omega) ls _ _ (lv_sub hl [0, 1, 2, 3, 4] rfl) (hP.sub [0, 1] rfl) (hD.sub [0, 1] (by decide +kernel) rfl) hS
          · refine lv_aload_n hx hb dX11_areWired_15 rfl (lv_at hl 2 rfl) ?_
            refine lv_iload hx hb dX11_areWired_16 (lv_at hl 0 rfl) ?_
            refine kJi (wr := []) (va_runV (As := [.int l5_4]) (rest := []) ⟨hx, hb, hml, hown, hT⟩ (c_X11_isWiredG l D cI aK aV k k0 k1 k2 k4 k5 k6 k7 k8 ka kb kl ko H.size c3 c9 cc cd ce cf cg ch ci cj ck cm cn c0 l5_4 pre0) (cwV 1 hT (gV_in mw_1368 mw_1365 mw_1367 mw_p4_13 mw_12) rfl rfl rfl (by decide +kernel) ⟨Nat.le_of_ble_eq_true rfl, Nat.le_of_ble_eq_true rfl⟩) (kRecvX (q0 := 0) (ci := 11) hK hP hD hN hXS hS hA rfl rfl [0, 1] rfl (by decide +kernel)) rfl rfl hl.1 rfl (lv_room (Nat.le_of_ble_eq_true rfl)) dX11_areWired_18 ⟨Nat.le_of_ble_eq_true rfl, Nat.le_of_ble_eq_true rfl⟩) hP hD hS hA [0, 1] [] rfl rfl (by decide +kernel) (by decide +kernel) ?_
            clear hP hD hS
            intro r_7 u_9 H locs w_8 hP hD hS
            replace hP : va_P D vwCl [(k, .inr (11, [.ref k0, .ref k1, .ref k2, .int c3, .ref k4, .ref k5, .ref k6, .ref k7, .ref k8, .int c9, .ref ka, .ref kb, .int cc, .int cd, .int ce, .int cf, .int cg, .int ch, .int ci, .int cj, .int ck, .ref kl, .int cm, .int cn, .ref ko])), (k0, .inl (cI, 1201, .inl c0))] H := hP
            replace hD : va_D A [(k, .inr (11, [.ref k0, .ref k1, .ref k2, .int c3, .ref k4, .ref k5, .ref k6, .ref k7, .ref k8, .int c9, .ref ka, .ref kb, .int cc, .int cd, .int ce, .int cf, .int cg, .int ch, .int ci, .int cj, .int ck, .ref kl, .int cm, .int cn, .ref ko])), (k0, .inl (cI, 1201, .inl c0))] := hD
            rcases w_8 with ⟨hr_7, h_10⟩ | ⟨hr_7, h_11⟩
            · have h_10 : wdF c0 l5_4.toInt = 1 := h_10
              have h_10 : wdF c0 l5_4.toInt = 1 := h_10
              obtain rfl : r_7 = 1 := hr_7.trans (by decide +kernel)
              refine b_if_eq hx hb zl_1 (tgt := 28) dX11_areWired_21 (by decide +kernel) (fun c_12 => by exfalso; omega) (fun c_12 => ?_)
              refine lv_iconst (v := 1) hx hb dX11_areWired_24 (by decide +kernel) ?_
              refine lv_goto (tgt := 29) hx hb dX11_areWired_25 (by decide +kernel) ?_
              refine lv_istore_n (lv' := [(3, .int 1), (4, .int l5_4), (0, .ref k), (1, .int a0), (2, .int a1)]) hx hb dX11_areWired_29 rfl hl (by decide +kernel) rfl ?_
              clear hl
              intro ls hl
              obtain ⟨v_13, ev_13⟩ : ∃ y : Int32, y = l5_4 + 1 := ⟨_, rfl⟩
              have tv_13 : v_13.toInt = l5_4.toInt + 1 := by rw [ev_13]; exact k_addv rfl zl_1 (by omega) (by omega)
              refine lv_iinc (v := v_13) (lv' := [(4, .int v_13), (3, .int 1), (0, .ref k), (1, .int a0), (2, .int a1)]) hx hb dX11_areWired_30 hl (k := 1) rfl (by rw [ev_13]; rfl) (by decide +kernel) rfl ?_
              clear hl
              intro ls hl
              refine lv_goto (tgt := 5) hx hb dX11_areWired_33 (by decide +kernel) ?_
              exact ih5 1 v_13 (by first | omega | (simp only [zl_1]; first | done | omega) | decide | assumption | rfl) (by first | omega | (simp only [zl_1]; first | done | omega) | decide | assumption | rfl) (by first | omega | (simp only [zl_1]; first | done | omega) | decide | assumption | rfl) (by first | omega | (simp only [zl_1]; first | done | omega) | decide | assumption | rfl) (by first | omega | (simp only [zl_1]; first | done | omega) | decide | assumption | rfl) (by first | omega | (simp only [zl_1]; first | done | omega) | decide | assumption | rfl) (by first | omega | (simp only [zl_1]; first | done | omega) | decide | assumption | rfl) (fun _ => awN_y (i5_7 (by omega)) (by omega) (by omega) h_10) (fun hz => by rw [zl_1] at hz; exact absurd hz (by decide +kernel)) (by omega) ls _ _ (lv_sub hl [0, 1, 2, 3, 4] rfl) (hP.sub [0, 1] rfl) (hD.sub [0, 1] (by decide +kernel) rfl) hS
            · have h_11 : wdF c0 l5_4.toInt = 0 := h_11
              have h_11 : wdF c0 l5_4.toInt = 0 := h_11
              obtain rfl : r_7 = 0 := hr_7.trans (by decide +kernel)
              refine b_if_eq hx hb zl_0 (tgt := 28) dX11_areWired_21 (by decide +kernel) (fun c_14 => ?_) (fun c_14 => by exfalso; omega)
              refine lv_iconst (v := 0) hx hb dX11_areWired_28 (by decide +kernel) ?_
              refine lv_istore_n (lv' := [(3, .int 0), (4, .int l5_4), (0, .ref k), (1, .int a0), (2, .int a1)]) hx hb dX11_areWired_29 rfl hl (by decide +kernel) rfl ?_
              clear hl
              intro ls hl
              obtain ⟨v_15, ev_15⟩ : ∃ y : Int32, y = l5_4 + 1 := ⟨_, rfl⟩
              have tv_15 : v_15.toInt = l5_4.toInt + 1 := by rw [ev_15]; exact k_addv rfl zl_1 (by omega) (by omega)
              refine lv_iinc (v := v_15) (lv' := [(4, .int v_15), (3, .int 0), (0, .ref k), (1, .int a0), (2, .int a1)]) hx hb dX11_areWired_30 hl (k := 1) rfl (by rw [ev_15]; rfl) (by decide +kernel) rfl ?_
              clear hl
              intro ls hl
              refine lv_goto (tgt := 5) hx hb dX11_areWired_33 (by decide +kernel) ?_
              exact ih5 0 v_15 (by first | omega | (simp only [zl_0]; first | done | omega) | decide | assumption | rfl) (by first | omega | (simp only [zl_0]; first | done | omega) | decide | assumption | rfl) (by first | omega | (simp only [zl_0]; first | done | omega) | decide | assumption | rfl) (by first | omega | (simp only [zl_0]; first | done | omega) | decide | assumption | rfl) (by first | omega | (simp only [zl_0]; first | done | omega) | decide | assumption | rfl) (by first | omega | (simp only [zl_0]; first | done | omega) | decide | assumption | rfl) (by first | omega | (simp only [zl_0]; first | done | omega) | decide | assumption | rfl) (fun hz => absurd zl_0 hz) (fun _ => awN_n (by omega) h_11 _ (by omega)) (by omega) ls _ _ (lv_sub hl [0, 1, 2, 3, 4] rfl) (hP.sub [0, 1] rfl) (hD.sub [0, 1] (by decide +kernel) rfl) hS
  exact hloop_5 _ 1 a0 (by first | omega | (simp only [zl_1]; first | done | omega) | decide | assumption | rfl) (by first | omega | (simp only [zl_1]; first | done | omega) | decide | assumption | rfl) (by first | omega | (simp only [zl_1]; first | done | omega) | decide | assumption | rfl) (by first | omega | (simp only [zl_1]; first | done | omega) | decide | assumption | rfl) (by first | omega | (simp only [zl_1]; first | done | omega) | decide | assumption | rfl) (by first | omega | (simp only [zl_1]; first | done | omega) | decide | assumption | rfl) (by first | omega | (simp only [zl_1]; first | done | omega) | decide | assumption | rfl) (fun _ => awN_0 rfl) (fun hz => by rw [zl_1] at hz; exact absurd hz (by decide +kernel)) (Nat.lt_succ_self _) ls _ _ (lv_sub hl [0, 1, 2, 3, 4] rfl) hP hD hS
theorem bn_cX11_joined_0 : BN cX11_joined 0 0x305814015b0b856061b80c0a01540bc080a00ad4560d00a6812025b874382b74c0150ff00adc560b00a6c12025b874382b0a00546050b0bc080a00ad456051b9859201090bc080a00ad4560e00aa1a2080902802a568820246164804242f0202802b51582802b6088056a2b1580804b9088056a2b1713c14015a8ad5a4100adc80131582c02a50e87012014d11002b90e840029a22005721c := by
  unfold BN; decide +kernel
theorem dX11_joined_0 : decode cX11_joined 0 = .ok (.iload_n 1, 1) := dR0 (k := 0) (i := 0) bn_cX11_joined_0 dop_27 (by decide +kernel)
theorem dX11_joined_1 : decode cX11_joined 1 = .ok (.invokestatic 67, 3) := dR2 (f := Instr.invokestatic) (k := 0) (i := 1) bn_cX11_joined_0 dop_184 67 (by decide +kernel)
theorem dX11_joined_4 : decode cX11_joined 4 = .ok (.ifCond .eq 15, 3) := dR2s (f := Instr.ifCond .eq) (k := 0) (i := 4) bn_cX11_joined_0 dop_153 15 15 (by decide +kernel)
theorem dX11_joined_7 : decode cX11_joined 7 = .ok (.iload_n 2, 1) := dR0 (k := 0) (i := 7) bn_cX11_joined_0 dop_28 (by decide +kernel)
theorem dX11_joined_8 : decode cX11_joined 8 = .ok (.invokestatic 67, 3) := dR2 (f := Instr.invokestatic) (k := 0) (i := 8) bn_cX11_joined_0 dop_184 67 (by decide +kernel)
theorem dX11_joined_11 : decode cX11_joined 11 = .ok (.ifCond .eq 8, 3) := dR2s (f := Instr.ifCond .eq) (k := 0) (i := 11) bn_cX11_joined_0 dop_153 8 8 (by decide +kernel)
theorem dX11_joined_14 : decode cX11_joined 14 = .ok (.iload_n 1, 1) := dR0 (k := 0) (i := 14) bn_cX11_joined_0 dop_27 (by decide +kernel)
theorem dX11_joined_15 : decode cX11_joined 15 = .ok (.iload_n 2, 1) := dR0 (k := 0) (i := 15) bn_cX11_joined_0 dop_28 (by decide +kernel)
theorem dX11_joined_16 : decode cX11_joined 16 = .ok (.if_icmp .le 10, 3) := dR2s (f := Instr.if_icmp .le) (k := 0) (i := 16) bn_cX11_joined_0 dop_164 10 10 (by decide +kernel)
theorem dX11_joined_19 : decode cX11_joined 19 = .ok (.aload_n 0, 1) := dR0 (k := 0) (i := 19) bn_cX11_joined_0 dop_42 (by decide +kernel)
theorem dX11_joined_20 : decode cX11_joined 20 = .ok (.ldc 63, 2) := dR1 (f := Instr.ldc) (k := 0) (i := 20) bn_cX11_joined_0 dop_18 63 (by decide +kernel)
theorem dX11_joined_22 : decode cX11_joined 22 = .ok (.invokevirtual 64, 3) := dR2 (f := Instr.invokevirtual) (k := 0) (i := 22) bn_cX11_joined_0 dop_182 64 (by decide +kernel)
theorem dX11_joined_25 : decode cX11_joined 25 = .ok (.ireturn, 1) := dR0 (k := 0) (i := 25) bn_cX11_joined_0 dop_172 (by decide +kernel)
theorem dX11_joined_26 : decode cX11_joined 26 = .ok (.aload_n 0, 1) := dR0 (k := 0) (i := 26) bn_cX11_joined_0 dop_42 (by decide +kernel)
theorem dX11_joined_27 : decode cX11_joined 27 = .ok (.getfield 9, 3) := dR2 (f := Instr.getfield) (k := 0) (i := 27) bn_cX11_joined_0 dop_180 9 (by decide +kernel)
theorem dX11_joined_30 : decode cX11_joined 30 = .ok (.astore_n 3, 1) := dR0 (k := 0) (i := 30) bn_cX11_joined_0 dop_78 (by decide +kernel)
theorem dX11_joined_31 : decode cX11_joined 31 = .ok (.aload_n 3, 1) := dR0 (k := 0) (i := 31) bn_cX11_joined_0 dop_45 (by decide +kernel)
theorem dX11_joined_32 : decode cX11_joined 32 = .ok (.aload_n 0, 1) := dR0 (k := 0) (i := 32) bn_cX11_joined_0 dop_42 (by decide +kernel)
theorem dX11_joined_33 : decode cX11_joined 33 = .ok (.getfield 16, 3) := dR2 (f := Instr.getfield) (k := 0) (i := 33) bn_cX11_joined_0 dop_180 16 (by decide +kernel)
theorem dX11_joined_36 : decode cX11_joined 36 = .ok (.invokestatic 257, 3) := dR2 (f := Instr.invokestatic) (k := 0) (i := 36) bn_cX11_joined_0 dop_184 257 (by decide +kernel)
theorem dX11_joined_39 : decode cX11_joined 39 = .ok (.aload_n 0, 1) := dR0 (k := 0) (i := 39) bn_cX11_joined_0 dop_42 (by decide +kernel)
theorem dX11_joined_40 : decode cX11_joined 40 = .ok (.aload_n 0, 1) := dR0 (k := 0) (i := 40) bn_cX11_joined_0 dop_42 (by decide +kernel)
theorem dX11_joined_41 : decode cX11_joined 41 = .ok (.getfield 16, 3) := dR2 (f := Instr.getfield) (k := 0) (i := 41) bn_cX11_joined_0 dop_180 16 (by decide +kernel)
theorem dX11_joined_44 : decode cX11_joined 44 = .ok (.putfield 9, 3) := dR2 (f := Instr.putfield) (k := 0) (i := 44) bn_cX11_joined_0 dop_181 9 (by decide +kernel)
theorem dX11_joined_47 : decode cX11_joined 47 = .ok (.aload_n 0, 1) := dR0 (k := 0) (i := 47) bn_cX11_joined_0 dop_42 (by decide +kernel)
theorem dX11_joined_48 : decode cX11_joined 48 = .ok (.getfield 9, 3) := dR2 (f := Instr.getfield) (k := 0) (i := 48) bn_cX11_joined_0 dop_180 9 (by decide +kernel)
theorem dX11_joined_51 : decode cX11_joined 51 = .ok (.iconst 0, 1) := dR0 (k := 0) (i := 51) bn_cX11_joined_0 dop_3 (by decide +kernel)
theorem dX11_joined_52 : decode cX11_joined 52 = .ok (.iaload, 1) := dR0 (k := 0) (i := 52) bn_cX11_joined_0 dop_46 (by decide +kernel)
theorem dX11_joined_53 : decode cX11_joined 53 = .ok (.sipush 200, 3) := dR2s (f := Instr.sipush) (k := 0) (i := 53) bn_cX11_joined_0 dop_17 200 200 (by decide +kernel)
theorem dX11_joined_56 : decode cX11_joined 56 = .ok (.iadd, 1) := dR0 (k := 0) (i := 56) bn_cX11_joined_0 dop_96 (by decide +kernel)
theorem dX11_joined_57 : decode cX11_joined 57 = .ok (.sipush 2000, 3) := dR2s (f := Instr.sipush) (k := 0) (i := 57) bn_cX11_joined_0 dop_17 2000 2000 (by decide +kernel)
theorem dX11_joined_60 : decode cX11_joined 60 = .ok (.if_icmp .le 9, 3) := dR2s (f := Instr.if_icmp .le) (k := 0) (i := 60) bn_cX11_joined_0 dop_164 9 9 (by decide +kernel)
theorem dX11_joined_63 : decode cX11_joined 63 = .ok (.sipush 2000, 3) := dR2s (f := Instr.sipush) (k := 0) (i := 63) bn_cX11_joined_0 dop_17 2000 2000 (by decide +kernel)
theorem dX11_joined_66 : decode cX11_joined 66 = .ok (.goto 13, 3) := dR2s (f := Instr.goto) (k := 0) (i := 66) bn_cX11_joined_0 dop_167 13 13 (by decide +kernel)
theorem dX11_joined_69 : decode cX11_joined 69 = .ok (.aload_n 0, 1) := dR0 (k := 0) (i := 69) bn_cX11_joined_0 dop_42 (by decide +kernel)
theorem dX11_joined_70 : decode cX11_joined 70 = .ok (.getfield 9, 3) := dR2 (f := Instr.getfield) (k := 0) (i := 70) bn_cX11_joined_0 dop_180 9 (by decide +kernel)
theorem dX11_joined_73 : decode cX11_joined 73 = .ok (.iconst 0, 1) := dR0 (k := 0) (i := 73) bn_cX11_joined_0 dop_3 (by decide +kernel)
theorem dX11_joined_74 : decode cX11_joined 74 = .ok (.iaload, 1) := dR0 (k := 0) (i := 74) bn_cX11_joined_0 dop_46 (by decide +kernel)
theorem dX11_joined_75 : decode cX11_joined 75 = .ok (.sipush 200, 3) := dR2s (f := Instr.sipush) (k := 0) (i := 75) bn_cX11_joined_0 dop_17 200 200 (by decide +kernel)
theorem dX11_joined_78 : decode cX11_joined 78 = .ok (.iadd, 1) := dR0 (k := 0) (i := 78) bn_cX11_joined_0 dop_96 (by decide +kernel)
theorem dX11_joined_79 : decode cX11_joined 79 = .ok (.istore 4, 2) := dR1 (f := Instr.istore) (k := 0) (i := 79) bn_cX11_joined_0 dop_54 4 (by decide +kernel)
theorem dX11_joined_81 : decode cX11_joined 81 = .ok (.aload_n 0, 1) := dR0 (k := 0) (i := 81) bn_cX11_joined_0 dop_42 (by decide +kernel)
theorem dX11_joined_82 : decode cX11_joined 82 = .ok (.getfield 9, 3) := dR2 (f := Instr.getfield) (k := 0) (i := 82) bn_cX11_joined_0 dop_180 9 (by decide +kernel)
theorem dX11_joined_85 : decode cX11_joined 85 = .ok (.iconst 0, 1) := dR0 (k := 0) (i := 85) bn_cX11_joined_0 dop_3 (by decide +kernel)
theorem dX11_joined_86 : decode cX11_joined 86 = .ok (.iaload, 1) := dR0 (k := 0) (i := 86) bn_cX11_joined_0 dop_46 (by decide +kernel)
theorem dX11_joined_87 : decode cX11_joined 87 = .ok (.iload 4, 2) := dR1 (f := Instr.iload) (k := 0) (i := 87) bn_cX11_joined_0 dop_21 4 (by decide +kernel)
theorem dX11_joined_89 : decode cX11_joined 89 = .ok (.if_icmp .ge 19, 3) := dR2s (f := Instr.if_icmp .ge) (k := 0) (i := 89) bn_cX11_joined_0 dop_162 19 19 (by decide +kernel)
theorem dX11_joined_92 : decode cX11_joined 92 = .ok (.aload_n 0, 1) := dR0 (k := 0) (i := 92) bn_cX11_joined_0 dop_42 (by decide +kernel)
theorem dX11_joined_93 : decode cX11_joined 93 = .ok (.iload_n 1, 1) := dR0 (k := 0) (i := 93) bn_cX11_joined_0 dop_27 (by decide +kernel)
theorem dX11_joined_94 : decode cX11_joined 94 = .ok (.iload_n 2, 1) := dR0 (k := 0) (i := 94) bn_cX11_joined_0 dop_28 (by decide +kernel)
theorem dX11_joined_95 : decode cX11_joined 95 = .ok (.invokevirtual 264, 3) := dR2 (f := Instr.invokevirtual) (k := 0) (i := 95) bn_cX11_joined_0 dop_182 264 (by decide +kernel)
theorem dX11_joined_98 : decode cX11_joined 98 = .ok (.ifCond .ne 10, 3) := dR2s (f := Instr.ifCond .ne) (k := 0) (i := 98) bn_cX11_joined_0 dop_154 10 10 (by decide +kernel)
theorem dX11_joined_101 : decode cX11_joined 101 = .ok (.aload_n 0, 1) := dR0 (k := 0) (i := 101) bn_cX11_joined_0 dop_42 (by decide +kernel)
theorem dX11_joined_102 : decode cX11_joined 102 = .ok (.invokevirtual 254, 3) := dR2 (f := Instr.invokevirtual) (k := 0) (i := 102) bn_cX11_joined_0 dop_182 254 (by decide +kernel)
theorem dX11_joined_105 : decode cX11_joined 105 = .ok (.goto (-24), 3) := dR2s (f := Instr.goto) (k := 0) (i := 105) bn_cX11_joined_0 dop_167 65512 (-24) (by decide +kernel)
theorem dX11_joined_108 : decode cX11_joined 108 = .ok (.aload_n 0, 1) := dR0 (k := 0) (i := 108) bn_cX11_joined_0 dop_42 (by decide +kernel)
theorem dX11_joined_109 : decode cX11_joined 109 = .ok (.iload_n 1, 1) := dR0 (k := 0) (i := 109) bn_cX11_joined_0 dop_27 (by decide +kernel)
theorem dX11_joined_110 : decode cX11_joined 110 = .ok (.iload_n 2, 1) := dR0 (k := 0) (i := 110) bn_cX11_joined_0 dop_28 (by decide +kernel)
theorem dX11_joined_111 : decode cX11_joined 111 = .ok (.invokevirtual 264, 3) := dR2 (f := Instr.invokevirtual) (k := 0) (i := 111) bn_cX11_joined_0 dop_182 264 (by decide +kernel)
theorem dX11_joined_114 : decode cX11_joined 114 = .ok (.ifCond .eq 12, 3) := dR2s (f := Instr.ifCond .eq) (k := 0) (i := 114) bn_cX11_joined_0 dop_153 12 12 (by decide +kernel)
theorem dX11_joined_117 : decode cX11_joined 117 = .ok (.aload_n 0, 1) := dR0 (k := 0) (i := 117) bn_cX11_joined_0 dop_42 (by decide +kernel)
theorem dX11_joined_118 : decode cX11_joined 118 = .ok (.getfield 9, 3) := dR2 (f := Instr.getfield) (k := 0) (i := 118) bn_cX11_joined_0 dop_180 9 (by decide +kernel)
theorem dX11_joined_121 : decode cX11_joined 121 = .ok (.iconst 0, 1) := dR0 (k := 0) (i := 121) bn_cX11_joined_0 dop_3 (by decide +kernel)
theorem dX11_joined_122 : decode cX11_joined 122 = .ok (.iaload, 1) := dR0 (k := 0) (i := 122) bn_cX11_joined_0 dop_46 (by decide +kernel)
theorem dX11_joined_123 : decode cX11_joined 123 = .ok (.goto 4, 3) := dR2s (f := Instr.goto) (k := 0) (i := 123) bn_cX11_joined_0 dop_167 4 4 (by decide +kernel)
theorem dX11_joined_126 : decode cX11_joined 126 = .ok (.iconst (-1), 1) := dR0 (k := 0) (i := 126) bn_cX11_joined_0 dop_2 (by decide +kernel)
theorem dX11_joined_127 : decode cX11_joined 127 = .ok (.istore 5, 2) := dR1 (f := Instr.istore) (k := 0) (i := 127) bn_cX11_joined_0 dop_54 5 (by decide +kernel)
theorem bn_cX11_joined_128 : BN cX11_joined 128 0x2b40c1603005504100adce61315834029d0305814015b0b85606 := by
  unfold BN; decide +kernel
theorem dX11_joined_129 : decode cX11_joined 129 = .ok (.aload_n 0, 1) := dR0 (k := 128) (i := 1) bn_cX11_joined_128 dop_42 (by decide +kernel)
theorem dX11_joined_130 : decode cX11_joined 130 = .ok (.aload_n 3, 1) := dR0 (k := 128) (i := 2) bn_cX11_joined_128 dop_45 (by decide +kernel)
theorem dX11_joined_131 : decode cX11_joined 131 = .ok (.putfield 9, 3) := dR2 (f := Instr.putfield) (k := 128) (i := 3) bn_cX11_joined_128 dop_181 9 (by decide +kernel)
theorem dX11_joined_134 : decode cX11_joined 134 = .ok (.iload 5, 2) := dR1 (f := Instr.iload) (k := 128) (i := 6) bn_cX11_joined_128 dop_21 5 (by decide +kernel)
theorem dX11_joined_136 : decode cX11_joined 136 = .ok (.ifCond .ge 12, 3) := dR2s (f := Instr.ifCond .ge) (k := 128) (i := 8) bn_cX11_joined_128 dop_156 12 12 (by decide +kernel)
theorem dX11_joined_139 : decode cX11_joined 139 = .ok (.aload_n 0, 1) := dR0 (k := 128) (i := 11) bn_cX11_joined_128 dop_42 (by decide +kernel)
theorem dX11_joined_140 : decode cX11_joined 140 = .ok (.ldc 114, 2) := dR1 (f := Instr.ldc) (k := 128) (i := 12) bn_cX11_joined_128 dop_18 114 (by decide +kernel)
theorem dX11_joined_142 : decode cX11_joined 142 = .ok (.invokevirtual 64, 3) := dR2 (f := Instr.invokevirtual) (k := 128) (i := 14) bn_cX11_joined_128 dop_182 64 (by decide +kernel)
theorem dX11_joined_145 : decode cX11_joined 145 = .ok (.goto 5, 3) := dR2s (f := Instr.goto) (k := 128) (i := 17) bn_cX11_joined_128 dop_167 5 5 (by decide +kernel)
theorem dX11_joined_148 : decode cX11_joined 148 = .ok (.iload 5, 2) := dR1 (f := Instr.iload) (k := 128) (i := 20) bn_cX11_joined_128 dop_21 5 (by decide +kernel)
theorem dX11_joined_150 : decode cX11_joined 150 = .ok (.ireturn, 1) := dR0 (k := 128) (i := 22) bn_cX11_joined_128 dop_172 (by decide +kernel)
set_option maxHeartbeats 4000000 in
set_option maxRecDepth 100000 in
theorem c_X11_joinedG (l : Launch) (D : va_G) (cI : ClassId) (aK aV : Nat → Nat) (k k0 k1 k2 k4 k5 k6 k7 k8 ka kb kl ko : Nat) (sz : Nat) (c3 : Int32) (c9 : Int32) (cc : Int32) (cd : Int32) (ce : Int32) (cf : Int32) (cg : Int32) (ch : Int32) (ci : Int32) (cj : Int32) (ck : Int32) (cm : Int32) (cn : Int32) (c0 : Nat → Int32) (c2 : Nat → Int32) (c4 : Nat → Int32) (a0 : Int32) (a1 : Int32) (pre0 : SIX c0 (-1)) : Met l yX11_joined (gW yX11_joined cX11_joined 6 (some .int)) ({ frames := 6, cells := 0, slots := 0, locals := 132 } : Room) (kPreX D cI aK aV [.ref k, .int a0, .int a1] [(k, .inr (11, [.ref k0, .ref k1, .ref k2, .int c3, .ref k4, .ref k5, .ref k6, .ref k7, .ref k8, .int c9, .ref ka, .ref kb, .int cc, .int cd, .int ce, .int cf, .int cg, .int ch, .int ci, .int cj, .int ck, .ref kl, .int cm, .int cn, .ref ko])), (k0, .inl (cI, 1201, .inl c0)), (k2, .inl (cI, 1201, .inl c2)), (k4, .inl (cI, 6, .inl c4))] sz) (va_Qi (fun (r : Int32) (u : (Nat → Int32) × (Nat → Int32)) => r = joinR c0 a0 a1) (fun u t => kWd D cI (va_A [(k, .inr (11, [.ref k0, .ref k1, .ref k2, .int c3, .ref k4, .ref k5, .ref k6, .ref k7, .ref k8, .int c9, .ref ka, .ref kb, .int cc, .int cd, .int ce, .int cf, .int cg, .int ch, .int ci, .int cj, .int ck, .ref kl, .int cm, .int cn, .ref ko])), (k0, .inl (cI, 1201, .inl c0)), (k2, .inl (cI, 1201, .inl c2)), (k4, .inl (cI, 6, .inl c4))] sz) [(k, .inr (11, [.ref k0, .ref k1, .ref k2, .int c3, .ref k4, .ref k5, .ref k6, .ref k7, .ref k8, .int c9, .ref ka, .ref kb, .int cc, .int cd, .int ce, .int cf, .int cg, .int ch, .int ci, .int cj, .int ck, .ref kl, .int cm, .int cn, .ref ko])), (k0, .inl (cI, 1201, .inl c0)), (k2, .inl (cI, 1201, .inl u.1)), (k4, .inl (cI, 6, .inl u.2))] t) (va_A [(k, .inr (11, [.ref k0, .ref k1, .ref k2, .int c3, .ref k4, .ref k5, .ref k6, .ref k7, .ref k8, .int c9, .ref ka, .ref kb, .int cc, .int cd, .int ce, .int cf, .int cg, .int ch, .int ci, .int cj, .int ck, .ref kl, .int cm, .int cn, .ref ko])), (k0, .inl (cI, 1201, .inl c0)), (k2, .inl (cI, 1201, .inl c2)), (k4, .inl (cI, 6, .inl c4))] sz)) 0 0 (va_A [(k, .inr (11, [.ref k0, .ref k1, .ref k2, .int c3, .ref k4, .ref k5, .ref k6, .ref k7, .ref k8, .int c9, .ref ka, .ref kb, .int cc, .int cd, .int ce, .int cf, .int cg, .int ch, .int ci, .int cj, .int ck, .ref kl, .int cm, .int cn, .ref ko])), (k0, .inl (cI, 1201, .inl c0)), (k2, .inl (cI, 1201, .inl c2)), (k4, .inl (cI, 6, .inl c4))] sz) := by
  refine kMetIX (own := RX11) (by decide +kernel) rfl (Nat.le_of_ble_eq_true rfl) ?_
  intro p e s m args below meth c hx hb hT hown hname hml A Q hK hP hD hS hA hN hXS hRet ls hl
  have hl : lv_has ls 6 [(0, .ref k), (1, .int a0), (2, .int a1)] := hl
  have lo_a0 := k_lo a0
  have hi_a0 := k_hi a0
  have lo_a1 := k_lo a1
  have hi_a1 := k_hi a1
  have lo_ci := k_lo ci
  have hi_ci := k_hi ci
  have pre0 : SIX c0 (-1) := pre0
  have nb_1 : 0 ≤ (c0 0).toInt ∧ (c0 0).toInt ≤ 2000 := SB.n0 (And.left pre0)
  have nb_2 : 0 ≤ (c0 1).toInt ∧ (c0 1).toInt ≤ 60 := SB.n1 (And.left pre0)
  have nb_3 : 0 ≤ (c0 2).toInt ∧ (c0 2).toInt ≤ 4 := SB.n2 (And.left pre0)
  refine lv_iload_n hx hb dX11_joined_0 rfl (lv_at hl 1 rfl) ?_
  refine kJi (wr := [(k, .inr (11, [.ref k0, .ref k1, .ref k2, .int c3, .ref k4, .ref k5, .ref k6, .ref k7, .ref k8, .int c9, .ref ka, .ref kb, .int cc, .int cd, .int ce, .int cf, .int cg, .int ch, .int ci, .int cj, .int ck, .ref kl, .int cm, .int cn, .ref ko])), (k0, .inl (cI, 1201, .inl c0)), (k2, .inl (cI, 1201, .inl c2)), (k4, .inl (cI, 6, .inl c4))]) (va_runS (As := [.int a0]) (rest := []) ⟨hx, hb, hml, hown, hT⟩ (c_X11_isMileG l D cI aK aV s.heap.size a0) (cwS 1 hT (gS_in mw_1251 mw_1249 mw_1250 mw_12) rfl rfl rfl (by decide +kernel) ⟨Nat.le_of_ble_eq_true rfl, Nat.le_of_ble_eq_true rfl⟩) (kStatX hK hP hD hN hXS hS hA [] rfl (by decide +kernel)) rfl rfl hl.1 rfl (lv_room (Nat.le_of_ble_eq_true rfl)) dX11_joined_1 ⟨Nat.le_of_ble_eq_true rfl, Nat.le_of_ble_eq_true rfl⟩) hP hD hS hA [] [0, 1, 2, 3] rfl rfl (by decide +kernel) (by decide +kernel) ?_
  clear hP hD hS
  intro r_4 u_6 H locs w_5 hP hD hS
  replace hP : va_P D vwCl [(k, .inr (11, [.ref k0, .ref k1, .ref k2, .int c3, .ref k4, .ref k5, .ref k6, .ref k7, .ref k8, .int c9, .ref ka, .ref kb, .int cc, .int cd, .int ce, .int cf, .int cg, .int ch, .int ci, .int cj, .int ck, .ref kl, .int cm, .int cn, .ref ko])), (k0, .inl (cI, 1201, .inl c0)), (k2, .inl (cI, 1201, .inl c2)), (k4, .inl (cI, 6, .inl c4))] H := hP
  replace hD : va_D A [(k, .inr (11, [.ref k0, .ref k1, .ref k2, .int c3, .ref k4, .ref k5, .ref k6, .ref k7, .ref k8, .int c9, .ref ka, .ref kb, .int cc, .int cd, .int ce, .int cf, .int cg, .int ch, .int ci, .int cj, .int ck, .ref kl, .int cm, .int cn, .ref ko])), (k0, .inl (cI, 1201, .inl c0)), (k2, .inl (cI, 1201, .inl c2)), (k4, .inl (cI, 6, .inl c4))] := hD
  rcases w_5 with ⟨hr_4, h_7, h_8⟩ | ⟨hr_4, h_9⟩
  · have h_7 : 0 ≤ a0.toInt := h_7
    have h_8 : a0.toInt ≤ 39 := h_8
    obtain rfl : r_4 = 1 := hr_4.trans (by decide +kernel)
    refine b_if_eq hx hb zl_1 (tgt := 19) dX11_joined_4 (by decide +kernel) (fun c_10 => by exfalso; omega) (fun c_10 => ?_)
    refine lv_iload_n hx hb dX11_joined_7 rfl (lv_at hl 2 rfl) ?_
    refine kJi (wr := [(k, .inr (11, [.ref k0, .ref k1, .ref k2, .int c3, .ref k4, .ref k5, .ref k6, .ref k7, .ref k8, .int c9, .ref ka, .ref kb, .int cc, .int cd, .int ce, .int cf, .int cg, .int ch, .int ci, .int cj, .int ck, .ref kl, .int cm, .int cn, .ref ko])), (k0, .inl (cI, 1201, .inl c0)), (k2, .inl (cI, 1201, .inl c2)), (k4, .inl (cI, 6, .inl c4))]) (va_runS (As := [.int a1]) (rest := []) ⟨hx, hb, hml, hown, hT⟩ (c_X11_isMileG l D cI aK aV H.size a1) (cwS 1 hT (gS_in mw_1251 mw_1249 mw_1250 mw_12) rfl rfl rfl (by decide +kernel) ⟨Nat.le_of_ble_eq_true rfl, Nat.le_of_ble_eq_true rfl⟩) (kStatX hK hP hD hN hXS hS hA [] rfl (by decide +kernel)) rfl rfl hl.1 rfl (lv_room (Nat.le_of_ble_eq_true rfl)) dX11_joined_8 ⟨Nat.le_of_ble_eq_true rfl, Nat.le_of_ble_eq_true rfl⟩) hP hD hS hA [] [0, 1, 2, 3] rfl rfl (by decide +kernel) (by decide +kernel) ?_
    clear hP hD hS
    intro r_11 u_13 H locs w_12 hP hD hS
    replace hP : va_P D vwCl [(k, .inr (11, [.ref k0, .ref k1, .ref k2, .int c3, .ref k4, .ref k5, .ref k6, .ref k7, .ref k8, .int c9, .ref ka, .ref kb, .int cc, .int cd, .int ce, .int cf, .int cg, .int ch, .int ci, .int cj, .int ck, .ref kl, .int cm, .int cn, .ref ko])), (k0, .inl (cI, 1201, .inl c0)), (k2, .inl (cI, 1201, .inl c2)), (k4, .inl (cI, 6, .inl c4))] H := hP
    replace hD : va_D A [(k, .inr (11, [.ref k0, .ref k1, .ref k2, .int c3, .ref k4, .ref k5, .ref k6, .ref k7, .ref k8, .int c9, .ref ka, .ref kb, .int cc, .int cd, .int ce, .int cf, .int cg, .int ch, .int ci, .int cj, .int ck, .ref kl, .int cm, .int cn, .ref ko])), (k0, .inl (cI, 1201, .inl c0)), (k2, .inl (cI, 1201, .inl c2)), (k4, .inl (cI, 6, .inl c4))] := hD
    rcases w_12 with ⟨hr_11, h_14, h_15⟩ | ⟨hr_11, h_16⟩
    · have h_14 : 0 ≤ a1.toInt := h_14
      have h_15 : a1.toInt ≤ 39 := h_15
      obtain rfl : r_11 = 1 := hr_11.trans (by decide +kernel)
      refine b_if_eq hx hb zl_1 (tgt := 19) dX11_joined_11 (by decide +kernel) (fun c_17 => by exfalso; omega) (fun c_17 => ?_)
      refine lv_iload_n hx hb dX11_joined_14 rfl (lv_at hl 1 rfl) ?_
      refine lv_iload_n hx hb dX11_joined_15 rfl (lv_at hl 2 rfl) ?_
      refine b_icmp_le hx hb rfl rfl (tgt := 26) dX11_joined_16 (by decide +kernel) (fun c_18 => ?_) (fun c_18 => ?_)
      · refine lv_aload_n hx hb dX11_joined_26 rfl (lv_at hl 0 rfl) ?_
        refine va_get (D := D) (ci := 11) (v := .ref k0) (C := RX11) (T := TX11) (N := 25) hx hb hT giX11 hown hK hP 0 rfl rfl 0 (by decide +kernel) (hT (Cond.fieldLink RX11 9 "DesertWireModel" "s" "[I") mw_1156) (fun _ h9 => h9) rfl dX11_joined_27 ?_
        refine lv_astore_n (lv' := [(3, .ref k0), (0, .ref k), (1, .int a0), (2, .int a1)]) hx hb dX11_joined_30 rfl hl (by decide +kernel) rfl ?_
        clear hl
        intro ls hl
        refine lv_aload_n hx hb dX11_joined_31 rfl (lv_at hl 0 rfl) ?_
        refine lv_aload_n hx hb dX11_joined_32 rfl (lv_at hl 1 rfl) ?_
        refine va_get (D := D) (ci := 11) (v := .ref k2) (C := RX11) (T := TX11) (N := 25) hx hb hT giX11 hown hK hP 0 rfl rfl 2 (by decide +kernel) (hT (Cond.fieldLink RX11 16 "DesertWireModel" "trial" "[I") mw_1158) (fun _ h9 => h9) rfl dX11_joined_33 ?_
        refine kJv (wr := [(k, .inr (11, [.ref k0, .ref k1, .ref k2, .int c3, .ref k4, .ref k5, .ref k6, .ref k7, .ref k8, .int c9, .ref ka, .ref kb, .int cc, .int cd, .int ce, .int cf, .int cg, .int ch, .int ci, .int cj, .int ck, .ref kl, .int cm, .int cn, .ref ko])), (k4, .inl (cI, 6, .inl c4))]) (va_runS (As := [.ref k0, .ref k2]) (rest := []) ⟨hx, hb, hml, hown, hT⟩ (c_X11_copyG l D cI aK aV k0 k2 H.size c0 c2) (cwS 2 hT (gS_in mw_1558 mw_1556 mw_1557 mw_12) rfl rfl rfl (by decide +kernel) ⟨Nat.le_of_ble_eq_true rfl, Nat.le_of_ble_eq_true rfl⟩) (kStatX hK hP hD hN hXS hS hA [1, 2] rfl (by decide +kernel)) rfl rfl hl.1 rfl (lv_room (Nat.le_of_ble_eq_true rfl)) dX11_joined_36 ⟨Nat.le_of_ble_eq_true rfl, Nat.le_of_ble_eq_true rfl⟩) hP hD hS hA [1, 2] [0, 3] rfl rfl (by decide +kernel) (by decide +kernel) ?_
        clear hP hD hS
        intro ser_21 H locs w_20 hP hD hS
        replace hP : va_P D vwCl [(k, .inr (11, [.ref k0, .ref k1, .ref k2, .int c3, .ref k4, .ref k5, .ref k6, .ref k7, .ref k8, .int c9, .ref ka, .ref kb, .int cc, .int cd, .int ce, .int cf, .int cg, .int ch, .int ci, .int cj, .int ck, .ref kl, .int cm, .int cn, .ref ko])), (k4, .inl (cI, 6, .inl c4)), (k0, .inl (cI, 1201, .inl c0)), (k2, .inl (cI, 1201, .inl ser_21))] H := hP
        replace hD : va_D A [(k, .inr (11, [.ref k0, .ref k1, .ref k2, .int c3, .ref k4, .ref k5, .ref k6, .ref k7, .ref k8, .int c9, .ref ka, .ref kb, .int cc, .int cd, .int ce, .int cf, .int cg, .int ch, .int ci, .int cj, .int ck, .ref kl, .int cm, .int cn, .ref ko])), (k4, .inl (cI, 6, .inl c4)), (k0, .inl (cI, 1201, .inl c0)), (k2, .inl (cI, 1201, .inl ser_21))] := hD
        have h_22 := w_20
        have h_22 : ser_21 = c0 := h_22
        have hS_23 : SIX ser_21 (-1) := by rw [h_22]; exact pre0
        have n_24 : (ser_21 0).toInt = (c0 0).toInt := by rw [h_22]
        have n_25 : (ser_21 1).toInt = (c0 1).toInt := by rw [h_22]
        have n_26 : (ser_21 2).toInt = (c0 2).toInt := by rw [h_22]
        refine lv_aload_n hx hb dX11_joined_39 rfl (lv_at hl 1 rfl) ?_
        refine lv_aload_n hx hb dX11_joined_40 rfl (lv_at hl 1 rfl) ?_
        refine va_get (D := D) (ci := 11) (v := .ref k2) (C := RX11) (T := TX11) (N := 25) hx hb hT giX11 hown hK hP 0 rfl rfl 2 (by decide +kernel) (hT (Cond.fieldLink RX11 16 "DesertWireModel" "trial" "[I") mw_1158) (fun _ h9 => h9) rfl dX11_joined_41 ?_
        refine va_put (D := D) (ci := 11) (v := .ref k2) (ty := .array .int) (C := RX11) (T := TX11) (N := 25) hx hb hT giX11 tyX11 tyX11_ok nmX11 hown hK hP hD hS 0 rfl rfl 0 (by decide +kernel) (hT (Cond.fieldLink RX11 9 "DesertWireModel" "s" "[I") mw_1156) (fun _ h9 => h9) rfl (by decide +kernel) rfl rfl (Nat.le_of_ble_eq_true rfl) dX11_joined_44 ?_
        clear hP hD hS
        intro H locs hP hD hS
        replace hP : va_P D vwCl [(k, .inr (11, [.ref k2, .ref k1, .ref k2, .int c3, .ref k4, .ref k5, .ref k6, .ref k7, .ref k8, .int c9, .ref ka, .ref kb, .int cc, .int cd, .int ce, .int cf, .int cg, .int ch, .int ci, .int cj, .int ck, .ref kl, .int cm, .int cn, .ref ko])), (k4, .inl (cI, 6, .inl c4)), (k0, .inl (cI, 1201, .inl c0)), (k2, .inl (cI, 1201, .inl ser_21))] H := hP
        replace hD : va_D A [(k, .inr (11, [.ref k2, .ref k1, .ref k2, .int c3, .ref k4, .ref k5, .ref k6, .ref k7, .ref k8, .int c9, .ref ka, .ref kb, .int cc, .int cd, .int ce, .int cf, .int cg, .int ch, .int ci, .int cj, .int ck, .ref kl, .int cm, .int cn, .ref ko])), (k4, .inl (cI, 6, .inl c4)), (k0, .inl (cI, 1201, .inl c0)), (k2, .inl (cI, 1201, .inl ser_21))] := hD
        refine lv_aload_n hx hb dX11_joined_47 rfl (lv_at hl 1 rfl) ?_
        refine va_get (D := D) (ci := 11) (v := .ref k2) (C := RX11) (T := TX11) (N := 25) hx hb hT giX11 hown hK hP 0 rfl rfl 0 (by decide +kernel) (hT (Cond.fieldLink RX11 9 "DesertWireModel" "s" "[I") mw_1156) (fun _ h9 => h9) rfl dX11_joined_48 ?_
        refine lv_iconst (v := 0) hx hb dX11_joined_51 (by decide +kernel) ?_
        refine k_iald (v := (ser_21 0)) hx hb hK hP 3 0 rfl rfl (k_inl (by decide +kernel)) rfl dX11_joined_52 ?_
        refine lv_topi (fun v_27 ev_27 => ?_)
        have lo_v_27 := k_lo v_27
        have hi_v_27 := k_hi v_27
        have tv_27 : v_27.toInt = (ser_21 0).toInt := by rw [ev_27]
        have b_28 : 0 ≤ v_27.toInt ∧ v_27.toInt ≤ 2000 := by first | (rw [tv_27]; exact SB.n0 (And.left hS_23)) | exact SB.n0 (And.left hS_23) | omega
        refine lv_sipush (v := 200) hx hb dX11_joined_53 (by decide +kernel) ?_
        refine lv_iadd hx hb dX11_joined_56 ?_
        refine lv_topi (fun v_29 ev_29 => ?_)
        have tv_29 : v_29.toInt = v_27.toInt + 200 := by rw [ev_29]; exact k_addv rfl zl_200 (by omega) (by omega)
        refine lv_sipush (v := 2000) hx hb dX11_joined_57 (by decide +kernel) ?_
        refine b_icmp_le hx hb rfl zl_2000 (tgt := 69) dX11_joined_60 (by decide +kernel) (fun c_30 => ?_) (fun c_30 => ?_)
        · refine lv_aload_n hx hb dX11_joined_69 rfl (lv_at hl 1 rfl) ?_
          refine va_get (D := D) (ci := 11) (v := .ref k2) (C := RX11) (T := TX11) (N := 25) hx hb hT giX11 hown hK hP 0 rfl rfl 0 (by decide +kernel) (hT (Cond.fieldLink RX11 9 "DesertWireModel" "s" "[I") mw_1156) (fun _ h9 => h9) rfl dX11_joined_70 ?_
          refine lv_iconst (v := 0) hx hb dX11_joined_73 (by decide +kernel) ?_
          refine k_iald (v := (ser_21 0)) hx hb hK hP 3 0 rfl rfl (k_inl (by decide +kernel)) rfl dX11_joined_74 ?_
          refine lv_topi (fun v_31 ev_31 => ?_)
          have lo_v_31 := k_lo v_31
          have hi_v_31 := k_hi v_31
          have tv_31 : v_31.toInt = (ser_21 0).toInt := by rw [ev_31]
          have b_32 : 0 ≤ v_31.toInt ∧ v_31.toInt ≤ 2000 := by first | (rw [tv_31]; exact SB.n0 (And.left hS_23)) | exact SB.n0 (And.left hS_23) | omega
          refine lv_sipush (v := 200) hx hb dX11_joined_75 (by decide +kernel) ?_
          refine lv_iadd hx hb dX11_joined_78 ?_
          refine lv_topi (fun v_33 ev_33 => ?_)
          have tv_33 : v_33.toInt = v_31.toInt + 200 := by rw [ev_33]; exact k_addv rfl zl_200 (by omega) (by omega)
          refine lv_istore (lv' := [(4, .int v_33), (3, .ref k0), (0, .ref k), (1, .int a0), (2, .int a1)]) hx hb dX11_joined_79 hl (by decide +kernel) rfl ?_
          clear hl
          intro ls hl
          have hloop_81 : ∀ (fu_ : Nat) (g81_k2 : Nat → Int32), SIX g81_k2 (-1) → (c0 0).toInt ≤ (g81_k2 0).toInt → (g81_k2 0).toInt ≤ v_33.toInt → jnF g81_k2 a0.toInt a1.toInt (v_33.toInt - (g81_k2 0).toInt).toNat = jnF c0 a0.toInt a1.toInt (v_33.toInt - (c0 0).toInt).toNat → (2000 - (g81_k2 0).toInt).toNat < fu_ → ∀ (ls : Array Slot) (H : Heap) (locs : List Loc), lv_has ls 6 [(4, .int v_33), (3, .ref k0), (0, .ref k), (1, .int a0), (2, .int a1)] → va_P D vwCl [(k, .inr (11, [.ref k2, .ref k1, .ref k2, .int c3, .ref k4, .ref k5, .ref k6, .ref k7, .ref k8, .int c9, .ref ka, .ref kb, .int cc, .int cd, .int ce, .int cf, .int cg, .int ch, .int ci, .int cj, .int ck, .ref kl, .int cm, .int cn, .ref ko])), (k4, .inl (cI, 6, .inl c4)), (k0, .inl (cI, 1201, .inl c0)), (k2, .inl (cI, 1201, .inl g81_k2))] H → va_D A [(k, .inr (11, [.ref k2, .ref k1, .ref k2, .int c3, .ref k4, .ref k5, .ref k6, .ref k7, .ref k8, .int c9, .ref ka, .ref kb, .int cc, .int cd, .int ce, .int cf, .int cg, .int ch, .int ci, .int cj, .int ck, .ref kl, .int cm, .int cn, .ref ko])), (k4, .inl (cI, 6, .inl c4)), (k0, .inl (cI, 1201, .inl c0)), (k2, .inl (cI, 1201, .inl g81_k2))] → va_S A s.heap H locs → W p l e ({ frames := 6, cells := 0, slots := 0, locals := 132 } : Room) s m args below meth c H locs 0 0 Q (F0 m 81 ls []) := by
            intro fu_; induction fu_ with
            | zero => intro g81_k2 i81_0 i81_1 i81_2 i81_3 hm; exact absurd hm (by omega)
            | succ fu_ ih81 =>
                intro g81_k2 i81_0 i81_1 i81_2 i81_3 hm ls H locs hl hP hD hS
                have i81_0 : SIX g81_k2 (-1) := i81_0
                refine lv_aload_n hx hb dX11_joined_81 rfl (lv_at hl 2 rfl) ?_
                refine va_get (D := D) (ci := 11) (v := .ref k2) (C := RX11) (T := TX11) (N := 25) hx hb hT giX11 hown hK hP 0 rfl rfl 0 (by decide +kernel) (hT (Cond.fieldLink RX11 9 "DesertWireModel" "s" "[I") mw_1156) (fun _ h9 => h9) rfl dX11_joined_82 ?_
                refine lv_iconst (v := 0) hx hb dX11_joined_85 (by decide +kernel) ?_
                refine k_iald (v := (g81_k2 0)) hx hb hK hP 3 0 rfl rfl (k_inl (by decide +kernel)) rfl dX11_joined_86 ?_
                refine lv_topi (fun v_34 ev_34 => ?_)
                have lo_v_34 := k_lo v_34
                have hi_v_34 := k_hi v_34
                have tv_34 : v_34.toInt = (g81_k2 0).toInt := by rw [ev_34]
                have b_35 : 0 ≤ v_34.toInt ∧ v_34.toInt ≤ 2000 := by first | (rw [tv_34]; exact SB.n0 (And.left i81_0)) | exact SB.n0 (And.left i81_0) | omega
                refine lv_iload hx hb dX11_joined_87 (lv_at hl 0 rfl) ?_
                refine b_icmp_ge hx hb rfl rfl (tgt := 108) dX11_joined_89 (by decide +kernel) (fun c_36 => ?_) (fun c_36 => ?_)
                · refine lv_aload_n hx hb dX11_joined_108 rfl (lv_at hl 2 rfl) ?_
                  refine lv_iload_n hx hb dX11_joined_109 rfl (lv_at hl 3 rfl) ?_
                  refine lv_iload_n hx hb dX11_joined_110 rfl (lv_at hl 4 rfl) ?_
                  refine kJi (wr := [(k4, .inl (cI, 6, .inl c4)), (k0, .inl (cI, 1201, .inl c0))]) (va_runV (As := [.int a0, .int a1]) (rest := []) ⟨hx, hb, hml, hown, hT⟩ (c_X11_areWiredG l D cI aK aV k k2 k1 k2 k4 k5 k6 k7 k8 ka kb kl ko H.size c3 c9 cc cd ce cf cg ch ci cj ck cm cn g81_k2 a0 a1 (And.left i81_0) (by first | omega | decide | assumption | rfl) (by first | omega | decide | assumption | rfl) (by first | omega | decide | assumption | rfl) (by first | omega | decide | assumption | rfl)) (cwV 2 hT (gV_in mw_1570 mw_1567 mw_1569 mw_p6_5 mw_12) rfl rfl rfl (by decide +kernel) ⟨Nat.le_of_ble_eq_true rfl, Nat.le_of_ble_eq_true rfl⟩) (kRecvX (q0 := 0) (ci := 11) hK hP hD hN hXS hS hA rfl rfl [0, 3] rfl (by decide +kernel)) rfl rfl hl.1 rfl (lv_room (Nat.le_of_ble_eq_true rfl)) dX11_joined_111 ⟨Nat.le_of_ble_eq_true rfl, Nat.le_of_ble_eq_true rfl⟩) hP hD hS hA [0, 3] [1, 2] rfl rfl (by decide +kernel) (by decide +kernel) ?_
                  clear hP hD hS
                  intro r_37 u_39 H locs w_38 hP hD hS
                  replace hP : va_P D vwCl [(k4, .inl (cI, 6, .inl c4)), (k0, .inl (cI, 1201, .inl c0)), (k, .inr (11, [.ref k2, .ref k1, .ref k2, .int c3, .ref k4, .ref k5, .ref k6, .ref k7, .ref k8, .int c9, .ref ka, .ref kb, .int cc, .int cd, .int ce, .int cf, .int cg, .int ch, .int ci, .int cj, .int ck, .ref kl, .int cm, .int cn, .ref ko])), (k2, .inl (cI, 1201, .inl g81_k2))] H := hP
                  replace hD : va_D A [(k4, .inl (cI, 6, .inl c4)), (k0, .inl (cI, 1201, .inl c0)), (k, .inr (11, [.ref k2, .ref k1, .ref k2, .int c3, .ref k4, .ref k5, .ref k6, .ref k7, .ref k8, .int c9, .ref ka, .ref kb, .int cc, .int cd, .int ce, .int cf, .int cg, .int ch, .int ci, .int cj, .int ck, .ref kl, .int cm, .int cn, .ref ko])), (k2, .inl (cI, 1201, .inl g81_k2))] := hD
                  rcases w_38 with ⟨hr_37, h_40⟩ | ⟨hr_37, h_41⟩
                  · have h_40 : awF g81_k2 a0.toInt a1.toInt = true := h_40
                    have h_40 : awF g81_k2 a0.toInt a1.toInt = true := h_40
                    obtain rfl : r_37 = 1 := hr_37.trans (by decide +kernel)
                    refine b_if_eq hx hb zl_1 (tgt := 126) dX11_joined_114 (by decide +kernel) (fun c_42 => by exfalso; omega) (fun c_42 => ?_)
                    refine lv_aload_n hx hb dX11_joined_117 rfl (lv_at hl 2 rfl) ?_
                    refine va_get (D := D) (ci := 11) (v := .ref k2) (C := RX11) (T := TX11) (N := 25) hx hb hT giX11 hown hK hP 2 rfl rfl 0 (by decide +kernel) (hT (Cond.fieldLink RX11 9 "DesertWireModel" "s" "[I") mw_1156) (fun _ h9 => h9) rfl dX11_joined_118 ?_
                    refine lv_iconst (v := 0) hx hb dX11_joined_121 (by decide +kernel) ?_
                    refine k_iald (v := (g81_k2 0)) hx hb hK hP 3 0 rfl rfl (k_inl (by decide +kernel)) rfl dX11_joined_122 ?_
                    refine lv_topi (fun v_43 ev_43 => ?_)
                    have lo_v_43 := k_lo v_43
                    have hi_v_43 := k_hi v_43
                    have tv_43 : v_43.toInt = (g81_k2 0).toInt := by rw [ev_43]
                    have b_44 : 0 ≤ v_43.toInt ∧ v_43.toInt ≤ 2000 := by first | (rw [tv_43]; exact SB.n0 (And.left i81_0)) | exact SB.n0 (And.left i81_0) | omega
                    refine lv_goto (tgt := 127) hx hb dX11_joined_123 (by decide +kernel) ?_
                    refine lv_istore (lv' := [(5, .int v_43), (4, .int v_33), (3, .ref k0), (0, .ref k), (1, .int a0), (2, .int a1)]) hx hb dX11_joined_127 hl (by decide +kernel) rfl ?_
                    clear hl
                    intro ls hl
                    refine lv_aload_n hx hb dX11_joined_129 rfl (lv_at hl 3 rfl) ?_
                    refine lv_aload_n hx hb dX11_joined_130 rfl (lv_at hl 2 rfl) ?_
                    refine va_put (D := D) (ci := 11) (v := .ref k0) (ty := .array .int) (C := RX11) (T := TX11) (N := 25) hx hb hT giX11 tyX11 tyX11_ok nmX11 hown hK hP hD hS 2 rfl rfl 0 (by decide +kernel) (hT (Cond.fieldLink RX11 9 "DesertWireModel" "s" "[I") mw_1156) (fun _ h9 => h9) rfl (by decide +kernel) rfl rfl (Nat.le_of_ble_eq_true rfl) dX11_joined_131 ?_
                    clear hP hD hS
                    intro H locs hP hD hS
                    replace hP : va_P D vwCl [(k4, .inl (cI, 6, .inl c4)), (k0, .inl (cI, 1201, .inl c0)), (k, .inr (11, [.ref k0, .ref k1, .ref k2, .int c3, .ref k4, .ref k5, .ref k6, .ref k7, .ref k8, .int c9, .ref ka, .ref kb, .int cc, .int cd, .int ce, .int cf, .int cg, .int ch, .int ci, .int cj, .int ck, .ref kl, .int cm, .int cn, .ref ko])), (k2, .inl (cI, 1201, .inl g81_k2))] H := hP
                    replace hD : va_D A [(k4, .inl (cI, 6, .inl c4)), (k0, .inl (cI, 1201, .inl c0)), (k, .inr (11, [.ref k0, .ref k1, .ref k2, .int c3, .ref k4, .ref k5, .ref k6, .ref k7, .ref k8, .int c9, .ref ka, .ref kb, .int cc, .int cd, .int ce, .int cf, .int cg, .int ch, .int ci, .int cj, .int ck, .ref kl, .int cm, .int cn, .ref ko])), (k2, .inl (cI, 1201, .inl g81_k2))] := hD
                    refine lv_iload hx hb dX11_joined_134 (lv_at hl 0 rfl) ?_
                    refine b_if_ge hx hb rfl (tgt := 148) dX11_joined_136 (by decide +kernel) (fun c_45 => ?_) (fun c_45 => by exfalso; omega)
                    refine lv_iload hx hb dX11_joined_148 (lv_at hl 0 rfl) ?_
                    exact hRet (g81_k2, c4) [2, 1, 3, 0] (by unfold joinR; rw [if_pos (by omega), show (if 2000 < (c0 0).toInt + 200 then 2000 - (c0 0).toInt else 200) = v_33.toInt - (c0 0).toInt from by split <;> omega, ← i81_3]; rw [jn_y h_40]; exact ev_43) hP hD (by decide +kernel) rfl hS rfl dX11_joined_150
                  · have h_41 : awF g81_k2 a0.toInt a1.toInt = false := h_41
                    have h_41 : awF g81_k2 a0.toInt a1.toInt = false := h_41
                    obtain rfl : r_37 = 0 := hr_37.trans (by decide +kernel)
                    refine b_if_eq hx hb zl_0 (tgt := 126) dX11_joined_114 (by decide +kernel) (fun c_46 => ?_) (fun c_46 => by exfalso; omega)
                    refine lv_iconst (v := (-1)) hx hb dX11_joined_126 (by decide +kernel) ?_
                    refine lv_istore (lv' := [(5, .int (-1)), (4, .int v_33), (3, .ref k0), (0, .ref k), (1, .int a0), (2, .int a1)]) hx hb dX11_joined_127 hl (by decide +kernel) rfl ?_
                    clear hl
                    intro ls hl
                    refine lv_aload_n hx hb dX11_joined_129 rfl (lv_at hl 3 rfl) ?_
                    refine lv_aload_n hx hb dX11_joined_130 rfl (lv_at hl 2 rfl) ?_
                    refine va_put (D := D) (ci := 11) (v := .ref k0) (ty := .array .int) (C := RX11) (T := TX11) (N := 25) hx hb hT giX11 tyX11 tyX11_ok nmX11 hown hK hP hD hS 2 rfl rfl 0 (by decide +kernel) (hT (Cond.fieldLink RX11 9 "DesertWireModel" "s" "[I") mw_1156) (fun _ h9 => h9) rfl (by decide +kernel) rfl rfl (Nat.le_of_ble_eq_true rfl) dX11_joined_131 ?_
                    clear hP hD hS
                    intro H locs hP hD hS
                    replace hP : va_P D vwCl [(k4, .inl (cI, 6, .inl c4)), (k0, .inl (cI, 1201, .inl c0)), (k, .inr (11, [.ref k0, .ref k1, .ref k2, .int c3, .ref k4, .ref k5, .ref k6, .ref k7, .ref k8, .int c9, .ref ka, .ref kb, .int cc, .int cd, .int ce, .int cf, .int cg, .int ch, .int ci, .int cj, .int ck, .ref kl, .int cm, .int cn, .ref ko])), (k2, .inl (cI, 1201, .inl g81_k2))] H := hP
                    replace hD : va_D A [(k4, .inl (cI, 6, .inl c4)), (k0, .inl (cI, 1201, .inl c0)), (k, .inr (11, [.ref k0, .ref k1, .ref k2, .int c3, .ref k4, .ref k5, .ref k6, .ref k7, .ref k8, .int c9, .ref ka, .ref kb, .int cc, .int cd, .int ce, .int cf, .int cg, .int ch, .int ci, .int cj, .int ck, .ref kl, .int cm, .int cn, .ref ko])), (k2, .inl (cI, 1201, .inl g81_k2))] := hD
                    refine lv_iload hx hb dX11_joined_134 (lv_at hl 0 rfl) ?_
                    refine b_if_ge hx hb zl_m1 (tgt := 148) dX11_joined_136 (by decide +kernel) (fun c_47 => by exfalso; omega) (fun c_47 => ?_)
                    refine lv_aload_n hx hb dX11_joined_139 rfl (lv_at hl 3 rfl) ?_
                    refine lv_ldc (v := (-1000002)) hx hb hown (hT _ mw_1392) dX11_joined_140 ?_
                    refine kJi (wr := [(k0, .inl (cI, 1201, .inl c0)), (k2, .inl (cI, 1201, .inl g81_k2))]) (va_runV (As := [.int (-1000002)]) (rest := []) ⟨hx, hb, hml, hown, hT⟩ (c_X11_findingG l D cI aK aV k k0 k1 k2 k4 k5 k6 k7 k8 ka kb kl ko H.size c3 c9 cc cd ce cf cg ch ci cj ck cm cn c4 (-1000002) (by first | omega | (simp only [zl_m1000002]; first | done | omega) | decide | assumption | rfl) (by first | omega | (simp only [zl_m1000002]; first | done | omega) | decide | assumption | rfl)) (cwV 1 hT (gV_in mw_1243 mw_1240 mw_1242 mw_p3_8 mw_12) rfl rfl rfl (by decide +kernel) ⟨Nat.le_of_ble_eq_true rfl, Nat.le_of_ble_eq_true rfl⟩) (kRecvX (q0 := 2) (ci := 11) hK hP hD hN hXS hS hA rfl rfl [2, 0] rfl (by decide +kernel)) rfl rfl hl.1 rfl (lv_room (Nat.le_of_ble_eq_true rfl)) dX11_joined_142 ⟨Nat.le_of_ble_eq_true rfl, Nat.le_of_ble_eq_true rfl⟩) hP hD hS hA [2, 0] [1, 3] rfl rfl (by decide +kernel) (by decide +kernel) ?_
                    clear hP hD hS
                    intro r_48 sc4_50 H locs w_49 hP hD hS
                    replace hP : va_P D vwCl [(k0, .inl (cI, 1201, .inl c0)), (k2, .inl (cI, 1201, .inl g81_k2)), (k, .inr (11, [.ref k0, .ref k1, .ref k2, .int c3, .ref k4, .ref k5, .ref k6, .ref k7, .ref k8, .int c9, .ref ka, .ref kb, .int cc, .int cd, .int ce, .int cf, .int cg, .int ch, .int ci, .int cj, .int ck, .ref kl, .int cm, .int cn, .ref ko])), (k4, .inl (cI, 6, .inl sc4_50))] H := hP
                    replace hD : va_D A [(k0, .inl (cI, 1201, .inl c0)), (k2, .inl (cI, 1201, .inl g81_k2)), (k, .inr (11, [.ref k0, .ref k1, .ref k2, .int c3, .ref k4, .ref k5, .ref k6, .ref k7, .ref k8, .int c9, .ref ka, .ref kb, .int cc, .int cd, .int ce, .int cf, .int cg, .int ch, .int ci, .int cj, .int ck, .ref kl, .int cm, .int cn, .ref ko])), (k4, .inl (cI, 6, .inl sc4_50))] := hD
                    have hr_48 := w_49
                    obtain rfl : r_48 = (-1000002) := hr_48.trans (by decide +kernel)
                    refine lv_goto (tgt := 150) hx hb dX11_joined_145 (by decide +kernel) ?_
                    exact hRet (g81_k2, sc4_50) [2, 0, 1, 3] (by unfold joinR; rw [if_pos (by omega), show (if 2000 < (c0 0).toInt + 200 then 2000 - (c0 0).toInt else 200) = v_33.toInt - (c0 0).toInt from by split <;> omega, ← i81_3]; exact (jn_e h_41 (by omega)).symm) hP hD (by decide +kernel) rfl hS rfl dX11_joined_150
                · refine lv_aload_n hx hb dX11_joined_92 rfl (lv_at hl 2 rfl) ?_
                  refine lv_iload_n hx hb dX11_joined_93 rfl (lv_at hl 3 rfl) ?_
                  refine lv_iload_n hx hb dX11_joined_94 rfl (lv_at hl 4 rfl) ?_
                  refine kJi (wr := [(k4, .inl (cI, 6, .inl c4)), (k0, .inl (cI, 1201, .inl c0))]) (va_runV (As := [.int a0, .int a1]) (rest := []) ⟨hx, hb, hml, hown, hT⟩ (c_X11_areWiredG l D cI aK aV k k2 k1 k2 k4 k5 k6 k7 k8 ka kb kl ko H.size c3 c9 cc cd ce cf cg ch ci cj ck cm cn g81_k2 a0 a1 (And.left i81_0) (by first | omega | decide | assumption | rfl) (by first | omega | decide | assumption | rfl) (by first | omega | decide | assumption | rfl) (by first | omega | decide | assumption | rfl)) (cwV 2 hT (gV_in mw_1570 mw_1567 mw_1569 mw_p6_5 mw_12) rfl rfl rfl (by decide +kernel) ⟨Nat.le_of_ble_eq_true rfl, Nat.le_of_ble_eq_true rfl⟩) (kRecvX (q0 := 0) (ci := 11) hK hP hD hN hXS hS hA rfl rfl [0, 3] rfl (by decide +kernel)) rfl rfl hl.1 rfl (lv_room (Nat.le_of_ble_eq_true rfl)) dX11_joined_95 ⟨Nat.le_of_ble_eq_true rfl, Nat.le_of_ble_eq_true rfl⟩) hP hD hS hA [0, 3] [1, 2] rfl rfl (by decide +kernel) (by decide +kernel) ?_
                  clear hP hD hS
                  intro r_51 u_53 H locs w_52 hP hD hS
                  replace hP : va_P D vwCl [(k4, .inl (cI, 6, .inl c4)), (k0, .inl (cI, 1201, .inl c0)), (k, .inr (11, [.ref k2, .ref k1, .ref k2, .int c3, .ref k4, .ref k5, .ref k6, .ref k7, .ref k8, .int c9, .ref ka, .ref kb, .int cc, .int cd, .int ce, .int cf, .int cg, .int ch, .int ci, .int cj, .int ck, .ref kl, .int cm, .int cn, .ref ko])), (k2, .inl (cI, 1201, .inl g81_k2))] H := hP
                  replace hD : va_D A [(k4, .inl (cI, 6, .inl c4)), (k0, .inl (cI, 1201, .inl c0)), (k, .inr (11, [.ref k2, .ref k1, .ref k2, .int c3, .ref k4, .ref k5, .ref k6, .ref k7, .ref k8, .int c9, .ref ka, .ref kb, .int cc, .int cd, .int ce, .int cf, .int cg, .int ch, .int ci, .int cj, .int ck, .ref kl, .int cm, .int cn, .ref ko])), (k2, .inl (cI, 1201, .inl g81_k2))] := hD
                  rcases w_52 with ⟨hr_51, h_54⟩ | ⟨hr_51, h_55⟩
                  · have h_54 : awF g81_k2 a0.toInt a1.toInt = true := h_54
                    have h_54 : awF g81_k2 a0.toInt a1.toInt = true := h_54
                    obtain rfl : r_51 = 1 := hr_51.trans (by decide +kernel)
                    refine b_if_ne hx hb zl_1 (tgt := 108) dX11_joined_98 (by decide +kernel) (fun c_56 => ?_) (fun c_56 => by exfalso; omega)
                    refine lv_aload_n hx hb dX11_joined_108 rfl (lv_at hl 2 rfl) ?_
                    refine lv_iload_n hx hb dX11_joined_109 rfl (lv_at hl 3 rfl) ?_
                    refine lv_iload_n hx hb dX11_joined_110 rfl (lv_at hl 4 rfl) ?_
                    refine kJi (wr := [(k4, .inl (cI, 6, .inl c4)), (k0, .inl (cI, 1201, .inl c0))]) (va_runV (As := [.int a0, .int a1]) (rest := []) ⟨hx, hb, hml, hown, hT⟩ (c_X11_areWiredG l D cI aK aV k k2 k1 k2 k4 k5 k6 k7 k8 ka kb kl ko H.size c3 c9 cc cd ce cf cg ch ci cj ck cm cn g81_k2 a0 a1 (And.left i81_0) (by first | omega | decide | assumption | rfl) (by first | omega | decide | assumption | rfl) (by first | omega | decide | assumption | rfl) (by first | omega | decide | assumption | rfl)) (cwV 2 hT (gV_in mw_1570 mw_1567 mw_1569 mw_p6_5 mw_12) rfl rfl rfl (by decide +kernel) ⟨Nat.le_of_ble_eq_true rfl, Nat.le_of_ble_eq_true rfl⟩) (kRecvX (q0 := 2) (ci := 11) hK hP hD hN hXS hS hA rfl rfl [2, 3] rfl (by decide +kernel)) rfl rfl hl.1 rfl (lv_room (Nat.le_of_ble_eq_true rfl)) dX11_joined_111 ⟨Nat.le_of_ble_eq_true rfl, Nat.le_of_ble_eq_true rfl⟩) hP hD hS hA [2, 3] [0, 1] rfl rfl (by decide +kernel) (by decide +kernel) ?_
                    clear hP hD hS
                    intro r_57 u_59 H locs w_58 hP hD hS
                    replace hP : va_P D vwCl [(k4, .inl (cI, 6, .inl c4)), (k0, .inl (cI, 1201, .inl c0)), (k, .inr (11, [.ref k2, .ref k1, .ref k2, .int c3, .ref k4, .ref k5, .ref k6, .ref k7, .ref k8, .int c9, .ref ka, .ref kb, .int cc, .int cd, .int ce, .int cf, .int cg, .int ch, .int ci, .int cj, .int ck, .ref kl, .int cm, .int cn, .ref ko])), (k2, .inl (cI, 1201, .inl g81_k2))] H := hP
                    replace hD : va_D A [(k4, .inl (cI, 6, .inl c4)), (k0, .inl (cI, 1201, .inl c0)), (k, .inr (11, [.ref k2, .ref k1, .ref k2, .int c3, .ref k4, .ref k5, .ref k6, .ref k7, .ref k8, .int c9, .ref ka, .ref kb, .int cc, .int cd, .int ce, .int cf, .int cg, .int ch, .int ci, .int cj, .int ck, .ref kl, .int cm, .int cn, .ref ko])), (k2, .inl (cI, 1201, .inl g81_k2))] := hD
                    rcases w_58 with ⟨hr_57, h_60⟩ | ⟨hr_57, h_61⟩
                    · have h_60 : awF g81_k2 a0.toInt a1.toInt = true := h_60
                      have h_60 : awF g81_k2 a0.toInt a1.toInt = true := h_60
                      obtain rfl : r_57 = 1 := hr_57.trans (by decide +kernel)
                      refine b_if_eq hx hb zl_1 (tgt := 126) dX11_joined_114 (by decide +kernel) (fun c_62 => by exfalso; omega) (fun c_62 => ?_)
                      refine lv_aload_n hx hb dX11_joined_117 rfl (lv_at hl 2 rfl) ?_
                      refine va_get (D := D) (ci := 11) (v := .ref k2) (C := RX11) (T := TX11) (N := 25) hx hb hT giX11 hown hK hP 2 rfl rfl 0 (by decide +kernel) (hT (Cond.fieldLink RX11 9 "DesertWireModel" "s" "[I") mw_1156) (fun _ h9 => h9) rfl dX11_joined_118 ?_
                      refine lv_iconst (v := 0) hx hb dX11_joined_121 (by decide +kernel) ?_
                      refine k_iald (v := (g81_k2 0)) hx hb hK hP 3 0 rfl rfl (k_inl (by decide +kernel)) rfl dX11_joined_122 ?_
                      refine lv_topi (fun v_63 ev_63 => ?_)
                      have lo_v_63 := k_lo v_63
                      have hi_v_63 := k_hi v_63
                      have tv_63 : v_63.toInt = (g81_k2 0).toInt := by rw [ev_63]
                      have b_64 : 0 ≤ v_63.toInt ∧ v_63.toInt ≤ 2000 := by first | (rw [tv_63]; exact SB.n0 (And.left i81_0)) | exact SB.n0 (And.left i81_0) | omega
                      refine lv_goto (tgt := 127) hx hb dX11_joined_123 (by decide +kernel) ?_
                      refine lv_istore (lv' := [(5, .int v_63), (4, .int v_33), (3, .ref k0), (0, .ref k), (1, .int a0), (2, .int a1)]) hx hb dX11_joined_127 hl (by decide +kernel) rfl ?_
                      clear hl
                      intro ls hl
                      refine lv_aload_n hx hb dX11_joined_129 rfl (lv_at hl 3 rfl) ?_
                      refine lv_aload_n hx hb dX11_joined_130 rfl (lv_at hl 2 rfl) ?_
                      refine va_put (D := D) (ci := 11) (v := .ref k0) (ty := .array .int) (C := RX11) (T := TX11) (N := 25) hx hb hT giX11 tyX11 tyX11_ok nmX11 hown hK hP hD hS 2 rfl rfl 0 (by decide +kernel) (hT (Cond.fieldLink RX11 9 "DesertWireModel" "s" "[I") mw_1156) (fun _ h9 => h9) rfl (by decide +kernel) rfl rfl (Nat.le_of_ble_eq_true rfl) dX11_joined_131 ?_
                      clear hP hD hS
                      intro H locs hP hD hS
                      replace hP : va_P D vwCl [(k4, .inl (cI, 6, .inl c4)), (k0, .inl (cI, 1201, .inl c0)), (k, .inr (11, [.ref k0, .ref k1, .ref k2, .int c3, .ref k4, .ref k5, .ref k6, .ref k7, .ref k8, .int c9, .ref ka, .ref kb, .int cc, .int cd, .int ce, .int cf, .int cg, .int ch, .int ci, .int cj, .int ck, .ref kl, .int cm, .int cn, .ref ko])), (k2, .inl (cI, 1201, .inl g81_k2))] H := hP
                      replace hD : va_D A [(k4, .inl (cI, 6, .inl c4)), (k0, .inl (cI, 1201, .inl c0)), (k, .inr (11, [.ref k0, .ref k1, .ref k2, .int c3, .ref k4, .ref k5, .ref k6, .ref k7, .ref k8, .int c9, .ref ka, .ref kb, .int cc, .int cd, .int ce, .int cf, .int cg, .int ch, .int ci, .int cj, .int ck, .ref kl, .int cm, .int cn, .ref ko])), (k2, .inl (cI, 1201, .inl g81_k2))] := hD
                      refine lv_iload hx hb dX11_joined_134 (lv_at hl 0 rfl) ?_
                      refine b_if_ge hx hb rfl (tgt := 148) dX11_joined_136 (by decide +kernel) (fun c_65 => ?_) (fun c_65 => by exfalso; omega)
                      refine lv_iload hx hb dX11_joined_148 (lv_at hl 0 rfl) ?_
                      exact hRet (g81_k2, c4) [2, 1, 3, 0] (by unfold joinR; rw [if_pos (by omega), show (if 2000 < (c0 0).toInt + 200 then 2000 - (c0 0).toInt else 200) = v_33.toInt - (c0 0).toInt from by split <;> omega, ← i81_3]; rw [jn_y h_60]; exact ev_63) hP hD (by decide +kernel) rfl hS rfl dX11_joined_150
                    · have h_61 : awF g81_k2 a0.toInt a1.toInt = false := h_61
                      have h_61 : awF g81_k2 a0.toInt a1.toInt = false := h_61
                      obtain rfl : r_57 = 0 := hr_57.trans (by decide +kernel)
                      refine b_if_eq hx hb zl_0 (tgt := 126) dX11_joined_114 (by decide +kernel) (fun c_66 => ?_) (fun c_66 => by exfalso; omega)
                      refine lv_iconst (v := (-1)) hx hb dX11_joined_126 (by decide +kernel) ?_
                      refine lv_istore (lv' := [(5, .int (-1)), (4, .int v_33), (3, .ref k0), (0, .ref k), (1, .int a0), (2, .int a1)]) hx hb dX11_joined_127 hl (by decide +kernel) rfl ?_
                      clear hl
                      intro ls hl
                      refine lv_aload_n hx hb dX11_joined_129 rfl (lv_at hl 3 rfl) ?_
                      refine lv_aload_n hx hb dX11_joined_130 rfl (lv_at hl 2 rfl) ?_
                      refine va_put (D := D) (ci := 11) (v := .ref k0) (ty := .array .int) (C := RX11) (T := TX11) (N := 25) hx hb hT giX11 tyX11 tyX11_ok nmX11 hown hK hP hD hS 2 rfl rfl 0 (by decide +kernel) (hT (Cond.fieldLink RX11 9 "DesertWireModel" "s" "[I") mw_1156) (fun _ h9 => h9) rfl (by decide +kernel) rfl rfl (Nat.le_of_ble_eq_true rfl) dX11_joined_131 ?_
                      clear hP hD hS
                      intro H locs hP hD hS
                      replace hP : va_P D vwCl [(k4, .inl (cI, 6, .inl c4)), (k0, .inl (cI, 1201, .inl c0)), (k, .inr (11, [.ref k0, .ref k1, .ref k2, .int c3, .ref k4, .ref k5, .ref k6, .ref k7, .ref k8, .int c9, .ref ka, .ref kb, .int cc, .int cd, .int ce, .int cf, .int cg, .int ch, .int ci, .int cj, .int ck, .ref kl, .int cm, .int cn, .ref ko])), (k2, .inl (cI, 1201, .inl g81_k2))] H := hP
                      replace hD : va_D A [(k4, .inl (cI, 6, .inl c4)), (k0, .inl (cI, 1201, .inl c0)), (k, .inr (11, [.ref k0, .ref k1, .ref k2, .int c3, .ref k4, .ref k5, .ref k6, .ref k7, .ref k8, .int c9, .ref ka, .ref kb, .int cc, .int cd, .int ce, .int cf, .int cg, .int ch, .int ci, .int cj, .int ck, .ref kl, .int cm, .int cn, .ref ko])), (k2, .inl (cI, 1201, .inl g81_k2))] := hD
                      refine lv_iload hx hb dX11_joined_134 (lv_at hl 0 rfl) ?_
                      refine b_if_ge hx hb zl_m1 (tgt := 148) dX11_joined_136 (by decide +kernel) (fun c_67 => by exfalso; omega) (fun c_67 => ?_)
                      refine lv_aload_n hx hb dX11_joined_139 rfl (lv_at hl 3 rfl) ?_
                      refine lv_ldc (v := (-1000002)) hx hb hown (hT _ mw_1392) dX11_joined_140 ?_
                      refine kJi (wr := [(k0, .inl (cI, 1201, .inl c0)), (k2, .inl (cI, 1201, .inl g81_k2))]) (va_runV (As := [.int (-1000002)]) (rest := []) ⟨hx, hb, hml, hown, hT⟩ (c_X11_findingG l D cI aK aV k k0 k1 k2 k4 k5 k6 k7 k8 ka kb kl ko H.size c3 c9 cc cd ce cf cg ch ci cj ck cm cn c4 (-1000002) (by first | omega | (simp only [zl_m1000002]; first | done | omega) | decide | assumption | rfl) (by first | omega | (simp only [zl_m1000002]; first | done | omega) | decide | assumption | rfl)) (cwV 1 hT (gV_in mw_1243 mw_1240 mw_1242 mw_p3_8 mw_12) rfl rfl rfl (by decide +kernel) ⟨Nat.le_of_ble_eq_true rfl, Nat.le_of_ble_eq_true rfl⟩) (kRecvX (q0 := 2) (ci := 11) hK hP hD hN hXS hS hA rfl rfl [2, 0] rfl (by decide +kernel)) rfl rfl hl.1 rfl (lv_room (Nat.le_of_ble_eq_true rfl)) dX11_joined_142 ⟨Nat.le_of_ble_eq_true rfl, Nat.le_of_ble_eq_true rfl⟩) hP hD hS hA [2, 0] [1, 3] rfl rfl (by decide +kernel) (by decide +kernel) ?_
                      clear hP hD hS
                      intro r_68 sc4_70 H locs w_69 hP hD hS
                      replace hP : va_P D vwCl [(k0, .inl (cI, 1201, .inl c0)), (k2, .inl (cI, 1201, .inl g81_k2)), (k, .inr (11, [.ref k0, .ref k1, .ref k2, .int c3, .ref k4, .ref k5, .ref k6, .ref k7, .ref k8, .int c9, .ref ka, .ref kb, .int cc, .int cd, .int ce, .int cf, .int cg, .int ch, .int ci, .int cj, .int ck, .ref kl, .int cm, .int cn, .ref ko])), (k4, .inl (cI, 6, .inl sc4_70))] H := hP
                      replace hD : va_D A [(k0, .inl (cI, 1201, .inl c0)), (k2, .inl (cI, 1201, .inl g81_k2)), (k, .inr (11, [.ref k0, .ref k1, .ref k2, .int c3, .ref k4, .ref k5, .ref k6, .ref k7, .ref k8, .int c9, .ref ka, .ref kb, .int cc, .int cd, .int ce, .int cf, .int cg, .int ch, .int ci, .int cj, .int ck, .ref kl, .int cm, .int cn, .ref ko])), (k4, .inl (cI, 6, .inl sc4_70))] := hD
                      have hr_68 := w_69
                      obtain rfl : r_68 = (-1000002) := hr_68.trans (by decide +kernel)
                      refine lv_goto (tgt := 150) hx hb dX11_joined_145 (by decide +kernel) ?_
                      exact hRet (g81_k2, sc4_70) [2, 0, 1, 3] (absurd (h_54.symm.trans h_61) (by decide +kernel)) hP hD (by decide +kernel) rfl hS rfl dX11_joined_150
                  · have h_55 : awF g81_k2 a0.toInt a1.toInt = false := h_55
                    have h_55 : awF g81_k2 a0.toInt a1.toInt = false := h_55
                    obtain rfl : r_51 = 0 := hr_51.trans (by decide +kernel)
                    refine b_if_ne hx hb zl_0 (tgt := 108) dX11_joined_98 (by decide +kernel) (fun c_71 => by exfalso; omega) (fun c_71 => ?_)
                    refine lv_aload_n hx hb dX11_joined_101 rfl (lv_at hl 2 rfl) ?_
                    refine kJv (wr := [(k4, .inl (cI, 6, .inl c4)), (k0, .inl (cI, 1201, .inl c0))]) (va_runV (As := []) (rest := []) ⟨hx, hb, hml, hown, hT⟩ (c_X11_oneDayG l D cI aK aV k k2 k1 k2 k4 k5 k6 k7 k8 ka kb kl ko H.size c3 c9 cc cd ce cf cg ch ci cj ck cm cn g81_k2 i81_0 (by first | omega | decide | assumption | rfl)) (cwV 0 hT (gV_in mw_1535 mw_1532 mw_1534 mw_p5_15 mw_12) rfl rfl rfl (by decide +kernel) ⟨Nat.le_of_ble_eq_true rfl, Nat.le_of_ble_eq_true rfl⟩) (kRecvX (q0 := 2) (ci := 11) hK hP hD hN hXS hS hA rfl rfl [2, 3] rfl (by decide +kernel)) rfl rfl hl.1 rfl (lv_room (Nat.le_of_ble_eq_true rfl)) dX11_joined_102 ⟨Nat.le_of_ble_eq_true rfl, Nat.le_of_ble_eq_true rfl⟩) hP hD hS hA [2, 3] [0, 1] rfl rfl (by decide +kernel) (by decide +kernel) ?_
                    clear hP hD hS
                    intro sc0_74 H locs w_73 hP hD hS
                    replace hP : va_P D vwCl [(k4, .inl (cI, 6, .inl c4)), (k0, .inl (cI, 1201, .inl c0)), (k, .inr (11, [.ref k2, .ref k1, .ref k2, .int c3, .ref k4, .ref k5, .ref k6, .ref k7, .ref k8, .int c9, .ref ka, .ref kb, .int cc, .int cd, .int ce, .int cf, .int cg, .int ch, .int ci, .int cj, .int ck, .ref kl, .int cm, .int cn, .ref ko])), (k2, .inl (cI, 1201, .inl sc0_74))] H := hP
                    replace hD : va_D A [(k4, .inl (cI, 6, .inl c4)), (k0, .inl (cI, 1201, .inl c0)), (k, .inr (11, [.ref k2, .ref k1, .ref k2, .int c3, .ref k4, .ref k5, .ref k6, .ref k7, .ref k8, .int c9, .ref ka, .ref kb, .int cc, .int cd, .int ce, .int cf, .int cg, .int ch, .int ci, .int cj, .int ck, .ref kl, .int cm, .int cn, .ref ko])), (k2, .inl (cI, 1201, .inl sc0_74))] := hD
                    obtain ⟨h_75, h_76, h_77, h_78⟩ := w_73
                    have h_75 : SIX sc0_74 (-1) := h_75
                    have h_76 : (sc0_74 0).toInt = (g81_k2 0).toInt + 1 := h_76
                    have h_77 : (sc0_74 2).toInt = (g81_k2 2).toInt := h_77
                    have h_78 : sc0_74 = dayS g81_k2 := h_78
                    refine lv_goto (tgt := 81) hx hb dX11_joined_105 (by decide +kernel) ?_
                    exact ih81 sc0_74 h_75 (by first | omega | decide | assumption | rfl) (by first | omega | decide | assumption | rfl) (by have z := i81_3; rw [jn_n h_55 (show (v_33.toInt - (g81_k2 0).toInt).toNat = (v_33.toInt - (sc0_74 0).toInt).toNat + 1 from by omega), ← h_78] at z; exact z) (by omega) ls _ _ (lv_sub hl [0, 1, 2, 3, 4] rfl) (hP.sub [2, 0, 1, 3] rfl) (hD.sub [2, 0, 1, 3] (by decide +kernel) rfl) hS
          exact hloop_81 _ ser_21 hS_23 (by first | omega | decide | assumption | rfl) (by first | omega | decide | assumption | rfl) (by rw [h_22]) (Nat.lt_succ_self _) ls _ _ (lv_sub hl [0, 1, 2, 3, 4] rfl) hP hD hS
        · refine lv_sipush (v := 2000) hx hb dX11_joined_63 (by decide +kernel) ?_
          refine lv_goto (tgt := 79) hx hb dX11_joined_66 (by decide +kernel) ?_
          refine lv_istore (lv' := [(4, .int 2000), (3, .ref k0), (0, .ref k), (1, .int a0), (2, .int a1)]) hx hb dX11_joined_79 hl (by decide +kernel) rfl ?_
          clear hl
          intro ls hl
          have hloop_81 : ∀ (fu_ : Nat) (g81_k2 : Nat → Int32), SIX g81_k2 (-1) → (c0 0).toInt ≤ (g81_k2 0).toInt → (g81_k2 0).toInt ≤ 2000 → jnF g81_k2 a0.toInt a1.toInt (2000 - (g81_k2 0).toInt).toNat = jnF c0 a0.toInt a1.toInt (2000 - (c0 0).toInt).toNat → (2000 - (g81_k2 0).toInt).toNat < fu_ → ∀ (ls : Array Slot) (H : Heap) (locs : List Loc), lv_has ls 6 [(4, .int 2000), (3, .ref k0), (0, .ref k), (1, .int a0), (2, .int a1)] → va_P D vwCl [(k, .inr (11, [.ref k2, .ref k1, .ref k2, .int c3, .ref k4, .ref k5, .ref k6, .ref k7, .ref k8, .int c9, .ref ka, .ref kb, .int cc, .int cd, .int ce, .int cf, .int cg, .int ch, .int ci, .int cj, .int ck, .ref kl, .int cm, .int cn, .ref ko])), (k4, .inl (cI, 6, .inl c4)), (k0, .inl (cI, 1201, .inl c0)), (k2, .inl (cI, 1201, .inl g81_k2))] H → va_D A [(k, .inr (11, [.ref k2, .ref k1, .ref k2, .int c3, .ref k4, .ref k5, .ref k6, .ref k7, .ref k8, .int c9, .ref ka, .ref kb, .int cc, .int cd, .int ce, .int cf, .int cg, .int ch, .int ci, .int cj, .int ck, .ref kl, .int cm, .int cn, .ref ko])), (k4, .inl (cI, 6, .inl c4)), (k0, .inl (cI, 1201, .inl c0)), (k2, .inl (cI, 1201, .inl g81_k2))] → va_S A s.heap H locs → W p l e ({ frames := 6, cells := 0, slots := 0, locals := 132 } : Room) s m args below meth c H locs 0 0 Q (F0 m 81 ls []) := by
            intro fu_; induction fu_ with
            | zero => intro g81_k2 i81_0 i81_1 i81_2 i81_3 hm; exact absurd hm (by omega)
            | succ fu_ ih81 =>
                intro g81_k2 i81_0 i81_1 i81_2 i81_3 hm ls H locs hl hP hD hS
                have i81_0 : SIX g81_k2 (-1) := i81_0
                refine lv_aload_n hx hb dX11_joined_81 rfl (lv_at hl 2 rfl) ?_
                refine va_get (D := D) (ci := 11) (v := .ref k2) (C := RX11) (T := TX11) (N := 25) hx hb hT giX11 hown hK hP 0 rfl rfl 0 (by decide +kernel) (hT (Cond.fieldLink RX11 9 "DesertWireModel" "s" "[I") mw_1156) (fun _ h9 => h9) rfl dX11_joined_82 ?_
                refine lv_iconst (v := 0) hx hb dX11_joined_85 (by decide +kernel) ?_
                refine k_iald (v := (g81_k2 0)) hx hb hK hP 3 0 rfl rfl (k_inl (by decide +kernel)) rfl dX11_joined_86 ?_
                refine lv_topi (fun v_79 ev_79 => ?_)
                have lo_v_79 := k_lo v_79
                have hi_v_79 := k_hi v_79
                have tv_79 : v_79.toInt = (g81_k2 0).toInt := by rw [ev_79]
                have b_80 : 0 ≤ v_79.toInt ∧ v_79.toInt ≤ 2000 := by first | (rw [tv_79]; exact SB.n0 (And.left i81_0)) | exact SB.n0 (And.left i81_0) | omega
                refine lv_iload hx hb dX11_joined_87 (lv_at hl 0 rfl) ?_
                refine b_icmp_ge hx hb rfl zl_2000 (tgt := 108) dX11_joined_89 (by decide +kernel) (fun c_81 => ?_) (fun c_81 => ?_)
                · refine lv_aload_n hx hb dX11_joined_108 rfl (lv_at hl 2 rfl) ?_
                  refine lv_iload_n hx hb dX11_joined_109 rfl (lv_at hl 3 rfl) ?_
                  refine lv_iload_n hx hb dX11_joined_110 rfl (lv_at hl 4 rfl) ?_
                  refine kJi (wr := [(k4, .inl (cI, 6, .inl c4)), (k0, .inl (cI, 1201, .inl c0))]) (va_runV (As := [.int a0, .int a1]) (rest := []) ⟨hx, hb, hml, hown, hT⟩ (c_X11_areWiredG l D cI aK aV k k2 k1 k2 k4 k5 k6 k7 k8 ka kb kl ko H.size c3 c9 cc cd ce cf cg ch ci cj ck cm cn g81_k2 a0 a1 (And.left i81_0) (by first | omega | decide | assumption | rfl) (by first | omega | decide | assumption | rfl) (by first | omega | decide | assumption | rfl) (by first | omega | decide | assumption | rfl)) (cwV 2 hT (gV_in mw_1570 mw_1567 mw_1569 mw_p6_5 mw_12) rfl rfl rfl (by decide +kernel) ⟨Nat.le_of_ble_eq_true rfl, Nat.le_of_ble_eq_true rfl⟩) (kRecvX (q0 := 0) (ci := 11) hK hP hD hN hXS hS hA rfl rfl [0, 3] rfl (by decide +kernel)) rfl rfl hl.1 rfl (lv_room (Nat.le_of_ble_eq_true rfl)) dX11_joined_111 ⟨Nat.le_of_ble_eq_true rfl, Nat.le_of_ble_eq_true rfl⟩) hP hD hS hA [0, 3] [1, 2] rfl rfl (by decide +kernel) (by decide +kernel) ?_
                  clear hP hD hS
                  intro r_82 u_84 H locs w_83 hP hD hS
                  replace hP : va_P D vwCl [(k4, .inl (cI, 6, .inl c4)), (k0, .inl (cI, 1201, .inl c0)), (k, .inr (11, [.ref k2, .ref k1, .ref k2, .int c3, .ref k4, .ref k5, .ref k6, .ref k7, .ref k8, .int c9, .ref ka, .ref kb, .int cc, .int cd, .int ce, .int cf, .int cg, .int ch, .int ci, .int cj, .int ck, .ref kl, .int cm, .int cn, .ref ko])), (k2, .inl (cI, 1201, .inl g81_k2))] H := hP
                  replace hD : va_D A [(k4, .inl (cI, 6, .inl c4)), (k0, .inl (cI, 1201, .inl c0)), (k, .inr (11, [.ref k2, .ref k1, .ref k2, .int c3, .ref k4, .ref k5, .ref k6, .ref k7, .ref k8, .int c9, .ref ka, .ref kb, .int cc, .int cd, .int ce, .int cf, .int cg, .int ch, .int ci, .int cj, .int ck, .ref kl, .int cm, .int cn, .ref ko])), (k2, .inl (cI, 1201, .inl g81_k2))] := hD
                  rcases w_83 with ⟨hr_82, h_85⟩ | ⟨hr_82, h_86⟩
                  · have h_85 : awF g81_k2 a0.toInt a1.toInt = true := h_85
                    have h_85 : awF g81_k2 a0.toInt a1.toInt = true := h_85
                    obtain rfl : r_82 = 1 := hr_82.trans (by decide +kernel)
                    refine b_if_eq hx hb zl_1 (tgt := 126) dX11_joined_114 (by decide +kernel) (fun c_87 => by exfalso; omega) (fun c_87 => ?_)
                    refine lv_aload_n hx hb dX11_joined_117 rfl (lv_at hl 2 rfl) ?_
                    refine va_get (D := D) (ci := 11) (v := .ref k2) (C := RX11) (T := TX11) (N := 25) hx hb hT giX11 hown hK hP 2 rfl rfl 0 (by decide +kernel) (hT (Cond.fieldLink RX11 9 "DesertWireModel" "s" "[I") mw_1156) (fun _ h9 => h9) rfl dX11_joined_118 ?_
                    refine lv_iconst (v := 0) hx hb dX11_joined_121 (by decide +kernel) ?_
                    refine k_iald (v := (g81_k2 0)) hx hb hK hP 3 0 rfl rfl (k_inl (by decide +kernel)) rfl dX11_joined_122 ?_
                    refine lv_topi (fun v_88 ev_88 => ?_)
                    have lo_v_88 := k_lo v_88
                    have hi_v_88 := k_hi v_88
                    have tv_88 : v_88.toInt = (g81_k2 0).toInt := by rw [ev_88]
                    have b_89 : 0 ≤ v_88.toInt ∧ v_88.toInt ≤ 2000 := by first | (rw [tv_88]; exact SB.n0 (And.left i81_0)) | exact SB.n0 (And.left i81_0) | omega
                    refine lv_goto (tgt := 127) hx hb dX11_joined_123 (by decide +kernel) ?_
                    refine lv_istore (lv' := [(5, .int v_88), (4, .int 2000), (3, .ref k0), (0, .ref k), (1, .int a0), (2, .int a1)]) hx hb dX11_joined_127 hl (by decide +kernel) rfl ?_
                    clear hl
                    intro ls hl
                    refine lv_aload_n hx hb dX11_joined_129 rfl (lv_at hl 3 rfl) ?_
                    refine lv_aload_n hx hb dX11_joined_130 rfl (lv_at hl 2 rfl) ?_
                    refine va_put (D := D) (ci := 11) (v := .ref k0) (ty := .array .int) (C := RX11) (T := TX11) (N := 25) hx hb hT giX11 tyX11 tyX11_ok nmX11 hown hK hP hD hS 2 rfl rfl 0 (by decide +kernel) (hT (Cond.fieldLink RX11 9 "DesertWireModel" "s" "[I") mw_1156) (fun _ h9 => h9) rfl (by decide +kernel) rfl rfl (Nat.le_of_ble_eq_true rfl) dX11_joined_131 ?_
                    clear hP hD hS
                    intro H locs hP hD hS
                    replace hP : va_P D vwCl [(k4, .inl (cI, 6, .inl c4)), (k0, .inl (cI, 1201, .inl c0)), (k, .inr (11, [.ref k0, .ref k1, .ref k2, .int c3, .ref k4, .ref k5, .ref k6, .ref k7, .ref k8, .int c9, .ref ka, .ref kb, .int cc, .int cd, .int ce, .int cf, .int cg, .int ch, .int ci, .int cj, .int ck, .ref kl, .int cm, .int cn, .ref ko])), (k2, .inl (cI, 1201, .inl g81_k2))] H := hP
                    replace hD : va_D A [(k4, .inl (cI, 6, .inl c4)), (k0, .inl (cI, 1201, .inl c0)), (k, .inr (11, [.ref k0, .ref k1, .ref k2, .int c3, .ref k4, .ref k5, .ref k6, .ref k7, .ref k8, .int c9, .ref ka, .ref kb, .int cc, .int cd, .int ce, .int cf, .int cg, .int ch, .int ci, .int cj, .int ck, .ref kl, .int cm, .int cn, .ref ko])), (k2, .inl (cI, 1201, .inl g81_k2))] := hD
                    refine lv_iload hx hb dX11_joined_134 (lv_at hl 0 rfl) ?_
                    refine b_if_ge hx hb rfl (tgt := 148) dX11_joined_136 (by decide +kernel) (fun c_90 => ?_) (fun c_90 => by exfalso; omega)
                    refine lv_iload hx hb dX11_joined_148 (lv_at hl 0 rfl) ?_
                    exact hRet (g81_k2, c4) [2, 1, 3, 0] (by unfold joinR; rw [if_pos (by omega), show (if 2000 < (c0 0).toInt + 200 then 2000 - (c0 0).toInt else 200) = 2000 - (c0 0).toInt from by split <;> omega, ← i81_3]; rw [jn_y h_85]; exact ev_88) hP hD (by decide +kernel) rfl hS rfl dX11_joined_150
                  · have h_86 : awF g81_k2 a0.toInt a1.toInt = false := h_86
                    have h_86 : awF g81_k2 a0.toInt a1.toInt = false := h_86
                    obtain rfl : r_82 = 0 := hr_82.trans (by decide +kernel)
                    refine b_if_eq hx hb zl_0 (tgt := 126) dX11_joined_114 (by decide +kernel) (fun c_91 => ?_) (fun c_91 => by exfalso; omega)
                    refine lv_iconst (v := (-1)) hx hb dX11_joined_126 (by decide +kernel) ?_
                    refine lv_istore (lv' := [(5, .int (-1)), (4, .int 2000), (3, .ref k0), (0, .ref k), (1, .int a0), (2, .int a1)]) hx hb dX11_joined_127 hl (by decide +kernel) rfl ?_
                    clear hl
                    intro ls hl
                    refine lv_aload_n hx hb dX11_joined_129 rfl (lv_at hl 3 rfl) ?_
                    refine lv_aload_n hx hb dX11_joined_130 rfl (lv_at hl 2 rfl) ?_
                    refine va_put (D := D) (ci := 11) (v := .ref k0) (ty := .array .int) (C := RX11) (T := TX11) (N := 25) hx hb hT giX11 tyX11 tyX11_ok nmX11 hown hK hP hD hS 2 rfl rfl 0 (by decide +kernel) (hT (Cond.fieldLink RX11 9 "DesertWireModel" "s" "[I") mw_1156) (fun _ h9 => h9) rfl (by decide +kernel) rfl rfl (Nat.le_of_ble_eq_true rfl) dX11_joined_131 ?_
                    clear hP hD hS
                    intro H locs hP hD hS
                    replace hP : va_P D vwCl [(k4, .inl (cI, 6, .inl c4)), (k0, .inl (cI, 1201, .inl c0)), (k, .inr (11, [.ref k0, .ref k1, .ref k2, .int c3, .ref k4, .ref k5, .ref k6, .ref k7, .ref k8, .int c9, .ref ka, .ref kb, .int cc, .int cd, .int ce, .int cf, .int cg, .int ch, .int ci, .int cj, .int ck, .ref kl, .int cm, .int cn, .ref ko])), (k2, .inl (cI, 1201, .inl g81_k2))] H := hP
                    replace hD : va_D A [(k4, .inl (cI, 6, .inl c4)), (k0, .inl (cI, 1201, .inl c0)), (k, .inr (11, [.ref k0, .ref k1, .ref k2, .int c3, .ref k4, .ref k5, .ref k6, .ref k7, .ref k8, .int c9, .ref ka, .ref kb, .int cc, .int cd, .int ce, .int cf, .int cg, .int ch, .int ci, .int cj, .int ck, .ref kl, .int cm, .int cn, .ref ko])), (k2, .inl (cI, 1201, .inl g81_k2))] := hD
                    refine lv_iload hx hb dX11_joined_134 (lv_at hl 0 rfl) ?_
                    refine b_if_ge hx hb zl_m1 (tgt := 148) dX11_joined_136 (by decide +kernel) (fun c_92 => by exfalso; omega) (fun c_92 => ?_)
                    refine lv_aload_n hx hb dX11_joined_139 rfl (lv_at hl 3 rfl) ?_
                    refine lv_ldc (v := (-1000002)) hx hb hown (hT _ mw_1392) dX11_joined_140 ?_
                    refine kJi (wr := [(k0, .inl (cI, 1201, .inl c0)), (k2, .inl (cI, 1201, .inl g81_k2))]) (va_runV (As := [.int (-1000002)]) (rest := []) ⟨hx, hb, hml, hown, hT⟩ (c_X11_findingG l D cI aK aV k k0 k1 k2 k4 k5 k6 k7 k8 ka kb kl ko H.size c3 c9 cc cd ce cf cg ch ci cj ck cm cn c4 (-1000002) (by first | omega | (simp only [zl_m1000002]; first | done | omega) | decide | assumption | rfl) (by first | omega | (simp only [zl_m1000002]; first | done | omega) | decide | assumption | rfl)) (cwV 1 hT (gV_in mw_1243 mw_1240 mw_1242 mw_p3_8 mw_12) rfl rfl rfl (by decide +kernel) ⟨Nat.le_of_ble_eq_true rfl, Nat.le_of_ble_eq_true rfl⟩) (kRecvX (q0 := 2) (ci := 11) hK hP hD hN hXS hS hA rfl rfl [2, 0] rfl (by decide +kernel)) rfl rfl hl.1 rfl (lv_room (Nat.le_of_ble_eq_true rfl)) dX11_joined_142 ⟨Nat.le_of_ble_eq_true rfl, Nat.le_of_ble_eq_true rfl⟩) hP hD hS hA [2, 0] [1, 3] rfl rfl (by decide +kernel) (by decide +kernel) ?_
                    clear hP hD hS
                    intro r_93 sc4_95 H locs w_94 hP hD hS
                    replace hP : va_P D vwCl [(k0, .inl (cI, 1201, .inl c0)), (k2, .inl (cI, 1201, .inl g81_k2)), (k, .inr (11, [.ref k0, .ref k1, .ref k2, .int c3, .ref k4, .ref k5, .ref k6, .ref k7, .ref k8, .int c9, .ref ka, .ref kb, .int cc, .int cd, .int ce, .int cf, .int cg, .int ch, .int ci, .int cj, .int ck, .ref kl, .int cm, .int cn, .ref ko])), (k4, .inl (cI, 6, .inl sc4_95))] H := hP
                    replace hD : va_D A [(k0, .inl (cI, 1201, .inl c0)), (k2, .inl (cI, 1201, .inl g81_k2)), (k, .inr (11, [.ref k0, .ref k1, .ref k2, .int c3, .ref k4, .ref k5, .ref k6, .ref k7, .ref k8, .int c9, .ref ka, .ref kb, .int cc, .int cd, .int ce, .int cf, .int cg, .int ch, .int ci, .int cj, .int ck, .ref kl, .int cm, .int cn, .ref ko])), (k4, .inl (cI, 6, .inl sc4_95))] := hD
                    have hr_93 := w_94
                    obtain rfl : r_93 = (-1000002) := hr_93.trans (by decide +kernel)
                    refine lv_goto (tgt := 150) hx hb dX11_joined_145 (by decide +kernel) ?_
                    exact hRet (g81_k2, sc4_95) [2, 0, 1, 3] (by unfold joinR; rw [if_pos (by omega), show (if 2000 < (c0 0).toInt + 200 then 2000 - (c0 0).toInt else 200) = 2000 - (c0 0).toInt from by split <;> omega, ← i81_3]; exact (jn_e h_86 (by omega)).symm) hP hD (by decide +kernel) rfl hS rfl dX11_joined_150
                · refine lv_aload_n hx hb dX11_joined_92 rfl (lv_at hl 2 rfl) ?_
                  refine lv_iload_n hx hb dX11_joined_93 rfl (lv_at hl 3 rfl) ?_
                  refine lv_iload_n hx hb dX11_joined_94 rfl (lv_at hl 4 rfl) ?_
                  refine kJi (wr := [(k4, .inl (cI, 6, .inl c4)), (k0, .inl (cI, 1201, .inl c0))]) (va_runV (As := [.int a0, .int a1]) (rest := []) ⟨hx, hb, hml, hown, hT⟩ (c_X11_areWiredG l D cI aK aV k k2 k1 k2 k4 k5 k6 k7 k8 ka kb kl ko H.size c3 c9 cc cd ce cf cg ch ci cj ck cm cn g81_k2 a0 a1 (And.left i81_0) (by first | omega | decide | assumption | rfl) (by first | omega | decide | assumption | rfl) (by first | omega | decide | assumption | rfl) (by first | omega | decide | assumption | rfl)) (cwV 2 hT (gV_in mw_1570 mw_1567 mw_1569 mw_p6_5 mw_12) rfl rfl rfl (by decide +kernel) ⟨Nat.le_of_ble_eq_true rfl, Nat.le_of_ble_eq_true rfl⟩) (kRecvX (q0 := 0) (ci := 11) hK hP hD hN hXS hS hA rfl rfl [0, 3] rfl (by decide +kernel)) rfl rfl hl.1 rfl (lv_room (Nat.le_of_ble_eq_true rfl)) dX11_joined_95 ⟨Nat.le_of_ble_eq_true rfl, Nat.le_of_ble_eq_true rfl⟩) hP hD hS hA [0, 3] [1, 2] rfl rfl (by decide +kernel) (by decide +kernel) ?_
                  clear hP hD hS
                  intro r_96 u_98 H locs w_97 hP hD hS
                  replace hP : va_P D vwCl [(k4, .inl (cI, 6, .inl c4)), (k0, .inl (cI, 1201, .inl c0)), (k, .inr (11, [.ref k2, .ref k1, .ref k2, .int c3, .ref k4, .ref k5, .ref k6, .ref k7, .ref k8, .int c9, .ref ka, .ref kb, .int cc, .int cd, .int ce, .int cf, .int cg, .int ch, .int ci, .int cj, .int ck, .ref kl, .int cm, .int cn, .ref ko])), (k2, .inl (cI, 1201, .inl g81_k2))] H := hP
                  replace hD : va_D A [(k4, .inl (cI, 6, .inl c4)), (k0, .inl (cI, 1201, .inl c0)), (k, .inr (11, [.ref k2, .ref k1, .ref k2, .int c3, .ref k4, .ref k5, .ref k6, .ref k7, .ref k8, .int c9, .ref ka, .ref kb, .int cc, .int cd, .int ce, .int cf, .int cg, .int ch, .int ci, .int cj, .int ck, .ref kl, .int cm, .int cn, .ref ko])), (k2, .inl (cI, 1201, .inl g81_k2))] := hD
                  rcases w_97 with ⟨hr_96, h_99⟩ | ⟨hr_96, h_100⟩
                  · have h_99 : awF g81_k2 a0.toInt a1.toInt = true := h_99
                    have h_99 : awF g81_k2 a0.toInt a1.toInt = true := h_99
                    obtain rfl : r_96 = 1 := hr_96.trans (by decide +kernel)
                    refine b_if_ne hx hb zl_1 (tgt := 108) dX11_joined_98 (by decide +kernel) (fun c_101 => ?_) (fun c_101 => by exfalso; omega)
                    refine lv_aload_n hx hb dX11_joined_108 rfl (lv_at hl 2 rfl) ?_
                    refine lv_iload_n hx hb dX11_joined_109 rfl (lv_at hl 3 rfl) ?_
                    refine lv_iload_n hx hb dX11_joined_110 rfl (lv_at hl 4 rfl) ?_
                    refine kJi (wr := [(k4, .inl (cI, 6, .inl c4)), (k0, .inl (cI, 1201, .inl c0))]) (va_runV (As := [.int a0, .int a1]) (rest := []) ⟨hx, hb, hml, hown, hT⟩ (c_X11_areWiredG l D cI aK aV k k2 k1 k2 k4 k5 k6 k7 k8 ka kb kl ko H.size c3 c9 cc cd ce cf cg ch ci cj ck cm cn g81_k2 a0 a1 (And.left i81_0) (by first | omega | decide | assumption | rfl) (by first | omega | decide | assumption | rfl) (by first | omega | decide | assumption | rfl) (by first | omega | decide | assumption | rfl)) (cwV 2 hT (gV_in mw_1570 mw_1567 mw_1569 mw_p6_5 mw_12) rfl rfl rfl (by decide +kernel) ⟨Nat.le_of_ble_eq_true rfl, Nat.le_of_ble_eq_true rfl⟩) (kRecvX (q0 := 2) (ci := 11) hK hP hD hN hXS hS hA rfl rfl [2, 3] rfl (by decide +kernel)) rfl rfl hl.1 rfl (lv_room (Nat.le_of_ble_eq_true rfl)) dX11_joined_111 ⟨Nat.le_of_ble_eq_true rfl, Nat.le_of_ble_eq_true rfl⟩) hP hD hS hA [2, 3] [0, 1] rfl rfl (by decide +kernel) (by decide +kernel) ?_
                    clear hP hD hS
                    intro r_102 u_104 H locs w_103 hP hD hS
                    replace hP : va_P D vwCl [(k4, .inl (cI, 6, .inl c4)), (k0, .inl (cI, 1201, .inl c0)), (k, .inr (11, [.ref k2, .ref k1, .ref k2, .int c3, .ref k4, .ref k5, .ref k6, .ref k7, .ref k8, .int c9, .ref ka, .ref kb, .int cc, .int cd, .int ce, .int cf, .int cg, .int ch, .int ci, .int cj, .int ck, .ref kl, .int cm, .int cn, .ref ko])), (k2, .inl (cI, 1201, .inl g81_k2))] H := hP
                    replace hD : va_D A [(k4, .inl (cI, 6, .inl c4)), (k0, .inl (cI, 1201, .inl c0)), (k, .inr (11, [.ref k2, .ref k1, .ref k2, .int c3, .ref k4, .ref k5, .ref k6, .ref k7, .ref k8, .int c9, .ref ka, .ref kb, .int cc, .int cd, .int ce, .int cf, .int cg, .int ch, .int ci, .int cj, .int ck, .ref kl, .int cm, .int cn, .ref ko])), (k2, .inl (cI, 1201, .inl g81_k2))] := hD
                    rcases w_103 with ⟨hr_102, h_105⟩ | ⟨hr_102, h_106⟩
                    · have h_105 : awF g81_k2 a0.toInt a1.toInt = true := h_105
                      have h_105 : awF g81_k2 a0.toInt a1.toInt = true := h_105
                      obtain rfl : r_102 = 1 := hr_102.trans (by decide +kernel)
                      refine b_if_eq hx hb zl_1 (tgt := 126) dX11_joined_114 (by decide +kernel) (fun c_107 => by exfalso; omega) (fun c_107 => ?_)
                      refine lv_aload_n hx hb dX11_joined_117 rfl (lv_at hl 2 rfl) ?_
                      refine va_get (D := D) (ci := 11) (v := .ref k2) (C := RX11) (T := TX11) (N := 25) hx hb hT giX11 hown hK hP 2 rfl rfl 0 (by decide +kernel) (hT (Cond.fieldLink RX11 9 "DesertWireModel" "s" "[I") mw_1156) (fun _ h9 => h9) rfl dX11_joined_118 ?_
                      refine lv_iconst (v := 0) hx hb dX11_joined_121 (by decide +kernel) ?_
                      refine k_iald (v := (g81_k2 0)) hx hb hK hP 3 0 rfl rfl (k_inl (by decide +kernel)) rfl dX11_joined_122 ?_
                      refine lv_topi (fun v_108 ev_108 => ?_)
                      have lo_v_108 := k_lo v_108
                      have hi_v_108 := k_hi v_108
                      have tv_108 : v_108.toInt = (g81_k2 0).toInt := by rw [ev_108]
                      have b_109 : 0 ≤ v_108.toInt ∧ v_108.toInt ≤ 2000 := by first | (rw [tv_108]; exact SB.n0 (And.left i81_0)) | exact SB.n0 (And.left i81_0) | omega
                      refine lv_goto (tgt := 127) hx hb dX11_joined_123 (by decide +kernel) ?_
                      refine lv_istore (lv' := [(5, .int v_108), (4, .int 2000), (3, .ref k0), (0, .ref k), (1, .int a0), (2, .int a1)]) hx hb dX11_joined_127 hl (by decide +kernel) rfl ?_
                      clear hl
                      intro ls hl
                      refine lv_aload_n hx hb dX11_joined_129 rfl (lv_at hl 3 rfl) ?_
                      refine lv_aload_n hx hb dX11_joined_130 rfl (lv_at hl 2 rfl) ?_
                      refine va_put (D := D) (ci := 11) (v := .ref k0) (ty := .array .int) (C := RX11) (T := TX11) (N := 25) hx hb hT giX11 tyX11 tyX11_ok nmX11 hown hK hP hD hS 2 rfl rfl 0 (by decide +kernel) (hT (Cond.fieldLink RX11 9 "DesertWireModel" "s" "[I") mw_1156) (fun _ h9 => h9) rfl (by decide +kernel) rfl rfl (Nat.le_of_ble_eq_true rfl) dX11_joined_131 ?_
                      clear hP hD hS
                      intro H locs hP hD hS
                      replace hP : va_P D vwCl [(k4, .inl (cI, 6, .inl c4)), (k0, .inl (cI, 1201, .inl c0)), (k, .inr (11, [.ref k0, .ref k1, .ref k2, .int c3, .ref k4, .ref k5, .ref k6, .ref k7, .ref k8, .int c9, .ref ka, .ref kb, .int cc, .int cd, .int ce, .int cf, .int cg, .int ch, .int ci, .int cj, .int ck, .ref kl, .int cm, .int cn, .ref ko])), (k2, .inl (cI, 1201, .inl g81_k2))] H := hP
                      replace hD : va_D A [(k4, .inl (cI, 6, .inl c4)), (k0, .inl (cI, 1201, .inl c0)), (k, .inr (11, [.ref k0, .ref k1, .ref k2, .int c3, .ref k4, .ref k5, .ref k6, .ref k7, .ref k8, .int c9, .ref ka, .ref kb, .int cc, .int cd, .int ce, .int cf, .int cg, .int ch, .int ci, .int cj, .int ck, .ref kl, .int cm, .int cn, .ref ko])), (k2, .inl (cI, 1201, .inl g81_k2))] := hD
                      refine lv_iload hx hb dX11_joined_134 (lv_at hl 0 rfl) ?_
                      refine b_if_ge hx hb rfl (tgt := 148) dX11_joined_136 (by decide +kernel) (fun c_110 => ?_) (fun c_110 => by exfalso; omega)
                      refine lv_iload hx hb dX11_joined_148 (lv_at hl 0 rfl) ?_
                      exact hRet (g81_k2, c4) [2, 1, 3, 0] (by unfold joinR; rw [if_pos (by omega), show (if 2000 < (c0 0).toInt + 200 then 2000 - (c0 0).toInt else 200) = 2000 - (c0 0).toInt from by split <;> omega, ← i81_3]; rw [jn_y h_105]; exact ev_108) hP hD (by decide +kernel) rfl hS rfl dX11_joined_150
                    · have h_106 : awF g81_k2 a0.toInt a1.toInt = false := h_106
                      have h_106 : awF g81_k2 a0.toInt a1.toInt = false := h_106
                      obtain rfl : r_102 = 0 := hr_102.trans (by decide +kernel)
                      refine b_if_eq hx hb zl_0 (tgt := 126) dX11_joined_114 (by decide +kernel) (fun c_111 => ?_) (fun c_111 => by exfalso; omega)
                      refine lv_iconst (v := (-1)) hx hb dX11_joined_126 (by decide +kernel) ?_
                      refine lv_istore (lv' := [(5, .int (-1)), (4, .int 2000), (3, .ref k0), (0, .ref k), (1, .int a0), (2, .int a1)]) hx hb dX11_joined_127 hl (by decide +kernel) rfl ?_
                      clear hl
                      intro ls hl
                      refine lv_aload_n hx hb dX11_joined_129 rfl (lv_at hl 3 rfl) ?_
                      refine lv_aload_n hx hb dX11_joined_130 rfl (lv_at hl 2 rfl) ?_
                      refine va_put (D := D) (ci := 11) (v := .ref k0) (ty := .array .int) (C := RX11) (T := TX11) (N := 25) hx hb hT giX11 tyX11 tyX11_ok nmX11 hown hK hP hD hS 2 rfl rfl 0 (by decide +kernel) (hT (Cond.fieldLink RX11 9 "DesertWireModel" "s" "[I") mw_1156) (fun _ h9 => h9) rfl (by decide +kernel) rfl rfl (Nat.le_of_ble_eq_true rfl) dX11_joined_131 ?_
                      clear hP hD hS
                      intro H locs hP hD hS
                      replace hP : va_P D vwCl [(k4, .inl (cI, 6, .inl c4)), (k0, .inl (cI, 1201, .inl c0)), (k, .inr (11, [.ref k0, .ref k1, .ref k2, .int c3, .ref k4, .ref k5, .ref k6, .ref k7, .ref k8, .int c9, .ref ka, .ref kb, .int cc, .int cd, .int ce, .int cf, .int cg, .int ch, .int ci, .int cj, .int ck, .ref kl, .int cm, .int cn, .ref ko])), (k2, .inl (cI, 1201, .inl g81_k2))] H := hP
                      replace hD : va_D A [(k4, .inl (cI, 6, .inl c4)), (k0, .inl (cI, 1201, .inl c0)), (k, .inr (11, [.ref k0, .ref k1, .ref k2, .int c3, .ref k4, .ref k5, .ref k6, .ref k7, .ref k8, .int c9, .ref ka, .ref kb, .int cc, .int cd, .int ce, .int cf, .int cg, .int ch, .int ci, .int cj, .int ck, .ref kl, .int cm, .int cn, .ref ko])), (k2, .inl (cI, 1201, .inl g81_k2))] := hD
                      refine lv_iload hx hb dX11_joined_134 (lv_at hl 0 rfl) ?_
                      refine b_if_ge hx hb zl_m1 (tgt := 148) dX11_joined_136 (by decide +kernel) (fun c_112 => by exfalso; omega) (fun c_112 => ?_)
                      refine lv_aload_n hx hb dX11_joined_139 rfl (lv_at hl 3 rfl) ?_
                      refine lv_ldc (v := (-1000002)) hx hb hown (hT _ mw_1392) dX11_joined_140 ?_
                      refine kJi (wr := [(k0, .inl (cI, 1201, .inl c0)), (k2, .inl (cI, 1201, .inl g81_k2))]) (va_runV (As := [.int (-1000002)]) (rest := []) ⟨hx, hb, hml, hown, hT⟩ (c_X11_findingG l D cI aK aV k k0 k1 k2 k4 k5 k6 k7 k8 ka kb kl ko H.size c3 c9 cc cd ce cf cg ch ci cj ck cm cn c4 (-1000002) (by first | omega | (simp only [zl_m1000002]; first | done | omega) | decide | assumption | rfl) (by first | omega | (simp only [zl_m1000002]; first | done | omega) | decide | assumption | rfl)) (cwV 1 hT (gV_in mw_1243 mw_1240 mw_1242 mw_p3_8 mw_12) rfl rfl rfl (by decide +kernel) ⟨Nat.le_of_ble_eq_true rfl, Nat.le_of_ble_eq_true rfl⟩) (kRecvX (q0 := 2) (ci := 11) hK hP hD hN hXS hS hA rfl rfl [2, 0] rfl (by decide +kernel)) rfl rfl hl.1 rfl (lv_room (Nat.le_of_ble_eq_true rfl)) dX11_joined_142 ⟨Nat.le_of_ble_eq_true rfl, Nat.le_of_ble_eq_true rfl⟩) hP hD hS hA [2, 0] [1, 3] rfl rfl (by decide +kernel) (by decide +kernel) ?_
                      clear hP hD hS
                      intro r_113 sc4_115 H locs w_114 hP hD hS
                      replace hP : va_P D vwCl [(k0, .inl (cI, 1201, .inl c0)), (k2, .inl (cI, 1201, .inl g81_k2)), (k, .inr (11, [.ref k0, .ref k1, .ref k2, .int c3, .ref k4, .ref k5, .ref k6, .ref k7, .ref k8, .int c9, .ref ka, .ref kb, .int cc, .int cd, .int ce, .int cf, .int cg, .int ch, .int ci, .int cj, .int ck, .ref kl, .int cm, .int cn, .ref ko])), (k4, .inl (cI, 6, .inl sc4_115))] H := hP
                      replace hD : va_D A [(k0, .inl (cI, 1201, .inl c0)), (k2, .inl (cI, 1201, .inl g81_k2)), (k, .inr (11, [.ref k0, .ref k1, .ref k2, .int c3, .ref k4, .ref k5, .ref k6, .ref k7, .ref k8, .int c9, .ref ka, .ref kb, .int cc, .int cd, .int ce, .int cf, .int cg, .int ch, .int ci, .int cj, .int ck, .ref kl, .int cm, .int cn, .ref ko])), (k4, .inl (cI, 6, .inl sc4_115))] := hD
                      have hr_113 := w_114
                      obtain rfl : r_113 = (-1000002) := hr_113.trans (by decide +kernel)
                      refine lv_goto (tgt := 150) hx hb dX11_joined_145 (by decide +kernel) ?_
                      exact hRet (g81_k2, sc4_115) [2, 0, 1, 3] (absurd (h_99.symm.trans h_106) (by decide +kernel)) hP hD (by decide +kernel) rfl hS rfl dX11_joined_150
                  · have h_100 : awF g81_k2 a0.toInt a1.toInt = false := h_100
                    have h_100 : awF g81_k2 a0.toInt a1.toInt = false := h_100
                    obtain rfl : r_96 = 0 := hr_96.trans (by decide +kernel)
                    refine b_if_ne hx hb zl_0 (tgt := 108) dX11_joined_98 (by decide +kernel) (fun c_116 => by exfalso; omega) (fun c_116 => ?_)
                    refine lv_aload_n hx hb dX11_joined_101 rfl (lv_at hl 2 rfl) ?_
                    refine kJv (wr := [(k4, .inl (cI, 6, .inl c4)), (k0, .inl (cI, 1201, .inl c0))]) (va_runV (As := []) (rest := []) ⟨hx, hb, hml, hown, hT⟩ (c_X11_oneDayG l D cI aK aV k k2 k1 k2 k4 k5 k6 k7 k8 ka kb kl ko H.size c3 c9 cc cd ce cf cg ch ci cj ck cm cn g81_k2 i81_0 (by first | omega | decide | assumption | rfl)) (cwV 0 hT (gV_in mw_1535 mw_1532 mw_1534 mw_p5_15 mw_12) rfl rfl rfl (by decide +kernel) ⟨Nat.le_of_ble_eq_true rfl, Nat.le_of_ble_eq_true rfl⟩) (kRecvX (q0 := 2) (ci := 11) hK hP hD hN hXS hS hA rfl rfl [2, 3] rfl (by decide +kernel)) rfl rfl hl.1 rfl (lv_room (Nat.le_of_ble_eq_true rfl)) dX11_joined_102 ⟨Nat.le_of_ble_eq_true rfl, Nat.le_of_ble_eq_true rfl⟩) hP hD hS hA [2, 3] [0, 1] rfl rfl (by decide +kernel) (by decide +kernel) ?_
                    clear hP hD hS
                    intro sc0_119 H locs w_118 hP hD hS
                    replace hP : va_P D vwCl [(k4, .inl (cI, 6, .inl c4)), (k0, .inl (cI, 1201, .inl c0)), (k, .inr (11, [.ref k2, .ref k1, .ref k2, .int c3, .ref k4, .ref k5, .ref k6, .ref k7, .ref k8, .int c9, .ref ka, .ref kb, .int cc, .int cd, .int ce, .int cf, .int cg, .int ch, .int ci, .int cj, .int ck, .ref kl, .int cm, .int cn, .ref ko])), (k2, .inl (cI, 1201, .inl sc0_119))] H := hP
                    replace hD : va_D A [(k4, .inl (cI, 6, .inl c4)), (k0, .inl (cI, 1201, .inl c0)), (k, .inr (11, [.ref k2, .ref k1, .ref k2, .int c3, .ref k4, .ref k5, .ref k6, .ref k7, .ref k8, .int c9, .ref ka, .ref kb, .int cc, .int cd, .int ce, .int cf, .int cg, .int ch, .int ci, .int cj, .int ck, .ref kl, .int cm, .int cn, .ref ko])), (k2, .inl (cI, 1201, .inl sc0_119))] := hD
                    obtain ⟨h_120, h_121, h_122, h_123⟩ := w_118
                    have h_120 : SIX sc0_119 (-1) := h_120
                    have h_121 : (sc0_119 0).toInt = (g81_k2 0).toInt + 1 := h_121
                    have h_122 : (sc0_119 2).toInt = (g81_k2 2).toInt := h_122
                    have h_123 : sc0_119 = dayS g81_k2 := h_123
                    refine lv_goto (tgt := 81) hx hb dX11_joined_105 (by decide +kernel) ?_
                    exact ih81 sc0_119 h_120 (by first | omega | decide | assumption | rfl) (by first | omega | decide | assumption | rfl) (by have z := i81_3; rw [jn_n h_100 (show (2000 - (g81_k2 0).toInt).toNat = (2000 - (sc0_119 0).toInt).toNat + 1 from by omega), ← h_123] at z; exact z) (by omega) ls _ _ (lv_sub hl [0, 1, 2, 3, 4] rfl) (hP.sub [2, 0, 1, 3] rfl) (hD.sub [2, 0, 1, 3] (by decide +kernel) rfl) hS
          exact hloop_81 _ ser_21 hS_23 (by first | omega | decide | assumption | rfl) (by first | omega | decide | assumption | rfl) (by rw [h_22]) (Nat.lt_succ_self _) ls _ _ (lv_sub hl [0, 1, 2, 3, 4] rfl) hP hD hS
      · refine lv_aload_n hx hb dX11_joined_19 rfl (lv_at hl 0 rfl) ?_
        refine lv_ldc (v := (-1000001)) hx hb hown (hT _ mw_1239) dX11_joined_20 ?_
        refine kJi (wr := [(k0, .inl (cI, 1201, .inl c0)), (k2, .inl (cI, 1201, .inl c2))]) (va_runV (As := [.int (-1000001)]) (rest := []) ⟨hx, hb, hml, hown, hT⟩ (c_X11_findingG l D cI aK aV k k0 k1 k2 k4 k5 k6 k7 k8 ka kb kl ko H.size c3 c9 cc cd ce cf cg ch ci cj ck cm cn c4 (-1000001) (by first | omega | (simp only [zl_m1000001]; first | done | omega) | decide | assumption | rfl) (by first | omega | (simp only [zl_m1000001]; first | done | omega) | decide | assumption | rfl)) (cwV 1 hT (gV_in mw_1243 mw_1240 mw_1242 mw_p3_8 mw_12) rfl rfl rfl (by decide +kernel) ⟨Nat.le_of_ble_eq_true rfl, Nat.le_of_ble_eq_true rfl⟩) (kRecvX (q0 := 0) (ci := 11) hK hP hD hN hXS hS hA rfl rfl [0, 3] rfl (by decide +kernel)) rfl rfl hl.1 rfl (lv_room (Nat.le_of_ble_eq_true rfl)) dX11_joined_22 ⟨Nat.le_of_ble_eq_true rfl, Nat.le_of_ble_eq_true rfl⟩) hP hD hS hA [0, 3] [1, 2] rfl rfl (by decide +kernel) (by decide +kernel) ?_
        clear hP hD hS
        intro r_124 sc4_126 H locs w_125 hP hD hS
        replace hP : va_P D vwCl [(k0, .inl (cI, 1201, .inl c0)), (k2, .inl (cI, 1201, .inl c2)), (k, .inr (11, [.ref k0, .ref k1, .ref k2, .int c3, .ref k4, .ref k5, .ref k6, .ref k7, .ref k8, .int c9, .ref ka, .ref kb, .int cc, .int cd, .int ce, .int cf, .int cg, .int ch, .int ci, .int cj, .int ck, .ref kl, .int cm, .int cn, .ref ko])), (k4, .inl (cI, 6, .inl sc4_126))] H := hP
        replace hD : va_D A [(k0, .inl (cI, 1201, .inl c0)), (k2, .inl (cI, 1201, .inl c2)), (k, .inr (11, [.ref k0, .ref k1, .ref k2, .int c3, .ref k4, .ref k5, .ref k6, .ref k7, .ref k8, .int c9, .ref ka, .ref kb, .int cc, .int cd, .int ce, .int cf, .int cg, .int ch, .int ci, .int cj, .int ck, .ref kl, .int cm, .int cn, .ref ko])), (k4, .inl (cI, 6, .inl sc4_126))] := hD
        have hr_124 := w_125
        obtain rfl : r_124 = (-1000001) := hr_124.trans (by decide +kernel)
        exact hRet (c2, sc4_126) [2, 0, 1, 3] (by (try dsimp only); unfold joinR; (repeat (first | rw [if_pos (by omega)] | rw [if_neg (by omega)]))) hP hD (by decide +kernel) rfl hS rfl dX11_joined_25
    · have h_16 : a1.toInt < 0 ∨ 39 < a1.toInt := h_16
      obtain rfl : r_11 = 0 := hr_11.trans (by decide +kernel)
      refine b_if_eq hx hb zl_0 (tgt := 19) dX11_joined_11 (by decide +kernel) (fun c_127 => ?_) (fun c_127 => by exfalso; omega)
      refine lv_aload_n hx hb dX11_joined_19 rfl (lv_at hl 0 rfl) ?_
      refine lv_ldc (v := (-1000001)) hx hb hown (hT _ mw_1239) dX11_joined_20 ?_
      refine kJi (wr := [(k0, .inl (cI, 1201, .inl c0)), (k2, .inl (cI, 1201, .inl c2))]) (va_runV (As := [.int (-1000001)]) (rest := []) ⟨hx, hb, hml, hown, hT⟩ (c_X11_findingG l D cI aK aV k k0 k1 k2 k4 k5 k6 k7 k8 ka kb kl ko H.size c3 c9 cc cd ce cf cg ch ci cj ck cm cn c4 (-1000001) (by first | omega | (simp only [zl_m1000001]; first | done | omega) | decide | assumption | rfl) (by first | omega | (simp only [zl_m1000001]; first | done | omega) | decide | assumption | rfl)) (cwV 1 hT (gV_in mw_1243 mw_1240 mw_1242 mw_p3_8 mw_12) rfl rfl rfl (by decide +kernel) ⟨Nat.le_of_ble_eq_true rfl, Nat.le_of_ble_eq_true rfl⟩) (kRecvX (q0 := 0) (ci := 11) hK hP hD hN hXS hS hA rfl rfl [0, 3] rfl (by decide +kernel)) rfl rfl hl.1 rfl (lv_room (Nat.le_of_ble_eq_true rfl)) dX11_joined_22 ⟨Nat.le_of_ble_eq_true rfl, Nat.le_of_ble_eq_true rfl⟩) hP hD hS hA [0, 3] [1, 2] rfl rfl (by decide +kernel) (by decide +kernel) ?_
      clear hP hD hS
      intro r_128 sc4_130 H locs w_129 hP hD hS
      replace hP : va_P D vwCl [(k0, .inl (cI, 1201, .inl c0)), (k2, .inl (cI, 1201, .inl c2)), (k, .inr (11, [.ref k0, .ref k1, .ref k2, .int c3, .ref k4, .ref k5, .ref k6, .ref k7, .ref k8, .int c9, .ref ka, .ref kb, .int cc, .int cd, .int ce, .int cf, .int cg, .int ch, .int ci, .int cj, .int ck, .ref kl, .int cm, .int cn, .ref ko])), (k4, .inl (cI, 6, .inl sc4_130))] H := hP
      replace hD : va_D A [(k0, .inl (cI, 1201, .inl c0)), (k2, .inl (cI, 1201, .inl c2)), (k, .inr (11, [.ref k0, .ref k1, .ref k2, .int c3, .ref k4, .ref k5, .ref k6, .ref k7, .ref k8, .int c9, .ref ka, .ref kb, .int cc, .int cd, .int ce, .int cf, .int cg, .int ch, .int ci, .int cj, .int ck, .ref kl, .int cm, .int cn, .ref ko])), (k4, .inl (cI, 6, .inl sc4_130))] := hD
      have hr_128 := w_129
      obtain rfl : r_128 = (-1000001) := hr_128.trans (by decide +kernel)
      exact hRet (c2, sc4_130) [2, 0, 1, 3] (by (try dsimp only); unfold joinR; (repeat (first | rw [if_pos (by omega)] | rw [if_neg (by omega)]))) hP hD (by decide +kernel) rfl hS rfl dX11_joined_25
  · have h_9 : a0.toInt < 0 ∨ 39 < a0.toInt := h_9
    obtain rfl : r_4 = 0 := hr_4.trans (by decide +kernel)
    refine b_if_eq hx hb zl_0 (tgt := 19) dX11_joined_4 (by decide +kernel) (fun c_131 => ?_) (fun c_131 => by exfalso; omega)
    refine lv_aload_n hx hb dX11_joined_19 rfl (lv_at hl 0 rfl) ?_
    refine lv_ldc (v := (-1000001)) hx hb hown (hT _ mw_1239) dX11_joined_20 ?_
    refine kJi (wr := [(k0, .inl (cI, 1201, .inl c0)), (k2, .inl (cI, 1201, .inl c2))]) (va_runV (As := [.int (-1000001)]) (rest := []) ⟨hx, hb, hml, hown, hT⟩ (c_X11_findingG l D cI aK aV k k0 k1 k2 k4 k5 k6 k7 k8 ka kb kl ko H.size c3 c9 cc cd ce cf cg ch ci cj ck cm cn c4 (-1000001) (by first | omega | (simp only [zl_m1000001]; first | done | omega) | decide | assumption | rfl) (by first | omega | (simp only [zl_m1000001]; first | done | omega) | decide | assumption | rfl)) (cwV 1 hT (gV_in mw_1243 mw_1240 mw_1242 mw_p3_8 mw_12) rfl rfl rfl (by decide +kernel) ⟨Nat.le_of_ble_eq_true rfl, Nat.le_of_ble_eq_true rfl⟩) (kRecvX (q0 := 0) (ci := 11) hK hP hD hN hXS hS hA rfl rfl [0, 3] rfl (by decide +kernel)) rfl rfl hl.1 rfl (lv_room (Nat.le_of_ble_eq_true rfl)) dX11_joined_22 ⟨Nat.le_of_ble_eq_true rfl, Nat.le_of_ble_eq_true rfl⟩) hP hD hS hA [0, 3] [1, 2] rfl rfl (by decide +kernel) (by decide +kernel) ?_
    clear hP hD hS
    intro r_132 sc4_134 H locs w_133 hP hD hS
    replace hP : va_P D vwCl [(k0, .inl (cI, 1201, .inl c0)), (k2, .inl (cI, 1201, .inl c2)), (k, .inr (11, [.ref k0, .ref k1, .ref k2, .int c3, .ref k4, .ref k5, .ref k6, .ref k7, .ref k8, .int c9, .ref ka, .ref kb, .int cc, .int cd, .int ce, .int cf, .int cg, .int ch, .int ci, .int cj, .int ck, .ref kl, .int cm, .int cn, .ref ko])), (k4, .inl (cI, 6, .inl sc4_134))] H := hP
    replace hD : va_D A [(k0, .inl (cI, 1201, .inl c0)), (k2, .inl (cI, 1201, .inl c2)), (k, .inr (11, [.ref k0, .ref k1, .ref k2, .int c3, .ref k4, .ref k5, .ref k6, .ref k7, .ref k8, .int c9, .ref ka, .ref kb, .int cc, .int cd, .int ce, .int cf, .int cg, .int ch, .int ci, .int cj, .int ck, .ref kl, .int cm, .int cn, .ref ko])), (k4, .inl (cI, 6, .inl sc4_134))] := hD
    have hr_132 := w_133
    obtain rfl : r_132 = (-1000001) := hr_132.trans (by decide +kernel)
    exact hRet (c2, sc4_134) [2, 0, 1, 3] (by (try dsimp only); unfold joinR; (repeat (first | rw [if_pos (by omega)] | rw [if_neg (by omega)]))) hP hD (by decide +kernel) rfl hS rfl dX11_joined_25
theorem bn_cX11_ran_0 : BN cX11_ran 0 0x1640c012d8c205060096a5a15940380c012d4562000ad4561800a8c5211060096a2b := by
  unfold BN; decide +kernel
theorem dX11_ran_0 : decode cX11_ran 0 = .ok (.aload_n 0, 1) := dR0 (k := 0) (i := 0) bn_cX11_ran_0 dop_42 (by decide +kernel)
theorem dX11_ran_1 : decode cX11_ran 1 = .ok (.getfield 267, 3) := dR2 (f := Instr.getfield) (k := 0) (i := 1) bn_cX11_ran_0 dop_180 267 (by decide +kernel)
theorem dX11_ran_4 : decode cX11_ran 4 = .ok (.bipush 40, 2) := dR1s (f := Instr.bipush) (k := 0) (i := 4) bn_cX11_ran_0 dop_16 40 40 (by decide +kernel)
theorem dX11_ran_6 : decode cX11_ran 6 = .ok (.if_icmp .ge 23, 3) := dR2s (f := Instr.if_icmp .ge) (k := 0) (i := 6) bn_cX11_ran_0 dop_162 23 23 (by decide +kernel)
theorem dX11_ran_9 : decode cX11_ran 9 = .ok (.aload_n 0, 1) := dR0 (k := 0) (i := 9) bn_cX11_ran_0 dop_42 (by decide +kernel)
theorem dX11_ran_10 : decode cX11_ran 10 = .ok (.getfield 31, 3) := dR2 (f := Instr.getfield) (k := 0) (i := 10) bn_cX11_ran_0 dop_180 31 (by decide +kernel)
theorem dX11_ran_13 : decode cX11_ran 13 = .ok (.aload_n 0, 1) := dR0 (k := 0) (i := 13) bn_cX11_ran_0 dop_42 (by decide +kernel)
theorem dX11_ran_14 : decode cX11_ran 14 = .ok (.getfield 267, 3) := dR2 (f := Instr.getfield) (k := 0) (i := 14) bn_cX11_ran_0 dop_180 267 (by decide +kernel)
theorem dX11_ran_17 : decode cX11_ran 17 = .ok (.iload_n 1, 1) := dR0 (k := 0) (i := 17) bn_cX11_ran_0 dop_27 (by decide +kernel)
theorem dX11_ran_18 : decode cX11_ran 18 = .ok (.iastore, 1) := dR0 (k := 0) (i := 18) bn_cX11_ran_0 dop_79 (by decide +kernel)
theorem dX11_ran_19 : decode cX11_ran 19 = .ok (.aload_n 0, 1) := dR0 (k := 0) (i := 19) bn_cX11_ran_0 dop_42 (by decide +kernel)
theorem dX11_ran_20 : decode cX11_ran 20 = .ok (.dup, 1) := dR0 (k := 0) (i := 20) bn_cX11_ran_0 dop_89 (by decide +kernel)
theorem dX11_ran_21 : decode cX11_ran 21 = .ok (.getfield 267, 3) := dR2 (f := Instr.getfield) (k := 0) (i := 21) bn_cX11_ran_0 dop_180 267 (by decide +kernel)
theorem dX11_ran_24 : decode cX11_ran 24 = .ok (.iconst 1, 1) := dR0 (k := 0) (i := 24) bn_cX11_ran_0 dop_4 (by decide +kernel)
theorem dX11_ran_25 : decode cX11_ran 25 = .ok (.iadd, 1) := dR0 (k := 0) (i := 25) bn_cX11_ran_0 dop_96 (by decide +kernel)
theorem dX11_ran_26 : decode cX11_ran 26 = .ok (.putfield 267, 3) := dR2 (f := Instr.putfield) (k := 0) (i := 26) bn_cX11_ran_0 dop_181 267 (by decide +kernel)
theorem dX11_ran_29 : decode cX11_ran 29 = .ok (.return_, 1) := dR0 (k := 0) (i := 29) bn_cX11_ran_0 dop_177 (by decide +kernel)
set_option maxHeartbeats 4000000 in
set_option maxRecDepth 100000 in
theorem c_X11_ranG (l : Launch) (D : va_G) (cI : ClassId) (aK aV : Nat → Nat) (k k0 k1 k2 k4 k5 k6 k7 k8 ka kb kl ko : Nat) (sz : Nat) (c3 : Int32) (c9 : Int32) (cc : Int32) (cd : Int32) (ce : Int32) (cf : Int32) (cg : Int32) (ch : Int32) (ci : Int32) (cj : Int32) (ck : Int32) (cm : Int32) (cn : Int32) (c8 : Nat → Int32) (a0 : Int32) (pre0 : 0 ≤ c9.toInt) (pre1 : c9.toInt ≤ 40) : Met l yX11_ran (gW yX11_ran cX11_ran 2 none) ({ frames := 0, cells := 0, slots := 0, locals := 0 } : Room) (kPreX D cI aK aV [.ref k, .int a0] [(k, .inr (11, [.ref k0, .ref k1, .ref k2, .int c3, .ref k4, .ref k5, .ref k6, .ref k7, .ref k8, .int c9, .ref ka, .ref kb, .int cc, .int cd, .int ce, .int cf, .int cg, .int ch, .int ci, .int cj, .int ck, .ref kl, .int cm, .int cn, .ref ko])), (k8, .inl (cI, 40, .inl c8))] sz) (va_Qv (fun (u : Int32 × (Nat → Int32)) => 0 ≤ u.1.toInt ∧ u.1.toInt ≤ 40) (fun u t => kWd D cI (va_A [(k, .inr (11, [.ref k0, .ref k1, .ref k2, .int c3, .ref k4, .ref k5, .ref k6, .ref k7, .ref k8, .int c9, .ref ka, .ref kb, .int cc, .int cd, .int ce, .int cf, .int cg, .int ch, .int ci, .int cj, .int ck, .ref kl, .int cm, .int cn, .ref ko])), (k8, .inl (cI, 40, .inl c8))] sz) [(k, .inr (11, [.ref k0, .ref k1, .ref k2, .int c3, .ref k4, .ref k5, .ref k6, .ref k7, .ref k8, .int u.1, .ref ka, .ref kb, .int cc, .int cd, .int ce, .int cf, .int cg, .int ch, .int ci, .int cj, .int ck, .ref kl, .int cm, .int cn, .ref ko])), (k8, .inl (cI, 40, .inl u.2))] t) (va_A [(k, .inr (11, [.ref k0, .ref k1, .ref k2, .int c3, .ref k4, .ref k5, .ref k6, .ref k7, .ref k8, .int c9, .ref ka, .ref kb, .int cc, .int cd, .int ce, .int cf, .int cg, .int ch, .int ci, .int cj, .int ck, .ref kl, .int cm, .int cn, .ref ko])), (k8, .inl (cI, 40, .inl c8))] sz)) 0 0 (va_A [(k, .inr (11, [.ref k0, .ref k1, .ref k2, .int c3, .ref k4, .ref k5, .ref k6, .ref k7, .ref k8, .int c9, .ref ka, .ref kb, .int cc, .int cd, .int ce, .int cf, .int cg, .int ch, .int ci, .int cj, .int ck, .ref kl, .int cm, .int cn, .ref ko])), (k8, .inl (cI, 40, .inl c8))] sz) := by
  refine kMetVX (own := RX11) (by decide +kernel) rfl (Nat.le_of_ble_eq_true rfl) ?_
  intro p e s m args below meth c hx hb hT hown hname hml A Q hK hP hD hS hA hN hXS hRet ls hl
  have hl : lv_has ls 2 [(0, .ref k), (1, .int a0)] := hl
  have lo_c9 := k_lo c9
  have hi_c9 := k_hi c9
  have lo_ci := k_lo ci
  have hi_ci := k_hi ci
  refine lv_aload_n hx hb dX11_ran_0 rfl (lv_at hl 0 rfl) ?_
  refine va_get (D := D) (ci := 11) (v := .int c9) (C := RX11) (T := TX11) (N := 25) hx hb hT giX11 hown hK hP 0 rfl rfl 9 (by decide +kernel) (hT (Cond.fieldLink RX11 267 "DesertWireModel" "traces" "I") mw_1165) (fun _ h9 => h9) rfl dX11_ran_1 ?_
  refine lv_bipush (v := 40) hx hb dX11_ran_4 (by decide +kernel) ?_
  refine b_icmp_ge hx hb rfl zl_40 (tgt := 29) dX11_ran_6 (by decide +kernel) (fun c_1 => ?_) (fun c_1 => ?_)
  · exact hRet (c9, c8) [0, 1] ⟨(by first | omega | decide | assumption | rfl | (dsimp only; first | omega)), (by first | omega | decide | assumption | rfl | (dsimp only; first | omega))⟩ hP hD (by decide +kernel) rfl hS dX11_ran_29
  · refine lv_aload_n hx hb dX11_ran_9 rfl (lv_at hl 0 rfl) ?_
    refine va_get (D := D) (ci := 11) (v := .ref k8) (C := RX11) (T := TX11) (N := 25) hx hb hT giX11 hown hK hP 0 rfl rfl 8 (by decide +kernel) (hT (Cond.fieldLink RX11 31 "DesertWireModel" "traced" "[I") mw_1164) (fun _ h9 => h9) rfl dX11_ran_10 ?_
    refine lv_aload_n hx hb dX11_ran_13 rfl (lv_at hl 0 rfl) ?_
    refine va_get (D := D) (ci := 11) (v := .int c9) (C := RX11) (T := TX11) (N := 25) hx hb hT giX11 hown hK hP 0 rfl rfl 9 (by decide +kernel) (hT (Cond.fieldLink RX11 267 "DesertWireModel" "traces" "I") mw_1165) (fun _ h9 => h9) rfl dX11_ran_14 ?_
    refine lv_iload_n hx hb dX11_ran_17 rfl (lv_at hl 1 rfl) ?_
    refine va_iast hx hb hK hP hD hS 1 0 rfl rfl (k_in (by omega) (by omega)) dX11_ran_18 ?_
    clear hP hD hS
    intro H locs hP hD hS
    replace hP : va_P D vwCl [(k, .inr (11, [.ref k0, .ref k1, .ref k2, .int c3, .ref k4, .ref k5, .ref k6, .ref k7, .ref k8, .int c9, .ref ka, .ref kb, .int cc, .int cd, .int ce, .int cf, .int cg, .int ch, .int ci, .int cj, .int ck, .ref kl, .int cm, .int cn, .ref ko])), (k8, .inl (cI, 40, .inl (upd c8 c9.toNatClampNeg a0)))] H := hP
    replace hD : va_D A [(k, .inr (11, [.ref k0, .ref k1, .ref k2, .int c3, .ref k4, .ref k5, .ref k6, .ref k7, .ref k8, .int c9, .ref ka, .ref kb, .int cc, .int cd, .int ce, .int cf, .int cg, .int ch, .int ci, .int cj, .int ck, .ref kl, .int cm, .int cn, .ref ko])), (k8, .inl (cI, 40, .inl (upd c8 c9.toNatClampNeg a0)))] := hD
    obtain ⟨f_2, ef_2⟩ : ∃ g : Nat → Int32, g = upd c8 c9.toNatClampNeg a0 := ⟨_, rfl⟩
    rw [← ef_2] at hP hD
    refine lv_aload_n hx hb dX11_ran_19 rfl (lv_at hl 0 rfl) ?_
    refine lv_dup hx hb dX11_ran_20 rfl ?_
    refine va_get (D := D) (ci := 11) (v := .int c9) (C := RX11) (T := TX11) (N := 25) hx hb hT giX11 hown hK hP 0 rfl rfl 9 (by decide +kernel) (hT (Cond.fieldLink RX11 267 "DesertWireModel" "traces" "I") mw_1165) (fun _ h9 => h9) rfl dX11_ran_21 ?_
    refine lv_iconst (v := 1) hx hb dX11_ran_24 (by decide +kernel) ?_
    refine lv_iadd hx hb dX11_ran_25 ?_
    refine lv_topi (fun v_3 ev_3 => ?_)
    have tv_3 : v_3.toInt = c9.toInt + 1 := by rw [ev_3]; exact k_addv rfl zl_1 (by omega) (by omega)
    refine va_put (D := D) (ci := 11) (v := .int v_3) (ty := .int) (C := RX11) (T := TX11) (N := 25) hx hb hT giX11 tyX11 tyX11_ok nmX11 hown hK hP hD hS 0 rfl rfl 9 (by decide +kernel) (hT (Cond.fieldLink RX11 267 "DesertWireModel" "traces" "I") mw_1165) (fun _ h9 => h9) rfl (by decide +kernel) rfl rfl (Nat.le_of_ble_eq_true rfl) dX11_ran_26 ?_
    clear hP hD hS
    intro H locs hP hD hS
    replace hP : va_P D vwCl [(k, .inr (11, [.ref k0, .ref k1, .ref k2, .int c3, .ref k4, .ref k5, .ref k6, .ref k7, .ref k8, .int v_3, .ref ka, .ref kb, .int cc, .int cd, .int ce, .int cf, .int cg, .int ch, .int ci, .int cj, .int ck, .ref kl, .int cm, .int cn, .ref ko])), (k8, .inl (cI, 40, .inl f_2))] H := hP
    replace hD : va_D A [(k, .inr (11, [.ref k0, .ref k1, .ref k2, .int c3, .ref k4, .ref k5, .ref k6, .ref k7, .ref k8, .int v_3, .ref ka, .ref kb, .int cc, .int cd, .int ce, .int cf, .int cg, .int ch, .int ci, .int cj, .int ck, .ref kl, .int cm, .int cn, .ref ko])), (k8, .inl (cI, 40, .inl f_2))] := hD
    exact hRet (v_3, f_2) [0, 1] ⟨(by first | omega | decide | assumption | rfl | (dsimp only; first | omega)), (by first | omega | decide | assumption | rfl | (dsimp only; first | omega))⟩ hP hD (by decide +kernel) rfl hS dX11_ran_29
theorem bn_cX11_bodyOf_0 : BN cX11_bodyOf 0 0x880802010880802010880802010880802010880802010880802017e00402010880802017c80402010880802010880802010880802010880802010880802010880802017b00402010880802017980402010880802010880802010880802010880802010880802010880802010880802017800402017680402017500402017380402011b004020100804020108808020100aacc21c3486c1611 := by
  unfold BN; decide +kernel
theorem dX11_bodyOf_0 : decode cX11_bodyOf 0 = .ok (.bipush 10, 2) := dR1s (f := Instr.bipush) (k := 0) (i := 0) bn_cX11_bodyOf_0 dop_16 10 10 (by decide +kernel)
theorem dX11_bodyOf_2 : decode cX11_bodyOf 2 = .ok (.iload_n 0, 1) := dR0 (k := 0) (i := 2) bn_cX11_bodyOf_0 dop_26 (by decide +kernel)
theorem dX11_bodyOf_3 : decode cX11_bodyOf 3 = .ok (.imul, 1) := dR0 (k := 0) (i := 3) bn_cX11_bodyOf_0 dop_104 (by decide +kernel)
theorem dX11_bodyOf_4 : decode cX11_bodyOf 4 = .ok (.iload_n 1, 1) := dR0 (k := 0) (i := 4) bn_cX11_bodyOf_0 dop_27 (by decide +kernel)
theorem dX11_bodyOf_5 : decode cX11_bodyOf 5 = .ok (.iadd, 1) := dR0 (k := 0) (i := 5) bn_cX11_bodyOf_0 dop_96 (by decide +kernel)
theorem dX11_bodyOf_6 : decode cX11_bodyOf 6 = .ok (.tableswitch 272 0 53 #[230, 233, 236, 239, 272, 272, 272, 272, 272, 272, 272, 242, 272, 245, 272, 272, 272, 272, 272, 272, 248, 272, 251, 272, 272, 272, 272, 272, 272, 272, 272, 272, 254, 257, 272, 272, 272, 272, 272, 272, 260, 272, 263, 272, 272, 272, 272, 272, 272, 272, 272, 266, 272, 269], 230) := by decide +kernel
theorem bn_cX11_bodyOf_128 : BN cX11_bodyOf 128 0x8ab452115688022ad0f8455a1608ab42a115683822ad068455a0c08ab416110700802010880802010580802010880802010880802010880802010880802010880802010880802010880802010880802010400802010880802010280802010880802010880802010880802010880802010880802010880802010100802017f8040201088080201088080201088080201088080201088080201 := by
  unfold BN; decide +kernel
theorem dX11_bodyOf_236 : decode cX11_bodyOf 236 = .ok (.bipush 10, 2) := dR1s (f := Instr.bipush) (k := 128) (i := 108) bn_cX11_bodyOf_128 dop_16 10 10 (by decide +kernel)
theorem dX11_bodyOf_238 : decode cX11_bodyOf 238 = .ok (.ireturn, 1) := dR0 (k := 128) (i := 110) bn_cX11_bodyOf_128 dop_172 (by decide +kernel)
theorem dX11_bodyOf_239 : decode cX11_bodyOf 239 = .ok (.bipush 11, 2) := dR1s (f := Instr.bipush) (k := 128) (i := 111) bn_cX11_bodyOf_128 dop_16 11 11 (by decide +kernel)
theorem dX11_bodyOf_241 : decode cX11_bodyOf 241 = .ok (.ireturn, 1) := dR0 (k := 128) (i := 113) bn_cX11_bodyOf_128 dop_172 (by decide +kernel)
theorem dX11_bodyOf_242 : decode cX11_bodyOf 242 = .ok (.bipush 12, 2) := dR1s (f := Instr.bipush) (k := 128) (i := 114) bn_cX11_bodyOf_128 dop_16 12 12 (by decide +kernel)
theorem dX11_bodyOf_244 : decode cX11_bodyOf 244 = .ok (.ireturn, 1) := dR0 (k := 128) (i := 116) bn_cX11_bodyOf_128 dop_172 (by decide +kernel)
theorem dX11_bodyOf_245 : decode cX11_bodyOf 245 = .ok (.bipush 13, 2) := dR1s (f := Instr.bipush) (k := 128) (i := 117) bn_cX11_bodyOf_128 dop_16 13 13 (by decide +kernel)
theorem dX11_bodyOf_247 : decode cX11_bodyOf 247 = .ok (.ireturn, 1) := dR0 (k := 128) (i := 119) bn_cX11_bodyOf_128 dop_172 (by decide +kernel)
theorem dX11_bodyOf_248 : decode cX11_bodyOf 248 = .ok (.bipush 20, 2) := dR1s (f := Instr.bipush) (k := 128) (i := 120) bn_cX11_bodyOf_128 dop_16 20 20 (by decide +kernel)
theorem dX11_bodyOf_250 : decode cX11_bodyOf 250 = .ok (.ireturn, 1) := dR0 (k := 128) (i := 122) bn_cX11_bodyOf_128 dop_172 (by decide +kernel)
theorem dX11_bodyOf_251 : decode cX11_bodyOf 251 = .ok (.bipush 21, 2) := dR1s (f := Instr.bipush) (k := 128) (i := 123) bn_cX11_bodyOf_128 dop_16 21 21 (by decide +kernel)
theorem dX11_bodyOf_253 : decode cX11_bodyOf 253 = .ok (.ireturn, 1) := dR0 (k := 128) (i := 125) bn_cX11_bodyOf_128 dop_172 (by decide +kernel)
theorem dX11_bodyOf_254 : decode cX11_bodyOf 254 = .ok (.bipush 30, 2) := dR1s (f := Instr.bipush) (k := 128) (i := 126) bn_cX11_bodyOf_128 dop_16 30 30 (by decide +kernel)
theorem bn_cX11_bodyOf_256 : BN cX11_bodyOf 256 0x568115a3e08ab47a11568d022ad198455a2a08ab452115688022ad := by
  unfold BN; decide +kernel
theorem dX11_bodyOf_256 : decode cX11_bodyOf 256 = .ok (.ireturn, 1) := dR0 (k := 256) (i := 0) bn_cX11_bodyOf_256 dop_172 (by decide +kernel)
theorem dX11_bodyOf_257 : decode cX11_bodyOf 257 = .ok (.bipush 31, 2) := dR1s (f := Instr.bipush) (k := 256) (i := 1) bn_cX11_bodyOf_256 dop_16 31 31 (by decide +kernel)
theorem dX11_bodyOf_259 : decode cX11_bodyOf 259 = .ok (.ireturn, 1) := dR0 (k := 256) (i := 3) bn_cX11_bodyOf_256 dop_172 (by decide +kernel)
theorem dX11_bodyOf_260 : decode cX11_bodyOf 260 = .ok (.bipush 40, 2) := dR1s (f := Instr.bipush) (k := 256) (i := 4) bn_cX11_bodyOf_256 dop_16 40 40 (by decide +kernel)
theorem dX11_bodyOf_262 : decode cX11_bodyOf 262 = .ok (.ireturn, 1) := dR0 (k := 256) (i := 6) bn_cX11_bodyOf_256 dop_172 (by decide +kernel)
theorem dX11_bodyOf_263 : decode cX11_bodyOf 263 = .ok (.bipush 41, 2) := dR1s (f := Instr.bipush) (k := 256) (i := 7) bn_cX11_bodyOf_256 dop_16 41 41 (by decide +kernel)
theorem dX11_bodyOf_265 : decode cX11_bodyOf 265 = .ok (.ireturn, 1) := dR0 (k := 256) (i := 9) bn_cX11_bodyOf_256 dop_172 (by decide +kernel)
theorem dX11_bodyOf_266 : decode cX11_bodyOf 266 = .ok (.bipush 50, 2) := dR1s (f := Instr.bipush) (k := 256) (i := 10) bn_cX11_bodyOf_256 dop_16 50 50 (by decide +kernel)
theorem dX11_bodyOf_268 : decode cX11_bodyOf 268 = .ok (.ireturn, 1) := dR0 (k := 256) (i := 12) bn_cX11_bodyOf_256 dop_172 (by decide +kernel)
theorem dX11_bodyOf_269 : decode cX11_bodyOf 269 = .ok (.bipush 51, 2) := dR1s (f := Instr.bipush) (k := 256) (i := 13) bn_cX11_bodyOf_256 dop_16 51 51 (by decide +kernel)
theorem dX11_bodyOf_271 : decode cX11_bodyOf 271 = .ok (.ireturn, 1) := dR0 (k := 256) (i := 15) bn_cX11_bodyOf_256 dop_172 (by decide +kernel)
theorem dX11_bodyOf_272 : decode cX11_bodyOf 272 = .ok (.bipush 60, 2) := dR1s (f := Instr.bipush) (k := 256) (i := 16) bn_cX11_bodyOf_256 dop_16 60 60 (by decide +kernel)
theorem dX11_bodyOf_274 : decode cX11_bodyOf 274 = .ok (.ireturn, 1) := dR0 (k := 256) (i := 18) bn_cX11_bodyOf_256 dop_172 (by decide +kernel)
theorem dX11_bodyOf_275 : decode cX11_bodyOf 275 = .ok (.bipush 61, 2) := dR1s (f := Instr.bipush) (k := 256) (i := 19) bn_cX11_bodyOf_256 dop_16 61 61 (by decide +kernel)
theorem dX11_bodyOf_277 : decode cX11_bodyOf 277 = .ok (.ireturn, 1) := dR0 (k := 256) (i := 21) bn_cX11_bodyOf_256 dop_172 (by decide +kernel)
theorem dX11_bodyOf_278 : decode cX11_bodyOf 278 = .ok (.iconst 0, 1) := dR0 (k := 256) (i := 22) bn_cX11_bodyOf_256 dop_3 (by decide +kernel)
theorem dX11_bodyOf_279 : decode cX11_bodyOf 279 = .ok (.ireturn, 1) := dR0 (k := 256) (i := 23) bn_cX11_bodyOf_256 dop_172 (by decide +kernel)
set_option maxHeartbeats 4000000 in
set_option maxRecDepth 100000 in
theorem c_X11_bodyOfG (l : Launch) (D : va_G) (cI : ClassId) (aK aV : Nat → Nat) (sz : Nat) (a0 : Int32) (a1 : Int32) (pre0 : 0 ≤ a0.toInt) (pre1 : a0.toInt ≤ 5) (pre2 : 0 ≤ a1.toInt) (pre3 : a1.toInt ≤ 3) : Met l yX11_bodyOf (gW yX11_bodyOf cX11_bodyOf 2 (some .int)) ({ frames := 0, cells := 0, slots := 0, locals := 0 } : Room) (kPreX D cI aK aV [.int a0, .int a1] [] sz) (va_Qi (fun (r : Int32) (u : Unit) => (r = 10 ∧ a0.toInt = 0 ∧ a1.toInt = 0 ∧ (bKi a0 a1).toInt = 10) ∨ (r = 11 ∧ a0.toInt = 0 ∧ a1.toInt = 1 ∧ (bKi a0 a1).toInt = 11) ∨ (r = 12 ∧ a0.toInt = 0 ∧ a1.toInt = 2 ∧ (bKi a0 a1).toInt = 12) ∨ (r = 13 ∧ a0.toInt = 0 ∧ a1.toInt = 3 ∧ (bKi a0 a1).toInt = 13) ∨ (r = 20 ∧ a0.toInt = 1 ∧ a1.toInt = 1 ∧ (bKi a0 a1).toInt = 20) ∨ (r = 21 ∧ a0.toInt = 1 ∧ a1.toInt = 3 ∧ (bKi a0 a1).toInt = 21) ∨ (r = 30 ∧ a0.toInt = 2 ∧ a1.toInt = 0 ∧ (bKi a0 a1).toInt = 30) ∨ (r = 31 ∧ a0.toInt = 2 ∧ a1.toInt = 2 ∧ (bKi a0 a1).toInt = 31) ∨ (r = 40 ∧ a0.toInt = 3 ∧ a1.toInt = 2 ∧ (bKi a0 a1).toInt = 40) ∨ (r = 41 ∧ a0.toInt = 3 ∧ a1.toInt = 3 ∧ (bKi a0 a1).toInt = 41) ∨ (r = 50 ∧ a0.toInt = 4 ∧ a1.toInt = 0 ∧ (bKi a0 a1).toInt = 50) ∨ (r = 51 ∧ a0.toInt = 4 ∧ a1.toInt = 2 ∧ (bKi a0 a1).toInt = 51) ∨ (r = 60 ∧ a0.toInt = 5 ∧ a1.toInt = 1 ∧ (bKi a0 a1).toInt = 60) ∨ (r = 61 ∧ a0.toInt = 5 ∧ a1.toInt = 3 ∧ (bKi a0 a1).toInt = 61) ∨ (r = 0 ∧ 1 ≤ a0.toInt ∧ (bKi a0 a1).toInt = 0)) (fun u t => kWd D cI (va_A [] sz) [] t) (va_A [] sz)) 0 0 (va_A [] sz) := by
  refine kMetIX (own := RX11) (by decide +kernel) rfl (Nat.le_of_ble_eq_true rfl) ?_
  intro p e s m args below meth c hx hb hT hown hname hml A Q hK hP hD hS hA hN hXS hRet ls hl
  have hl : lv_has ls 2 [(0, .int a0), (1, .int a1)] := hl
  have lo_a0 := k_lo a0
  have hi_a0 := k_hi a0
  have lo_a1 := k_lo a1
  have hi_a1 := k_hi a1
  refine lv_bipush (v := 10) hx hb dX11_bodyOf_0 (by decide +kernel) ?_
  refine lv_iload_n hx hb dX11_bodyOf_2 rfl (lv_at hl 0 rfl) ?_
  refine lv_imul hx hb dX11_bodyOf_3 ?_
  refine lv_topi (fun v_1 ev_1 => ?_)
  have tv_1 : v_1.toInt = 10 * a0.toInt := by rw [ev_1]; exact k_mulv zl_10 rfl (by omega) (by omega)
  refine lv_iload_n hx hb dX11_bodyOf_4 rfl (lv_at hl 1 rfl) ?_
  refine lv_iadd hx hb dX11_bodyOf_5 ?_
  refine lv_topi (fun v_2 ev_2 => ?_)
  have tv_2 : v_2.toInt = v_1.toInt + a1.toInt := by rw [ev_2]; exact k_addv rfl rfl (by omega) (by omega)
  by_cases c_3 : v_2.toInt = 0
  · refine lv_tableIn (off := 230) (tgt := 236) hx hb dX11_bodyOf_6 (by omega) (by omega) (by rw [c_3]; decide) (by decide +kernel) ?_
    refine lv_bipush (v := 10) hx hb dX11_bodyOf_236 (by decide +kernel) ?_
    exact hRet () [] (Or.inl ⟨rfl, (by omega), (by omega), (by first | (exfalso; omega) | (unfold bKi; (repeat (first | rw [if_pos (by omega)] | rw [if_neg (by omega)])); decide))⟩) hP hD (by decide +kernel) rfl hS rfl dX11_bodyOf_238
  by_cases c_4 : v_2.toInt = 1
  · refine lv_tableIn (off := 233) (tgt := 239) hx hb dX11_bodyOf_6 (by omega) (by omega) (by rw [c_4]; decide) (by decide +kernel) ?_
    refine lv_bipush (v := 11) hx hb dX11_bodyOf_239 (by decide +kernel) ?_
    exact hRet () [] (Or.inr (Or.inl ⟨rfl, (by omega), (by omega), (by first | (exfalso; omega) | (unfold bKi; (repeat (first | rw [if_pos (by omega)] | rw [if_neg (by omega)])); decide))⟩)) hP hD (by decide +kernel) rfl hS rfl dX11_bodyOf_241
  by_cases c_5 : v_2.toInt = 2
  · refine lv_tableIn (off := 236) (tgt := 242) hx hb dX11_bodyOf_6 (by omega) (by omega) (by rw [c_5]; decide) (by decide +kernel) ?_
    refine lv_bipush (v := 12) hx hb dX11_bodyOf_242 (by decide +kernel) ?_
    exact hRet () [] (Or.inr (Or.inr (Or.inl ⟨rfl, (by omega), (by omega), (by first | (exfalso; omega) | (unfold bKi; (repeat (first | rw [if_pos (by omega)] | rw [if_neg (by omega)])); decide))⟩))) hP hD (by decide +kernel) rfl hS rfl dX11_bodyOf_244
  by_cases c_6 : v_2.toInt = 3
  · refine lv_tableIn (off := 239) (tgt := 245) hx hb dX11_bodyOf_6 (by omega) (by omega) (by rw [c_6]; decide) (by decide +kernel) ?_
    refine lv_bipush (v := 13) hx hb dX11_bodyOf_245 (by decide +kernel) ?_
    exact hRet () [] (Or.inr (Or.inr (Or.inr (Or.inl ⟨rfl, (by omega), (by omega), (by first | (exfalso; omega) | (unfold bKi; (repeat (first | rw [if_pos (by omega)] | rw [if_neg (by omega)])); decide))⟩)))) hP hD (by decide +kernel) rfl hS rfl dX11_bodyOf_247
  by_cases c_7 : v_2.toInt = 4
  · refine lv_tableIn (off := 272) (tgt := 278) hx hb dX11_bodyOf_6 (by omega) (by omega) (by rw [c_7]; decide) (by decide +kernel) ?_
    refine lv_iconst (v := 0) hx hb dX11_bodyOf_278 (by decide +kernel) ?_
    exact hRet () [] (Or.inr (Or.inr (Or.inr (Or.inr (Or.inr (Or.inr (Or.inr (Or.inr (Or.inr (Or.inr (Or.inr (Or.inr (Or.inr (Or.inr (⟨rfl, (by omega), (by first | (exfalso; omega) | (unfold bKi; (repeat (first | rw [if_pos (by omega)] | rw [if_neg (by omega)])); decide))⟩))))))))))))))) hP hD (by decide +kernel) rfl hS rfl dX11_bodyOf_279
  by_cases c_8 : v_2.toInt = 5
  · refine lv_tableIn (off := 272) (tgt := 278) hx hb dX11_bodyOf_6 (by omega) (by omega) (by rw [c_8]; decide) (by decide +kernel) ?_
    refine lv_iconst (v := 0) hx hb dX11_bodyOf_278 (by decide +kernel) ?_
    exact hRet () [] (Or.inr (Or.inr (Or.inr (Or.inr (Or.inr (Or.inr (Or.inr (Or.inr (Or.inr (Or.inr (Or.inr (Or.inr (Or.inr (Or.inr (⟨rfl, (by omega), (by first | (exfalso; omega) | (unfold bKi; (repeat (first | rw [if_pos (by omega)] | rw [if_neg (by omega)])); decide))⟩))))))))))))))) hP hD (by decide +kernel) rfl hS rfl dX11_bodyOf_279
  by_cases c_9 : v_2.toInt = 6
  · refine lv_tableIn (off := 272) (tgt := 278) hx hb dX11_bodyOf_6 (by omega) (by omega) (by rw [c_9]; decide) (by decide +kernel) ?_
    refine lv_iconst (v := 0) hx hb dX11_bodyOf_278 (by decide +kernel) ?_
    exact hRet () [] (Or.inr (Or.inr (Or.inr (Or.inr (Or.inr (Or.inr (Or.inr (Or.inr (Or.inr (Or.inr (Or.inr (Or.inr (Or.inr (Or.inr (⟨rfl, (by omega), (by first | (exfalso; omega) | (unfold bKi; (repeat (first | rw [if_pos (by omega)] | rw [if_neg (by omega)])); decide))⟩))))))))))))))) hP hD (by decide +kernel) rfl hS rfl dX11_bodyOf_279
  by_cases c_10 : v_2.toInt = 7
  · refine lv_tableIn (off := 272) (tgt := 278) hx hb dX11_bodyOf_6 (by omega) (by omega) (by rw [c_10]; decide) (by decide +kernel) ?_
    refine lv_iconst (v := 0) hx hb dX11_bodyOf_278 (by decide +kernel) ?_
    exact hRet () [] (Or.inr (Or.inr (Or.inr (Or.inr (Or.inr (Or.inr (Or.inr (Or.inr (Or.inr (Or.inr (Or.inr (Or.inr (Or.inr (Or.inr (⟨rfl, (by omega), (by first | (exfalso; omega) | (unfold bKi; (repeat (first | rw [if_pos (by omega)] | rw [if_neg (by omega)])); decide))⟩))))))))))))))) hP hD (by decide +kernel) rfl hS rfl dX11_bodyOf_279
  by_cases c_11 : v_2.toInt = 8
  · refine lv_tableIn (off := 272) (tgt := 278) hx hb dX11_bodyOf_6 (by omega) (by omega) (by rw [c_11]; decide) (by decide +kernel) ?_
    refine lv_iconst (v := 0) hx hb dX11_bodyOf_278 (by decide +kernel) ?_
    exact hRet () [] (Or.inr (Or.inr (Or.inr (Or.inr (Or.inr (Or.inr (Or.inr (Or.inr (Or.inr (Or.inr (Or.inr (Or.inr (Or.inr (Or.inr (⟨rfl, (by omega), (by first | (exfalso; omega) | (unfold bKi; (repeat (first | rw [if_pos (by omega)] | rw [if_neg (by omega)])); decide))⟩))))))))))))))) hP hD (by decide +kernel) rfl hS rfl dX11_bodyOf_279
  by_cases c_12 : v_2.toInt = 9
  · refine lv_tableIn (off := 272) (tgt := 278) hx hb dX11_bodyOf_6 (by omega) (by omega) (by rw [c_12]; decide) (by decide +kernel) ?_
    refine lv_iconst (v := 0) hx hb dX11_bodyOf_278 (by decide +kernel) ?_
    exact hRet () [] (Or.inr (Or.inr (Or.inr (Or.inr (Or.inr (Or.inr (Or.inr (Or.inr (Or.inr (Or.inr (Or.inr (Or.inr (Or.inr (Or.inr (⟨rfl, (by omega), (by first | (exfalso; omega) | (unfold bKi; (repeat (first | rw [if_pos (by omega)] | rw [if_neg (by omega)])); decide))⟩))))))))))))))) hP hD (by decide +kernel) rfl hS rfl dX11_bodyOf_279
  by_cases c_13 : v_2.toInt = 10
  · refine lv_tableIn (off := 272) (tgt := 278) hx hb dX11_bodyOf_6 (by omega) (by omega) (by rw [c_13]; decide) (by decide +kernel) ?_
    refine lv_iconst (v := 0) hx hb dX11_bodyOf_278 (by decide +kernel) ?_
    exact hRet () [] (Or.inr (Or.inr (Or.inr (Or.inr (Or.inr (Or.inr (Or.inr (Or.inr (Or.inr (Or.inr (Or.inr (Or.inr (Or.inr (Or.inr (⟨rfl, (by omega), (by first | (exfalso; omega) | (unfold bKi; (repeat (first | rw [if_pos (by omega)] | rw [if_neg (by omega)])); decide))⟩))))))))))))))) hP hD (by decide +kernel) rfl hS rfl dX11_bodyOf_279
  by_cases c_14 : v_2.toInt = 11
  · refine lv_tableIn (off := 242) (tgt := 248) hx hb dX11_bodyOf_6 (by omega) (by omega) (by rw [c_14]; decide) (by decide +kernel) ?_
    refine lv_bipush (v := 20) hx hb dX11_bodyOf_248 (by decide +kernel) ?_
    exact hRet () [] (Or.inr (Or.inr (Or.inr (Or.inr (Or.inl ⟨rfl, (by omega), (by omega), (by first | (exfalso; omega) | (unfold bKi; (repeat (first | rw [if_pos (by omega)] | rw [if_neg (by omega)])); decide))⟩))))) hP hD (by decide +kernel) rfl hS rfl dX11_bodyOf_250
  by_cases c_15 : v_2.toInt = 12
  · refine lv_tableIn (off := 272) (tgt := 278) hx hb dX11_bodyOf_6 (by omega) (by omega) (by rw [c_15]; decide) (by decide +kernel) ?_
    refine lv_iconst (v := 0) hx hb dX11_bodyOf_278 (by decide +kernel) ?_
    exact hRet () [] (Or.inr (Or.inr (Or.inr (Or.inr (Or.inr (Or.inr (Or.inr (Or.inr (Or.inr (Or.inr (Or.inr (Or.inr (Or.inr (Or.inr (⟨rfl, (by omega), (by first | (exfalso; omega) | (unfold bKi; (repeat (first | rw [if_pos (by omega)] | rw [if_neg (by omega)])); decide))⟩))))))))))))))) hP hD (by decide +kernel) rfl hS rfl dX11_bodyOf_279
  by_cases c_16 : v_2.toInt = 13
  · refine lv_tableIn (off := 245) (tgt := 251) hx hb dX11_bodyOf_6 (by omega) (by omega) (by rw [c_16]; decide) (by decide +kernel) ?_
    refine lv_bipush (v := 21) hx hb dX11_bodyOf_251 (by decide +kernel) ?_
    exact hRet () [] (Or.inr (Or.inr (Or.inr (Or.inr (Or.inr (Or.inl ⟨rfl, (by omega), (by omega), (by first | (exfalso; omega) | (unfold bKi; (repeat (first | rw [if_pos (by omega)] | rw [if_neg (by omega)])); decide))⟩)))))) hP hD (by decide +kernel) rfl hS rfl dX11_bodyOf_253
  by_cases c_17 : v_2.toInt = 14
  · refine lv_tableIn (off := 272) (tgt := 278) hx hb dX11_bodyOf_6 (by omega) (by omega) (by rw [c_17]; decide) (by decide +kernel) ?_
    refine lv_iconst (v := 0) hx hb dX11_bodyOf_278 (by decide +kernel) ?_
    exact hRet () [] (Or.inr (Or.inr (Or.inr (Or.inr (Or.inr (Or.inr (Or.inr (Or.inr (Or.inr (Or.inr (Or.inr (Or.inr (Or.inr (Or.inr (⟨rfl, (by omega), (by first | (exfalso; omega) | (unfold bKi; (repeat (first | rw [if_pos (by omega)] | rw [if_neg (by omega)])); decide))⟩))))))))))))))) hP hD (by decide +kernel) rfl hS rfl dX11_bodyOf_279
  by_cases c_18 : v_2.toInt = 15
  · refine lv_tableIn (off := 272) (tgt := 278) hx hb dX11_bodyOf_6 (by omega) (by omega) (by rw [c_18]; decide) (by decide +kernel) ?_
    refine lv_iconst (v := 0) hx hb dX11_bodyOf_278 (by decide +kernel) ?_
    exact hRet () [] (Or.inr (Or.inr (Or.inr (Or.inr (Or.inr (Or.inr (Or.inr (Or.inr (Or.inr (Or.inr (Or.inr (Or.inr (Or.inr (Or.inr (⟨rfl, (by omega), (by first | (exfalso; omega) | (unfold bKi; (repeat (first | rw [if_pos (by omega)] | rw [if_neg (by omega)])); decide))⟩))))))))))))))) hP hD (by decide +kernel) rfl hS rfl dX11_bodyOf_279
  by_cases c_19 : v_2.toInt = 16
  · refine lv_tableIn (off := 272) (tgt := 278) hx hb dX11_bodyOf_6 (by omega) (by omega) (by rw [c_19]; decide) (by decide +kernel) ?_
    refine lv_iconst (v := 0) hx hb dX11_bodyOf_278 (by decide +kernel) ?_
    exact hRet () [] (Or.inr (Or.inr (Or.inr (Or.inr (Or.inr (Or.inr (Or.inr (Or.inr (Or.inr (Or.inr (Or.inr (Or.inr (Or.inr (Or.inr (⟨rfl, (by omega), (by first | (exfalso; omega) | (unfold bKi; (repeat (first | rw [if_pos (by omega)] | rw [if_neg (by omega)])); decide))⟩))))))))))))))) hP hD (by decide +kernel) rfl hS rfl dX11_bodyOf_279
  by_cases c_20 : v_2.toInt = 17
  · refine lv_tableIn (off := 272) (tgt := 278) hx hb dX11_bodyOf_6 (by omega) (by omega) (by rw [c_20]; decide) (by decide +kernel) ?_
    refine lv_iconst (v := 0) hx hb dX11_bodyOf_278 (by decide +kernel) ?_
    exact hRet () [] (Or.inr (Or.inr (Or.inr (Or.inr (Or.inr (Or.inr (Or.inr (Or.inr (Or.inr (Or.inr (Or.inr (Or.inr (Or.inr (Or.inr (⟨rfl, (by omega), (by first | (exfalso; omega) | (unfold bKi; (repeat (first | rw [if_pos (by omega)] | rw [if_neg (by omega)])); decide))⟩))))))))))))))) hP hD (by decide +kernel) rfl hS rfl dX11_bodyOf_279
  by_cases c_21 : v_2.toInt = 18
  · refine lv_tableIn (off := 272) (tgt := 278) hx hb dX11_bodyOf_6 (by omega) (by omega) (by rw [c_21]; decide) (by decide +kernel) ?_
    refine lv_iconst (v := 0) hx hb dX11_bodyOf_278 (by decide +kernel) ?_
    exact hRet () [] (Or.inr (Or.inr (Or.inr (Or.inr (Or.inr (Or.inr (Or.inr (Or.inr (Or.inr (Or.inr (Or.inr (Or.inr (Or.inr (Or.inr (⟨rfl, (by omega), (by first | (exfalso; omega) | (unfold bKi; (repeat (first | rw [if_pos (by omega)] | rw [if_neg (by omega)])); decide))⟩))))))))))))))) hP hD (by decide +kernel) rfl hS rfl dX11_bodyOf_279
  by_cases c_22 : v_2.toInt = 19
  · refine lv_tableIn (off := 272) (tgt := 278) hx hb dX11_bodyOf_6 (by omega) (by omega) (by rw [c_22]; decide) (by decide +kernel) ?_
    refine lv_iconst (v := 0) hx hb dX11_bodyOf_278 (by decide +kernel) ?_
    exact hRet () [] (Or.inr (Or.inr (Or.inr (Or.inr (Or.inr (Or.inr (Or.inr (Or.inr (Or.inr (Or.inr (Or.inr (Or.inr (Or.inr (Or.inr (⟨rfl, (by omega), (by first | (exfalso; omega) | (unfold bKi; (repeat (first | rw [if_pos (by omega)] | rw [if_neg (by omega)])); decide))⟩))))))))))))))) hP hD (by decide +kernel) rfl hS rfl dX11_bodyOf_279
  by_cases c_23 : v_2.toInt = 20
  · refine lv_tableIn (off := 248) (tgt := 254) hx hb dX11_bodyOf_6 (by omega) (by omega) (by rw [c_23]; decide) (by decide +kernel) ?_
    refine lv_bipush (v := 30) hx hb dX11_bodyOf_254 (by decide +kernel) ?_
    exact hRet () [] (Or.inr (Or.inr (Or.inr (Or.inr (Or.inr (Or.inr (Or.inl ⟨rfl, (by omega), (by omega), (by first | (exfalso; omega) | (unfold bKi; (repeat (first | rw [if_pos (by omega)] | rw [if_neg (by omega)])); decide))⟩))))))) hP hD (by decide +kernel) rfl hS rfl dX11_bodyOf_256
  by_cases c_24 : v_2.toInt = 21
  · refine lv_tableIn (off := 272) (tgt := 278) hx hb dX11_bodyOf_6 (by omega) (by omega) (by rw [c_24]; decide) (by decide +kernel) ?_
    refine lv_iconst (v := 0) hx hb dX11_bodyOf_278 (by decide +kernel) ?_
    exact hRet () [] (Or.inr (Or.inr (Or.inr (Or.inr (Or.inr (Or.inr (Or.inr (Or.inr (Or.inr (Or.inr (Or.inr (Or.inr (Or.inr (Or.inr (⟨rfl, (by omega), (by first | (exfalso; omega) | (unfold bKi; (repeat (first | rw [if_pos (by omega)] | rw [if_neg (by omega)])); decide))⟩))))))))))))))) hP hD (by decide +kernel) rfl hS rfl dX11_bodyOf_279
  by_cases c_25 : v_2.toInt = 22
  · refine lv_tableIn (off := 251) (tgt := 257) hx hb dX11_bodyOf_6 (by omega) (by omega) (by rw [c_25]; decide) (by decide +kernel) ?_
    refine lv_bipush (v := 31) hx hb dX11_bodyOf_257 (by decide +kernel) ?_
    exact hRet () [] (Or.inr (Or.inr (Or.inr (Or.inr (Or.inr (Or.inr (Or.inr (Or.inl ⟨rfl, (by omega), (by omega), (by first | (exfalso; omega) | (unfold bKi; (repeat (first | rw [if_pos (by omega)] | rw [if_neg (by omega)])); decide))⟩)))))))) hP hD (by decide +kernel) rfl hS rfl dX11_bodyOf_259
  by_cases c_26 : v_2.toInt = 23
  · refine lv_tableIn (off := 272) (tgt := 278) hx hb dX11_bodyOf_6 (by omega) (by omega) (by rw [c_26]; decide) (by decide +kernel) ?_
    refine lv_iconst (v := 0) hx hb dX11_bodyOf_278 (by decide +kernel) ?_
    exact hRet () [] (Or.inr (Or.inr (Or.inr (Or.inr (Or.inr (Or.inr (Or.inr (Or.inr (Or.inr (Or.inr (Or.inr (Or.inr (Or.inr (Or.inr (⟨rfl, (by omega), (by first | (exfalso; omega) | (unfold bKi; (repeat (first | rw [if_pos (by omega)] | rw [if_neg (by omega)])); decide))⟩))))))))))))))) hP hD (by decide +kernel) rfl hS rfl dX11_bodyOf_279
  by_cases c_27 : v_2.toInt = 24
  · refine lv_tableIn (off := 272) (tgt := 278) hx hb dX11_bodyOf_6 (by omega) (by omega) (by rw [c_27]; decide) (by decide +kernel) ?_
    refine lv_iconst (v := 0) hx hb dX11_bodyOf_278 (by decide +kernel) ?_
    exact hRet () [] (Or.inr (Or.inr (Or.inr (Or.inr (Or.inr (Or.inr (Or.inr (Or.inr (Or.inr (Or.inr (Or.inr (Or.inr (Or.inr (Or.inr (⟨rfl, (by omega), (by first | (exfalso; omega) | (unfold bKi; (repeat (first | rw [if_pos (by omega)] | rw [if_neg (by omega)])); decide))⟩))))))))))))))) hP hD (by decide +kernel) rfl hS rfl dX11_bodyOf_279
  by_cases c_28 : v_2.toInt = 25
  · refine lv_tableIn (off := 272) (tgt := 278) hx hb dX11_bodyOf_6 (by omega) (by omega) (by rw [c_28]; decide) (by decide +kernel) ?_
    refine lv_iconst (v := 0) hx hb dX11_bodyOf_278 (by decide +kernel) ?_
    exact hRet () [] (Or.inr (Or.inr (Or.inr (Or.inr (Or.inr (Or.inr (Or.inr (Or.inr (Or.inr (Or.inr (Or.inr (Or.inr (Or.inr (Or.inr (⟨rfl, (by omega), (by first | (exfalso; omega) | (unfold bKi; (repeat (first | rw [if_pos (by omega)] | rw [if_neg (by omega)])); decide))⟩))))))))))))))) hP hD (by decide +kernel) rfl hS rfl dX11_bodyOf_279
  by_cases c_29 : v_2.toInt = 26
  · refine lv_tableIn (off := 272) (tgt := 278) hx hb dX11_bodyOf_6 (by omega) (by omega) (by rw [c_29]; decide) (by decide +kernel) ?_
    refine lv_iconst (v := 0) hx hb dX11_bodyOf_278 (by decide +kernel) ?_
    exact hRet () [] (Or.inr (Or.inr (Or.inr (Or.inr (Or.inr (Or.inr (Or.inr (Or.inr (Or.inr (Or.inr (Or.inr (Or.inr (Or.inr (Or.inr (⟨rfl, (by omega), (by first | (exfalso; omega) | (unfold bKi; (repeat (first | rw [if_pos (by omega)] | rw [if_neg (by omega)])); decide))⟩))))))))))))))) hP hD (by decide +kernel) rfl hS rfl dX11_bodyOf_279
  by_cases c_30 : v_2.toInt = 27
  · refine lv_tableIn (off := 272) (tgt := 278) hx hb dX11_bodyOf_6 (by omega) (by omega) (by rw [c_30]; decide) (by decide +kernel) ?_
    refine lv_iconst (v := 0) hx hb dX11_bodyOf_278 (by decide +kernel) ?_
    exact hRet () [] (Or.inr (Or.inr (Or.inr (Or.inr (Or.inr (Or.inr (Or.inr (Or.inr (Or.inr (Or.inr (Or.inr (Or.inr (Or.inr (Or.inr (⟨rfl, (by omega), (by first | (exfalso; omega) | (unfold bKi; (repeat (first | rw [if_pos (by omega)] | rw [if_neg (by omega)])); decide))⟩))))))))))))))) hP hD (by decide +kernel) rfl hS rfl dX11_bodyOf_279
  by_cases c_31 : v_2.toInt = 28
  · refine lv_tableIn (off := 272) (tgt := 278) hx hb dX11_bodyOf_6 (by omega) (by omega) (by rw [c_31]; decide) (by decide +kernel) ?_
    refine lv_iconst (v := 0) hx hb dX11_bodyOf_278 (by decide +kernel) ?_
    exact hRet () [] (Or.inr (Or.inr (Or.inr (Or.inr (Or.inr (Or.inr (Or.inr (Or.inr (Or.inr (Or.inr (Or.inr (Or.inr (Or.inr (Or.inr (⟨rfl, (by omega), (by first | (exfalso; omega) | (unfold bKi; (repeat (first | rw [if_pos (by omega)] | rw [if_neg (by omega)])); decide))⟩))))))))))))))) hP hD (by decide +kernel) rfl hS rfl dX11_bodyOf_279
  by_cases c_32 : v_2.toInt = 29
  · refine lv_tableIn (off := 272) (tgt := 278) hx hb dX11_bodyOf_6 (by omega) (by omega) (by rw [c_32]; decide) (by decide +kernel) ?_
    refine lv_iconst (v := 0) hx hb dX11_bodyOf_278 (by decide +kernel) ?_
    exact hRet () [] (Or.inr (Or.inr (Or.inr (Or.inr (Or.inr (Or.inr (Or.inr (Or.inr (Or.inr (Or.inr (Or.inr (Or.inr (Or.inr (Or.inr (⟨rfl, (by omega), (by first | (exfalso; omega) | (unfold bKi; (repeat (first | rw [if_pos (by omega)] | rw [if_neg (by omega)])); decide))⟩))))))))))))))) hP hD (by decide +kernel) rfl hS rfl dX11_bodyOf_279
  by_cases c_33 : v_2.toInt = 30
  · refine lv_tableIn (off := 272) (tgt := 278) hx hb dX11_bodyOf_6 (by omega) (by omega) (by rw [c_33]; decide) (by decide +kernel) ?_
    refine lv_iconst (v := 0) hx hb dX11_bodyOf_278 (by decide +kernel) ?_
    exact hRet () [] (Or.inr (Or.inr (Or.inr (Or.inr (Or.inr (Or.inr (Or.inr (Or.inr (Or.inr (Or.inr (Or.inr (Or.inr (Or.inr (Or.inr (⟨rfl, (by omega), (by first | (exfalso; omega) | (unfold bKi; (repeat (first | rw [if_pos (by omega)] | rw [if_neg (by omega)])); decide))⟩))))))))))))))) hP hD (by decide +kernel) rfl hS rfl dX11_bodyOf_279
  by_cases c_34 : v_2.toInt = 31
  · refine lv_tableIn (off := 272) (tgt := 278) hx hb dX11_bodyOf_6 (by omega) (by omega) (by rw [c_34]; decide) (by decide +kernel) ?_
    refine lv_iconst (v := 0) hx hb dX11_bodyOf_278 (by decide +kernel) ?_
    exact hRet () [] (Or.inr (Or.inr (Or.inr (Or.inr (Or.inr (Or.inr (Or.inr (Or.inr (Or.inr (Or.inr (Or.inr (Or.inr (Or.inr (Or.inr (⟨rfl, (by omega), (by first | (exfalso; omega) | (unfold bKi; (repeat (first | rw [if_pos (by omega)] | rw [if_neg (by omega)])); decide))⟩))))))))))))))) hP hD (by decide +kernel) rfl hS rfl dX11_bodyOf_279
  by_cases c_35 : v_2.toInt = 32
  · refine lv_tableIn (off := 254) (tgt := 260) hx hb dX11_bodyOf_6 (by omega) (by omega) (by rw [c_35]; decide) (by decide +kernel) ?_
    refine lv_bipush (v := 40) hx hb dX11_bodyOf_260 (by decide +kernel) ?_
    exact hRet () [] (Or.inr (Or.inr (Or.inr (Or.inr (Or.inr (Or.inr (Or.inr (Or.inr (Or.inl ⟨rfl, (by omega), (by omega), (by first | (exfalso; omega) | (unfold bKi; (repeat (first | rw [if_pos (by omega)] | rw [if_neg (by omega)])); decide))⟩))))))))) hP hD (by decide +kernel) rfl hS rfl dX11_bodyOf_262
  by_cases c_36 : v_2.toInt = 33
  · refine lv_tableIn (off := 257) (tgt := 263) hx hb dX11_bodyOf_6 (by omega) (by omega) (by rw [c_36]; decide) (by decide +kernel) ?_
    refine lv_bipush (v := 41) hx hb dX11_bodyOf_263 (by decide +kernel) ?_
    exact hRet () [] (Or.inr (Or.inr (Or.inr (Or.inr (Or.inr (Or.inr (Or.inr (Or.inr (Or.inr (Or.inl ⟨rfl, (by omega), (by omega), (by first | (exfalso; omega) | (unfold bKi; (repeat (first | rw [if_pos (by omega)] | rw [if_neg (by omega)])); decide))⟩)))))))))) hP hD (by decide +kernel) rfl hS rfl dX11_bodyOf_265
  by_cases c_37 : v_2.toInt = 34
  · refine lv_tableIn (off := 272) (tgt := 278) hx hb dX11_bodyOf_6 (by omega) (by omega) (by rw [c_37]; decide) (by decide +kernel) ?_
    refine lv_iconst (v := 0) hx hb dX11_bodyOf_278 (by decide +kernel) ?_
    exact hRet () [] (Or.inr (Or.inr (Or.inr (Or.inr (Or.inr (Or.inr (Or.inr (Or.inr (Or.inr (Or.inr (Or.inr (Or.inr (Or.inr (Or.inr (⟨rfl, (by omega), (by first | (exfalso; omega) | (unfold bKi; (repeat (first | rw [if_pos (by omega)] | rw [if_neg (by omega)])); decide))⟩))))))))))))))) hP hD (by decide +kernel) rfl hS rfl dX11_bodyOf_279
  by_cases c_38 : v_2.toInt = 35
  · refine lv_tableIn (off := 272) (tgt := 278) hx hb dX11_bodyOf_6 (by omega) (by omega) (by rw [c_38]; decide) (by decide +kernel) ?_
    refine lv_iconst (v := 0) hx hb dX11_bodyOf_278 (by decide +kernel) ?_
    exact hRet () [] (Or.inr (Or.inr (Or.inr (Or.inr (Or.inr (Or.inr (Or.inr (Or.inr (Or.inr (Or.inr (Or.inr (Or.inr (Or.inr (Or.inr (⟨rfl, (by omega), (by first | (exfalso; omega) | (unfold bKi; (repeat (first | rw [if_pos (by omega)] | rw [if_neg (by omega)])); decide))⟩))))))))))))))) hP hD (by decide +kernel) rfl hS rfl dX11_bodyOf_279
  by_cases c_39 : v_2.toInt = 36
  · refine lv_tableIn (off := 272) (tgt := 278) hx hb dX11_bodyOf_6 (by omega) (by omega) (by rw [c_39]; decide) (by decide +kernel) ?_
    refine lv_iconst (v := 0) hx hb dX11_bodyOf_278 (by decide +kernel) ?_
    exact hRet () [] (Or.inr (Or.inr (Or.inr (Or.inr (Or.inr (Or.inr (Or.inr (Or.inr (Or.inr (Or.inr (Or.inr (Or.inr (Or.inr (Or.inr (⟨rfl, (by omega), (by first | (exfalso; omega) | (unfold bKi; (repeat (first | rw [if_pos (by omega)] | rw [if_neg (by omega)])); decide))⟩))))))))))))))) hP hD (by decide +kernel) rfl hS rfl dX11_bodyOf_279
  by_cases c_40 : v_2.toInt = 37
  · refine lv_tableIn (off := 272) (tgt := 278) hx hb dX11_bodyOf_6 (by omega) (by omega) (by rw [c_40]; decide) (by decide +kernel) ?_
    refine lv_iconst (v := 0) hx hb dX11_bodyOf_278 (by decide +kernel) ?_
    exact hRet () [] (Or.inr (Or.inr (Or.inr (Or.inr (Or.inr (Or.inr (Or.inr (Or.inr (Or.inr (Or.inr (Or.inr (Or.inr (Or.inr (Or.inr (⟨rfl, (by omega), (by first | (exfalso; omega) | (unfold bKi; (repeat (first | rw [if_pos (by omega)] | rw [if_neg (by omega)])); decide))⟩))))))))))))))) hP hD (by decide +kernel) rfl hS rfl dX11_bodyOf_279
  by_cases c_41 : v_2.toInt = 38
  · refine lv_tableIn (off := 272) (tgt := 278) hx hb dX11_bodyOf_6 (by omega) (by omega) (by rw [c_41]; decide) (by decide +kernel) ?_
    refine lv_iconst (v := 0) hx hb dX11_bodyOf_278 (by decide +kernel) ?_
    exact hRet () [] (Or.inr (Or.inr (Or.inr (Or.inr (Or.inr (Or.inr (Or.inr (Or.inr (Or.inr (Or.inr (Or.inr (Or.inr (Or.inr (Or.inr (⟨rfl, (by omega), (by first | (exfalso; omega) | (unfold bKi; (repeat (first | rw [if_pos (by omega)] | rw [if_neg (by omega)])); decide))⟩))))))))))))))) hP hD (by decide +kernel) rfl hS rfl dX11_bodyOf_279
  by_cases c_42 : v_2.toInt = 39
  · refine lv_tableIn (off := 272) (tgt := 278) hx hb dX11_bodyOf_6 (by omega) (by omega) (by rw [c_42]; decide) (by decide +kernel) ?_
    refine lv_iconst (v := 0) hx hb dX11_bodyOf_278 (by decide +kernel) ?_
    exact hRet () [] (Or.inr (Or.inr (Or.inr (Or.inr (Or.inr (Or.inr (Or.inr (Or.inr (Or.inr (Or.inr (Or.inr (Or.inr (Or.inr (Or.inr (⟨rfl, (by omega), (by first | (exfalso; omega) | (unfold bKi; (repeat (first | rw [if_pos (by omega)] | rw [if_neg (by omega)])); decide))⟩))))))))))))))) hP hD (by decide +kernel) rfl hS rfl dX11_bodyOf_279
  by_cases c_43 : v_2.toInt = 40
  · refine lv_tableIn (off := 260) (tgt := 266) hx hb dX11_bodyOf_6 (by omega) (by omega) (by rw [c_43]; decide) (by decide +kernel) ?_
    refine lv_bipush (v := 50) hx hb dX11_bodyOf_266 (by decide +kernel) ?_
    exact hRet () [] (Or.inr (Or.inr (Or.inr (Or.inr (Or.inr (Or.inr (Or.inr (Or.inr (Or.inr (Or.inr (Or.inl ⟨rfl, (by omega), (by omega), (by first | (exfalso; omega) | (unfold bKi; (repeat (first | rw [if_pos (by omega)] | rw [if_neg (by omega)])); decide))⟩))))))))))) hP hD (by decide +kernel) rfl hS rfl dX11_bodyOf_268
  by_cases c_44 : v_2.toInt = 41
  · refine lv_tableIn (off := 272) (tgt := 278) hx hb dX11_bodyOf_6 (by omega) (by omega) (by rw [c_44]; decide) (by decide +kernel) ?_
    refine lv_iconst (v := 0) hx hb dX11_bodyOf_278 (by decide +kernel) ?_
    exact hRet () [] (Or.inr (Or.inr (Or.inr (Or.inr (Or.inr (Or.inr (Or.inr (Or.inr (Or.inr (Or.inr (Or.inr (Or.inr (Or.inr (Or.inr (⟨rfl, (by omega), (by first | (exfalso; omega) | (unfold bKi; (repeat (first | rw [if_pos (by omega)] | rw [if_neg (by omega)])); decide))⟩))))))))))))))) hP hD (by decide +kernel) rfl hS rfl dX11_bodyOf_279
  by_cases c_45 : v_2.toInt = 42
  · refine lv_tableIn (off := 263) (tgt := 269) hx hb dX11_bodyOf_6 (by omega) (by omega) (by rw [c_45]; decide) (by decide +kernel) ?_
    refine lv_bipush (v := 51) hx hb dX11_bodyOf_269 (by decide +kernel) ?_
    exact hRet () [] (Or.inr (Or.inr (Or.inr (Or.inr (Or.inr (Or.inr (Or.inr (Or.inr (Or.inr (Or.inr (Or.inr (Or.inl ⟨rfl, (by omega), (by omega), (by first | (exfalso; omega) | (unfold bKi; (repeat (first | rw [if_pos (by omega)] | rw [if_neg (by omega)])); decide))⟩)))))))))))) hP hD (by decide +kernel) rfl hS rfl dX11_bodyOf_271
  by_cases c_46 : v_2.toInt = 43
  · refine lv_tableIn (off := 272) (tgt := 278) hx hb dX11_bodyOf_6 (by omega) (by omega) (by rw [c_46]; decide) (by decide +kernel) ?_
    refine lv_iconst (v := 0) hx hb dX11_bodyOf_278 (by decide +kernel) ?_
    exact hRet () [] (Or.inr (Or.inr (Or.inr (Or.inr (Or.inr (Or.inr (Or.inr (Or.inr (Or.inr (Or.inr (Or.inr (Or.inr (Or.inr (Or.inr (⟨rfl, (by omega), (by first | (exfalso; omega) | (unfold bKi; (repeat (first | rw [if_pos (by omega)] | rw [if_neg (by omega)])); decide))⟩))))))))))))))) hP hD (by decide +kernel) rfl hS rfl dX11_bodyOf_279
  by_cases c_47 : v_2.toInt = 44
  · refine lv_tableIn (off := 272) (tgt := 278) hx hb dX11_bodyOf_6 (by omega) (by omega) (by rw [c_47]; decide) (by decide +kernel) ?_
    refine lv_iconst (v := 0) hx hb dX11_bodyOf_278 (by decide +kernel) ?_
    exact hRet () [] (Or.inr (Or.inr (Or.inr (Or.inr (Or.inr (Or.inr (Or.inr (Or.inr (Or.inr (Or.inr (Or.inr (Or.inr (Or.inr (Or.inr (⟨rfl, (by omega), (by first | (exfalso; omega) | (unfold bKi; (repeat (first | rw [if_pos (by omega)] | rw [if_neg (by omega)])); decide))⟩))))))))))))))) hP hD (by decide +kernel) rfl hS rfl dX11_bodyOf_279
  by_cases c_48 : v_2.toInt = 45
  · refine lv_tableIn (off := 272) (tgt := 278) hx hb dX11_bodyOf_6 (by omega) (by omega) (by rw [c_48]; decide) (by decide +kernel) ?_
    refine lv_iconst (v := 0) hx hb dX11_bodyOf_278 (by decide +kernel) ?_
    exact hRet () [] (Or.inr (Or.inr (Or.inr (Or.inr (Or.inr (Or.inr (Or.inr (Or.inr (Or.inr (Or.inr (Or.inr (Or.inr (Or.inr (Or.inr (⟨rfl, (by omega), (by first | (exfalso; omega) | (unfold bKi; (repeat (first | rw [if_pos (by omega)] | rw [if_neg (by omega)])); decide))⟩))))))))))))))) hP hD (by decide +kernel) rfl hS rfl dX11_bodyOf_279
  by_cases c_49 : v_2.toInt = 46
  · refine lv_tableIn (off := 272) (tgt := 278) hx hb dX11_bodyOf_6 (by omega) (by omega) (by rw [c_49]; decide) (by decide +kernel) ?_
    refine lv_iconst (v := 0) hx hb dX11_bodyOf_278 (by decide +kernel) ?_
    exact hRet () [] (Or.inr (Or.inr (Or.inr (Or.inr (Or.inr (Or.inr (Or.inr (Or.inr (Or.inr (Or.inr (Or.inr (Or.inr (Or.inr (Or.inr (⟨rfl, (by omega), (by first | (exfalso; omega) | (unfold bKi; (repeat (first | rw [if_pos (by omega)] | rw [if_neg (by omega)])); decide))⟩))))))))))))))) hP hD (by decide +kernel) rfl hS rfl dX11_bodyOf_279
  by_cases c_50 : v_2.toInt = 47
  · refine lv_tableIn (off := 272) (tgt := 278) hx hb dX11_bodyOf_6 (by omega) (by omega) (by rw [c_50]; decide) (by decide +kernel) ?_
    refine lv_iconst (v := 0) hx hb dX11_bodyOf_278 (by decide +kernel) ?_
    exact hRet () [] (Or.inr (Or.inr (Or.inr (Or.inr (Or.inr (Or.inr (Or.inr (Or.inr (Or.inr (Or.inr (Or.inr (Or.inr (Or.inr (Or.inr (⟨rfl, (by omega), (by first | (exfalso; omega) | (unfold bKi; (repeat (first | rw [if_pos (by omega)] | rw [if_neg (by omega)])); decide))⟩))))))))))))))) hP hD (by decide +kernel) rfl hS rfl dX11_bodyOf_279
  by_cases c_51 : v_2.toInt = 48
  · refine lv_tableIn (off := 272) (tgt := 278) hx hb dX11_bodyOf_6 (by omega) (by omega) (by rw [c_51]; decide) (by decide +kernel) ?_
    refine lv_iconst (v := 0) hx hb dX11_bodyOf_278 (by decide +kernel) ?_
    exact hRet () [] (Or.inr (Or.inr (Or.inr (Or.inr (Or.inr (Or.inr (Or.inr (Or.inr (Or.inr (Or.inr (Or.inr (Or.inr (Or.inr (Or.inr (⟨rfl, (by omega), (by first | (exfalso; omega) | (unfold bKi; (repeat (first | rw [if_pos (by omega)] | rw [if_neg (by omega)])); decide))⟩))))))))))))))) hP hD (by decide +kernel) rfl hS rfl dX11_bodyOf_279
  by_cases c_52 : v_2.toInt = 49
  · refine lv_tableIn (off := 272) (tgt := 278) hx hb dX11_bodyOf_6 (by omega) (by omega) (by rw [c_52]; decide) (by decide +kernel) ?_
    refine lv_iconst (v := 0) hx hb dX11_bodyOf_278 (by decide +kernel) ?_
    exact hRet () [] (Or.inr (Or.inr (Or.inr (Or.inr (Or.inr (Or.inr (Or.inr (Or.inr (Or.inr (Or.inr (Or.inr (Or.inr (Or.inr (Or.inr (⟨rfl, (by omega), (by first | (exfalso; omega) | (unfold bKi; (repeat (first | rw [if_pos (by omega)] | rw [if_neg (by omega)])); decide))⟩))))))))))))))) hP hD (by decide +kernel) rfl hS rfl dX11_bodyOf_279
  by_cases c_53 : v_2.toInt = 50
  · refine lv_tableIn (off := 272) (tgt := 278) hx hb dX11_bodyOf_6 (by omega) (by omega) (by rw [c_53]; decide) (by decide +kernel) ?_
    refine lv_iconst (v := 0) hx hb dX11_bodyOf_278 (by decide +kernel) ?_
    exact hRet () [] (Or.inr (Or.inr (Or.inr (Or.inr (Or.inr (Or.inr (Or.inr (Or.inr (Or.inr (Or.inr (Or.inr (Or.inr (Or.inr (Or.inr (⟨rfl, (by omega), (by first | (exfalso; omega) | (unfold bKi; (repeat (first | rw [if_pos (by omega)] | rw [if_neg (by omega)])); decide))⟩))))))))))))))) hP hD (by decide +kernel) rfl hS rfl dX11_bodyOf_279
  by_cases c_54 : v_2.toInt = 51
  · refine lv_tableIn (off := 266) (tgt := 272) hx hb dX11_bodyOf_6 (by omega) (by omega) (by rw [c_54]; decide) (by decide +kernel) ?_
    refine lv_bipush (v := 60) hx hb dX11_bodyOf_272 (by decide +kernel) ?_
    exact hRet () [] (Or.inr (Or.inr (Or.inr (Or.inr (Or.inr (Or.inr (Or.inr (Or.inr (Or.inr (Or.inr (Or.inr (Or.inr (Or.inl ⟨rfl, (by omega), (by omega), (by first | (exfalso; omega) | (unfold bKi; (repeat (first | rw [if_pos (by omega)] | rw [if_neg (by omega)])); decide))⟩))))))))))))) hP hD (by decide +kernel) rfl hS rfl dX11_bodyOf_274
  by_cases c_55 : v_2.toInt = 52
  · refine lv_tableIn (off := 272) (tgt := 278) hx hb dX11_bodyOf_6 (by omega) (by omega) (by rw [c_55]; decide) (by decide +kernel) ?_
    refine lv_iconst (v := 0) hx hb dX11_bodyOf_278 (by decide +kernel) ?_
    exact hRet () [] (Or.inr (Or.inr (Or.inr (Or.inr (Or.inr (Or.inr (Or.inr (Or.inr (Or.inr (Or.inr (Or.inr (Or.inr (Or.inr (Or.inr (⟨rfl, (by omega), (by first | (exfalso; omega) | (unfold bKi; (repeat (first | rw [if_pos (by omega)] | rw [if_neg (by omega)])); decide))⟩))))))))))))))) hP hD (by decide +kernel) rfl hS rfl dX11_bodyOf_279
  by_cases c_56 : v_2.toInt = 53
  · refine lv_tableIn (off := 269) (tgt := 275) hx hb dX11_bodyOf_6 (by omega) (by omega) (by rw [c_56]; decide) (by decide +kernel) ?_
    refine lv_bipush (v := 61) hx hb dX11_bodyOf_275 (by decide +kernel) ?_
    exact hRet () [] (Or.inr (Or.inr (Or.inr (Or.inr (Or.inr (Or.inr (Or.inr (Or.inr (Or.inr (Or.inr (Or.inr (Or.inr (Or.inr (Or.inl ⟨rfl, (by omega), (by omega), (by first | (exfalso; omega) | (unfold bKi; (repeat (first | rw [if_pos (by omega)] | rw [if_neg (by omega)])); decide))⟩)))))))))))))) hP hD (by decide +kernel) rfl hS rfl dX11_bodyOf_277
  exfalso; omega
theorem bn_cX11_trace_0 : BN cX11_trace 0 0x15a4100adce6131582802a81787040015a8ac1a014d0c002b93281418025a8ac081c := by
  unfold BN; decide +kernel
theorem dX11_trace_0 : decode cX11_trace 0 = .ok (.iload_n 1, 1) := dR0 (k := 0) (i := 0) bn_cX11_trace_0 dop_27 (by decide +kernel)
theorem dX11_trace_1 : decode cX11_trace 1 = .ok (.iconst 0, 1) := dR0 (k := 0) (i := 1) bn_cX11_trace_0 dop_3 (by decide +kernel)
theorem dX11_trace_2 : decode cX11_trace 2 = .ok (.aload_n 0, 1) := dR0 (k := 0) (i := 2) bn_cX11_trace_0 dop_42 (by decide +kernel)
theorem dX11_trace_3 : decode cX11_trace 3 = .ok (.getfield 267, 3) := dR2 (f := Instr.getfield) (k := 0) (i := 3) bn_cX11_trace_0 dop_180 267 (by decide +kernel)
theorem dX11_trace_6 : decode cX11_trace 6 = .ok (.iconst 1, 1) := dR0 (k := 0) (i := 6) bn_cX11_trace_0 dop_4 (by decide +kernel)
theorem dX11_trace_7 : decode cX11_trace 7 = .ok (.isub, 1) := dR0 (k := 0) (i := 7) bn_cX11_trace_0 dop_100 (by decide +kernel)
theorem dX11_trace_8 : decode cX11_trace 8 = .ok (.invokestatic 47, 3) := dR2 (f := Instr.invokestatic) (k := 0) (i := 8) bn_cX11_trace_0 dop_184 47 (by decide +kernel)
theorem dX11_trace_11 : decode cX11_trace 11 = .ok (.ifCond .eq 12, 3) := dR2s (f := Instr.ifCond .eq) (k := 0) (i := 11) bn_cX11_trace_0 dop_153 12 12 (by decide +kernel)
theorem dX11_trace_14 : decode cX11_trace 14 = .ok (.aload_n 0, 1) := dR0 (k := 0) (i := 14) bn_cX11_trace_0 dop_42 (by decide +kernel)
theorem dX11_trace_15 : decode cX11_trace 15 = .ok (.getfield 31, 3) := dR2 (f := Instr.getfield) (k := 0) (i := 15) bn_cX11_trace_0 dop_180 31 (by decide +kernel)
theorem dX11_trace_18 : decode cX11_trace 18 = .ok (.iload_n 1, 1) := dR0 (k := 0) (i := 18) bn_cX11_trace_0 dop_27 (by decide +kernel)
theorem dX11_trace_19 : decode cX11_trace 19 = .ok (.iaload, 1) := dR0 (k := 0) (i := 19) bn_cX11_trace_0 dop_46 (by decide +kernel)
theorem dX11_trace_20 : decode cX11_trace 20 = .ok (.goto 9, 3) := dR2s (f := Instr.goto) (k := 0) (i := 20) bn_cX11_trace_0 dop_167 9 9 (by decide +kernel)
theorem dX11_trace_23 : decode cX11_trace 23 = .ok (.aload_n 0, 1) := dR0 (k := 0) (i := 23) bn_cX11_trace_0 dop_42 (by decide +kernel)
theorem dX11_trace_24 : decode cX11_trace 24 = .ok (.ldc 114, 2) := dR1 (f := Instr.ldc) (k := 0) (i := 24) bn_cX11_trace_0 dop_18 114 (by decide +kernel)
theorem dX11_trace_26 : decode cX11_trace 26 = .ok (.invokevirtual 64, 3) := dR2 (f := Instr.invokevirtual) (k := 0) (i := 26) bn_cX11_trace_0 dop_182 64 (by decide +kernel)
theorem dX11_trace_29 : decode cX11_trace 29 = .ok (.ireturn, 1) := dR0 (k := 0) (i := 29) bn_cX11_trace_0 dop_172 (by decide +kernel)
set_option maxHeartbeats 4000000 in
set_option maxRecDepth 100000 in
theorem c_X11_traceG (l : Launch) (D : va_G) (cI : ClassId) (aK aV : Nat → Nat) (k k0 k1 k2 k4 k5 k6 k7 k8 ka kb kl ko : Nat) (sz : Nat) (c3 : Int32) (c9 : Int32) (cc : Int32) (cd : Int32) (ce : Int32) (cf : Int32) (cg : Int32) (ch : Int32) (ci : Int32) (cj : Int32) (ck : Int32) (cm : Int32) (cn : Int32) (c4 : Nat → Int32) (c8 : Nat → Int32) (a0 : Int32) (pre0 : 0 ≤ c9.toInt) (pre1 : c9.toInt ≤ 40) : Met l yX11_trace (gW yX11_trace cX11_trace 2 (some .int)) ({ frames := 1, cells := 0, slots := 0, locals := 22 } : Room) (kPreX D cI aK aV [.ref k, .int a0] [(k, .inr (11, [.ref k0, .ref k1, .ref k2, .int c3, .ref k4, .ref k5, .ref k6, .ref k7, .ref k8, .int c9, .ref ka, .ref kb, .int cc, .int cd, .int ce, .int cf, .int cg, .int ch, .int ci, .int cj, .int ck, .ref kl, .int cm, .int cn, .ref ko])), (k4, .inl (cI, 6, .inl c4)), (k8, .inl (cI, 40, .inl c8))] sz) (va_Qi (fun (r : Int32) (u : (Nat → Int32)) => True) (fun u t => kWd D cI (va_A [(k, .inr (11, [.ref k0, .ref k1, .ref k2, .int c3, .ref k4, .ref k5, .ref k6, .ref k7, .ref k8, .int c9, .ref ka, .ref kb, .int cc, .int cd, .int ce, .int cf, .int cg, .int ch, .int ci, .int cj, .int ck, .ref kl, .int cm, .int cn, .ref ko])), (k4, .inl (cI, 6, .inl c4)), (k8, .inl (cI, 40, .inl c8))] sz) [(k, .inr (11, [.ref k0, .ref k1, .ref k2, .int c3, .ref k4, .ref k5, .ref k6, .ref k7, .ref k8, .int c9, .ref ka, .ref kb, .int cc, .int cd, .int ce, .int cf, .int cg, .int ch, .int ci, .int cj, .int ck, .ref kl, .int cm, .int cn, .ref ko])), (k4, .inl (cI, 6, .inl u)), (k8, .inl (cI, 40, .inl c8))] t) (va_A [(k, .inr (11, [.ref k0, .ref k1, .ref k2, .int c3, .ref k4, .ref k5, .ref k6, .ref k7, .ref k8, .int c9, .ref ka, .ref kb, .int cc, .int cd, .int ce, .int cf, .int cg, .int ch, .int ci, .int cj, .int ck, .ref kl, .int cm, .int cn, .ref ko])), (k4, .inl (cI, 6, .inl c4)), (k8, .inl (cI, 40, .inl c8))] sz)) 0 0 (va_A [(k, .inr (11, [.ref k0, .ref k1, .ref k2, .int c3, .ref k4, .ref k5, .ref k6, .ref k7, .ref k8, .int c9, .ref ka, .ref kb, .int cc, .int cd, .int ce, .int cf, .int cg, .int ch, .int ci, .int cj, .int ck, .ref kl, .int cm, .int cn, .ref ko])), (k4, .inl (cI, 6, .inl c4)), (k8, .inl (cI, 40, .inl c8))] sz) := by
  refine kMetIX (own := RX11) (by decide +kernel) rfl (Nat.le_of_ble_eq_true rfl) ?_
  intro p e s m args below meth c hx hb hT hown hname hml A Q hK hP hD hS hA hN hXS hRet ls hl
  have hl : lv_has ls 2 [(0, .ref k), (1, .int a0)] := hl
  have lo_a0 := k_lo a0
  have hi_a0 := k_hi a0
  have lo_c9 := k_lo c9
  have hi_c9 := k_hi c9
  have lo_ci := k_lo ci
  have hi_ci := k_hi ci
  refine lv_iload_n hx hb dX11_trace_0 rfl (lv_at hl 1 rfl) ?_
  refine lv_iconst (v := 0) hx hb dX11_trace_1 (by decide +kernel) ?_
  refine lv_aload_n hx hb dX11_trace_2 rfl (lv_at hl 0 rfl) ?_
  refine va_get (D := D) (ci := 11) (v := .int c9) (C := RX11) (T := TX11) (N := 25) hx hb hT giX11 hown hK hP 0 rfl rfl 9 (by decide +kernel) (hT (Cond.fieldLink RX11 267 "DesertWireModel" "traces" "I") mw_1165) (fun _ h9 => h9) rfl dX11_trace_3 ?_
  refine lv_iconst (v := 1) hx hb dX11_trace_6 (by decide +kernel) ?_
  refine lv_isub hx hb dX11_trace_7 ?_
  refine lv_topi (fun v_1 ev_1 => ?_)
  have tv_1 : v_1.toInt = c9.toInt - 1 := by rw [ev_1]; exact k_subv rfl zl_1 (by omega) (by omega)
  refine kJi (wr := [(k, .inr (11, [.ref k0, .ref k1, .ref k2, .int c3, .ref k4, .ref k5, .ref k6, .ref k7, .ref k8, .int c9, .ref ka, .ref kb, .int cc, .int cd, .int ce, .int cf, .int cg, .int ch, .int ci, .int cj, .int ck, .ref kl, .int cm, .int cn, .ref ko])), (k4, .inl (cI, 6, .inl c4)), (k8, .inl (cI, 40, .inl c8))]) (va_runS (As := [.int a0, .int 0, .int v_1]) (rest := []) ⟨hx, hb, hml, hown, hT⟩ (c_X11_inG l D cI aK aV s.heap.size a0 0 v_1) (cwS 3 hT (gS_in mw_1238 mw_1236 mw_1237 mw_12) rfl rfl rfl (by decide +kernel) ⟨Nat.le_of_ble_eq_true rfl, Nat.le_of_ble_eq_true rfl⟩) (kStatX hK hP hD hN hXS hS hA [] rfl (by decide +kernel)) rfl rfl hl.1 rfl (lv_room (Nat.le_of_ble_eq_true rfl)) dX11_trace_8 ⟨Nat.le_of_ble_eq_true rfl, Nat.le_of_ble_eq_true rfl⟩) hP hD hS hA [] [0, 1, 2] rfl rfl (by decide +kernel) (by decide +kernel) ?_
  clear hP hD hS
  intro r_2 u_4 H locs w_3 hP hD hS
  replace hP : va_P D vwCl [(k, .inr (11, [.ref k0, .ref k1, .ref k2, .int c3, .ref k4, .ref k5, .ref k6, .ref k7, .ref k8, .int c9, .ref ka, .ref kb, .int cc, .int cd, .int ce, .int cf, .int cg, .int ch, .int ci, .int cj, .int ck, .ref kl, .int cm, .int cn, .ref ko])), (k4, .inl (cI, 6, .inl c4)), (k8, .inl (cI, 40, .inl c8))] H := hP
  replace hD : va_D A [(k, .inr (11, [.ref k0, .ref k1, .ref k2, .int c3, .ref k4, .ref k5, .ref k6, .ref k7, .ref k8, .int c9, .ref ka, .ref kb, .int cc, .int cd, .int ce, .int cf, .int cg, .int ch, .int ci, .int cj, .int ck, .ref kl, .int cm, .int cn, .ref ko])), (k4, .inl (cI, 6, .inl c4)), (k8, .inl (cI, 40, .inl c8))] := hD
  rcases w_3 with ⟨hr_2, h_5, h_6⟩ | ⟨hr_2, h_7⟩
  · try simp only [zl_0] at h_5
    have h_5 : 0 ≤ a0.toInt := h_5
    try simp only [zl_0] at h_6
    have h_6 : a0.toInt ≤ v_1.toInt := h_6
    obtain rfl : r_2 = 1 := hr_2.trans (by decide +kernel)
    refine b_if_eq hx hb zl_1 (tgt := 23) dX11_trace_11 (by decide +kernel) (fun c_8 => by exfalso; omega) (fun c_8 => ?_)
    refine lv_aload_n hx hb dX11_trace_14 rfl (lv_at hl 0 rfl) ?_
    refine va_get (D := D) (ci := 11) (v := .ref k8) (C := RX11) (T := TX11) (N := 25) hx hb hT giX11 hown hK hP 0 rfl rfl 8 (by decide +kernel) (hT (Cond.fieldLink RX11 31 "DesertWireModel" "traced" "[I") mw_1164) (fun _ h9 => h9) rfl dX11_trace_15 ?_
    refine lv_iload_n hx hb dX11_trace_18 rfl (lv_at hl 1 rfl) ?_
    refine k_iald (v := (c8 a0.toNatClampNeg)) hx hb hK hP 2 0 rfl rfl (k_in (by omega) (by omega)) rfl dX11_trace_19 ?_
    refine lv_topi (fun v_9 ev_9 => ?_)
    have lo_v_9 := k_lo v_9
    have hi_v_9 := k_hi v_9
    have tv_9 : v_9.toInt = (c8 a0.toNatClampNeg).toInt := by rw [ev_9]
    refine lv_goto (tgt := 29) hx hb dX11_trace_20 (by decide +kernel) ?_
    exact hRet c4 [0, 1, 2] trivial hP hD (by decide +kernel) rfl hS rfl dX11_trace_29
  · try simp only [zl_0] at h_7
    have h_7 : a0.toInt < 0 ∨ v_1.toInt < a0.toInt := h_7
    obtain rfl : r_2 = 0 := hr_2.trans (by decide +kernel)
    refine b_if_eq hx hb zl_0 (tgt := 23) dX11_trace_11 (by decide +kernel) (fun c_10 => ?_) (fun c_10 => by exfalso; omega)
    refine lv_aload_n hx hb dX11_trace_23 rfl (lv_at hl 0 rfl) ?_
    refine lv_ldc (v := (-1000002)) hx hb hown (hT _ mw_1392) dX11_trace_24 ?_
    refine kJi (wr := [(k8, .inl (cI, 40, .inl c8))]) (va_runV (As := [.int (-1000002)]) (rest := []) ⟨hx, hb, hml, hown, hT⟩ (c_X11_findingG l D cI aK aV k k0 k1 k2 k4 k5 k6 k7 k8 ka kb kl ko H.size c3 c9 cc cd ce cf cg ch ci cj ck cm cn c4 (-1000002) (by first | omega | (simp only [zl_m1000002]; first | done | omega) | decide | assumption | rfl) (by first | omega | (simp only [zl_m1000002]; first | done | omega) | decide | assumption | rfl)) (cwV 1 hT (gV_in mw_1243 mw_1240 mw_1242 mw_p3_8 mw_12) rfl rfl rfl (by decide +kernel) ⟨Nat.le_of_ble_eq_true rfl, Nat.le_of_ble_eq_true rfl⟩) (kRecvX (q0 := 0) (ci := 11) hK hP hD hN hXS hS hA rfl rfl [0, 1] rfl (by decide +kernel)) rfl rfl hl.1 rfl (lv_room (Nat.le_of_ble_eq_true rfl)) dX11_trace_26 ⟨Nat.le_of_ble_eq_true rfl, Nat.le_of_ble_eq_true rfl⟩) hP hD hS hA [0, 1] [2] rfl rfl (by decide +kernel) (by decide +kernel) ?_
    clear hP hD hS
    intro r_11 sc4_13 H locs w_12 hP hD hS
    replace hP : va_P D vwCl [(k8, .inl (cI, 40, .inl c8)), (k, .inr (11, [.ref k0, .ref k1, .ref k2, .int c3, .ref k4, .ref k5, .ref k6, .ref k7, .ref k8, .int c9, .ref ka, .ref kb, .int cc, .int cd, .int ce, .int cf, .int cg, .int ch, .int ci, .int cj, .int ck, .ref kl, .int cm, .int cn, .ref ko])), (k4, .inl (cI, 6, .inl sc4_13))] H := hP
    replace hD : va_D A [(k8, .inl (cI, 40, .inl c8)), (k, .inr (11, [.ref k0, .ref k1, .ref k2, .int c3, .ref k4, .ref k5, .ref k6, .ref k7, .ref k8, .int c9, .ref ka, .ref kb, .int cc, .int cd, .int ce, .int cf, .int cg, .int ch, .int ci, .int cj, .int ck, .ref kl, .int cm, .int cn, .ref ko])), (k4, .inl (cI, 6, .inl sc4_13))] := hD
    have hr_11 := w_12
    obtain rfl : r_11 = (-1000002) := hr_11.trans (by decide +kernel)
    exact hRet sc4_13 [1, 2, 0] trivial hP hD (by decide +kernel) rfl hS rfl dX11_trace_29
theorem bn_cX11_sheet_0 : BN cX11_sheet 0 0xad02baa00a8010150a50021840a16348704a110e8056a2b0b8054625088142c051b810a01e02805500404005361d0e06802b5159403a1c0b8056a2b5690402b72004c560b00a944a110f044029a0eab482015b97c262b058053a1e07805341d5690402b72004c560b00a8042110e84402a0088443a1700a8012110e874029a0e868029a38005721c := by
  unfold BN; decide +kernel
theorem dX11_sheet_0 : decode cX11_sheet 0 = .ok (.iload_n 1, 1) := dR0 (k := 0) (i := 0) bn_cX11_sheet_0 dop_27 (by decide +kernel)
theorem dX11_sheet_1 : decode cX11_sheet 1 = .ok (.invokestatic 111, 3) := dR2 (f := Instr.invokestatic) (k := 0) (i := 1) bn_cX11_sheet_0 dop_184 111 (by decide +kernel)
theorem dX11_sheet_4 : decode cX11_sheet 4 = .ok (.ifCond .eq 25, 3) := dR2s (f := Instr.ifCond .eq) (k := 0) (i := 4) bn_cX11_sheet_0 dop_153 25 25 (by decide +kernel)
theorem dX11_sheet_7 : decode cX11_sheet 7 = .ok (.iload_n 2, 1) := dR0 (k := 0) (i := 7) bn_cX11_sheet_0 dop_28 (by decide +kernel)
theorem dX11_sheet_8 : decode cX11_sheet 8 = .ok (.ifCond .eq 28, 3) := dR2s (f := Instr.ifCond .eq) (k := 0) (i := 8) bn_cX11_sheet_0 dop_153 28 28 (by decide +kernel)
theorem dX11_sheet_11 : decode cX11_sheet 11 = .ok (.iload_n 2, 1) := dR0 (k := 0) (i := 11) bn_cX11_sheet_0 dop_28 (by decide +kernel)
theorem dX11_sheet_12 : decode cX11_sheet 12 = .ok (.bipush 8, 2) := dR1s (f := Instr.bipush) (k := 0) (i := 12) bn_cX11_sheet_0 dop_16 8 8 (by decide +kernel)
theorem dX11_sheet_14 : decode cX11_sheet 14 = .ok (.if_icmp .eq 22, 3) := dR2s (f := Instr.if_icmp .eq) (k := 0) (i := 14) bn_cX11_sheet_0 dop_159 22 22 (by decide +kernel)
theorem dX11_sheet_17 : decode cX11_sheet 17 = .ok (.iload_n 2, 1) := dR0 (k := 0) (i := 17) bn_cX11_sheet_0 dop_28 (by decide +kernel)
theorem dX11_sheet_18 : decode cX11_sheet 18 = .ok (.bipush 16, 2) := dR1s (f := Instr.bipush) (k := 0) (i := 18) bn_cX11_sheet_0 dop_16 16 16 (by decide +kernel)
theorem dX11_sheet_20 : decode cX11_sheet 20 = .ok (.if_icmp .eq 16, 3) := dR2s (f := Instr.if_icmp .eq) (k := 0) (i := 20) bn_cX11_sheet_0 dop_159 16 16 (by decide +kernel)
theorem dX11_sheet_23 : decode cX11_sheet 23 = .ok (.iload_n 2, 1) := dR0 (k := 0) (i := 23) bn_cX11_sheet_0 dop_28 (by decide +kernel)
theorem dX11_sheet_24 : decode cX11_sheet 24 = .ok (.bipush 32, 2) := dR1s (f := Instr.bipush) (k := 0) (i := 24) bn_cX11_sheet_0 dop_16 32 32 (by decide +kernel)
theorem dX11_sheet_26 : decode cX11_sheet 26 = .ok (.if_icmp .eq 10, 3) := dR2s (f := Instr.if_icmp .eq) (k := 0) (i := 26) bn_cX11_sheet_0 dop_159 10 10 (by decide +kernel)
theorem dX11_sheet_29 : decode cX11_sheet 29 = .ok (.aload_n 0, 1) := dR0 (k := 0) (i := 29) bn_cX11_sheet_0 dop_42 (by decide +kernel)
theorem dX11_sheet_30 : decode cX11_sheet 30 = .ok (.ldc 63, 2) := dR1 (f := Instr.ldc) (k := 0) (i := 30) bn_cX11_sheet_0 dop_18 63 (by decide +kernel)
theorem dX11_sheet_32 : decode cX11_sheet 32 = .ok (.invokevirtual 64, 3) := dR2 (f := Instr.invokevirtual) (k := 0) (i := 32) bn_cX11_sheet_0 dop_182 64 (by decide +kernel)
theorem dX11_sheet_35 : decode cX11_sheet 35 = .ok (.ireturn, 1) := dR0 (k := 0) (i := 35) bn_cX11_sheet_0 dop_172 (by decide +kernel)
theorem dX11_sheet_36 : decode cX11_sheet 36 = .ok (.iload_n 2, 1) := dR0 (k := 0) (i := 36) bn_cX11_sheet_0 dop_28 (by decide +kernel)
theorem dX11_sheet_37 : decode cX11_sheet 37 = .ok (.ifCond .eq 14, 3) := dR2s (f := Instr.ifCond .eq) (k := 0) (i := 37) bn_cX11_sheet_0 dop_153 14 14 (by decide +kernel)
theorem dX11_sheet_40 : decode cX11_sheet 40 = .ok (.iload_n 3, 1) := dR0 (k := 0) (i := 40) bn_cX11_sheet_0 dop_29 (by decide +kernel)
theorem dX11_sheet_41 : decode cX11_sheet 41 = .ok (.ifCond .ge 10, 3) := dR2s (f := Instr.ifCond .ge) (k := 0) (i := 41) bn_cX11_sheet_0 dop_156 10 10 (by decide +kernel)
theorem dX11_sheet_44 : decode cX11_sheet 44 = .ok (.aload_n 0, 1) := dR0 (k := 0) (i := 44) bn_cX11_sheet_0 dop_42 (by decide +kernel)
theorem dX11_sheet_45 : decode cX11_sheet 45 = .ok (.ldc 94, 2) := dR1 (f := Instr.ldc) (k := 0) (i := 45) bn_cX11_sheet_0 dop_18 94 (by decide +kernel)
theorem dX11_sheet_47 : decode cX11_sheet 47 = .ok (.invokevirtual 64, 3) := dR2 (f := Instr.invokevirtual) (k := 0) (i := 47) bn_cX11_sheet_0 dop_182 64 (by decide +kernel)
theorem dX11_sheet_50 : decode cX11_sheet 50 = .ok (.ireturn, 1) := dR0 (k := 0) (i := 50) bn_cX11_sheet_0 dop_172 (by decide +kernel)
theorem dX11_sheet_51 : decode cX11_sheet 51 = .ok (.iload_n 2, 1) := dR0 (k := 0) (i := 51) bn_cX11_sheet_0 dop_28 (by decide +kernel)
theorem dX11_sheet_52 : decode cX11_sheet 52 = .ok (.ifCond .eq 16, 3) := dR2s (f := Instr.ifCond .eq) (k := 0) (i := 52) bn_cX11_sheet_0 dop_153 16 16 (by decide +kernel)
theorem dX11_sheet_55 : decode cX11_sheet 55 = .ok (.iload_n 3, 1) := dR0 (k := 0) (i := 55) bn_cX11_sheet_0 dop_29 (by decide +kernel)
theorem dX11_sheet_56 : decode cX11_sheet 56 = .ok (.bipush 36, 2) := dR1s (f := Instr.bipush) (k := 0) (i := 56) bn_cX11_sheet_0 dop_16 36 36 (by decide +kernel)
theorem dX11_sheet_58 : decode cX11_sheet 58 = .ok (.if_icmp .le 10, 3) := dR2s (f := Instr.if_icmp .le) (k := 0) (i := 58) bn_cX11_sheet_0 dop_164 10 10 (by decide +kernel)
theorem dX11_sheet_61 : decode cX11_sheet 61 = .ok (.aload_n 0, 1) := dR0 (k := 0) (i := 61) bn_cX11_sheet_0 dop_42 (by decide +kernel)
theorem dX11_sheet_62 : decode cX11_sheet 62 = .ok (.ldc 63, 2) := dR1 (f := Instr.ldc) (k := 0) (i := 62) bn_cX11_sheet_0 dop_18 63 (by decide +kernel)
theorem dX11_sheet_64 : decode cX11_sheet 64 = .ok (.invokevirtual 64, 3) := dR2 (f := Instr.invokevirtual) (k := 0) (i := 64) bn_cX11_sheet_0 dop_182 64 (by decide +kernel)
theorem dX11_sheet_67 : decode cX11_sheet 67 = .ok (.ireturn, 1) := dR0 (k := 0) (i := 67) bn_cX11_sheet_0 dop_172 (by decide +kernel)
theorem dX11_sheet_68 : decode cX11_sheet 68 = .ok (.aload_n 0, 1) := dR0 (k := 0) (i := 68) bn_cX11_sheet_0 dop_42 (by decide +kernel)
theorem dX11_sheet_69 : decode cX11_sheet 69 = .ok (.getfield 22, 3) := dR2 (f := Instr.getfield) (k := 0) (i := 69) bn_cX11_sheet_0 dop_180 22 (by decide +kernel)
theorem dX11_sheet_72 : decode cX11_sheet 72 = .ok (.iload_n 1, 1) := dR0 (k := 0) (i := 72) bn_cX11_sheet_0 dop_27 (by decide +kernel)
theorem dX11_sheet_73 : decode cX11_sheet 73 = .ok (.iload_n 2, 1) := dR0 (k := 0) (i := 73) bn_cX11_sheet_0 dop_28 (by decide +kernel)
theorem dX11_sheet_74 : decode cX11_sheet 74 = .ok (.iastore, 1) := dR0 (k := 0) (i := 74) bn_cX11_sheet_0 dop_79 (by decide +kernel)
theorem dX11_sheet_75 : decode cX11_sheet 75 = .ok (.aload_n 0, 1) := dR0 (k := 0) (i := 75) bn_cX11_sheet_0 dop_42 (by decide +kernel)
theorem dX11_sheet_76 : decode cX11_sheet 76 = .ok (.getfield 25, 3) := dR2 (f := Instr.getfield) (k := 0) (i := 76) bn_cX11_sheet_0 dop_180 25 (by decide +kernel)
theorem dX11_sheet_79 : decode cX11_sheet 79 = .ok (.iload_n 1, 1) := dR0 (k := 0) (i := 79) bn_cX11_sheet_0 dop_27 (by decide +kernel)
theorem dX11_sheet_80 : decode cX11_sheet 80 = .ok (.iload_n 2, 1) := dR0 (k := 0) (i := 80) bn_cX11_sheet_0 dop_28 (by decide +kernel)
theorem dX11_sheet_81 : decode cX11_sheet 81 = .ok (.ifCond .ne 7, 3) := dR2s (f := Instr.ifCond .ne) (k := 0) (i := 81) bn_cX11_sheet_0 dop_154 7 7 (by decide +kernel)
theorem dX11_sheet_84 : decode cX11_sheet 84 = .ok (.iconst 0, 1) := dR0 (k := 0) (i := 84) bn_cX11_sheet_0 dop_3 (by decide +kernel)
theorem dX11_sheet_85 : decode cX11_sheet 85 = .ok (.goto 4, 3) := dR2s (f := Instr.goto) (k := 0) (i := 85) bn_cX11_sheet_0 dop_167 4 4 (by decide +kernel)
theorem dX11_sheet_88 : decode cX11_sheet 88 = .ok (.iload_n 3, 1) := dR0 (k := 0) (i := 88) bn_cX11_sheet_0 dop_29 (by decide +kernel)
theorem dX11_sheet_89 : decode cX11_sheet 89 = .ok (.iastore, 1) := dR0 (k := 0) (i := 89) bn_cX11_sheet_0 dop_79 (by decide +kernel)
theorem dX11_sheet_90 : decode cX11_sheet 90 = .ok (.iconst 0, 1) := dR0 (k := 0) (i := 90) bn_cX11_sheet_0 dop_3 (by decide +kernel)
theorem dX11_sheet_91 : decode cX11_sheet 91 = .ok (.istore 4, 2) := dR1 (f := Instr.istore) (k := 0) (i := 91) bn_cX11_sheet_0 dop_54 4 (by decide +kernel)
theorem dX11_sheet_93 : decode cX11_sheet 93 = .ok (.iload 4, 2) := dR1 (f := Instr.iload) (k := 0) (i := 93) bn_cX11_sheet_0 dop_21 4 (by decide +kernel)
theorem dX11_sheet_95 : decode cX11_sheet 95 = .ok (.bipush 36, 2) := dR1s (f := Instr.bipush) (k := 0) (i := 95) bn_cX11_sheet_0 dop_16 36 36 (by decide +kernel)
theorem dX11_sheet_97 : decode cX11_sheet 97 = .ok (.if_icmp .ge 22, 3) := dR2s (f := Instr.if_icmp .ge) (k := 0) (i := 97) bn_cX11_sheet_0 dop_162 22 22 (by decide +kernel)
theorem dX11_sheet_100 : decode cX11_sheet 100 = .ok (.aload_n 0, 1) := dR0 (k := 0) (i := 100) bn_cX11_sheet_0 dop_42 (by decide +kernel)
theorem dX11_sheet_101 : decode cX11_sheet 101 = .ok (.getfield 28, 3) := dR2 (f := Instr.getfield) (k := 0) (i := 101) bn_cX11_sheet_0 dop_180 28 (by decide +kernel)
theorem dX11_sheet_104 : decode cX11_sheet 104 = .ok (.bipush 36, 2) := dR1s (f := Instr.bipush) (k := 0) (i := 104) bn_cX11_sheet_0 dop_16 36 36 (by decide +kernel)
theorem dX11_sheet_106 : decode cX11_sheet 106 = .ok (.iload_n 1, 1) := dR0 (k := 0) (i := 106) bn_cX11_sheet_0 dop_27 (by decide +kernel)
theorem dX11_sheet_107 : decode cX11_sheet 107 = .ok (.imul, 1) := dR0 (k := 0) (i := 107) bn_cX11_sheet_0 dop_104 (by decide +kernel)
theorem dX11_sheet_108 : decode cX11_sheet 108 = .ok (.iload 4, 2) := dR1 (f := Instr.iload) (k := 0) (i := 108) bn_cX11_sheet_0 dop_21 4 (by decide +kernel)
theorem dX11_sheet_110 : decode cX11_sheet 110 = .ok (.iadd, 1) := dR0 (k := 0) (i := 110) bn_cX11_sheet_0 dop_96 (by decide +kernel)
theorem dX11_sheet_111 : decode cX11_sheet 111 = .ok (.iconst 0, 1) := dR0 (k := 0) (i := 111) bn_cX11_sheet_0 dop_3 (by decide +kernel)
theorem dX11_sheet_112 : decode cX11_sheet 112 = .ok (.iastore, 1) := dR0 (k := 0) (i := 112) bn_cX11_sheet_0 dop_79 (by decide +kernel)
theorem dX11_sheet_113 : decode cX11_sheet 113 = .ok (.iinc 4 1, 3) := dRii (f := Instr.iinc) (k := 0) (i := 113) bn_cX11_sheet_0 dop_132 4 1 1 (by decide +kernel)
theorem dX11_sheet_116 : decode cX11_sheet 116 = .ok (.goto (-23), 3) := dR2s (f := Instr.goto) (k := 0) (i := 116) bn_cX11_sheet_0 dop_167 65513 (-23) (by decide +kernel)
theorem dX11_sheet_119 : decode cX11_sheet 119 = .ok (.iconst 1, 1) := dR0 (k := 0) (i := 119) bn_cX11_sheet_0 dop_4 (by decide +kernel)
theorem dX11_sheet_120 : decode cX11_sheet 120 = .ok (.ireturn, 1) := dR0 (k := 0) (i := 120) bn_cX11_sheet_0 dop_172 (by decide +kernel)
set_option maxHeartbeats 4000000 in
set_option maxRecDepth 100000 in
theorem c_X11_sheetG (l : Launch) (D : va_G) (cI : ClassId) (aK aV : Nat → Nat) (k k0 k1 k2 k4 k5 k6 k7 k8 ka kb kl ko : Nat) (sz : Nat) (c3 : Int32) (c9 : Int32) (cc : Int32) (cd : Int32) (ce : Int32) (cf : Int32) (cg : Int32) (ch : Int32) (ci : Int32) (cj : Int32) (ck : Int32) (cm : Int32) (cn : Int32) (c4 : Nat → Int32) (c5 : Nat → Int32) (c6 : Nat → Int32) (c7 : Nat → Int32) (a0 : Int32) (a1 : Int32) (a2 : Int32) (pre0 : ∀ k : Nat, k < 4 → 0 ≤ (c6 k).toInt ∧ (c6 k).toInt ≤ 36) : Met l yX11_sheet (gW yX11_sheet cX11_sheet 5 (some .int)) ({ frames := 2, cells := 0, slots := 0, locals := 42 } : Room) (kPreX D cI aK aV [.ref k, .int a0, .int a1, .int a2] [(k, .inr (11, [.ref k0, .ref k1, .ref k2, .int c3, .ref k4, .ref k5, .ref k6, .ref k7, .ref k8, .int c9, .ref ka, .ref kb, .int cc, .int cd, .int ce, .int cf, .int cg, .int ch, .int ci, .int cj, .int ck, .ref kl, .int cm, .int cn, .ref ko])), (k4, .inl (cI, 6, .inl c4)), (k5, .inl (cI, 4, .inl c5)), (k6, .inl (cI, 4, .inl c6)), (k7, .inl (cI, 144, .inl c7))] sz) (va_Qi (fun (r : Int32) (u : (Nat → Int32) × (Nat → Int32) × (Nat → Int32) × (Nat → Int32)) => r = sp_sheet a0 a1 a2 ∧ u.2.1 = shB c5 a0 a1 a2 a1 ∧ u.2.2.1 = shB c6 a0 a1 a2 (shD a1 a2) ∧ u.2.2.2 = shN c7 a0 a1 a2 ∧ (∀ k : Nat, k < 4 → 0 ≤ (u.2.2.1 k).toInt ∧ (u.2.2.1 k).toInt ≤ 36)) (fun u t => kWd D cI (va_A [(k, .inr (11, [.ref k0, .ref k1, .ref k2, .int c3, .ref k4, .ref k5, .ref k6, .ref k7, .ref k8, .int c9, .ref ka, .ref kb, .int cc, .int cd, .int ce, .int cf, .int cg, .int ch, .int ci, .int cj, .int ck, .ref kl, .int cm, .int cn, .ref ko])), (k4, .inl (cI, 6, .inl c4)), (k5, .inl (cI, 4, .inl c5)), (k6, .inl (cI, 4, .inl c6)), (k7, .inl (cI, 144, .inl c7))] sz) [(k, .inr (11, [.ref k0, .ref k1, .ref k2, .int c3, .ref k4, .ref k5, .ref k6, .ref k7, .ref k8, .int c9, .ref ka, .ref kb, .int cc, .int cd, .int ce, .int cf, .int cg, .int ch, .int ci, .int cj, .int ck, .ref kl, .int cm, .int cn, .ref ko])), (k4, .inl (cI, 6, .inl u.1)), (k5, .inl (cI, 4, .inl u.2.1)), (k6, .inl (cI, 4, .inl u.2.2.1)), (k7, .inl (cI, 144, .inl u.2.2.2))] t) (va_A [(k, .inr (11, [.ref k0, .ref k1, .ref k2, .int c3, .ref k4, .ref k5, .ref k6, .ref k7, .ref k8, .int c9, .ref ka, .ref kb, .int cc, .int cd, .int ce, .int cf, .int cg, .int ch, .int ci, .int cj, .int ck, .ref kl, .int cm, .int cn, .ref ko])), (k4, .inl (cI, 6, .inl c4)), (k5, .inl (cI, 4, .inl c5)), (k6, .inl (cI, 4, .inl c6)), (k7, .inl (cI, 144, .inl c7))] sz)) 0 0 (va_A [(k, .inr (11, [.ref k0, .ref k1, .ref k2, .int c3, .ref k4, .ref k5, .ref k6, .ref k7, .ref k8, .int c9, .ref ka, .ref kb, .int cc, .int cd, .int ce, .int cf, .int cg, .int ch, .int ci, .int cj, .int ck, .ref kl, .int cm, .int cn, .ref ko])), (k4, .inl (cI, 6, .inl c4)), (k5, .inl (cI, 4, .inl c5)), (k6, .inl (cI, 4, .inl c6)), (k7, .inl (cI, 144, .inl c7))] sz) := by
  refine kMetIX (own := RX11) (by decide +kernel) rfl (Nat.le_of_ble_eq_true rfl) ?_
  intro p e s m args below meth c hx hb hT hown hname hml A Q hK hP hD hS hA hN hXS hRet ls hl
  have hl : lv_has ls 5 [(0, .ref k), (1, .int a0), (2, .int a1), (3, .int a2)] := hl
  have lo_a0 := k_lo a0
  have hi_a0 := k_hi a0
  have lo_a1 := k_lo a1
  have hi_a1 := k_hi a1
  have lo_a2 := k_lo a2
  have hi_a2 := k_hi a2
  have lo_ci := k_lo ci
  have hi_ci := k_hi ci
  refine lv_iload_n hx hb dX11_sheet_0 rfl (lv_at hl 1 rfl) ?_
  refine kJi (wr := [(k, .inr (11, [.ref k0, .ref k1, .ref k2, .int c3, .ref k4, .ref k5, .ref k6, .ref k7, .ref k8, .int c9, .ref ka, .ref kb, .int cc, .int cd, .int ce, .int cf, .int cg, .int ch, .int ci, .int cj, .int ck, .ref kl, .int cm, .int cn, .ref ko])), (k4, .inl (cI, 6, .inl c4)), (k5, .inl (cI, 4, .inl c5)), (k6, .inl (cI, 4, .inl c6)), (k7, .inl (cI, 144, .inl c7))]) (va_runS (As := [.int a0]) (rest := []) ⟨hx, hb, hml, hown, hT⟩ (c_X11_isSheetG l D cI aK aV s.heap.size a0) (cwS 1 hT (gS_in mw_1391 mw_1389 mw_1390 mw_12) rfl rfl rfl (by decide +kernel) ⟨Nat.le_of_ble_eq_true rfl, Nat.le_of_ble_eq_true rfl⟩) (kStatX hK hP hD hN hXS hS hA [] rfl (by decide +kernel)) rfl rfl hl.1 rfl (lv_room (Nat.le_of_ble_eq_true rfl)) dX11_sheet_1 ⟨Nat.le_of_ble_eq_true rfl, Nat.le_of_ble_eq_true rfl⟩) hP hD hS hA [] [0, 1, 2, 3, 4] rfl rfl (by decide +kernel) (by decide +kernel) ?_
  clear hP hD hS
  intro r_1 u_3 H locs w_2 hP hD hS
  replace hP : va_P D vwCl [(k, .inr (11, [.ref k0, .ref k1, .ref k2, .int c3, .ref k4, .ref k5, .ref k6, .ref k7, .ref k8, .int c9, .ref ka, .ref kb, .int cc, .int cd, .int ce, .int cf, .int cg, .int ch, .int ci, .int cj, .int ck, .ref kl, .int cm, .int cn, .ref ko])), (k4, .inl (cI, 6, .inl c4)), (k5, .inl (cI, 4, .inl c5)), (k6, .inl (cI, 4, .inl c6)), (k7, .inl (cI, 144, .inl c7))] H := hP
  replace hD : va_D A [(k, .inr (11, [.ref k0, .ref k1, .ref k2, .int c3, .ref k4, .ref k5, .ref k6, .ref k7, .ref k8, .int c9, .ref ka, .ref kb, .int cc, .int cd, .int ce, .int cf, .int cg, .int ch, .int ci, .int cj, .int ck, .ref kl, .int cm, .int cn, .ref ko])), (k4, .inl (cI, 6, .inl c4)), (k5, .inl (cI, 4, .inl c5)), (k6, .inl (cI, 4, .inl c6)), (k7, .inl (cI, 144, .inl c7))] := hD
  rcases w_2 with ⟨hr_1, h_4, h_5⟩ | ⟨hr_1, h_6⟩
  · have h_4 : 0 ≤ a0.toInt := h_4
    have h_5 : a0.toInt ≤ 3 := h_5
    obtain rfl : r_1 = 1 := hr_1.trans (by decide +kernel)
    refine b_if_eq hx hb zl_1 (tgt := 29) dX11_sheet_4 (by decide +kernel) (fun c_7 => by exfalso; omega) (fun c_7 => ?_)
    refine lv_iload_n hx hb dX11_sheet_7 rfl (lv_at hl 2 rfl) ?_
    refine b_if_eq hx hb rfl (tgt := 36) dX11_sheet_8 (by decide +kernel) (fun c_8 => ?_) (fun c_8 => ?_)
    · refine lv_iload_n hx hb dX11_sheet_36 rfl (lv_at hl 2 rfl) ?_
      refine b_if_eq hx hb rfl (tgt := 51) dX11_sheet_37 (by decide +kernel) (fun c_9 => ?_) (fun c_9 => by exfalso; omega)
      refine lv_iload_n hx hb dX11_sheet_51 rfl (lv_at hl 2 rfl) ?_
      refine b_if_eq hx hb rfl (tgt := 68) dX11_sheet_52 (by decide +kernel) (fun c_10 => ?_) (fun c_10 => by exfalso; omega)
      refine lv_aload_n hx hb dX11_sheet_68 rfl (lv_at hl 0 rfl) ?_
      refine va_get (D := D) (ci := 11) (v := .ref k5) (C := RX11) (T := TX11) (N := 25) hx hb hT giX11 hown hK hP 0 rfl rfl 5 (by decide +kernel) (hT (Cond.fieldLink RX11 22 "DesertWireModel" "bits" "[I") mw_1161) (fun _ h9 => h9) rfl dX11_sheet_69 ?_
      refine lv_iload_n hx hb dX11_sheet_72 rfl (lv_at hl 1 rfl) ?_
      refine lv_iload_n hx hb dX11_sheet_73 rfl (lv_at hl 2 rfl) ?_
      refine va_iast hx hb hK hP hD hS 2 0 rfl rfl (k_in (by omega) (by omega)) dX11_sheet_74 ?_
      clear hP hD hS
      intro H locs hP hD hS
      replace hP : va_P D vwCl [(k, .inr (11, [.ref k0, .ref k1, .ref k2, .int c3, .ref k4, .ref k5, .ref k6, .ref k7, .ref k8, .int c9, .ref ka, .ref kb, .int cc, .int cd, .int ce, .int cf, .int cg, .int ch, .int ci, .int cj, .int ck, .ref kl, .int cm, .int cn, .ref ko])), (k4, .inl (cI, 6, .inl c4)), (k5, .inl (cI, 4, .inl (upd c5 a0.toNatClampNeg a1))), (k6, .inl (cI, 4, .inl c6)), (k7, .inl (cI, 144, .inl c7))] H := hP
      replace hD : va_D A [(k, .inr (11, [.ref k0, .ref k1, .ref k2, .int c3, .ref k4, .ref k5, .ref k6, .ref k7, .ref k8, .int c9, .ref ka, .ref kb, .int cc, .int cd, .int ce, .int cf, .int cg, .int ch, .int ci, .int cj, .int ck, .ref kl, .int cm, .int cn, .ref ko])), (k4, .inl (cI, 6, .inl c4)), (k5, .inl (cI, 4, .inl (upd c5 a0.toNatClampNeg a1))), (k6, .inl (cI, 4, .inl c6)), (k7, .inl (cI, 144, .inl c7))] := hD
      obtain ⟨f_11, ef_11⟩ : ∃ g : Nat → Int32, g = upd c5 a0.toNatClampNeg a1 := ⟨_, rfl⟩
      rw [← ef_11] at hP hD
      refine lv_aload_n hx hb dX11_sheet_75 rfl (lv_at hl 0 rfl) ?_
      refine va_get (D := D) (ci := 11) (v := .ref k6) (C := RX11) (T := TX11) (N := 25) hx hb hT giX11 hown hK hP 0 rfl rfl 6 (by decide +kernel) (hT (Cond.fieldLink RX11 25 "DesertWireModel" "size" "[I") mw_1162) (fun _ h9 => h9) rfl dX11_sheet_76 ?_
      refine lv_iload_n hx hb dX11_sheet_79 rfl (lv_at hl 1 rfl) ?_
      refine lv_iload_n hx hb dX11_sheet_80 rfl (lv_at hl 2 rfl) ?_
      refine b_if_ne hx hb rfl (tgt := 88) dX11_sheet_81 (by decide +kernel) (fun c_12 => by exfalso; omega) (fun c_12 => ?_)
      refine lv_iconst (v := 0) hx hb dX11_sheet_84 (by decide +kernel) ?_
      refine lv_goto (tgt := 89) hx hb dX11_sheet_85 (by decide +kernel) ?_
      refine va_iast hx hb hK hP hD hS 3 0 rfl rfl (k_in (by omega) (by omega)) dX11_sheet_89 ?_
      clear hP hD hS
      intro H locs hP hD hS
      replace hP : va_P D vwCl [(k, .inr (11, [.ref k0, .ref k1, .ref k2, .int c3, .ref k4, .ref k5, .ref k6, .ref k7, .ref k8, .int c9, .ref ka, .ref kb, .int cc, .int cd, .int ce, .int cf, .int cg, .int ch, .int ci, .int cj, .int ck, .ref kl, .int cm, .int cn, .ref ko])), (k4, .inl (cI, 6, .inl c4)), (k5, .inl (cI, 4, .inl f_11)), (k6, .inl (cI, 4, .inl (upd c6 a0.toNatClampNeg 0))), (k7, .inl (cI, 144, .inl c7))] H := hP
      replace hD : va_D A [(k, .inr (11, [.ref k0, .ref k1, .ref k2, .int c3, .ref k4, .ref k5, .ref k6, .ref k7, .ref k8, .int c9, .ref ka, .ref kb, .int cc, .int cd, .int ce, .int cf, .int cg, .int ch, .int ci, .int cj, .int ck, .ref kl, .int cm, .int cn, .ref ko])), (k4, .inl (cI, 6, .inl c4)), (k5, .inl (cI, 4, .inl f_11)), (k6, .inl (cI, 4, .inl (upd c6 a0.toNatClampNeg 0))), (k7, .inl (cI, 144, .inl c7))] := hD
      obtain ⟨f_13, ef_13⟩ : ∃ g : Nat → Int32, g = upd c6 a0.toNatClampNeg 0 := ⟨_, rfl⟩
      rw [← ef_13] at hP hD
      refine lv_iconst (v := 0) hx hb dX11_sheet_90 (by decide +kernel) ?_
      refine lv_istore (lv' := [(4, .int 0), (0, .ref k), (1, .int a0), (2, .int a1), (3, .int a2)]) hx hb dX11_sheet_91 hl (by decide +kernel) rfl ?_
      clear hl
      intro ls hl
      have hloop_93 : ∀ (fu_ : Nat) (l93_4 : Int32) (g93_k7 : Nat → Int32), 0 ≤ l93_4.toInt → l93_4.toInt ≤ 36 → g93_k7 = zr c7 (36 * a0.toInt.toNat) l93_4.toInt.toNat → (36 - l93_4.toInt).toNat < fu_ → ∀ (ls : Array Slot) (H : Heap) (locs : List Loc), lv_has ls 5 [(4, .int l93_4), (0, .ref k), (1, .int a0), (2, .int a1), (3, .int a2)] → va_P D vwCl [(k, .inr (11, [.ref k0, .ref k1, .ref k2, .int c3, .ref k4, .ref k5, .ref k6, .ref k7, .ref k8, .int c9, .ref ka, .ref kb, .int cc, .int cd, .int ce, .int cf, .int cg, .int ch, .int ci, .int cj, .int ck, .ref kl, .int cm, .int cn, .ref ko])), (k4, .inl (cI, 6, .inl c4)), (k5, .inl (cI, 4, .inl f_11)), (k6, .inl (cI, 4, .inl f_13)), (k7, .inl (cI, 144, .inl g93_k7))] H → va_D A [(k, .inr (11, [.ref k0, .ref k1, .ref k2, .int c3, .ref k4, .ref k5, .ref k6, .ref k7, .ref k8, .int c9, .ref ka, .ref kb, .int cc, .int cd, .int ce, .int cf, .int cg, .int ch, .int ci, .int cj, .int ck, .ref kl, .int cm, .int cn, .ref ko])), (k4, .inl (cI, 6, .inl c4)), (k5, .inl (cI, 4, .inl f_11)), (k6, .inl (cI, 4, .inl f_13)), (k7, .inl (cI, 144, .inl g93_k7))] → va_S A s.heap H locs → W p l e ({ frames := 2, cells := 0, slots := 0, locals := 42 } : Room) s m args below meth c H locs 0 0 Q (F0 m 93 ls []) := by
        intro fu_; induction fu_ with
        | zero => intro l93_4 g93_k7 i93_0 i93_1 i93_2 hm; exact absurd hm (by omega)
        | succ fu_ ih93 =>
            intro l93_4 g93_k7 i93_0 i93_1 i93_2 hm ls H locs hl hP hD hS
            have lo_l93_4 := k_lo l93_4
            have hi_l93_4 := k_hi l93_4
            have i93_2 : g93_k7 = zr c7 (36 * a0.toInt.toNat) l93_4.toInt.toNat := i93_2
            refine lv_iload hx hb dX11_sheet_93 (lv_at hl 0 rfl) ?_
            refine lv_bipush (v := 36) hx hb dX11_sheet_95 (by decide +kernel) ?_
            refine b_icmp_ge hx hb rfl zl_36 (tgt := 119) dX11_sheet_97 (by decide +kernel) (fun c_14 => ?_) (fun c_14 => ?_)
            · refine lv_iconst (v := 1) hx hb dX11_sheet_119 (by decide +kernel) ?_
              exact hRet (c4, f_11, f_13, g93_k7) [0, 1, 2, 3, 4] ⟨(by (try dsimp only); unfold sp_sheet; (repeat (first | rw [if_pos (by omega)] | rw [if_neg (by omega)]))), (by (try dsimp only); unfold shB; (repeat (first | rw [if_pos (by omega)] | rw [if_neg (by omega)])); first | done | exact ef_11), (by (try dsimp only); unfold shB; (repeat (first | rw [if_pos (by omega)] | rw [if_neg (by omega)])); rw [ef_13]; unfold shD; (repeat (first | rw [if_pos (by omega)] | rw [if_neg (by omega)]))), (by unfold shN; (repeat (first | rw [if_pos (by omega)] | rw [if_neg (by omega)])); rw [i93_2, show l93_4.toInt.toNat = 36 from by omega]), (k_PL pre0 ef_13 (by first | omega | (rw [zl_0]; omega)) (by first | omega | (rw [zl_0]; omega)))⟩ hP hD (by decide +kernel) rfl hS rfl dX11_sheet_120
            · refine lv_aload_n hx hb dX11_sheet_100 rfl (lv_at hl 1 rfl) ?_
              refine va_get (D := D) (ci := 11) (v := .ref k7) (C := RX11) (T := TX11) (N := 25) hx hb hT giX11 hown hK hP 0 rfl rfl 7 (by decide +kernel) (hT (Cond.fieldLink RX11 28 "DesertWireModel" "number" "[I") mw_1163) (fun _ h9 => h9) rfl dX11_sheet_101 ?_
              refine lv_bipush (v := 36) hx hb dX11_sheet_104 (by decide +kernel) ?_
              refine lv_iload_n hx hb dX11_sheet_106 rfl (lv_at hl 2 rfl) ?_
              refine lv_imul hx hb dX11_sheet_107 ?_
              refine lv_topi (fun v_15 ev_15 => ?_)
              have tv_15 : v_15.toInt = 36 * a0.toInt := by rw [ev_15]; exact k_mulv zl_36 rfl (by omega) (by omega)
              refine lv_iload hx hb dX11_sheet_108 (lv_at hl 0 rfl) ?_
              refine lv_iadd hx hb dX11_sheet_110 ?_
              refine lv_topi (fun v_16 ev_16 => ?_)
              have tv_16 : v_16.toInt = v_15.toInt + l93_4.toInt := by rw [ev_16]; exact k_addv rfl rfl (by omega) (by omega)
              refine lv_iconst (v := 0) hx hb dX11_sheet_111 (by decide +kernel) ?_
              refine va_iast hx hb hK hP hD hS 4 0 rfl rfl (k_in (by omega) (by omega)) dX11_sheet_112 ?_
              clear hP hD hS
              intro H locs hP hD hS
              replace hP : va_P D vwCl [(k, .inr (11, [.ref k0, .ref k1, .ref k2, .int c3, .ref k4, .ref k5, .ref k6, .ref k7, .ref k8, .int c9, .ref ka, .ref kb, .int cc, .int cd, .int ce, .int cf, .int cg, .int ch, .int ci, .int cj, .int ck, .ref kl, .int cm, .int cn, .ref ko])), (k4, .inl (cI, 6, .inl c4)), (k5, .inl (cI, 4, .inl f_11)), (k6, .inl (cI, 4, .inl f_13)), (k7, .inl (cI, 144, .inl (upd g93_k7 v_16.toNatClampNeg 0)))] H := hP
              replace hD : va_D A [(k, .inr (11, [.ref k0, .ref k1, .ref k2, .int c3, .ref k4, .ref k5, .ref k6, .ref k7, .ref k8, .int c9, .ref ka, .ref kb, .int cc, .int cd, .int ce, .int cf, .int cg, .int ch, .int ci, .int cj, .int ck, .ref kl, .int cm, .int cn, .ref ko])), (k4, .inl (cI, 6, .inl c4)), (k5, .inl (cI, 4, .inl f_11)), (k6, .inl (cI, 4, .inl f_13)), (k7, .inl (cI, 144, .inl (upd g93_k7 v_16.toNatClampNeg 0)))] := hD
              obtain ⟨f_17, ef_17⟩ : ∃ g : Nat → Int32, g = upd g93_k7 v_16.toNatClampNeg 0 := ⟨_, rfl⟩
              rw [← ef_17] at hP hD
              obtain ⟨v_18, ev_18⟩ : ∃ y : Int32, y = l93_4 + 1 := ⟨_, rfl⟩
              have tv_18 : v_18.toInt = l93_4.toInt + 1 := by rw [ev_18]; exact k_addv rfl zl_1 (by omega) (by omega)
              refine lv_iinc (v := v_18) (lv' := [(4, .int v_18), (0, .ref k), (1, .int a0), (2, .int a1), (3, .int a2)]) hx hb dX11_sheet_113 hl (k := 0) rfl (by rw [ev_18]; rfl) (by decide +kernel) rfl ?_
              clear hl
              intro ls hl
              refine lv_goto (tgt := 93) hx hb dX11_sheet_116 (by decide +kernel) ?_
              exact ih93 v_18 f_17 (by first | omega | decide | assumption | rfl) (by first | omega | decide | assumption | rfl) (zr_step i93_2 (by omega) (by omega) ef_17 (by omega) rfl) (by omega) ls _ _ (lv_sub hl [0, 1, 2, 3, 4] rfl) (hP.sub [0, 1, 2, 3, 4] rfl) (hD.sub [0, 1, 2, 3, 4] (by decide +kernel) rfl) hS
      exact hloop_93 _ 0 c7 (by first | omega | (simp only [zl_0]; first | done | omega) | decide | assumption | rfl) (by first | omega | (simp only [zl_0]; first | done | omega) | decide | assumption | rfl) (zr_0 zl_0) (Nat.lt_succ_self _) ls _ _ (lv_sub hl [0, 1, 2, 3, 4] rfl) hP hD hS
    · refine lv_iload_n hx hb dX11_sheet_11 rfl (lv_at hl 2 rfl) ?_
      refine lv_bipush (v := 8) hx hb dX11_sheet_12 (by decide +kernel) ?_
      refine b_icmp_eq hx hb rfl zl_8 (tgt := 36) dX11_sheet_14 (by decide +kernel) (fun c_19 => ?_) (fun c_19 => ?_)
      · refine lv_iload_n hx hb dX11_sheet_36 rfl (lv_at hl 2 rfl) ?_
        refine b_if_eq hx hb rfl (tgt := 51) dX11_sheet_37 (by decide +kernel) (fun c_20 => by exfalso; omega) (fun c_20 => ?_)
        refine lv_iload_n hx hb dX11_sheet_40 rfl (lv_at hl 3 rfl) ?_
        refine b_if_ge hx hb rfl (tgt := 51) dX11_sheet_41 (by decide +kernel) (fun c_21 => ?_) (fun c_21 => ?_)
        · refine lv_iload_n hx hb dX11_sheet_51 rfl (lv_at hl 2 rfl) ?_
          refine b_if_eq hx hb rfl (tgt := 68) dX11_sheet_52 (by decide +kernel) (fun c_22 => by exfalso; omega) (fun c_22 => ?_)
          refine lv_iload_n hx hb dX11_sheet_55 rfl (lv_at hl 3 rfl) ?_
          refine lv_bipush (v := 36) hx hb dX11_sheet_56 (by decide +kernel) ?_
          refine b_icmp_le hx hb rfl zl_36 (tgt := 68) dX11_sheet_58 (by decide +kernel) (fun c_23 => ?_) (fun c_23 => ?_)
          · refine lv_aload_n hx hb dX11_sheet_68 rfl (lv_at hl 0 rfl) ?_
            refine va_get (D := D) (ci := 11) (v := .ref k5) (C := RX11) (T := TX11) (N := 25) hx hb hT giX11 hown hK hP 0 rfl rfl 5 (by decide +kernel) (hT (Cond.fieldLink RX11 22 "DesertWireModel" "bits" "[I") mw_1161) (fun _ h9 => h9) rfl dX11_sheet_69 ?_
            refine lv_iload_n hx hb dX11_sheet_72 rfl (lv_at hl 1 rfl) ?_
            refine lv_iload_n hx hb dX11_sheet_73 rfl (lv_at hl 2 rfl) ?_
            refine va_iast hx hb hK hP hD hS 2 0 rfl rfl (k_in (by omega) (by omega)) dX11_sheet_74 ?_
            clear hP hD hS
            intro H locs hP hD hS
            replace hP : va_P D vwCl [(k, .inr (11, [.ref k0, .ref k1, .ref k2, .int c3, .ref k4, .ref k5, .ref k6, .ref k7, .ref k8, .int c9, .ref ka, .ref kb, .int cc, .int cd, .int ce, .int cf, .int cg, .int ch, .int ci, .int cj, .int ck, .ref kl, .int cm, .int cn, .ref ko])), (k4, .inl (cI, 6, .inl c4)), (k5, .inl (cI, 4, .inl (upd c5 a0.toNatClampNeg a1))), (k6, .inl (cI, 4, .inl c6)), (k7, .inl (cI, 144, .inl c7))] H := hP
            replace hD : va_D A [(k, .inr (11, [.ref k0, .ref k1, .ref k2, .int c3, .ref k4, .ref k5, .ref k6, .ref k7, .ref k8, .int c9, .ref ka, .ref kb, .int cc, .int cd, .int ce, .int cf, .int cg, .int ch, .int ci, .int cj, .int ck, .ref kl, .int cm, .int cn, .ref ko])), (k4, .inl (cI, 6, .inl c4)), (k5, .inl (cI, 4, .inl (upd c5 a0.toNatClampNeg a1))), (k6, .inl (cI, 4, .inl c6)), (k7, .inl (cI, 144, .inl c7))] := hD
            obtain ⟨f_24, ef_24⟩ : ∃ g : Nat → Int32, g = upd c5 a0.toNatClampNeg a1 := ⟨_, rfl⟩
            rw [← ef_24] at hP hD
            refine lv_aload_n hx hb dX11_sheet_75 rfl (lv_at hl 0 rfl) ?_
            refine va_get (D := D) (ci := 11) (v := .ref k6) (C := RX11) (T := TX11) (N := 25) hx hb hT giX11 hown hK hP 0 rfl rfl 6 (by decide +kernel) (hT (Cond.fieldLink RX11 25 "DesertWireModel" "size" "[I") mw_1162) (fun _ h9 => h9) rfl dX11_sheet_76 ?_
            refine lv_iload_n hx hb dX11_sheet_79 rfl (lv_at hl 1 rfl) ?_
            refine lv_iload_n hx hb dX11_sheet_80 rfl (lv_at hl 2 rfl) ?_
            refine b_if_ne hx hb rfl (tgt := 88) dX11_sheet_81 (by decide +kernel) (fun c_25 => ?_) (fun c_25 => by exfalso; omega)
            refine lv_iload_n hx hb dX11_sheet_88 rfl (lv_at hl 3 rfl) ?_
            refine va_iast hx hb hK hP hD hS 3 0 rfl rfl (k_in (by omega) (by omega)) dX11_sheet_89 ?_
            clear hP hD hS
            intro H locs hP hD hS
            replace hP : va_P D vwCl [(k, .inr (11, [.ref k0, .ref k1, .ref k2, .int c3, .ref k4, .ref k5, .ref k6, .ref k7, .ref k8, .int c9, .ref ka, .ref kb, .int cc, .int cd, .int ce, .int cf, .int cg, .int ch, .int ci, .int cj, .int ck, .ref kl, .int cm, .int cn, .ref ko])), (k4, .inl (cI, 6, .inl c4)), (k5, .inl (cI, 4, .inl f_24)), (k6, .inl (cI, 4, .inl (upd c6 a0.toNatClampNeg a2))), (k7, .inl (cI, 144, .inl c7))] H := hP
            replace hD : va_D A [(k, .inr (11, [.ref k0, .ref k1, .ref k2, .int c3, .ref k4, .ref k5, .ref k6, .ref k7, .ref k8, .int c9, .ref ka, .ref kb, .int cc, .int cd, .int ce, .int cf, .int cg, .int ch, .int ci, .int cj, .int ck, .ref kl, .int cm, .int cn, .ref ko])), (k4, .inl (cI, 6, .inl c4)), (k5, .inl (cI, 4, .inl f_24)), (k6, .inl (cI, 4, .inl (upd c6 a0.toNatClampNeg a2))), (k7, .inl (cI, 144, .inl c7))] := hD
            obtain ⟨f_26, ef_26⟩ : ∃ g : Nat → Int32, g = upd c6 a0.toNatClampNeg a2 := ⟨_, rfl⟩
            rw [← ef_26] at hP hD
            refine lv_iconst (v := 0) hx hb dX11_sheet_90 (by decide +kernel) ?_
            refine lv_istore (lv' := [(4, .int 0), (0, .ref k), (1, .int a0), (2, .int a1), (3, .int a2)]) hx hb dX11_sheet_91 hl (by decide +kernel) rfl ?_
            clear hl
            intro ls hl
            have hloop_93 : ∀ (fu_ : Nat) (l93_4 : Int32) (g93_k7 : Nat → Int32), 0 ≤ l93_4.toInt → l93_4.toInt ≤ 36 → g93_k7 = zr c7 (36 * a0.toInt.toNat) l93_4.toInt.toNat → (36 - l93_4.toInt).toNat < fu_ → ∀ (ls : Array Slot) (H : Heap) (locs : List Loc), lv_has ls 5 [(4, .int l93_4), (0, .ref k), (1, .int a0), (2, .int a1), (3, .int a2)] → va_P D vwCl [(k, .inr (11, [.ref k0, .ref k1, .ref k2, .int c3, .ref k4, .ref k5, .ref k6, .ref k7, .ref k8, .int c9, .ref ka, .ref kb, .int cc, .int cd, .int ce, .int cf, .int cg, .int ch, .int ci, .int cj, .int ck, .ref kl, .int cm, .int cn, .ref ko])), (k4, .inl (cI, 6, .inl c4)), (k5, .inl (cI, 4, .inl f_24)), (k6, .inl (cI, 4, .inl f_26)), (k7, .inl (cI, 144, .inl g93_k7))] H → va_D A [(k, .inr (11, [.ref k0, .ref k1, .ref k2, .int c3, .ref k4, .ref k5, .ref k6, .ref k7, .ref k8, .int c9, .ref ka, .ref kb, .int cc, .int cd, .int ce, .int cf, .int cg, .int ch, .int ci, .int cj, .int ck, .ref kl, .int cm, .int cn, .ref ko])), (k4, .inl (cI, 6, .inl c4)), (k5, .inl (cI, 4, .inl f_24)), (k6, .inl (cI, 4, .inl f_26)), (k7, .inl (cI, 144, .inl g93_k7))] → va_S A s.heap H locs → W p l e ({ frames := 2, cells := 0, slots := 0, locals := 42 } : Room) s m args below meth c H locs 0 0 Q (F0 m 93 ls []) := by
              intro fu_; induction fu_ with
              | zero => intro l93_4 g93_k7 i93_0 i93_1 i93_2 hm; exact absurd hm (by omega)
              | succ fu_ ih93 =>
                  intro l93_4 g93_k7 i93_0 i93_1 i93_2 hm ls H locs hl hP hD hS
                  have lo_l93_4 := k_lo l93_4
                  have hi_l93_4 := k_hi l93_4
                  have i93_2 : g93_k7 = zr c7 (36 * a0.toInt.toNat) l93_4.toInt.toNat := i93_2
                  refine lv_iload hx hb dX11_sheet_93 (lv_at hl 0 rfl) ?_
                  refine lv_bipush (v := 36) hx hb dX11_sheet_95 (by decide +kernel) ?_
                  refine b_icmp_ge hx hb rfl zl_36 (tgt := 119) dX11_sheet_97 (by decide +kernel) (fun c_27 => ?_) (fun c_27 => ?_)
                  · refine lv_iconst (v := 1) hx hb dX11_sheet_119 (by decide +kernel) ?_
                    exact hRet (c4, f_24, f_26, g93_k7) [0, 1, 2, 3, 4] ⟨(by (try dsimp only); unfold sp_sheet; (repeat (first | rw [if_pos (by omega)] | rw [if_neg (by omega)]))), (by (try dsimp only); unfold shB; (repeat (first | rw [if_pos (by omega)] | rw [if_neg (by omega)])); first | done | exact ef_24), (by (try dsimp only); unfold shB; (repeat (first | rw [if_pos (by omega)] | rw [if_neg (by omega)])); rw [ef_26]; unfold shD; (repeat (first | rw [if_pos (by omega)] | rw [if_neg (by omega)]))), (by unfold shN; (repeat (first | rw [if_pos (by omega)] | rw [if_neg (by omega)])); rw [i93_2, show l93_4.toInt.toNat = 36 from by omega]), (k_PL pre0 ef_26 (by first | omega | (rw [zl_0]; omega)) (by first | omega | (rw [zl_0]; omega)))⟩ hP hD (by decide +kernel) rfl hS rfl dX11_sheet_120
                  · refine lv_aload_n hx hb dX11_sheet_100 rfl (lv_at hl 1 rfl) ?_
                    refine va_get (D := D) (ci := 11) (v := .ref k7) (C := RX11) (T := TX11) (N := 25) hx hb hT giX11 hown hK hP 0 rfl rfl 7 (by decide +kernel) (hT (Cond.fieldLink RX11 28 "DesertWireModel" "number" "[I") mw_1163) (fun _ h9 => h9) rfl dX11_sheet_101 ?_
                    refine lv_bipush (v := 36) hx hb dX11_sheet_104 (by decide +kernel) ?_
                    refine lv_iload_n hx hb dX11_sheet_106 rfl (lv_at hl 2 rfl) ?_
                    refine lv_imul hx hb dX11_sheet_107 ?_
                    refine lv_topi (fun v_28 ev_28 => ?_)
                    have tv_28 : v_28.toInt = 36 * a0.toInt := by rw [ev_28]; exact k_mulv zl_36 rfl (by omega) (by omega)
                    refine lv_iload hx hb dX11_sheet_108 (lv_at hl 0 rfl) ?_
                    refine lv_iadd hx hb dX11_sheet_110 ?_
                    refine lv_topi (fun v_29 ev_29 => ?_)
                    have tv_29 : v_29.toInt = v_28.toInt + l93_4.toInt := by rw [ev_29]; exact k_addv rfl rfl (by omega) (by omega)
                    refine lv_iconst (v := 0) hx hb dX11_sheet_111 (by decide +kernel) ?_
                    refine va_iast hx hb hK hP hD hS 4 0 rfl rfl (k_in (by omega) (by omega)) dX11_sheet_112 ?_
                    clear hP hD hS
                    intro H locs hP hD hS
                    replace hP : va_P D vwCl [(k, .inr (11, [.ref k0, .ref k1, .ref k2, .int c3, .ref k4, .ref k5, .ref k6, .ref k7, .ref k8, .int c9, .ref ka, .ref kb, .int cc, .int cd, .int ce, .int cf, .int cg, .int ch, .int ci, .int cj, .int ck, .ref kl, .int cm, .int cn, .ref ko])), (k4, .inl (cI, 6, .inl c4)), (k5, .inl (cI, 4, .inl f_24)), (k6, .inl (cI, 4, .inl f_26)), (k7, .inl (cI, 144, .inl (upd g93_k7 v_29.toNatClampNeg 0)))] H := hP
                    replace hD : va_D A [(k, .inr (11, [.ref k0, .ref k1, .ref k2, .int c3, .ref k4, .ref k5, .ref k6, .ref k7, .ref k8, .int c9, .ref ka, .ref kb, .int cc, .int cd, .int ce, .int cf, .int cg, .int ch, .int ci, .int cj, .int ck, .ref kl, .int cm, .int cn, .ref ko])), (k4, .inl (cI, 6, .inl c4)), (k5, .inl (cI, 4, .inl f_24)), (k6, .inl (cI, 4, .inl f_26)), (k7, .inl (cI, 144, .inl (upd g93_k7 v_29.toNatClampNeg 0)))] := hD
                    obtain ⟨f_30, ef_30⟩ : ∃ g : Nat → Int32, g = upd g93_k7 v_29.toNatClampNeg 0 := ⟨_, rfl⟩
                    rw [← ef_30] at hP hD
                    obtain ⟨v_31, ev_31⟩ : ∃ y : Int32, y = l93_4 + 1 := ⟨_, rfl⟩
                    have tv_31 : v_31.toInt = l93_4.toInt + 1 := by rw [ev_31]; exact k_addv rfl zl_1 (by omega) (by omega)
                    refine lv_iinc (v := v_31) (lv' := [(4, .int v_31), (0, .ref k), (1, .int a0), (2, .int a1), (3, .int a2)]) hx hb dX11_sheet_113 hl (k := 0) rfl (by rw [ev_31]; rfl) (by decide +kernel) rfl ?_
                    clear hl
                    intro ls hl
                    refine lv_goto (tgt := 93) hx hb dX11_sheet_116 (by decide +kernel) ?_
                    exact ih93 v_31 f_30 (by first | omega | decide | assumption | rfl) (by first | omega | decide | assumption | rfl) (zr_step i93_2 (by omega) (by omega) ef_30 (by omega) rfl) (by omega) ls _ _ (lv_sub hl [0, 1, 2, 3, 4] rfl) (hP.sub [0, 1, 2, 3, 4] rfl) (hD.sub [0, 1, 2, 3, 4] (by decide +kernel) rfl) hS
            exact hloop_93 _ 0 c7 (by first | omega | (simp only [zl_0]; first | done | omega) | decide | assumption | rfl) (by first | omega | (simp only [zl_0]; first | done | omega) | decide | assumption | rfl) (zr_0 zl_0) (Nat.lt_succ_self _) ls _ _ (lv_sub hl [0, 1, 2, 3, 4] rfl) hP hD hS
          · refine lv_aload_n hx hb dX11_sheet_61 rfl (lv_at hl 0 rfl) ?_
            refine lv_ldc (v := (-1000001)) hx hb hown (hT _ mw_1239) dX11_sheet_62 ?_
            refine kJi (wr := [(k5, .inl (cI, 4, .inl c5)), (k6, .inl (cI, 4, .inl c6)), (k7, .inl (cI, 144, .inl c7))]) (va_runV (As := [.int (-1000001)]) (rest := []) ⟨hx, hb, hml, hown, hT⟩ (c_X11_findingG l D cI aK aV k k0 k1 k2 k4 k5 k6 k7 k8 ka kb kl ko H.size c3 c9 cc cd ce cf cg ch ci cj ck cm cn c4 (-1000001) (by first | omega | (simp only [zl_m1000001]; first | done | omega) | decide | assumption | rfl) (by first | omega | (simp only [zl_m1000001]; first | done | omega) | decide | assumption | rfl)) (cwV 1 hT (gV_in mw_1243 mw_1240 mw_1242 mw_p3_8 mw_12) rfl rfl rfl (by decide +kernel) ⟨Nat.le_of_ble_eq_true rfl, Nat.le_of_ble_eq_true rfl⟩) (kRecvX (q0 := 0) (ci := 11) hK hP hD hN hXS hS hA rfl rfl [0, 1] rfl (by decide +kernel)) rfl rfl hl.1 rfl (lv_room (Nat.le_of_ble_eq_true rfl)) dX11_sheet_64 ⟨Nat.le_of_ble_eq_true rfl, Nat.le_of_ble_eq_true rfl⟩) hP hD hS hA [0, 1] [2, 3, 4] rfl rfl (by decide +kernel) (by decide +kernel) ?_
            clear hP hD hS
            intro r_32 sc4_34 H locs w_33 hP hD hS
            replace hP : va_P D vwCl [(k5, .inl (cI, 4, .inl c5)), (k6, .inl (cI, 4, .inl c6)), (k7, .inl (cI, 144, .inl c7)), (k, .inr (11, [.ref k0, .ref k1, .ref k2, .int c3, .ref k4, .ref k5, .ref k6, .ref k7, .ref k8, .int c9, .ref ka, .ref kb, .int cc, .int cd, .int ce, .int cf, .int cg, .int ch, .int ci, .int cj, .int ck, .ref kl, .int cm, .int cn, .ref ko])), (k4, .inl (cI, 6, .inl sc4_34))] H := hP
            replace hD : va_D A [(k5, .inl (cI, 4, .inl c5)), (k6, .inl (cI, 4, .inl c6)), (k7, .inl (cI, 144, .inl c7)), (k, .inr (11, [.ref k0, .ref k1, .ref k2, .int c3, .ref k4, .ref k5, .ref k6, .ref k7, .ref k8, .int c9, .ref ka, .ref kb, .int cc, .int cd, .int ce, .int cf, .int cg, .int ch, .int ci, .int cj, .int ck, .ref kl, .int cm, .int cn, .ref ko])), (k4, .inl (cI, 6, .inl sc4_34))] := hD
            have hr_32 := w_33
            obtain rfl : r_32 = (-1000001) := hr_32.trans (by decide +kernel)
            exact hRet (sc4_34, c5, c6, c7) [3, 4, 0, 1, 2] ⟨(by (try dsimp only); unfold sp_sheet; (repeat (first | rw [if_pos (by omega)] | rw [if_neg (by omega)]))), (by (try dsimp only); unfold shB; (repeat (first | rw [if_pos (by omega)] | rw [if_neg (by omega)]))), (by (try dsimp only); unfold shB; (repeat (first | rw [if_pos (by omega)] | rw [if_neg (by omega)]))), (by (try dsimp only); unfold shN; (repeat (first | rw [if_pos (by omega)] | rw [if_neg (by omega)]))), pre0⟩ hP hD (by decide +kernel) rfl hS rfl dX11_sheet_67
        · refine lv_aload_n hx hb dX11_sheet_44 rfl (lv_at hl 0 rfl) ?_
          refine lv_ldc (v := (-1000003)) hx hb hown (hT _ mw_1356) dX11_sheet_45 ?_
          refine kJi (wr := [(k5, .inl (cI, 4, .inl c5)), (k6, .inl (cI, 4, .inl c6)), (k7, .inl (cI, 144, .inl c7))]) (va_runV (As := [.int (-1000003)]) (rest := []) ⟨hx, hb, hml, hown, hT⟩ (c_X11_findingG l D cI aK aV k k0 k1 k2 k4 k5 k6 k7 k8 ka kb kl ko H.size c3 c9 cc cd ce cf cg ch ci cj ck cm cn c4 (-1000003) (by first | omega | (simp only [zl_m1000003]; first | done | omega) | decide | assumption | rfl) (by first | omega | (simp only [zl_m1000003]; first | done | omega) | decide | assumption | rfl)) (cwV 1 hT (gV_in mw_1243 mw_1240 mw_1242 mw_p3_8 mw_12) rfl rfl rfl (by decide +kernel) ⟨Nat.le_of_ble_eq_true rfl, Nat.le_of_ble_eq_true rfl⟩) (kRecvX (q0 := 0) (ci := 11) hK hP hD hN hXS hS hA rfl rfl [0, 1] rfl (by decide +kernel)) rfl rfl hl.1 rfl (lv_room (Nat.le_of_ble_eq_true rfl)) dX11_sheet_47 ⟨Nat.le_of_ble_eq_true rfl, Nat.le_of_ble_eq_true rfl⟩) hP hD hS hA [0, 1] [2, 3, 4] rfl rfl (by decide +kernel) (by decide +kernel) ?_
          clear hP hD hS
          intro r_35 sc4_37 H locs w_36 hP hD hS
          replace hP : va_P D vwCl [(k5, .inl (cI, 4, .inl c5)), (k6, .inl (cI, 4, .inl c6)), (k7, .inl (cI, 144, .inl c7)), (k, .inr (11, [.ref k0, .ref k1, .ref k2, .int c3, .ref k4, .ref k5, .ref k6, .ref k7, .ref k8, .int c9, .ref ka, .ref kb, .int cc, .int cd, .int ce, .int cf, .int cg, .int ch, .int ci, .int cj, .int ck, .ref kl, .int cm, .int cn, .ref ko])), (k4, .inl (cI, 6, .inl sc4_37))] H := hP
          replace hD : va_D A [(k5, .inl (cI, 4, .inl c5)), (k6, .inl (cI, 4, .inl c6)), (k7, .inl (cI, 144, .inl c7)), (k, .inr (11, [.ref k0, .ref k1, .ref k2, .int c3, .ref k4, .ref k5, .ref k6, .ref k7, .ref k8, .int c9, .ref ka, .ref kb, .int cc, .int cd, .int ce, .int cf, .int cg, .int ch, .int ci, .int cj, .int ck, .ref kl, .int cm, .int cn, .ref ko])), (k4, .inl (cI, 6, .inl sc4_37))] := hD
          have hr_35 := w_36
          obtain rfl : r_35 = (-1000003) := hr_35.trans (by decide +kernel)
          exact hRet (sc4_37, c5, c6, c7) [3, 4, 0, 1, 2] ⟨(by (try dsimp only); unfold sp_sheet; (repeat (first | rw [if_pos (by omega)] | rw [if_neg (by omega)]))), (by (try dsimp only); unfold shB; (repeat (first | rw [if_pos (by omega)] | rw [if_neg (by omega)]))), (by (try dsimp only); unfold shB; (repeat (first | rw [if_pos (by omega)] | rw [if_neg (by omega)]))), (by (try dsimp only); unfold shN; (repeat (first | rw [if_pos (by omega)] | rw [if_neg (by omega)]))), pre0⟩ hP hD (by decide +kernel) rfl hS rfl dX11_sheet_50
      · refine lv_iload_n hx hb dX11_sheet_17 rfl (lv_at hl 2 rfl) ?_
        refine lv_bipush (v := 16) hx hb dX11_sheet_18 (by decide +kernel) ?_
        refine b_icmp_eq hx hb rfl zl_16 (tgt := 36) dX11_sheet_20 (by decide +kernel) (fun c_38 => ?_) (fun c_38 => ?_)
        · refine lv_iload_n hx hb dX11_sheet_36 rfl (lv_at hl 2 rfl) ?_
          refine b_if_eq hx hb rfl (tgt := 51) dX11_sheet_37 (by decide +kernel) (fun c_39 => by exfalso; omega) (fun c_39 => ?_)
          refine lv_iload_n hx hb dX11_sheet_40 rfl (lv_at hl 3 rfl) ?_
          refine b_if_ge hx hb rfl (tgt := 51) dX11_sheet_41 (by decide +kernel) (fun c_40 => ?_) (fun c_40 => ?_)
          · refine lv_iload_n hx hb dX11_sheet_51 rfl (lv_at hl 2 rfl) ?_
            refine b_if_eq hx hb rfl (tgt := 68) dX11_sheet_52 (by decide +kernel) (fun c_41 => by exfalso; omega) (fun c_41 => ?_)
            refine lv_iload_n hx hb dX11_sheet_55 rfl (lv_at hl 3 rfl) ?_
            refine lv_bipush (v := 36) hx hb dX11_sheet_56 (by decide +kernel) ?_
            refine b_icmp_le hx hb rfl zl_36 (tgt := 68) dX11_sheet_58 (by decide +kernel) (fun c_42 => ?_) (fun c_42 => ?_)
            · refine lv_aload_n hx hb dX11_sheet_68 rfl (lv_at hl 0 rfl) ?_
              refine va_get (D := D) (ci := 11) (v := .ref k5) (C := RX11) (T := TX11) (N := 25) hx hb hT giX11 hown hK hP 0 rfl rfl 5 (by decide +kernel) (hT (Cond.fieldLink RX11 22 "DesertWireModel" "bits" "[I") mw_1161) (fun _ h9 => h9) rfl dX11_sheet_69 ?_
              refine lv_iload_n hx hb dX11_sheet_72 rfl (lv_at hl 1 rfl) ?_
              refine lv_iload_n hx hb dX11_sheet_73 rfl (lv_at hl 2 rfl) ?_
              refine va_iast hx hb hK hP hD hS 2 0 rfl rfl (k_in (by omega) (by omega)) dX11_sheet_74 ?_
              clear hP hD hS
              intro H locs hP hD hS
              replace hP : va_P D vwCl [(k, .inr (11, [.ref k0, .ref k1, .ref k2, .int c3, .ref k4, .ref k5, .ref k6, .ref k7, .ref k8, .int c9, .ref ka, .ref kb, .int cc, .int cd, .int ce, .int cf, .int cg, .int ch, .int ci, .int cj, .int ck, .ref kl, .int cm, .int cn, .ref ko])), (k4, .inl (cI, 6, .inl c4)), (k5, .inl (cI, 4, .inl (upd c5 a0.toNatClampNeg a1))), (k6, .inl (cI, 4, .inl c6)), (k7, .inl (cI, 144, .inl c7))] H := hP
              replace hD : va_D A [(k, .inr (11, [.ref k0, .ref k1, .ref k2, .int c3, .ref k4, .ref k5, .ref k6, .ref k7, .ref k8, .int c9, .ref ka, .ref kb, .int cc, .int cd, .int ce, .int cf, .int cg, .int ch, .int ci, .int cj, .int ck, .ref kl, .int cm, .int cn, .ref ko])), (k4, .inl (cI, 6, .inl c4)), (k5, .inl (cI, 4, .inl (upd c5 a0.toNatClampNeg a1))), (k6, .inl (cI, 4, .inl c6)), (k7, .inl (cI, 144, .inl c7))] := hD
              obtain ⟨f_43, ef_43⟩ : ∃ g : Nat → Int32, g = upd c5 a0.toNatClampNeg a1 := ⟨_, rfl⟩
              rw [← ef_43] at hP hD
              refine lv_aload_n hx hb dX11_sheet_75 rfl (lv_at hl 0 rfl) ?_
              refine va_get (D := D) (ci := 11) (v := .ref k6) (C := RX11) (T := TX11) (N := 25) hx hb hT giX11 hown hK hP 0 rfl rfl 6 (by decide +kernel) (hT (Cond.fieldLink RX11 25 "DesertWireModel" "size" "[I") mw_1162) (fun _ h9 => h9) rfl dX11_sheet_76 ?_
              refine lv_iload_n hx hb dX11_sheet_79 rfl (lv_at hl 1 rfl) ?_
              refine lv_iload_n hx hb dX11_sheet_80 rfl (lv_at hl 2 rfl) ?_
              refine b_if_ne hx hb rfl (tgt := 88) dX11_sheet_81 (by decide +kernel) (fun c_44 => ?_) (fun c_44 => by exfalso; omega)
              refine lv_iload_n hx hb dX11_sheet_88 rfl (lv_at hl 3 rfl) ?_
              refine va_iast hx hb hK hP hD hS 3 0 rfl rfl (k_in (by omega) (by omega)) dX11_sheet_89 ?_
              clear hP hD hS
              intro H locs hP hD hS
              replace hP : va_P D vwCl [(k, .inr (11, [.ref k0, .ref k1, .ref k2, .int c3, .ref k4, .ref k5, .ref k6, .ref k7, .ref k8, .int c9, .ref ka, .ref kb, .int cc, .int cd, .int ce, .int cf, .int cg, .int ch, .int ci, .int cj, .int ck, .ref kl, .int cm, .int cn, .ref ko])), (k4, .inl (cI, 6, .inl c4)), (k5, .inl (cI, 4, .inl f_43)), (k6, .inl (cI, 4, .inl (upd c6 a0.toNatClampNeg a2))), (k7, .inl (cI, 144, .inl c7))] H := hP
              replace hD : va_D A [(k, .inr (11, [.ref k0, .ref k1, .ref k2, .int c3, .ref k4, .ref k5, .ref k6, .ref k7, .ref k8, .int c9, .ref ka, .ref kb, .int cc, .int cd, .int ce, .int cf, .int cg, .int ch, .int ci, .int cj, .int ck, .ref kl, .int cm, .int cn, .ref ko])), (k4, .inl (cI, 6, .inl c4)), (k5, .inl (cI, 4, .inl f_43)), (k6, .inl (cI, 4, .inl (upd c6 a0.toNatClampNeg a2))), (k7, .inl (cI, 144, .inl c7))] := hD
              obtain ⟨f_45, ef_45⟩ : ∃ g : Nat → Int32, g = upd c6 a0.toNatClampNeg a2 := ⟨_, rfl⟩
              rw [← ef_45] at hP hD
              refine lv_iconst (v := 0) hx hb dX11_sheet_90 (by decide +kernel) ?_
              refine lv_istore (lv' := [(4, .int 0), (0, .ref k), (1, .int a0), (2, .int a1), (3, .int a2)]) hx hb dX11_sheet_91 hl (by decide +kernel) rfl ?_
              clear hl
              intro ls hl
              have hloop_93 : ∀ (fu_ : Nat) (l93_4 : Int32) (g93_k7 : Nat → Int32), 0 ≤ l93_4.toInt → l93_4.toInt ≤ 36 → g93_k7 = zr c7 (36 * a0.toInt.toNat) l93_4.toInt.toNat → (36 - l93_4.toInt).toNat < fu_ → ∀ (ls : Array Slot) (H : Heap) (locs : List Loc), lv_has ls 5 [(4, .int l93_4), (0, .ref k), (1, .int a0), (2, .int a1), (3, .int a2)] → va_P D vwCl [(k, .inr (11, [.ref k0, .ref k1, .ref k2, .int c3, .ref k4, .ref k5, .ref k6, .ref k7, .ref k8, .int c9, .ref ka, .ref kb, .int cc, .int cd, .int ce, .int cf, .int cg, .int ch, .int ci, .int cj, .int ck, .ref kl, .int cm, .int cn, .ref ko])), (k4, .inl (cI, 6, .inl c4)), (k5, .inl (cI, 4, .inl f_43)), (k6, .inl (cI, 4, .inl f_45)), (k7, .inl (cI, 144, .inl g93_k7))] H → va_D A [(k, .inr (11, [.ref k0, .ref k1, .ref k2, .int c3, .ref k4, .ref k5, .ref k6, .ref k7, .ref k8, .int c9, .ref ka, .ref kb, .int cc, .int cd, .int ce, .int cf, .int cg, .int ch, .int ci, .int cj, .int ck, .ref kl, .int cm, .int cn, .ref ko])), (k4, .inl (cI, 6, .inl c4)), (k5, .inl (cI, 4, .inl f_43)), (k6, .inl (cI, 4, .inl f_45)), (k7, .inl (cI, 144, .inl g93_k7))] → va_S A s.heap H locs → W p l e ({ frames := 2, cells := 0, slots := 0, locals := 42 } : Room) s m args below meth c H locs 0 0 Q (F0 m 93 ls []) := by
                intro fu_; induction fu_ with
                | zero => intro l93_4 g93_k7 i93_0 i93_1 i93_2 hm; exact absurd hm (by omega)
                | succ fu_ ih93 =>
                    intro l93_4 g93_k7 i93_0 i93_1 i93_2 hm ls H locs hl hP hD hS
                    have lo_l93_4 := k_lo l93_4
                    have hi_l93_4 := k_hi l93_4
                    have i93_2 : g93_k7 = zr c7 (36 * a0.toInt.toNat) l93_4.toInt.toNat := i93_2
                    refine lv_iload hx hb dX11_sheet_93 (lv_at hl 0 rfl) ?_
                    refine lv_bipush (v := 36) hx hb dX11_sheet_95 (by decide +kernel) ?_
                    refine b_icmp_ge hx hb rfl zl_36 (tgt := 119) dX11_sheet_97 (by decide +kernel) (fun c_46 => ?_) (fun c_46 => ?_)
                    · refine lv_iconst (v := 1) hx hb dX11_sheet_119 (by decide +kernel) ?_
                      exact hRet (c4, f_43, f_45, g93_k7) [0, 1, 2, 3, 4] ⟨(by (try dsimp only); unfold sp_sheet; (repeat (first | rw [if_pos (by omega)] | rw [if_neg (by omega)]))), (by (try dsimp only); unfold shB; (repeat (first | rw [if_pos (by omega)] | rw [if_neg (by omega)])); first | done | exact ef_43), (by (try dsimp only); unfold shB; (repeat (first | rw [if_pos (by omega)] | rw [if_neg (by omega)])); rw [ef_45]; unfold shD; (repeat (first | rw [if_pos (by omega)] | rw [if_neg (by omega)]))), (by unfold shN; (repeat (first | rw [if_pos (by omega)] | rw [if_neg (by omega)])); rw [i93_2, show l93_4.toInt.toNat = 36 from by omega]), (k_PL pre0 ef_45 (by first | omega | (rw [zl_0]; omega)) (by first | omega | (rw [zl_0]; omega)))⟩ hP hD (by decide +kernel) rfl hS rfl dX11_sheet_120
                    · refine lv_aload_n hx hb dX11_sheet_100 rfl (lv_at hl 1 rfl) ?_
                      refine va_get (D := D) (ci := 11) (v := .ref k7) (C := RX11) (T := TX11) (N := 25) hx hb hT giX11 hown hK hP 0 rfl rfl 7 (by decide +kernel) (hT (Cond.fieldLink RX11 28 "DesertWireModel" "number" "[I") mw_1163) (fun _ h9 => h9) rfl dX11_sheet_101 ?_
                      refine lv_bipush (v := 36) hx hb dX11_sheet_104 (by decide +kernel) ?_
                      refine lv_iload_n hx hb dX11_sheet_106 rfl (lv_at hl 2 rfl) ?_
                      refine lv_imul hx hb dX11_sheet_107 ?_
                      refine lv_topi (fun v_47 ev_47 => ?_)
                      have tv_47 : v_47.toInt = 36 * a0.toInt := by rw [ev_47]; exact k_mulv zl_36 rfl (by omega) (by omega)
                      refine lv_iload hx hb dX11_sheet_108 (lv_at hl 0 rfl) ?_
                      refine lv_iadd hx hb dX11_sheet_110 ?_
                      refine lv_topi (fun v_48 ev_48 => ?_)
                      have tv_48 : v_48.toInt = v_47.toInt + l93_4.toInt := by rw [ev_48]; exact k_addv rfl rfl (by omega) (by omega)
                      refine lv_iconst (v := 0) hx hb dX11_sheet_111 (by decide +kernel) ?_
                      refine va_iast hx hb hK hP hD hS 4 0 rfl rfl (k_in (by omega) (by omega)) dX11_sheet_112 ?_
                      clear hP hD hS
                      intro H locs hP hD hS
                      replace hP : va_P D vwCl [(k, .inr (11, [.ref k0, .ref k1, .ref k2, .int c3, .ref k4, .ref k5, .ref k6, .ref k7, .ref k8, .int c9, .ref ka, .ref kb, .int cc, .int cd, .int ce, .int cf, .int cg, .int ch, .int ci, .int cj, .int ck, .ref kl, .int cm, .int cn, .ref ko])), (k4, .inl (cI, 6, .inl c4)), (k5, .inl (cI, 4, .inl f_43)), (k6, .inl (cI, 4, .inl f_45)), (k7, .inl (cI, 144, .inl (upd g93_k7 v_48.toNatClampNeg 0)))] H := hP
                      replace hD : va_D A [(k, .inr (11, [.ref k0, .ref k1, .ref k2, .int c3, .ref k4, .ref k5, .ref k6, .ref k7, .ref k8, .int c9, .ref ka, .ref kb, .int cc, .int cd, .int ce, .int cf, .int cg, .int ch, .int ci, .int cj, .int ck, .ref kl, .int cm, .int cn, .ref ko])), (k4, .inl (cI, 6, .inl c4)), (k5, .inl (cI, 4, .inl f_43)), (k6, .inl (cI, 4, .inl f_45)), (k7, .inl (cI, 144, .inl (upd g93_k7 v_48.toNatClampNeg 0)))] := hD
                      obtain ⟨f_49, ef_49⟩ : ∃ g : Nat → Int32, g = upd g93_k7 v_48.toNatClampNeg 0 := ⟨_, rfl⟩
                      rw [← ef_49] at hP hD
                      obtain ⟨v_50, ev_50⟩ : ∃ y : Int32, y = l93_4 + 1 := ⟨_, rfl⟩
                      have tv_50 : v_50.toInt = l93_4.toInt + 1 := by rw [ev_50]; exact k_addv rfl zl_1 (by omega) (by omega)
                      refine lv_iinc (v := v_50) (lv' := [(4, .int v_50), (0, .ref k), (1, .int a0), (2, .int a1), (3, .int a2)]) hx hb dX11_sheet_113 hl (k := 0) rfl (by rw [ev_50]; rfl) (by decide +kernel) rfl ?_
                      clear hl
                      intro ls hl
                      refine lv_goto (tgt := 93) hx hb dX11_sheet_116 (by decide +kernel) ?_
                      exact ih93 v_50 f_49 (by first | omega | decide | assumption | rfl) (by first | omega | decide | assumption | rfl) (zr_step i93_2 (by omega) (by omega) ef_49 (by omega) rfl) (by omega) ls _ _ (lv_sub hl [0, 1, 2, 3, 4] rfl) (hP.sub [0, 1, 2, 3, 4] rfl) (hD.sub [0, 1, 2, 3, 4] (by decide +kernel) rfl) hS
              exact hloop_93 _ 0 c7 (by first | omega | (simp only [zl_0]; first | done | omega) | decide | assumption | rfl) (by first | omega | (simp only [zl_0]; first | done | omega) | decide | assumption | rfl) (zr_0 zl_0) (Nat.lt_succ_self _) ls _ _ (lv_sub hl [0, 1, 2, 3, 4] rfl) hP hD hS
            · refine lv_aload_n hx hb dX11_sheet_61 rfl (lv_at hl 0 rfl) ?_
              refine lv_ldc (v := (-1000001)) hx hb hown (hT _ mw_1239) dX11_sheet_62 ?_
              refine kJi (wr := [(k5, .inl (cI, 4, .inl c5)), (k6, .inl (cI, 4, .inl c6)), (k7, .inl (cI, 144, .inl c7))]) (va_runV (As := [.int (-1000001)]) (rest := []) ⟨hx, hb, hml, hown, hT⟩ (c_X11_findingG l D cI aK aV k k0 k1 k2 k4 k5 k6 k7 k8 ka kb kl ko H.size c3 c9 cc cd ce cf cg ch ci cj ck cm cn c4 (-1000001) (by first | omega | (simp only [zl_m1000001]; first | done | omega) | decide | assumption | rfl) (by first | omega | (simp only [zl_m1000001]; first | done | omega) | decide | assumption | rfl)) (cwV 1 hT (gV_in mw_1243 mw_1240 mw_1242 mw_p3_8 mw_12) rfl rfl rfl (by decide +kernel) ⟨Nat.le_of_ble_eq_true rfl, Nat.le_of_ble_eq_true rfl⟩) (kRecvX (q0 := 0) (ci := 11) hK hP hD hN hXS hS hA rfl rfl [0, 1] rfl (by decide +kernel)) rfl rfl hl.1 rfl (lv_room (Nat.le_of_ble_eq_true rfl)) dX11_sheet_64 ⟨Nat.le_of_ble_eq_true rfl, Nat.le_of_ble_eq_true rfl⟩) hP hD hS hA [0, 1] [2, 3, 4] rfl rfl (by decide +kernel) (by decide +kernel) ?_
              clear hP hD hS
              intro r_51 sc4_53 H locs w_52 hP hD hS
              replace hP : va_P D vwCl [(k5, .inl (cI, 4, .inl c5)), (k6, .inl (cI, 4, .inl c6)), (k7, .inl (cI, 144, .inl c7)), (k, .inr (11, [.ref k0, .ref k1, .ref k2, .int c3, .ref k4, .ref k5, .ref k6, .ref k7, .ref k8, .int c9, .ref ka, .ref kb, .int cc, .int cd, .int ce, .int cf, .int cg, .int ch, .int ci, .int cj, .int ck, .ref kl, .int cm, .int cn, .ref ko])), (k4, .inl (cI, 6, .inl sc4_53))] H := hP
              replace hD : va_D A [(k5, .inl (cI, 4, .inl c5)), (k6, .inl (cI, 4, .inl c6)), (k7, .inl (cI, 144, .inl c7)), (k, .inr (11, [.ref k0, .ref k1, .ref k2, .int c3, .ref k4, .ref k5, .ref k6, .ref k7, .ref k8, .int c9, .ref ka, .ref kb, .int cc, .int cd, .int ce, .int cf, .int cg, .int ch, .int ci, .int cj, .int ck, .ref kl, .int cm, .int cn, .ref ko])), (k4, .inl (cI, 6, .inl sc4_53))] := hD
              have hr_51 := w_52
              obtain rfl : r_51 = (-1000001) := hr_51.trans (by decide +kernel)
              exact hRet (sc4_53, c5, c6, c7) [3, 4, 0, 1, 2] ⟨(by (try dsimp only); unfold sp_sheet; (repeat (first | rw [if_pos (by omega)] | rw [if_neg (by omega)]))), (by (try dsimp only); unfold shB; (repeat (first | rw [if_pos (by omega)] | rw [if_neg (by omega)]))), (by (try dsimp only); unfold shB; (repeat (first | rw [if_pos (by omega)] | rw [if_neg (by omega)]))), (by (try dsimp only); unfold shN; (repeat (first | rw [if_pos (by omega)] | rw [if_neg (by omega)]))), pre0⟩ hP hD (by decide +kernel) rfl hS rfl dX11_sheet_67
          · refine lv_aload_n hx hb dX11_sheet_44 rfl (lv_at hl 0 rfl) ?_
            refine lv_ldc (v := (-1000003)) hx hb hown (hT _ mw_1356) dX11_sheet_45 ?_
            refine kJi (wr := [(k5, .inl (cI, 4, .inl c5)), (k6, .inl (cI, 4, .inl c6)), (k7, .inl (cI, 144, .inl c7))]) (va_runV (As := [.int (-1000003)]) (rest := []) ⟨hx, hb, hml, hown, hT⟩ (c_X11_findingG l D cI aK aV k k0 k1 k2 k4 k5 k6 k7 k8 ka kb kl ko H.size c3 c9 cc cd ce cf cg ch ci cj ck cm cn c4 (-1000003) (by first | omega | (simp only [zl_m1000003]; first | done | omega) | decide | assumption | rfl) (by first | omega | (simp only [zl_m1000003]; first | done | omega) | decide | assumption | rfl)) (cwV 1 hT (gV_in mw_1243 mw_1240 mw_1242 mw_p3_8 mw_12) rfl rfl rfl (by decide +kernel) ⟨Nat.le_of_ble_eq_true rfl, Nat.le_of_ble_eq_true rfl⟩) (kRecvX (q0 := 0) (ci := 11) hK hP hD hN hXS hS hA rfl rfl [0, 1] rfl (by decide +kernel)) rfl rfl hl.1 rfl (lv_room (Nat.le_of_ble_eq_true rfl)) dX11_sheet_47 ⟨Nat.le_of_ble_eq_true rfl, Nat.le_of_ble_eq_true rfl⟩) hP hD hS hA [0, 1] [2, 3, 4] rfl rfl (by decide +kernel) (by decide +kernel) ?_
            clear hP hD hS
            intro r_54 sc4_56 H locs w_55 hP hD hS
            replace hP : va_P D vwCl [(k5, .inl (cI, 4, .inl c5)), (k6, .inl (cI, 4, .inl c6)), (k7, .inl (cI, 144, .inl c7)), (k, .inr (11, [.ref k0, .ref k1, .ref k2, .int c3, .ref k4, .ref k5, .ref k6, .ref k7, .ref k8, .int c9, .ref ka, .ref kb, .int cc, .int cd, .int ce, .int cf, .int cg, .int ch, .int ci, .int cj, .int ck, .ref kl, .int cm, .int cn, .ref ko])), (k4, .inl (cI, 6, .inl sc4_56))] H := hP
            replace hD : va_D A [(k5, .inl (cI, 4, .inl c5)), (k6, .inl (cI, 4, .inl c6)), (k7, .inl (cI, 144, .inl c7)), (k, .inr (11, [.ref k0, .ref k1, .ref k2, .int c3, .ref k4, .ref k5, .ref k6, .ref k7, .ref k8, .int c9, .ref ka, .ref kb, .int cc, .int cd, .int ce, .int cf, .int cg, .int ch, .int ci, .int cj, .int ck, .ref kl, .int cm, .int cn, .ref ko])), (k4, .inl (cI, 6, .inl sc4_56))] := hD
            have hr_54 := w_55
            obtain rfl : r_54 = (-1000003) := hr_54.trans (by decide +kernel)
            exact hRet (sc4_56, c5, c6, c7) [3, 4, 0, 1, 2] ⟨(by (try dsimp only); unfold sp_sheet; (repeat (first | rw [if_pos (by omega)] | rw [if_neg (by omega)]))), (by (try dsimp only); unfold shB; (repeat (first | rw [if_pos (by omega)] | rw [if_neg (by omega)]))), (by (try dsimp only); unfold shB; (repeat (first | rw [if_pos (by omega)] | rw [if_neg (by omega)]))), (by (try dsimp only); unfold shN; (repeat (first | rw [if_pos (by omega)] | rw [if_neg (by omega)]))), pre0⟩ hP hD (by decide +kernel) rfl hS rfl dX11_sheet_50
        · refine lv_iload_n hx hb dX11_sheet_23 rfl (lv_at hl 2 rfl) ?_
          refine lv_bipush (v := 32) hx hb dX11_sheet_24 (by decide +kernel) ?_
          refine b_icmp_eq hx hb rfl zl_32 (tgt := 36) dX11_sheet_26 (by decide +kernel) (fun c_57 => ?_) (fun c_57 => ?_)
          · refine lv_iload_n hx hb dX11_sheet_36 rfl (lv_at hl 2 rfl) ?_
            refine b_if_eq hx hb rfl (tgt := 51) dX11_sheet_37 (by decide +kernel) (fun c_58 => by exfalso; omega) (fun c_58 => ?_)
            refine lv_iload_n hx hb dX11_sheet_40 rfl (lv_at hl 3 rfl) ?_
            refine b_if_ge hx hb rfl (tgt := 51) dX11_sheet_41 (by decide +kernel) (fun c_59 => ?_) (fun c_59 => ?_)
            · refine lv_iload_n hx hb dX11_sheet_51 rfl (lv_at hl 2 rfl) ?_
              refine b_if_eq hx hb rfl (tgt := 68) dX11_sheet_52 (by decide +kernel) (fun c_60 => by exfalso; omega) (fun c_60 => ?_)
              refine lv_iload_n hx hb dX11_sheet_55 rfl (lv_at hl 3 rfl) ?_
              refine lv_bipush (v := 36) hx hb dX11_sheet_56 (by decide +kernel) ?_
              refine b_icmp_le hx hb rfl zl_36 (tgt := 68) dX11_sheet_58 (by decide +kernel) (fun c_61 => ?_) (fun c_61 => ?_)
              · refine lv_aload_n hx hb dX11_sheet_68 rfl (lv_at hl 0 rfl) ?_
                refine va_get (D := D) (ci := 11) (v := .ref k5) (C := RX11) (T := TX11) (N := 25) hx hb hT giX11 hown hK hP 0 rfl rfl 5 (by decide +kernel) (hT (Cond.fieldLink RX11 22 "DesertWireModel" "bits" "[I") mw_1161) (fun _ h9 => h9) rfl dX11_sheet_69 ?_
                refine lv_iload_n hx hb dX11_sheet_72 rfl (lv_at hl 1 rfl) ?_
                refine lv_iload_n hx hb dX11_sheet_73 rfl (lv_at hl 2 rfl) ?_
                refine va_iast hx hb hK hP hD hS 2 0 rfl rfl (k_in (by omega) (by omega)) dX11_sheet_74 ?_
                clear hP hD hS
                intro H locs hP hD hS
                replace hP : va_P D vwCl [(k, .inr (11, [.ref k0, .ref k1, .ref k2, .int c3, .ref k4, .ref k5, .ref k6, .ref k7, .ref k8, .int c9, .ref ka, .ref kb, .int cc, .int cd, .int ce, .int cf, .int cg, .int ch, .int ci, .int cj, .int ck, .ref kl, .int cm, .int cn, .ref ko])), (k4, .inl (cI, 6, .inl c4)), (k5, .inl (cI, 4, .inl (upd c5 a0.toNatClampNeg a1))), (k6, .inl (cI, 4, .inl c6)), (k7, .inl (cI, 144, .inl c7))] H := hP
                replace hD : va_D A [(k, .inr (11, [.ref k0, .ref k1, .ref k2, .int c3, .ref k4, .ref k5, .ref k6, .ref k7, .ref k8, .int c9, .ref ka, .ref kb, .int cc, .int cd, .int ce, .int cf, .int cg, .int ch, .int ci, .int cj, .int ck, .ref kl, .int cm, .int cn, .ref ko])), (k4, .inl (cI, 6, .inl c4)), (k5, .inl (cI, 4, .inl (upd c5 a0.toNatClampNeg a1))), (k6, .inl (cI, 4, .inl c6)), (k7, .inl (cI, 144, .inl c7))] := hD
                obtain ⟨f_62, ef_62⟩ : ∃ g : Nat → Int32, g = upd c5 a0.toNatClampNeg a1 := ⟨_, rfl⟩
                rw [← ef_62] at hP hD
                refine lv_aload_n hx hb dX11_sheet_75 rfl (lv_at hl 0 rfl) ?_
                refine va_get (D := D) (ci := 11) (v := .ref k6) (C := RX11) (T := TX11) (N := 25) hx hb hT giX11 hown hK hP 0 rfl rfl 6 (by decide +kernel) (hT (Cond.fieldLink RX11 25 "DesertWireModel" "size" "[I") mw_1162) (fun _ h9 => h9) rfl dX11_sheet_76 ?_
                refine lv_iload_n hx hb dX11_sheet_79 rfl (lv_at hl 1 rfl) ?_
                refine lv_iload_n hx hb dX11_sheet_80 rfl (lv_at hl 2 rfl) ?_
                refine b_if_ne hx hb rfl (tgt := 88) dX11_sheet_81 (by decide +kernel) (fun c_63 => ?_) (fun c_63 => by exfalso; omega)
                refine lv_iload_n hx hb dX11_sheet_88 rfl (lv_at hl 3 rfl) ?_
                refine va_iast hx hb hK hP hD hS 3 0 rfl rfl (k_in (by omega) (by omega)) dX11_sheet_89 ?_
                clear hP hD hS
                intro H locs hP hD hS
                replace hP : va_P D vwCl [(k, .inr (11, [.ref k0, .ref k1, .ref k2, .int c3, .ref k4, .ref k5, .ref k6, .ref k7, .ref k8, .int c9, .ref ka, .ref kb, .int cc, .int cd, .int ce, .int cf, .int cg, .int ch, .int ci, .int cj, .int ck, .ref kl, .int cm, .int cn, .ref ko])), (k4, .inl (cI, 6, .inl c4)), (k5, .inl (cI, 4, .inl f_62)), (k6, .inl (cI, 4, .inl (upd c6 a0.toNatClampNeg a2))), (k7, .inl (cI, 144, .inl c7))] H := hP
                replace hD : va_D A [(k, .inr (11, [.ref k0, .ref k1, .ref k2, .int c3, .ref k4, .ref k5, .ref k6, .ref k7, .ref k8, .int c9, .ref ka, .ref kb, .int cc, .int cd, .int ce, .int cf, .int cg, .int ch, .int ci, .int cj, .int ck, .ref kl, .int cm, .int cn, .ref ko])), (k4, .inl (cI, 6, .inl c4)), (k5, .inl (cI, 4, .inl f_62)), (k6, .inl (cI, 4, .inl (upd c6 a0.toNatClampNeg a2))), (k7, .inl (cI, 144, .inl c7))] := hD
                obtain ⟨f_64, ef_64⟩ : ∃ g : Nat → Int32, g = upd c6 a0.toNatClampNeg a2 := ⟨_, rfl⟩
                rw [← ef_64] at hP hD
                refine lv_iconst (v := 0) hx hb dX11_sheet_90 (by decide +kernel) ?_
                refine lv_istore (lv' := [(4, .int 0), (0, .ref k), (1, .int a0), (2, .int a1), (3, .int a2)]) hx hb dX11_sheet_91 hl (by decide +kernel) rfl ?_
                clear hl
                intro ls hl
                have hloop_93 : ∀ (fu_ : Nat) (l93_4 : Int32) (g93_k7 : Nat → Int32), 0 ≤ l93_4.toInt → l93_4.toInt ≤ 36 → g93_k7 = zr c7 (36 * a0.toInt.toNat) l93_4.toInt.toNat → (36 - l93_4.toInt).toNat < fu_ → ∀ (ls : Array Slot) (H : Heap) (locs : List Loc), lv_has ls 5 [(4, .int l93_4), (0, .ref k), (1, .int a0), (2, .int a1), (3, .int a2)] → va_P D vwCl [(k, .inr (11, [.ref k0, .ref k1, .ref k2, .int c3, .ref k4, .ref k5, .ref k6, .ref k7, .ref k8, .int c9, .ref ka, .ref kb, .int cc, .int cd, .int ce, .int cf, .int cg, .int ch, .int ci, .int cj, .int ck, .ref kl, .int cm, .int cn, .ref ko])), (k4, .inl (cI, 6, .inl c4)), (k5, .inl (cI, 4, .inl f_62)), (k6, .inl (cI, 4, .inl f_64)), (k7, .inl (cI, 144, .inl g93_k7))] H → va_D A [(k, .inr (11, [.ref k0, .ref k1, .ref k2, .int c3, .ref k4, .ref k5, .ref k6, .ref k7, .ref k8, .int c9, .ref ka, .ref kb, .int cc, .int cd, .int ce, .int cf, .int cg, .int ch, .int ci, .int cj, .int ck, .ref kl, .int cm, .int cn, .ref ko])), (k4, .inl (cI, 6, .inl c4)), (k5, .inl (cI, 4, .inl f_62)), (k6, .inl (cI, 4, .inl f_64)), (k7, .inl (cI, 144, .inl g93_k7))] → va_S A s.heap H locs → W p l e ({ frames := 2, cells := 0, slots := 0, locals := 42 } : Room) s m args below meth c H locs 0 0 Q (F0 m 93 ls []) := by
                  intro fu_; induction fu_ with
                  | zero => intro l93_4 g93_k7 i93_0 i93_1 i93_2 hm; exact absurd hm (by omega)
                  | succ fu_ ih93 =>
                      intro l93_4 g93_k7 i93_0 i93_1 i93_2 hm ls H locs hl hP hD hS
                      have lo_l93_4 := k_lo l93_4
                      have hi_l93_4 := k_hi l93_4
                      have i93_2 : g93_k7 = zr c7 (36 * a0.toInt.toNat) l93_4.toInt.toNat := i93_2
                      refine lv_iload hx hb dX11_sheet_93 (lv_at hl 0 rfl) ?_
                      refine lv_bipush (v := 36) hx hb dX11_sheet_95 (by decide +kernel) ?_
                      refine b_icmp_ge hx hb rfl zl_36 (tgt := 119) dX11_sheet_97 (by decide +kernel) (fun c_65 => ?_) (fun c_65 => ?_)
                      · refine lv_iconst (v := 1) hx hb dX11_sheet_119 (by decide +kernel) ?_
                        exact hRet (c4, f_62, f_64, g93_k7) [0, 1, 2, 3, 4] ⟨(by (try dsimp only); unfold sp_sheet; (repeat (first | rw [if_pos (by omega)] | rw [if_neg (by omega)]))), (by (try dsimp only); unfold shB; (repeat (first | rw [if_pos (by omega)] | rw [if_neg (by omega)])); first | done | exact ef_62), (by (try dsimp only); unfold shB; (repeat (first | rw [if_pos (by omega)] | rw [if_neg (by omega)])); rw [ef_64]; unfold shD; (repeat (first | rw [if_pos (by omega)] | rw [if_neg (by omega)]))), (by unfold shN; (repeat (first | rw [if_pos (by omega)] | rw [if_neg (by omega)])); rw [i93_2, show l93_4.toInt.toNat = 36 from by omega]), (k_PL pre0 ef_64 (by first | omega | (rw [zl_0]; omega)) (by first | omega | (rw [zl_0]; omega)))⟩ hP hD (by decide +kernel) rfl hS rfl dX11_sheet_120
                      · refine lv_aload_n hx hb dX11_sheet_100 rfl (lv_at hl 1 rfl) ?_
                        refine va_get (D := D) (ci := 11) (v := .ref k7) (C := RX11) (T := TX11) (N := 25) hx hb hT giX11 hown hK hP 0 rfl rfl 7 (by decide +kernel) (hT (Cond.fieldLink RX11 28 "DesertWireModel" "number" "[I") mw_1163) (fun _ h9 => h9) rfl dX11_sheet_101 ?_
                        refine lv_bipush (v := 36) hx hb dX11_sheet_104 (by decide +kernel) ?_
                        refine lv_iload_n hx hb dX11_sheet_106 rfl (lv_at hl 2 rfl) ?_
                        refine lv_imul hx hb dX11_sheet_107 ?_
                        refine lv_topi (fun v_66 ev_66 => ?_)
                        have tv_66 : v_66.toInt = 36 * a0.toInt := by rw [ev_66]; exact k_mulv zl_36 rfl (by omega) (by omega)
                        refine lv_iload hx hb dX11_sheet_108 (lv_at hl 0 rfl) ?_
                        refine lv_iadd hx hb dX11_sheet_110 ?_
                        refine lv_topi (fun v_67 ev_67 => ?_)
                        have tv_67 : v_67.toInt = v_66.toInt + l93_4.toInt := by rw [ev_67]; exact k_addv rfl rfl (by omega) (by omega)
                        refine lv_iconst (v := 0) hx hb dX11_sheet_111 (by decide +kernel) ?_
                        refine va_iast hx hb hK hP hD hS 4 0 rfl rfl (k_in (by omega) (by omega)) dX11_sheet_112 ?_
                        clear hP hD hS
                        intro H locs hP hD hS
                        replace hP : va_P D vwCl [(k, .inr (11, [.ref k0, .ref k1, .ref k2, .int c3, .ref k4, .ref k5, .ref k6, .ref k7, .ref k8, .int c9, .ref ka, .ref kb, .int cc, .int cd, .int ce, .int cf, .int cg, .int ch, .int ci, .int cj, .int ck, .ref kl, .int cm, .int cn, .ref ko])), (k4, .inl (cI, 6, .inl c4)), (k5, .inl (cI, 4, .inl f_62)), (k6, .inl (cI, 4, .inl f_64)), (k7, .inl (cI, 144, .inl (upd g93_k7 v_67.toNatClampNeg 0)))] H := hP
                        replace hD : va_D A [(k, .inr (11, [.ref k0, .ref k1, .ref k2, .int c3, .ref k4, .ref k5, .ref k6, .ref k7, .ref k8, .int c9, .ref ka, .ref kb, .int cc, .int cd, .int ce, .int cf, .int cg, .int ch, .int ci, .int cj, .int ck, .ref kl, .int cm, .int cn, .ref ko])), (k4, .inl (cI, 6, .inl c4)), (k5, .inl (cI, 4, .inl f_62)), (k6, .inl (cI, 4, .inl f_64)), (k7, .inl (cI, 144, .inl (upd g93_k7 v_67.toNatClampNeg 0)))] := hD
                        obtain ⟨f_68, ef_68⟩ : ∃ g : Nat → Int32, g = upd g93_k7 v_67.toNatClampNeg 0 := ⟨_, rfl⟩
                        rw [← ef_68] at hP hD
                        obtain ⟨v_69, ev_69⟩ : ∃ y : Int32, y = l93_4 + 1 := ⟨_, rfl⟩
                        have tv_69 : v_69.toInt = l93_4.toInt + 1 := by rw [ev_69]; exact k_addv rfl zl_1 (by omega) (by omega)
                        refine lv_iinc (v := v_69) (lv' := [(4, .int v_69), (0, .ref k), (1, .int a0), (2, .int a1), (3, .int a2)]) hx hb dX11_sheet_113 hl (k := 0) rfl (by rw [ev_69]; rfl) (by decide +kernel) rfl ?_
                        clear hl
                        intro ls hl
                        refine lv_goto (tgt := 93) hx hb dX11_sheet_116 (by decide +kernel) ?_
                        exact ih93 v_69 f_68 (by first | omega | decide | assumption | rfl) (by first | omega | decide | assumption | rfl) (zr_step i93_2 (by omega) (by omega) ef_68 (by omega) rfl) (by omega) ls _ _ (lv_sub hl [0, 1, 2, 3, 4] rfl) (hP.sub [0, 1, 2, 3, 4] rfl) (hD.sub [0, 1, 2, 3, 4] (by decide +kernel) rfl) hS
                exact hloop_93 _ 0 c7 (by first | omega | (simp only [zl_0]; first | done | omega) | decide | assumption | rfl) (by first | omega | (simp only [zl_0]; first | done | omega) | decide | assumption | rfl) (zr_0 zl_0) (Nat.lt_succ_self _) ls _ _ (lv_sub hl [0, 1, 2, 3, 4] rfl) hP hD hS
              · refine lv_aload_n hx hb dX11_sheet_61 rfl (lv_at hl 0 rfl) ?_
                refine lv_ldc (v := (-1000001)) hx hb hown (hT _ mw_1239) dX11_sheet_62 ?_
                refine kJi (wr := [(k5, .inl (cI, 4, .inl c5)), (k6, .inl (cI, 4, .inl c6)), (k7, .inl (cI, 144, .inl c7))]) (va_runV (As := [.int (-1000001)]) (rest := []) ⟨hx, hb, hml, hown, hT⟩ (c_X11_findingG l D cI aK aV k k0 k1 k2 k4 k5 k6 k7 k8 ka kb kl ko H.size c3 c9 cc cd ce cf cg ch ci cj ck cm cn c4 (-1000001) (by first | omega | (simp only [zl_m1000001]; first | done | omega) | decide | assumption | rfl) (by first | omega | (simp only [zl_m1000001]; first | done | omega) | decide | assumption | rfl)) (cwV 1 hT (gV_in mw_1243 mw_1240 mw_1242 mw_p3_8 mw_12) rfl rfl rfl (by decide +kernel) ⟨Nat.le_of_ble_eq_true rfl, Nat.le_of_ble_eq_true rfl⟩) (kRecvX (q0 := 0) (ci := 11) hK hP hD hN hXS hS hA rfl rfl [0, 1] rfl (by decide +kernel)) rfl rfl hl.1 rfl (lv_room (Nat.le_of_ble_eq_true rfl)) dX11_sheet_64 ⟨Nat.le_of_ble_eq_true rfl, Nat.le_of_ble_eq_true rfl⟩) hP hD hS hA [0, 1] [2, 3, 4] rfl rfl (by decide +kernel) (by decide +kernel) ?_
                clear hP hD hS
                intro r_70 sc4_72 H locs w_71 hP hD hS
                replace hP : va_P D vwCl [(k5, .inl (cI, 4, .inl c5)), (k6, .inl (cI, 4, .inl c6)), (k7, .inl (cI, 144, .inl c7)), (k, .inr (11, [.ref k0, .ref k1, .ref k2, .int c3, .ref k4, .ref k5, .ref k6, .ref k7, .ref k8, .int c9, .ref ka, .ref kb, .int cc, .int cd, .int ce, .int cf, .int cg, .int ch, .int ci, .int cj, .int ck, .ref kl, .int cm, .int cn, .ref ko])), (k4, .inl (cI, 6, .inl sc4_72))] H := hP
                replace hD : va_D A [(k5, .inl (cI, 4, .inl c5)), (k6, .inl (cI, 4, .inl c6)), (k7, .inl (cI, 144, .inl c7)), (k, .inr (11, [.ref k0, .ref k1, .ref k2, .int c3, .ref k4, .ref k5, .ref k6, .ref k7, .ref k8, .int c9, .ref ka, .ref kb, .int cc, .int cd, .int ce, .int cf, .int cg, .int ch, .int ci, .int cj, .int ck, .ref kl, .int cm, .int cn, .ref ko])), (k4, .inl (cI, 6, .inl sc4_72))] := hD
                have hr_70 := w_71
                obtain rfl : r_70 = (-1000001) := hr_70.trans (by decide +kernel)
                exact hRet (sc4_72, c5, c6, c7) [3, 4, 0, 1, 2] ⟨(by (try dsimp only); unfold sp_sheet; (repeat (first | rw [if_pos (by omega)] | rw [if_neg (by omega)]))), (by (try dsimp only); unfold shB; (repeat (first | rw [if_pos (by omega)] | rw [if_neg (by omega)]))), (by (try dsimp only); unfold shB; (repeat (first | rw [if_pos (by omega)] | rw [if_neg (by omega)]))), (by (try dsimp only); unfold shN; (repeat (first | rw [if_pos (by omega)] | rw [if_neg (by omega)]))), pre0⟩ hP hD (by decide +kernel) rfl hS rfl dX11_sheet_67
            · refine lv_aload_n hx hb dX11_sheet_44 rfl (lv_at hl 0 rfl) ?_
              refine lv_ldc (v := (-1000003)) hx hb hown (hT _ mw_1356) dX11_sheet_45 ?_
              refine kJi (wr := [(k5, .inl (cI, 4, .inl c5)), (k6, .inl (cI, 4, .inl c6)), (k7, .inl (cI, 144, .inl c7))]) (va_runV (As := [.int (-1000003)]) (rest := []) ⟨hx, hb, hml, hown, hT⟩ (c_X11_findingG l D cI aK aV k k0 k1 k2 k4 k5 k6 k7 k8 ka kb kl ko H.size c3 c9 cc cd ce cf cg ch ci cj ck cm cn c4 (-1000003) (by first | omega | (simp only [zl_m1000003]; first | done | omega) | decide | assumption | rfl) (by first | omega | (simp only [zl_m1000003]; first | done | omega) | decide | assumption | rfl)) (cwV 1 hT (gV_in mw_1243 mw_1240 mw_1242 mw_p3_8 mw_12) rfl rfl rfl (by decide +kernel) ⟨Nat.le_of_ble_eq_true rfl, Nat.le_of_ble_eq_true rfl⟩) (kRecvX (q0 := 0) (ci := 11) hK hP hD hN hXS hS hA rfl rfl [0, 1] rfl (by decide +kernel)) rfl rfl hl.1 rfl (lv_room (Nat.le_of_ble_eq_true rfl)) dX11_sheet_47 ⟨Nat.le_of_ble_eq_true rfl, Nat.le_of_ble_eq_true rfl⟩) hP hD hS hA [0, 1] [2, 3, 4] rfl rfl (by decide +kernel) (by decide +kernel) ?_
              clear hP hD hS
              intro r_73 sc4_75 H locs w_74 hP hD hS
              replace hP : va_P D vwCl [(k5, .inl (cI, 4, .inl c5)), (k6, .inl (cI, 4, .inl c6)), (k7, .inl (cI, 144, .inl c7)), (k, .inr (11, [.ref k0, .ref k1, .ref k2, .int c3, .ref k4, .ref k5, .ref k6, .ref k7, .ref k8, .int c9, .ref ka, .ref kb, .int cc, .int cd, .int ce, .int cf, .int cg, .int ch, .int ci, .int cj, .int ck, .ref kl, .int cm, .int cn, .ref ko])), (k4, .inl (cI, 6, .inl sc4_75))] H := hP
              replace hD : va_D A [(k5, .inl (cI, 4, .inl c5)), (k6, .inl (cI, 4, .inl c6)), (k7, .inl (cI, 144, .inl c7)), (k, .inr (11, [.ref k0, .ref k1, .ref k2, .int c3, .ref k4, .ref k5, .ref k6, .ref k7, .ref k8, .int c9, .ref ka, .ref kb, .int cc, .int cd, .int ce, .int cf, .int cg, .int ch, .int ci, .int cj, .int ck, .ref kl, .int cm, .int cn, .ref ko])), (k4, .inl (cI, 6, .inl sc4_75))] := hD
              have hr_73 := w_74
              obtain rfl : r_73 = (-1000003) := hr_73.trans (by decide +kernel)
              exact hRet (sc4_75, c5, c6, c7) [3, 4, 0, 1, 2] ⟨(by (try dsimp only); unfold sp_sheet; (repeat (first | rw [if_pos (by omega)] | rw [if_neg (by omega)]))), (by (try dsimp only); unfold shB; (repeat (first | rw [if_pos (by omega)] | rw [if_neg (by omega)]))), (by (try dsimp only); unfold shB; (repeat (first | rw [if_pos (by omega)] | rw [if_neg (by omega)]))), (by (try dsimp only); unfold shN; (repeat (first | rw [if_pos (by omega)] | rw [if_neg (by omega)]))), pre0⟩ hP hD (by decide +kernel) rfl hS rfl dX11_sheet_50
          · refine lv_aload_n hx hb dX11_sheet_29 rfl (lv_at hl 0 rfl) ?_
            refine lv_ldc (v := (-1000001)) hx hb hown (hT _ mw_1239) dX11_sheet_30 ?_
            refine kJi (wr := [(k5, .inl (cI, 4, .inl c5)), (k6, .inl (cI, 4, .inl c6)), (k7, .inl (cI, 144, .inl c7))]) (va_runV (As := [.int (-1000001)]) (rest := []) ⟨hx, hb, hml, hown, hT⟩ (c_X11_findingG l D cI aK aV k k0 k1 k2 k4 k5 k6 k7 k8 ka kb kl ko H.size c3 c9 cc cd ce cf cg ch ci cj ck cm cn c4 (-1000001) (by first | omega | (simp only [zl_m1000001]; first | done | omega) | decide | assumption | rfl) (by first | omega | (simp only [zl_m1000001]; first | done | omega) | decide | assumption | rfl)) (cwV 1 hT (gV_in mw_1243 mw_1240 mw_1242 mw_p3_8 mw_12) rfl rfl rfl (by decide +kernel) ⟨Nat.le_of_ble_eq_true rfl, Nat.le_of_ble_eq_true rfl⟩) (kRecvX (q0 := 0) (ci := 11) hK hP hD hN hXS hS hA rfl rfl [0, 1] rfl (by decide +kernel)) rfl rfl hl.1 rfl (lv_room (Nat.le_of_ble_eq_true rfl)) dX11_sheet_32 ⟨Nat.le_of_ble_eq_true rfl, Nat.le_of_ble_eq_true rfl⟩) hP hD hS hA [0, 1] [2, 3, 4] rfl rfl (by decide +kernel) (by decide +kernel) ?_
            clear hP hD hS
            intro r_76 sc4_78 H locs w_77 hP hD hS
            replace hP : va_P D vwCl [(k5, .inl (cI, 4, .inl c5)), (k6, .inl (cI, 4, .inl c6)), (k7, .inl (cI, 144, .inl c7)), (k, .inr (11, [.ref k0, .ref k1, .ref k2, .int c3, .ref k4, .ref k5, .ref k6, .ref k7, .ref k8, .int c9, .ref ka, .ref kb, .int cc, .int cd, .int ce, .int cf, .int cg, .int ch, .int ci, .int cj, .int ck, .ref kl, .int cm, .int cn, .ref ko])), (k4, .inl (cI, 6, .inl sc4_78))] H := hP
            replace hD : va_D A [(k5, .inl (cI, 4, .inl c5)), (k6, .inl (cI, 4, .inl c6)), (k7, .inl (cI, 144, .inl c7)), (k, .inr (11, [.ref k0, .ref k1, .ref k2, .int c3, .ref k4, .ref k5, .ref k6, .ref k7, .ref k8, .int c9, .ref ka, .ref kb, .int cc, .int cd, .int ce, .int cf, .int cg, .int ch, .int ci, .int cj, .int ck, .ref kl, .int cm, .int cn, .ref ko])), (k4, .inl (cI, 6, .inl sc4_78))] := hD
            have hr_76 := w_77
            obtain rfl : r_76 = (-1000001) := hr_76.trans (by decide +kernel)
            exact hRet (sc4_78, c5, c6, c7) [3, 4, 0, 1, 2] ⟨(by (try dsimp only); unfold sp_sheet; (repeat (first | rw [if_pos (by omega)] | rw [if_neg (by omega)]))), (by (try dsimp only); unfold shB; (repeat (first | rw [if_pos (by omega)] | rw [if_neg (by omega)]))), (by (try dsimp only); unfold shB; (repeat (first | rw [if_pos (by omega)] | rw [if_neg (by omega)]))), (by (try dsimp only); unfold shN; (repeat (first | rw [if_pos (by omega)] | rw [if_neg (by omega)]))), pre0⟩ hP hD (by decide +kernel) rfl hS rfl dX11_sheet_35
  · have h_6 : a0.toInt < 0 ∨ 3 < a0.toInt := h_6
    obtain rfl : r_1 = 0 := hr_1.trans (by decide +kernel)
    refine b_if_eq hx hb zl_0 (tgt := 29) dX11_sheet_4 (by decide +kernel) (fun c_79 => ?_) (fun c_79 => by exfalso; omega)
    refine lv_aload_n hx hb dX11_sheet_29 rfl (lv_at hl 0 rfl) ?_
    refine lv_ldc (v := (-1000001)) hx hb hown (hT _ mw_1239) dX11_sheet_30 ?_
    refine kJi (wr := [(k5, .inl (cI, 4, .inl c5)), (k6, .inl (cI, 4, .inl c6)), (k7, .inl (cI, 144, .inl c7))]) (va_runV (As := [.int (-1000001)]) (rest := []) ⟨hx, hb, hml, hown, hT⟩ (c_X11_findingG l D cI aK aV k k0 k1 k2 k4 k5 k6 k7 k8 ka kb kl ko H.size c3 c9 cc cd ce cf cg ch ci cj ck cm cn c4 (-1000001) (by first | omega | (simp only [zl_m1000001]; first | done | omega) | decide | assumption | rfl) (by first | omega | (simp only [zl_m1000001]; first | done | omega) | decide | assumption | rfl)) (cwV 1 hT (gV_in mw_1243 mw_1240 mw_1242 mw_p3_8 mw_12) rfl rfl rfl (by decide +kernel) ⟨Nat.le_of_ble_eq_true rfl, Nat.le_of_ble_eq_true rfl⟩) (kRecvX (q0 := 0) (ci := 11) hK hP hD hN hXS hS hA rfl rfl [0, 1] rfl (by decide +kernel)) rfl rfl hl.1 rfl (lv_room (Nat.le_of_ble_eq_true rfl)) dX11_sheet_32 ⟨Nat.le_of_ble_eq_true rfl, Nat.le_of_ble_eq_true rfl⟩) hP hD hS hA [0, 1] [2, 3, 4] rfl rfl (by decide +kernel) (by decide +kernel) ?_
    clear hP hD hS
    intro r_80 sc4_82 H locs w_81 hP hD hS
    replace hP : va_P D vwCl [(k5, .inl (cI, 4, .inl c5)), (k6, .inl (cI, 4, .inl c6)), (k7, .inl (cI, 144, .inl c7)), (k, .inr (11, [.ref k0, .ref k1, .ref k2, .int c3, .ref k4, .ref k5, .ref k6, .ref k7, .ref k8, .int c9, .ref ka, .ref kb, .int cc, .int cd, .int ce, .int cf, .int cg, .int ch, .int ci, .int cj, .int ck, .ref kl, .int cm, .int cn, .ref ko])), (k4, .inl (cI, 6, .inl sc4_82))] H := hP
    replace hD : va_D A [(k5, .inl (cI, 4, .inl c5)), (k6, .inl (cI, 4, .inl c6)), (k7, .inl (cI, 144, .inl c7)), (k, .inr (11, [.ref k0, .ref k1, .ref k2, .int c3, .ref k4, .ref k5, .ref k6, .ref k7, .ref k8, .int c9, .ref ka, .ref kb, .int cc, .int cd, .int ce, .int cf, .int cg, .int ch, .int ci, .int cj, .int ck, .ref kl, .int cm, .int cn, .ref ko])), (k4, .inl (cI, 6, .inl sc4_82))] := hD
    have hr_80 := w_81
    obtain rfl : r_80 = (-1000001) := hr_80.trans (by decide +kernel)
    exact hRet (sc4_82, c5, c6, c7) [3, 4, 0, 1, 2] ⟨(by (try dsimp only); unfold sp_sheet; (repeat (first | rw [if_pos (by omega)] | rw [if_neg (by omega)]))), (by (try dsimp only); unfold shB; (repeat (first | rw [if_pos (by omega)] | rw [if_neg (by omega)]))), (by (try dsimp only); unfold shB; (repeat (first | rw [if_pos (by omega)] | rw [if_neg (by omega)]))), (by (try dsimp only); unfold shN; (repeat (first | rw [if_pos (by omega)] | rw [if_neg (by omega)]))), pre0⟩ hP hD (by decide +kernel) rfl hS rfl dX11_sheet_35
theorem bn_cX11_put_0 : BN cX11_put 0 0x56814a07b02858f2050b078c21d348704a110e8056a2b028dcca2f0e05c02b51588422ad208056e40098ac16014d8c002b9328145e1c0d0056a2b020755a4100adce6131582c029b178702e015a8ad5a4100adc80131582c029b38005721c := by
  unfold BN; decide +kernel
theorem dX11_put_0 : decode cX11_put 0 = .ok (.iload_n 1, 1) := dR0 (k := 0) (i := 0) bn_cX11_put_0 dop_27 (by decide +kernel)
theorem dX11_put_1 : decode cX11_put 1 = .ok (.invokestatic 111, 3) := dR2 (f := Instr.invokestatic) (k := 0) (i := 1) bn_cX11_put_0 dop_184 111 (by decide +kernel)
theorem dX11_put_4 : decode cX11_put 4 = .ok (.ifCond .ne 10, 3) := dR2s (f := Instr.ifCond .ne) (k := 0) (i := 4) bn_cX11_put_0 dop_154 10 10 (by decide +kernel)
theorem dX11_put_7 : decode cX11_put 7 = .ok (.aload_n 0, 1) := dR0 (k := 0) (i := 7) bn_cX11_put_0 dop_42 (by decide +kernel)
theorem dX11_put_8 : decode cX11_put 8 = .ok (.ldc 63, 2) := dR1 (f := Instr.ldc) (k := 0) (i := 8) bn_cX11_put_0 dop_18 63 (by decide +kernel)
theorem dX11_put_10 : decode cX11_put 10 = .ok (.invokevirtual 64, 3) := dR2 (f := Instr.invokevirtual) (k := 0) (i := 10) bn_cX11_put_0 dop_182 64 (by decide +kernel)
theorem dX11_put_13 : decode cX11_put 13 = .ok (.ireturn, 1) := dR0 (k := 0) (i := 13) bn_cX11_put_0 dop_172 (by decide +kernel)
theorem dX11_put_14 : decode cX11_put 14 = .ok (.aload_n 0, 1) := dR0 (k := 0) (i := 14) bn_cX11_put_0 dop_42 (by decide +kernel)
theorem dX11_put_15 : decode cX11_put 15 = .ok (.getfield 22, 3) := dR2 (f := Instr.getfield) (k := 0) (i := 15) bn_cX11_put_0 dop_180 22 (by decide +kernel)
theorem dX11_put_18 : decode cX11_put 18 = .ok (.iload_n 1, 1) := dR0 (k := 0) (i := 18) bn_cX11_put_0 dop_27 (by decide +kernel)
theorem dX11_put_19 : decode cX11_put 19 = .ok (.iaload, 1) := dR0 (k := 0) (i := 19) bn_cX11_put_0 dop_46 (by decide +kernel)
theorem dX11_put_20 : decode cX11_put 20 = .ok (.ifCond .ne 10, 3) := dR2s (f := Instr.ifCond .ne) (k := 0) (i := 20) bn_cX11_put_0 dop_154 10 10 (by decide +kernel)
theorem dX11_put_23 : decode cX11_put 23 = .ok (.aload_n 0, 1) := dR0 (k := 0) (i := 23) bn_cX11_put_0 dop_42 (by decide +kernel)
theorem dX11_put_24 : decode cX11_put 24 = .ok (.ldc 114, 2) := dR1 (f := Instr.ldc) (k := 0) (i := 24) bn_cX11_put_0 dop_18 114 (by decide +kernel)
theorem dX11_put_26 : decode cX11_put 26 = .ok (.invokevirtual 64, 3) := dR2 (f := Instr.invokevirtual) (k := 0) (i := 26) bn_cX11_put_0 dop_182 64 (by decide +kernel)
theorem dX11_put_29 : decode cX11_put 29 = .ok (.ireturn, 1) := dR0 (k := 0) (i := 29) bn_cX11_put_0 dop_172 (by decide +kernel)
theorem dX11_put_30 : decode cX11_put 30 = .ok (.iload_n 2, 1) := dR0 (k := 0) (i := 30) bn_cX11_put_0 dop_28 (by decide +kernel)
theorem dX11_put_31 : decode cX11_put 31 = .ok (.iconst 0, 1) := dR0 (k := 0) (i := 31) bn_cX11_put_0 dop_3 (by decide +kernel)
theorem dX11_put_32 : decode cX11_put 32 = .ok (.aload_n 0, 1) := dR0 (k := 0) (i := 32) bn_cX11_put_0 dop_42 (by decide +kernel)
theorem dX11_put_33 : decode cX11_put 33 = .ok (.getfield 25, 3) := dR2 (f := Instr.getfield) (k := 0) (i := 33) bn_cX11_put_0 dop_180 25 (by decide +kernel)
theorem dX11_put_36 : decode cX11_put 36 = .ok (.iload_n 1, 1) := dR0 (k := 0) (i := 36) bn_cX11_put_0 dop_27 (by decide +kernel)
theorem dX11_put_37 : decode cX11_put 37 = .ok (.iaload, 1) := dR0 (k := 0) (i := 37) bn_cX11_put_0 dop_46 (by decide +kernel)
theorem dX11_put_38 : decode cX11_put 38 = .ok (.iconst 1, 1) := dR0 (k := 0) (i := 38) bn_cX11_put_0 dop_4 (by decide +kernel)
theorem dX11_put_39 : decode cX11_put 39 = .ok (.isub, 1) := dR0 (k := 0) (i := 39) bn_cX11_put_0 dop_100 (by decide +kernel)
theorem dX11_put_40 : decode cX11_put 40 = .ok (.invokestatic 47, 3) := dR2 (f := Instr.invokestatic) (k := 0) (i := 40) bn_cX11_put_0 dop_184 47 (by decide +kernel)
theorem dX11_put_43 : decode cX11_put 43 = .ok (.ifCond .ne 10, 3) := dR2s (f := Instr.ifCond .ne) (k := 0) (i := 43) bn_cX11_put_0 dop_154 10 10 (by decide +kernel)
theorem dX11_put_46 : decode cX11_put 46 = .ok (.aload_n 0, 1) := dR0 (k := 0) (i := 46) bn_cX11_put_0 dop_42 (by decide +kernel)
theorem dX11_put_47 : decode cX11_put 47 = .ok (.ldc 63, 2) := dR1 (f := Instr.ldc) (k := 0) (i := 47) bn_cX11_put_0 dop_18 63 (by decide +kernel)
theorem dX11_put_49 : decode cX11_put 49 = .ok (.invokevirtual 64, 3) := dR2 (f := Instr.invokevirtual) (k := 0) (i := 49) bn_cX11_put_0 dop_182 64 (by decide +kernel)
theorem dX11_put_52 : decode cX11_put 52 = .ok (.ireturn, 1) := dR0 (k := 0) (i := 52) bn_cX11_put_0 dop_172 (by decide +kernel)
theorem dX11_put_53 : decode cX11_put 53 = .ok (.bipush 32, 2) := dR1s (f := Instr.bipush) (k := 0) (i := 53) bn_cX11_put_0 dop_16 32 32 (by decide +kernel)
theorem dX11_put_55 : decode cX11_put 55 = .ok (.aload_n 0, 1) := dR0 (k := 0) (i := 55) bn_cX11_put_0 dop_42 (by decide +kernel)
theorem dX11_put_56 : decode cX11_put 56 = .ok (.getfield 22, 3) := dR2 (f := Instr.getfield) (k := 0) (i := 56) bn_cX11_put_0 dop_180 22 (by decide +kernel)
theorem dX11_put_59 : decode cX11_put 59 = .ok (.iload_n 1, 1) := dR0 (k := 0) (i := 59) bn_cX11_put_0 dop_27 (by decide +kernel)
theorem dX11_put_60 : decode cX11_put 60 = .ok (.iaload, 1) := dR0 (k := 0) (i := 60) bn_cX11_put_0 dop_46 (by decide +kernel)
theorem dX11_put_61 : decode cX11_put 61 = .ok (.isub, 1) := dR0 (k := 0) (i := 61) bn_cX11_put_0 dop_100 (by decide +kernel)
theorem dX11_put_62 : decode cX11_put 62 = .ok (.istore 4, 2) := dR1 (f := Instr.istore) (k := 0) (i := 62) bn_cX11_put_0 dop_54 4 (by decide +kernel)
theorem dX11_put_64 : decode cX11_put 64 = .ok (.aload_n 0, 1) := dR0 (k := 0) (i := 64) bn_cX11_put_0 dop_42 (by decide +kernel)
theorem dX11_put_65 : decode cX11_put 65 = .ok (.getfield 28, 3) := dR2 (f := Instr.getfield) (k := 0) (i := 65) bn_cX11_put_0 dop_180 28 (by decide +kernel)
theorem dX11_put_68 : decode cX11_put 68 = .ok (.bipush 36, 2) := dR1s (f := Instr.bipush) (k := 0) (i := 68) bn_cX11_put_0 dop_16 36 36 (by decide +kernel)
theorem dX11_put_70 : decode cX11_put 70 = .ok (.iload_n 1, 1) := dR0 (k := 0) (i := 70) bn_cX11_put_0 dop_27 (by decide +kernel)
theorem dX11_put_71 : decode cX11_put 71 = .ok (.imul, 1) := dR0 (k := 0) (i := 71) bn_cX11_put_0 dop_104 (by decide +kernel)
theorem dX11_put_72 : decode cX11_put 72 = .ok (.iload_n 2, 1) := dR0 (k := 0) (i := 72) bn_cX11_put_0 dop_28 (by decide +kernel)
theorem dX11_put_73 : decode cX11_put 73 = .ok (.iadd, 1) := dR0 (k := 0) (i := 73) bn_cX11_put_0 dop_96 (by decide +kernel)
theorem dX11_put_74 : decode cX11_put 74 = .ok (.iload_n 3, 1) := dR0 (k := 0) (i := 74) bn_cX11_put_0 dop_29 (by decide +kernel)
theorem dX11_put_75 : decode cX11_put 75 = .ok (.iload 4, 2) := dR1 (f := Instr.iload) (k := 0) (i := 75) bn_cX11_put_0 dop_21 4 (by decide +kernel)
theorem dX11_put_77 : decode cX11_put 77 = .ok (.ishl, 1) := dR0 (k := 0) (i := 77) bn_cX11_put_0 dop_120 (by decide +kernel)
theorem dX11_put_78 : decode cX11_put 78 = .ok (.iload 4, 2) := dR1 (f := Instr.iload) (k := 0) (i := 78) bn_cX11_put_0 dop_21 4 (by decide +kernel)
theorem dX11_put_80 : decode cX11_put 80 = .ok (.ishr, 1) := dR0 (k := 0) (i := 80) bn_cX11_put_0 dop_122 (by decide +kernel)
theorem dX11_put_81 : decode cX11_put 81 = .ok (.iastore, 1) := dR0 (k := 0) (i := 81) bn_cX11_put_0 dop_79 (by decide +kernel)
theorem dX11_put_82 : decode cX11_put 82 = .ok (.iconst 1, 1) := dR0 (k := 0) (i := 82) bn_cX11_put_0 dop_4 (by decide +kernel)
theorem dX11_put_83 : decode cX11_put 83 = .ok (.ireturn, 1) := dR0 (k := 0) (i := 83) bn_cX11_put_0 dop_172 (by decide +kernel)
set_option maxHeartbeats 4000000 in
set_option maxRecDepth 100000 in
theorem c_X11_putG (l : Launch) (D : va_G) (cI : ClassId) (aK aV : Nat → Nat) (k k0 k1 k2 k4 k5 k6 k7 k8 ka kb kl ko : Nat) (sz : Nat) (c3 : Int32) (c9 : Int32) (cc : Int32) (cd : Int32) (ce : Int32) (cf : Int32) (cg : Int32) (ch : Int32) (ci : Int32) (cj : Int32) (ck : Int32) (cm : Int32) (cn : Int32) (c4 : Nat → Int32) (c5 : Nat → Int32) (c6 : Nat → Int32) (c7 : Nat → Int32) (a0 : Int32) (a1 : Int32) (a2 : Int32) (pre0 : ∀ k : Nat, k < 4 → 0 ≤ (c6 k).toInt ∧ (c6 k).toInt ≤ 36) (pre1 : ∀ k : Nat, k < 4 → (c5 k).toInt = 0 ∨ (c5 k).toInt = 8 ∨ (c5 k).toInt = 16 ∨ (c5 k).toInt = 32) : Met l yX11_put (gW yX11_put cX11_put 5 (some .int)) ({ frames := 2, cells := 0, slots := 0, locals := 42 } : Room) (kPreX D cI aK aV [.ref k, .int a0, .int a1, .int a2] [(k, .inr (11, [.ref k0, .ref k1, .ref k2, .int c3, .ref k4, .ref k5, .ref k6, .ref k7, .ref k8, .int c9, .ref ka, .ref kb, .int cc, .int cd, .int ce, .int cf, .int cg, .int ch, .int ci, .int cj, .int ck, .ref kl, .int cm, .int cn, .ref ko])), (k4, .inl (cI, 6, .inl c4)), (k5, .inl (cI, 4, .inl c5)), (k6, .inl (cI, 4, .inl c6)), (k7, .inl (cI, 144, .inl c7))] sz) (va_Qi (fun (r : Int32) (u : (Nat → Int32) × (Nat → Int32)) => r = putR c5 c6 a0 a1 ∧ u.2 = putS c5 c6 c7 a0 a1 a2) (fun u t => kWd D cI (va_A [(k, .inr (11, [.ref k0, .ref k1, .ref k2, .int c3, .ref k4, .ref k5, .ref k6, .ref k7, .ref k8, .int c9, .ref ka, .ref kb, .int cc, .int cd, .int ce, .int cf, .int cg, .int ch, .int ci, .int cj, .int ck, .ref kl, .int cm, .int cn, .ref ko])), (k4, .inl (cI, 6, .inl c4)), (k5, .inl (cI, 4, .inl c5)), (k6, .inl (cI, 4, .inl c6)), (k7, .inl (cI, 144, .inl c7))] sz) [(k, .inr (11, [.ref k0, .ref k1, .ref k2, .int c3, .ref k4, .ref k5, .ref k6, .ref k7, .ref k8, .int c9, .ref ka, .ref kb, .int cc, .int cd, .int ce, .int cf, .int cg, .int ch, .int ci, .int cj, .int ck, .ref kl, .int cm, .int cn, .ref ko])), (k4, .inl (cI, 6, .inl u.1)), (k5, .inl (cI, 4, .inl c5)), (k6, .inl (cI, 4, .inl c6)), (k7, .inl (cI, 144, .inl u.2))] t) (va_A [(k, .inr (11, [.ref k0, .ref k1, .ref k2, .int c3, .ref k4, .ref k5, .ref k6, .ref k7, .ref k8, .int c9, .ref ka, .ref kb, .int cc, .int cd, .int ce, .int cf, .int cg, .int ch, .int ci, .int cj, .int ck, .ref kl, .int cm, .int cn, .ref ko])), (k4, .inl (cI, 6, .inl c4)), (k5, .inl (cI, 4, .inl c5)), (k6, .inl (cI, 4, .inl c6)), (k7, .inl (cI, 144, .inl c7))] sz)) 0 0 (va_A [(k, .inr (11, [.ref k0, .ref k1, .ref k2, .int c3, .ref k4, .ref k5, .ref k6, .ref k7, .ref k8, .int c9, .ref ka, .ref kb, .int cc, .int cd, .int ce, .int cf, .int cg, .int ch, .int ci, .int cj, .int ck, .ref kl, .int cm, .int cn, .ref ko])), (k4, .inl (cI, 6, .inl c4)), (k5, .inl (cI, 4, .inl c5)), (k6, .inl (cI, 4, .inl c6)), (k7, .inl (cI, 144, .inl c7))] sz) := by
  refine kMetIX (own := RX11) (by decide +kernel) rfl (Nat.le_of_ble_eq_true rfl) ?_
  intro p e s m args below meth c hx hb hT hown hname hml A Q hK hP hD hS hA hN hXS hRet ls hl
  have hl : lv_has ls 5 [(0, .ref k), (1, .int a0), (2, .int a1), (3, .int a2)] := hl
  have lo_a0 := k_lo a0
  have hi_a0 := k_hi a0
  have lo_a1 := k_lo a1
  have hi_a1 := k_hi a1
  have lo_a2 := k_lo a2
  have hi_a2 := k_hi a2
  have lo_ci := k_lo ci
  have hi_ci := k_hi ci
  have hln : 0 ≤ a0.toInt → a0.toInt ≤ 3 → 0 ≤ (c6 a0.toNatClampNeg).toInt ∧ (c6 a0.toNatClampNeg).toInt ≤ 36 := fun z0 z1 => pre0 a0.toNatClampNeg (by rw [k_clamp]; omega)
  have hbk : 0 ≤ a0.toInt → a0.toInt ≤ 3 → (c5 a0.toNatClampNeg).toInt = 0 ∨ (c5 a0.toNatClampNeg).toInt = 8 ∨ (c5 a0.toNatClampNeg).toInt = 16 ∨ (c5 a0.toNatClampNeg).toInt = 32 := fun z0 z1 => pre1 a0.toNatClampNeg (by rw [k_clamp]; omega)
  refine lv_iload_n hx hb dX11_put_0 rfl (lv_at hl 1 rfl) ?_
  refine kJi (wr := [(k, .inr (11, [.ref k0, .ref k1, .ref k2, .int c3, .ref k4, .ref k5, .ref k6, .ref k7, .ref k8, .int c9, .ref ka, .ref kb, .int cc, .int cd, .int ce, .int cf, .int cg, .int ch, .int ci, .int cj, .int ck, .ref kl, .int cm, .int cn, .ref ko])), (k4, .inl (cI, 6, .inl c4)), (k5, .inl (cI, 4, .inl c5)), (k6, .inl (cI, 4, .inl c6)), (k7, .inl (cI, 144, .inl c7))]) (va_runS (As := [.int a0]) (rest := []) ⟨hx, hb, hml, hown, hT⟩ (c_X11_isSheetG l D cI aK aV s.heap.size a0) (cwS 1 hT (gS_in mw_1391 mw_1389 mw_1390 mw_12) rfl rfl rfl (by decide +kernel) ⟨Nat.le_of_ble_eq_true rfl, Nat.le_of_ble_eq_true rfl⟩) (kStatX hK hP hD hN hXS hS hA [] rfl (by decide +kernel)) rfl rfl hl.1 rfl (lv_room (Nat.le_of_ble_eq_true rfl)) dX11_put_1 ⟨Nat.le_of_ble_eq_true rfl, Nat.le_of_ble_eq_true rfl⟩) hP hD hS hA [] [0, 1, 2, 3, 4] rfl rfl (by decide +kernel) (by decide +kernel) ?_
  clear hP hD hS
  intro r_1 u_3 H locs w_2 hP hD hS
  replace hP : va_P D vwCl [(k, .inr (11, [.ref k0, .ref k1, .ref k2, .int c3, .ref k4, .ref k5, .ref k6, .ref k7, .ref k8, .int c9, .ref ka, .ref kb, .int cc, .int cd, .int ce, .int cf, .int cg, .int ch, .int ci, .int cj, .int ck, .ref kl, .int cm, .int cn, .ref ko])), (k4, .inl (cI, 6, .inl c4)), (k5, .inl (cI, 4, .inl c5)), (k6, .inl (cI, 4, .inl c6)), (k7, .inl (cI, 144, .inl c7))] H := hP
  replace hD : va_D A [(k, .inr (11, [.ref k0, .ref k1, .ref k2, .int c3, .ref k4, .ref k5, .ref k6, .ref k7, .ref k8, .int c9, .ref ka, .ref kb, .int cc, .int cd, .int ce, .int cf, .int cg, .int ch, .int ci, .int cj, .int ck, .ref kl, .int cm, .int cn, .ref ko])), (k4, .inl (cI, 6, .inl c4)), (k5, .inl (cI, 4, .inl c5)), (k6, .inl (cI, 4, .inl c6)), (k7, .inl (cI, 144, .inl c7))] := hD
  rcases w_2 with ⟨hr_1, h_4, h_5⟩ | ⟨hr_1, h_6⟩
  · have h_4 : 0 ≤ a0.toInt := h_4
    have h_5 : a0.toInt ≤ 3 := h_5
    obtain rfl : r_1 = 1 := hr_1.trans (by decide +kernel)
    refine b_if_ne hx hb zl_1 (tgt := 14) dX11_put_4 (by decide +kernel) (fun c_7 => ?_) (fun c_7 => by exfalso; omega)
    refine lv_aload_n hx hb dX11_put_14 rfl (lv_at hl 0 rfl) ?_
    refine va_get (D := D) (ci := 11) (v := .ref k5) (C := RX11) (T := TX11) (N := 25) hx hb hT giX11 hown hK hP 0 rfl rfl 5 (by decide +kernel) (hT (Cond.fieldLink RX11 22 "DesertWireModel" "bits" "[I") mw_1161) (fun _ h9 => h9) rfl dX11_put_15 ?_
    refine lv_iload_n hx hb dX11_put_18 rfl (lv_at hl 1 rfl) ?_
    refine k_iald (v := (c5 a0.toNatClampNeg)) hx hb hK hP 2 0 rfl rfl (k_in (by omega) (by omega)) rfl dX11_put_19 ?_
    refine lv_topi (fun v_8 ev_8 => ?_)
    have lo_v_8 := k_lo v_8
    have hi_v_8 := k_hi v_8
    have tv_8 : v_8.toInt = (c5 a0.toNatClampNeg).toInt := by rw [ev_8]
    refine b_if_ne hx hb rfl (tgt := 30) dX11_put_20 (by decide +kernel) (fun c_9 => ?_) (fun c_9 => ?_)
    · refine lv_iload_n hx hb dX11_put_30 rfl (lv_at hl 2 rfl) ?_
      refine lv_iconst (v := 0) hx hb dX11_put_31 (by decide +kernel) ?_
      refine lv_aload_n hx hb dX11_put_32 rfl (lv_at hl 0 rfl) ?_
      refine va_get (D := D) (ci := 11) (v := .ref k6) (C := RX11) (T := TX11) (N := 25) hx hb hT giX11 hown hK hP 0 rfl rfl 6 (by decide +kernel) (hT (Cond.fieldLink RX11 25 "DesertWireModel" "size" "[I") mw_1162) (fun _ h9 => h9) rfl dX11_put_33 ?_
      refine lv_iload_n hx hb dX11_put_36 rfl (lv_at hl 1 rfl) ?_
      refine k_iald (v := (c6 a0.toNatClampNeg)) hx hb hK hP 3 0 rfl rfl (k_in (by omega) (by omega)) rfl dX11_put_37 ?_
      refine lv_topi (fun v_10 ev_10 => ?_)
      have lo_v_10 := k_lo v_10
      have hi_v_10 := k_hi v_10
      have tv_10 : v_10.toInt = (c6 a0.toNatClampNeg).toInt := by rw [ev_10]
      have b_11 : 0 ≤ v_10.toInt ∧ v_10.toInt ≤ 36 := by rw [tv_10]; exact pre0 a0.toNatClampNeg (by rw [k_clamp]; omega)
      refine lv_iconst (v := 1) hx hb dX11_put_38 (by decide +kernel) ?_
      refine lv_isub hx hb dX11_put_39 ?_
      refine lv_topi (fun v_12 ev_12 => ?_)
      have tv_12 : v_12.toInt = v_10.toInt - 1 := by rw [ev_12]; exact k_subv rfl zl_1 (by omega) (by omega)
      refine kJi (wr := [(k, .inr (11, [.ref k0, .ref k1, .ref k2, .int c3, .ref k4, .ref k5, .ref k6, .ref k7, .ref k8, .int c9, .ref ka, .ref kb, .int cc, .int cd, .int ce, .int cf, .int cg, .int ch, .int ci, .int cj, .int ck, .ref kl, .int cm, .int cn, .ref ko])), (k4, .inl (cI, 6, .inl c4)), (k5, .inl (cI, 4, .inl c5)), (k6, .inl (cI, 4, .inl c6)), (k7, .inl (cI, 144, .inl c7))]) (va_runS (As := [.int a1, .int 0, .int v_12]) (rest := []) ⟨hx, hb, hml, hown, hT⟩ (c_X11_inG l D cI aK aV H.size a1 0 v_12) (cwS 3 hT (gS_in mw_1238 mw_1236 mw_1237 mw_12) rfl rfl rfl (by decide +kernel) ⟨Nat.le_of_ble_eq_true rfl, Nat.le_of_ble_eq_true rfl⟩) (kStatX hK hP hD hN hXS hS hA [] rfl (by decide +kernel)) rfl rfl hl.1 rfl (lv_room (Nat.le_of_ble_eq_true rfl)) dX11_put_40 ⟨Nat.le_of_ble_eq_true rfl, Nat.le_of_ble_eq_true rfl⟩) hP hD hS hA [] [0, 1, 2, 3, 4] rfl rfl (by decide +kernel) (by decide +kernel) ?_
      clear hP hD hS
      intro r_13 u_15 H locs w_14 hP hD hS
      replace hP : va_P D vwCl [(k, .inr (11, [.ref k0, .ref k1, .ref k2, .int c3, .ref k4, .ref k5, .ref k6, .ref k7, .ref k8, .int c9, .ref ka, .ref kb, .int cc, .int cd, .int ce, .int cf, .int cg, .int ch, .int ci, .int cj, .int ck, .ref kl, .int cm, .int cn, .ref ko])), (k4, .inl (cI, 6, .inl c4)), (k5, .inl (cI, 4, .inl c5)), (k6, .inl (cI, 4, .inl c6)), (k7, .inl (cI, 144, .inl c7))] H := hP
      replace hD : va_D A [(k, .inr (11, [.ref k0, .ref k1, .ref k2, .int c3, .ref k4, .ref k5, .ref k6, .ref k7, .ref k8, .int c9, .ref ka, .ref kb, .int cc, .int cd, .int ce, .int cf, .int cg, .int ch, .int ci, .int cj, .int ck, .ref kl, .int cm, .int cn, .ref ko])), (k4, .inl (cI, 6, .inl c4)), (k5, .inl (cI, 4, .inl c5)), (k6, .inl (cI, 4, .inl c6)), (k7, .inl (cI, 144, .inl c7))] := hD
      rcases w_14 with ⟨hr_13, h_16, h_17⟩ | ⟨hr_13, h_18⟩
      · try simp only [zl_0] at h_16
        have h_16 : 0 ≤ a1.toInt := h_16
        try simp only [zl_0] at h_17
        have h_17 : a1.toInt ≤ v_12.toInt := h_17
        obtain rfl : r_13 = 1 := hr_13.trans (by decide +kernel)
        refine b_if_ne hx hb zl_1 (tgt := 53) dX11_put_43 (by decide +kernel) (fun c_19 => ?_) (fun c_19 => by exfalso; omega)
        refine lv_bipush (v := 32) hx hb dX11_put_53 (by decide +kernel) ?_
        refine lv_aload_n hx hb dX11_put_55 rfl (lv_at hl 0 rfl) ?_
        refine va_get (D := D) (ci := 11) (v := .ref k5) (C := RX11) (T := TX11) (N := 25) hx hb hT giX11 hown hK hP 0 rfl rfl 5 (by decide +kernel) (hT (Cond.fieldLink RX11 22 "DesertWireModel" "bits" "[I") mw_1161) (fun _ h9 => h9) rfl dX11_put_56 ?_
        refine lv_iload_n hx hb dX11_put_59 rfl (lv_at hl 1 rfl) ?_
        refine k_iald (v := (c5 a0.toNatClampNeg)) hx hb hK hP 2 0 rfl rfl (k_in (by omega) (by omega)) rfl dX11_put_60 ?_
        refine lv_topi (fun v_20 ev_20 => ?_)
        have lo_v_20 := k_lo v_20
        have hi_v_20 := k_hi v_20
        have tv_20 : v_20.toInt = (c5 a0.toNatClampNeg).toInt := by rw [ev_20]
        refine lv_isub hx hb dX11_put_61 ?_
        refine lv_topi (fun v_21 ev_21 => ?_)
        have lo_v_21 := k_lo v_21
        have hi_v_21 := k_hi v_21
        refine lv_istore (lv' := [(4, .int v_21), (0, .ref k), (1, .int a0), (2, .int a1), (3, .int a2)]) hx hb dX11_put_62 hl (by decide +kernel) rfl ?_
        clear hl
        intro ls hl
        refine lv_aload_n hx hb dX11_put_64 rfl (lv_at hl 1 rfl) ?_
        refine va_get (D := D) (ci := 11) (v := .ref k7) (C := RX11) (T := TX11) (N := 25) hx hb hT giX11 hown hK hP 0 rfl rfl 7 (by decide +kernel) (hT (Cond.fieldLink RX11 28 "DesertWireModel" "number" "[I") mw_1163) (fun _ h9 => h9) rfl dX11_put_65 ?_
        refine lv_bipush (v := 36) hx hb dX11_put_68 (by decide +kernel) ?_
        refine lv_iload_n hx hb dX11_put_70 rfl (lv_at hl 2 rfl) ?_
        refine lv_imul hx hb dX11_put_71 ?_
        refine lv_topi (fun v_22 ev_22 => ?_)
        have tv_22 : v_22.toInt = 36 * a0.toInt := by rw [ev_22]; exact k_mulv zl_36 rfl (by omega) (by omega)
        refine lv_iload_n hx hb dX11_put_72 rfl (lv_at hl 3 rfl) ?_
        refine lv_iadd hx hb dX11_put_73 ?_
        refine lv_topi (fun v_23 ev_23 => ?_)
        have tv_23 : v_23.toInt = v_22.toInt + a1.toInt := by rw [ev_23]; exact k_addv rfl rfl (by omega) (by omega)
        refine lv_iload_n hx hb dX11_put_74 rfl (lv_at hl 4 rfl) ?_
        refine lv_iload hx hb dX11_put_75 (lv_at hl 0 rfl) ?_
        refine lv_ishl hx hb dX11_put_77 ?_
        refine lv_topi (fun v_24 ev_24 => ?_)
        have lo_v_24 := k_lo v_24
        have hi_v_24 := k_hi v_24
        refine lv_iload hx hb dX11_put_78 (lv_at hl 0 rfl) ?_
        refine lv_ishr hx hb dX11_put_80 ?_
        refine lv_topi (fun v_25 ev_25 => ?_)
        have lo_v_25 := k_lo v_25
        have hi_v_25 := k_hi v_25
        refine va_iast hx hb hK hP hD hS 4 0 rfl rfl (k_in (by omega) (by omega)) dX11_put_81 ?_
        clear hP hD hS
        intro H locs hP hD hS
        replace hP : va_P D vwCl [(k, .inr (11, [.ref k0, .ref k1, .ref k2, .int c3, .ref k4, .ref k5, .ref k6, .ref k7, .ref k8, .int c9, .ref ka, .ref kb, .int cc, .int cd, .int ce, .int cf, .int cg, .int ch, .int ci, .int cj, .int ck, .ref kl, .int cm, .int cn, .ref ko])), (k4, .inl (cI, 6, .inl c4)), (k5, .inl (cI, 4, .inl c5)), (k6, .inl (cI, 4, .inl c6)), (k7, .inl (cI, 144, .inl (upd c7 v_23.toNatClampNeg v_25)))] H := hP
        replace hD : va_D A [(k, .inr (11, [.ref k0, .ref k1, .ref k2, .int c3, .ref k4, .ref k5, .ref k6, .ref k7, .ref k8, .int c9, .ref ka, .ref kb, .int cc, .int cd, .int ce, .int cf, .int cg, .int ch, .int ci, .int cj, .int ck, .ref kl, .int cm, .int cn, .ref ko])), (k4, .inl (cI, 6, .inl c4)), (k5, .inl (cI, 4, .inl c5)), (k6, .inl (cI, 4, .inl c6)), (k7, .inl (cI, 144, .inl (upd c7 v_23.toNatClampNeg v_25)))] := hD
        obtain ⟨f_26, ef_26⟩ : ∃ g : Nat → Int32, g = upd c7 v_23.toNatClampNeg v_25 := ⟨_, rfl⟩
        rw [← ef_26] at hP hD
        refine lv_iconst (v := 1) hx hb dX11_put_82 (by decide +kernel) ?_
        exact hRet (c4, f_26) [0, 1, 2, 3, 4] ⟨(by (try dsimp only); unfold putR; (repeat (first | rw [if_pos (by omega)] | rw [if_neg (by omega)]))), (by unfold putS; rw [if_pos (by omega), nrw_sh (b := c5 a0.toNatClampNeg) (y := v_21) (by have z := pre1 a0.toNatClampNeg (by rw [k_clamp]; omega); omega) (by have z := pre1 a0.toNatClampNeg (by rw [k_clamp]; omega); rw [ev_21]; exact k_subv zl_32 tv_20 (by omega) (by omega)) ev_24 ev_25]; exact up_in ef_26 (by omega))⟩ hP hD (by decide +kernel) rfl hS rfl dX11_put_83
      · try simp only [zl_0] at h_18
        have h_18 : a1.toInt < 0 ∨ v_12.toInt < a1.toInt := h_18
        obtain rfl : r_13 = 0 := hr_13.trans (by decide +kernel)
        refine b_if_ne hx hb zl_0 (tgt := 53) dX11_put_43 (by decide +kernel) (fun c_27 => by exfalso; omega) (fun c_27 => ?_)
        refine lv_aload_n hx hb dX11_put_46 rfl (lv_at hl 0 rfl) ?_
        refine lv_ldc (v := (-1000001)) hx hb hown (hT _ mw_1239) dX11_put_47 ?_
        refine kJi (wr := [(k5, .inl (cI, 4, .inl c5)), (k6, .inl (cI, 4, .inl c6)), (k7, .inl (cI, 144, .inl c7))]) (va_runV (As := [.int (-1000001)]) (rest := []) ⟨hx, hb, hml, hown, hT⟩ (c_X11_findingG l D cI aK aV k k0 k1 k2 k4 k5 k6 k7 k8 ka kb kl ko H.size c3 c9 cc cd ce cf cg ch ci cj ck cm cn c4 (-1000001) (by first | omega | (simp only [zl_m1000001]; first | done | omega) | decide | assumption | rfl) (by first | omega | (simp only [zl_m1000001]; first | done | omega) | decide | assumption | rfl)) (cwV 1 hT (gV_in mw_1243 mw_1240 mw_1242 mw_p3_8 mw_12) rfl rfl rfl (by decide +kernel) ⟨Nat.le_of_ble_eq_true rfl, Nat.le_of_ble_eq_true rfl⟩) (kRecvX (q0 := 0) (ci := 11) hK hP hD hN hXS hS hA rfl rfl [0, 1] rfl (by decide +kernel)) rfl rfl hl.1 rfl (lv_room (Nat.le_of_ble_eq_true rfl)) dX11_put_49 ⟨Nat.le_of_ble_eq_true rfl, Nat.le_of_ble_eq_true rfl⟩) hP hD hS hA [0, 1] [2, 3, 4] rfl rfl (by decide +kernel) (by decide +kernel) ?_
        clear hP hD hS
        intro r_28 sc4_30 H locs w_29 hP hD hS
        replace hP : va_P D vwCl [(k5, .inl (cI, 4, .inl c5)), (k6, .inl (cI, 4, .inl c6)), (k7, .inl (cI, 144, .inl c7)), (k, .inr (11, [.ref k0, .ref k1, .ref k2, .int c3, .ref k4, .ref k5, .ref k6, .ref k7, .ref k8, .int c9, .ref ka, .ref kb, .int cc, .int cd, .int ce, .int cf, .int cg, .int ch, .int ci, .int cj, .int ck, .ref kl, .int cm, .int cn, .ref ko])), (k4, .inl (cI, 6, .inl sc4_30))] H := hP
        replace hD : va_D A [(k5, .inl (cI, 4, .inl c5)), (k6, .inl (cI, 4, .inl c6)), (k7, .inl (cI, 144, .inl c7)), (k, .inr (11, [.ref k0, .ref k1, .ref k2, .int c3, .ref k4, .ref k5, .ref k6, .ref k7, .ref k8, .int c9, .ref ka, .ref kb, .int cc, .int cd, .int ce, .int cf, .int cg, .int ch, .int ci, .int cj, .int ck, .ref kl, .int cm, .int cn, .ref ko])), (k4, .inl (cI, 6, .inl sc4_30))] := hD
        have hr_28 := w_29
        obtain rfl : r_28 = (-1000001) := hr_28.trans (by decide +kernel)
        exact hRet (sc4_30, c7) [3, 4, 0, 1, 2] ⟨(by (try dsimp only); unfold putR; (repeat (first | rw [if_pos (by omega)] | rw [if_neg (by omega)]))), (by (try dsimp only); unfold putS; (repeat (first | rw [if_pos (by omega)] | rw [if_neg (by omega)])))⟩ hP hD (by decide +kernel) rfl hS rfl dX11_put_52
    · refine lv_aload_n hx hb dX11_put_23 rfl (lv_at hl 0 rfl) ?_
      refine lv_ldc (v := (-1000002)) hx hb hown (hT _ mw_1392) dX11_put_24 ?_
      refine kJi (wr := [(k5, .inl (cI, 4, .inl c5)), (k6, .inl (cI, 4, .inl c6)), (k7, .inl (cI, 144, .inl c7))]) (va_runV (As := [.int (-1000002)]) (rest := []) ⟨hx, hb, hml, hown, hT⟩ (c_X11_findingG l D cI aK aV k k0 k1 k2 k4 k5 k6 k7 k8 ka kb kl ko H.size c3 c9 cc cd ce cf cg ch ci cj ck cm cn c4 (-1000002) (by first | omega | (simp only [zl_m1000002]; first | done | omega) | decide | assumption | rfl) (by first | omega | (simp only [zl_m1000002]; first | done | omega) | decide | assumption | rfl)) (cwV 1 hT (gV_in mw_1243 mw_1240 mw_1242 mw_p3_8 mw_12) rfl rfl rfl (by decide +kernel) ⟨Nat.le_of_ble_eq_true rfl, Nat.le_of_ble_eq_true rfl⟩) (kRecvX (q0 := 0) (ci := 11) hK hP hD hN hXS hS hA rfl rfl [0, 1] rfl (by decide +kernel)) rfl rfl hl.1 rfl (lv_room (Nat.le_of_ble_eq_true rfl)) dX11_put_26 ⟨Nat.le_of_ble_eq_true rfl, Nat.le_of_ble_eq_true rfl⟩) hP hD hS hA [0, 1] [2, 3, 4] rfl rfl (by decide +kernel) (by decide +kernel) ?_
      clear hP hD hS
      intro r_31 sc4_33 H locs w_32 hP hD hS
      replace hP : va_P D vwCl [(k5, .inl (cI, 4, .inl c5)), (k6, .inl (cI, 4, .inl c6)), (k7, .inl (cI, 144, .inl c7)), (k, .inr (11, [.ref k0, .ref k1, .ref k2, .int c3, .ref k4, .ref k5, .ref k6, .ref k7, .ref k8, .int c9, .ref ka, .ref kb, .int cc, .int cd, .int ce, .int cf, .int cg, .int ch, .int ci, .int cj, .int ck, .ref kl, .int cm, .int cn, .ref ko])), (k4, .inl (cI, 6, .inl sc4_33))] H := hP
      replace hD : va_D A [(k5, .inl (cI, 4, .inl c5)), (k6, .inl (cI, 4, .inl c6)), (k7, .inl (cI, 144, .inl c7)), (k, .inr (11, [.ref k0, .ref k1, .ref k2, .int c3, .ref k4, .ref k5, .ref k6, .ref k7, .ref k8, .int c9, .ref ka, .ref kb, .int cc, .int cd, .int ce, .int cf, .int cg, .int ch, .int ci, .int cj, .int ck, .ref kl, .int cm, .int cn, .ref ko])), (k4, .inl (cI, 6, .inl sc4_33))] := hD
      have hr_31 := w_32
      obtain rfl : r_31 = (-1000002) := hr_31.trans (by decide +kernel)
      exact hRet (sc4_33, c7) [3, 4, 0, 1, 2] ⟨(by (try dsimp only); unfold putR; (repeat (first | rw [if_pos (by omega)] | rw [if_neg (by omega)]))), (by (try dsimp only); unfold putS; (repeat (first | rw [if_pos (by omega)] | rw [if_neg (by omega)])))⟩ hP hD (by decide +kernel) rfl hS rfl dX11_put_29
  · have h_6 : a0.toInt < 0 ∨ 3 < a0.toInt := h_6
    obtain rfl : r_1 = 0 := hr_1.trans (by decide +kernel)
    refine b_if_ne hx hb zl_0 (tgt := 14) dX11_put_4 (by decide +kernel) (fun c_34 => by exfalso; omega) (fun c_34 => ?_)
    refine lv_aload_n hx hb dX11_put_7 rfl (lv_at hl 0 rfl) ?_
    refine lv_ldc (v := (-1000001)) hx hb hown (hT _ mw_1239) dX11_put_8 ?_
    refine kJi (wr := [(k5, .inl (cI, 4, .inl c5)), (k6, .inl (cI, 4, .inl c6)), (k7, .inl (cI, 144, .inl c7))]) (va_runV (As := [.int (-1000001)]) (rest := []) ⟨hx, hb, hml, hown, hT⟩ (c_X11_findingG l D cI aK aV k k0 k1 k2 k4 k5 k6 k7 k8 ka kb kl ko H.size c3 c9 cc cd ce cf cg ch ci cj ck cm cn c4 (-1000001) (by first | omega | (simp only [zl_m1000001]; first | done | omega) | decide | assumption | rfl) (by first | omega | (simp only [zl_m1000001]; first | done | omega) | decide | assumption | rfl)) (cwV 1 hT (gV_in mw_1243 mw_1240 mw_1242 mw_p3_8 mw_12) rfl rfl rfl (by decide +kernel) ⟨Nat.le_of_ble_eq_true rfl, Nat.le_of_ble_eq_true rfl⟩) (kRecvX (q0 := 0) (ci := 11) hK hP hD hN hXS hS hA rfl rfl [0, 1] rfl (by decide +kernel)) rfl rfl hl.1 rfl (lv_room (Nat.le_of_ble_eq_true rfl)) dX11_put_10 ⟨Nat.le_of_ble_eq_true rfl, Nat.le_of_ble_eq_true rfl⟩) hP hD hS hA [0, 1] [2, 3, 4] rfl rfl (by decide +kernel) (by decide +kernel) ?_
    clear hP hD hS
    intro r_35 sc4_37 H locs w_36 hP hD hS
    replace hP : va_P D vwCl [(k5, .inl (cI, 4, .inl c5)), (k6, .inl (cI, 4, .inl c6)), (k7, .inl (cI, 144, .inl c7)), (k, .inr (11, [.ref k0, .ref k1, .ref k2, .int c3, .ref k4, .ref k5, .ref k6, .ref k7, .ref k8, .int c9, .ref ka, .ref kb, .int cc, .int cd, .int ce, .int cf, .int cg, .int ch, .int ci, .int cj, .int ck, .ref kl, .int cm, .int cn, .ref ko])), (k4, .inl (cI, 6, .inl sc4_37))] H := hP
    replace hD : va_D A [(k5, .inl (cI, 4, .inl c5)), (k6, .inl (cI, 4, .inl c6)), (k7, .inl (cI, 144, .inl c7)), (k, .inr (11, [.ref k0, .ref k1, .ref k2, .int c3, .ref k4, .ref k5, .ref k6, .ref k7, .ref k8, .int c9, .ref ka, .ref kb, .int cc, .int cd, .int ce, .int cf, .int cg, .int ch, .int ci, .int cj, .int ck, .ref kl, .int cm, .int cn, .ref ko])), (k4, .inl (cI, 6, .inl sc4_37))] := hD
    have hr_35 := w_36
    obtain rfl : r_35 = (-1000001) := hr_35.trans (by decide +kernel)
    exact hRet (sc4_37, c7) [3, 4, 0, 1, 2] ⟨(by (try dsimp only); unfold putR; (repeat (first | rw [if_pos (by omega)] | rw [if_neg (by omega)]))), (by (try dsimp only); unfold putS; (repeat (first | rw [if_pos (by omega)] | rw [if_neg (by omega)])))⟩ hP hD (by decide +kernel) rfl hS rfl dX11_put_13
theorem bn_cX11_move_0 : BN cX11_move 0 0xb074382b0385858015a8ac3401518182c070b01c6e045690402b72004c560b00a94ca060b0bc3c1a00ad456050b04802a4328182c2f0e06802b5158743e014e0142c2400a703a2800a700c165690402b72a04c560b00a805e1e0b8056a2b178702e015a8ad5a4100adce6131582c029b178782e015a8ac1a014d0bc381700ad456ad208056e40098ac16014d9c002b90f02c029a38005721c := by
  unfold BN; decide +kernel
theorem dX11_move_0 : decode cX11_move 0 = .ok (.iload_n 1, 1) := dR0 (k := 0) (i := 0) bn_cX11_move_0 dop_27 (by decide +kernel)
theorem dX11_move_1 : decode cX11_move 1 = .ok (.invokestatic 111, 3) := dR2 (f := Instr.invokestatic) (k := 0) (i := 1) bn_cX11_move_0 dop_184 111 (by decide +kernel)
theorem dX11_move_4 : decode cX11_move 4 = .ok (.ifCond .eq 10, 3) := dR2s (f := Instr.ifCond .eq) (k := 0) (i := 4) bn_cX11_move_0 dop_153 10 10 (by decide +kernel)
theorem dX11_move_7 : decode cX11_move 7 = .ok (.iload_n 3, 1) := dR0 (k := 0) (i := 7) bn_cX11_move_0 dop_29 (by decide +kernel)
theorem dX11_move_8 : decode cX11_move 8 = .ok (.invokestatic 111, 3) := dR2 (f := Instr.invokestatic) (k := 0) (i := 8) bn_cX11_move_0 dop_184 111 (by decide +kernel)
theorem dX11_move_11 : decode cX11_move 11 = .ok (.ifCond .ne 10, 3) := dR2s (f := Instr.ifCond .ne) (k := 0) (i := 11) bn_cX11_move_0 dop_154 10 10 (by decide +kernel)
theorem dX11_move_14 : decode cX11_move 14 = .ok (.aload_n 0, 1) := dR0 (k := 0) (i := 14) bn_cX11_move_0 dop_42 (by decide +kernel)
theorem dX11_move_15 : decode cX11_move 15 = .ok (.ldc 63, 2) := dR1 (f := Instr.ldc) (k := 0) (i := 15) bn_cX11_move_0 dop_18 63 (by decide +kernel)
theorem dX11_move_17 : decode cX11_move 17 = .ok (.invokevirtual 64, 3) := dR2 (f := Instr.invokevirtual) (k := 0) (i := 17) bn_cX11_move_0 dop_182 64 (by decide +kernel)
theorem dX11_move_20 : decode cX11_move 20 = .ok (.ireturn, 1) := dR0 (k := 0) (i := 20) bn_cX11_move_0 dop_172 (by decide +kernel)
theorem dX11_move_21 : decode cX11_move 21 = .ok (.aload_n 0, 1) := dR0 (k := 0) (i := 21) bn_cX11_move_0 dop_42 (by decide +kernel)
theorem dX11_move_22 : decode cX11_move 22 = .ok (.getfield 22, 3) := dR2 (f := Instr.getfield) (k := 0) (i := 22) bn_cX11_move_0 dop_180 22 (by decide +kernel)
theorem dX11_move_25 : decode cX11_move 25 = .ok (.iload_n 1, 1) := dR0 (k := 0) (i := 25) bn_cX11_move_0 dop_27 (by decide +kernel)
theorem dX11_move_26 : decode cX11_move 26 = .ok (.iaload, 1) := dR0 (k := 0) (i := 26) bn_cX11_move_0 dop_46 (by decide +kernel)
theorem dX11_move_27 : decode cX11_move 27 = .ok (.ifCond .eq 12, 3) := dR2s (f := Instr.ifCond .eq) (k := 0) (i := 27) bn_cX11_move_0 dop_153 12 12 (by decide +kernel)
theorem dX11_move_30 : decode cX11_move 30 = .ok (.aload_n 0, 1) := dR0 (k := 0) (i := 30) bn_cX11_move_0 dop_42 (by decide +kernel)
theorem dX11_move_31 : decode cX11_move 31 = .ok (.getfield 22, 3) := dR2 (f := Instr.getfield) (k := 0) (i := 31) bn_cX11_move_0 dop_180 22 (by decide +kernel)
theorem dX11_move_34 : decode cX11_move 34 = .ok (.iload_n 3, 1) := dR0 (k := 0) (i := 34) bn_cX11_move_0 dop_29 (by decide +kernel)
theorem dX11_move_35 : decode cX11_move 35 = .ok (.iaload, 1) := dR0 (k := 0) (i := 35) bn_cX11_move_0 dop_46 (by decide +kernel)
theorem dX11_move_36 : decode cX11_move 36 = .ok (.ifCond .ne 10, 3) := dR2s (f := Instr.ifCond .ne) (k := 0) (i := 36) bn_cX11_move_0 dop_154 10 10 (by decide +kernel)
theorem dX11_move_39 : decode cX11_move 39 = .ok (.aload_n 0, 1) := dR0 (k := 0) (i := 39) bn_cX11_move_0 dop_42 (by decide +kernel)
theorem dX11_move_40 : decode cX11_move 40 = .ok (.ldc 114, 2) := dR1 (f := Instr.ldc) (k := 0) (i := 40) bn_cX11_move_0 dop_18 114 (by decide +kernel)
theorem dX11_move_42 : decode cX11_move 42 = .ok (.invokevirtual 64, 3) := dR2 (f := Instr.invokevirtual) (k := 0) (i := 42) bn_cX11_move_0 dop_182 64 (by decide +kernel)
theorem dX11_move_45 : decode cX11_move 45 = .ok (.ireturn, 1) := dR0 (k := 0) (i := 45) bn_cX11_move_0 dop_172 (by decide +kernel)
theorem dX11_move_46 : decode cX11_move 46 = .ok (.aload_n 0, 1) := dR0 (k := 0) (i := 46) bn_cX11_move_0 dop_42 (by decide +kernel)
theorem dX11_move_47 : decode cX11_move 47 = .ok (.getfield 22, 3) := dR2 (f := Instr.getfield) (k := 0) (i := 47) bn_cX11_move_0 dop_180 22 (by decide +kernel)
theorem dX11_move_50 : decode cX11_move 50 = .ok (.iload_n 1, 1) := dR0 (k := 0) (i := 50) bn_cX11_move_0 dop_27 (by decide +kernel)
theorem dX11_move_51 : decode cX11_move 51 = .ok (.iaload, 1) := dR0 (k := 0) (i := 51) bn_cX11_move_0 dop_46 (by decide +kernel)
theorem dX11_move_52 : decode cX11_move 52 = .ok (.aload_n 0, 1) := dR0 (k := 0) (i := 52) bn_cX11_move_0 dop_42 (by decide +kernel)
theorem dX11_move_53 : decode cX11_move 53 = .ok (.getfield 22, 3) := dR2 (f := Instr.getfield) (k := 0) (i := 53) bn_cX11_move_0 dop_180 22 (by decide +kernel)
theorem dX11_move_56 : decode cX11_move 56 = .ok (.iload_n 3, 1) := dR0 (k := 0) (i := 56) bn_cX11_move_0 dop_29 (by decide +kernel)
theorem dX11_move_57 : decode cX11_move 57 = .ok (.iaload, 1) := dR0 (k := 0) (i := 57) bn_cX11_move_0 dop_46 (by decide +kernel)
theorem dX11_move_58 : decode cX11_move 58 = .ok (.if_icmp .eq 10, 3) := dR2s (f := Instr.if_icmp .eq) (k := 0) (i := 58) bn_cX11_move_0 dop_159 10 10 (by decide +kernel)
theorem dX11_move_61 : decode cX11_move 61 = .ok (.aload_n 0, 1) := dR0 (k := 0) (i := 61) bn_cX11_move_0 dop_42 (by decide +kernel)
theorem dX11_move_62 : decode cX11_move 62 = .ok (.ldc 83, 2) := dR1 (f := Instr.ldc) (k := 0) (i := 62) bn_cX11_move_0 dop_18 83 (by decide +kernel)
theorem dX11_move_64 : decode cX11_move 64 = .ok (.invokevirtual 64, 3) := dR2 (f := Instr.invokevirtual) (k := 0) (i := 64) bn_cX11_move_0 dop_182 64 (by decide +kernel)
theorem dX11_move_67 : decode cX11_move 67 = .ok (.ireturn, 1) := dR0 (k := 0) (i := 67) bn_cX11_move_0 dop_172 (by decide +kernel)
theorem dX11_move_68 : decode cX11_move 68 = .ok (.iload 5, 2) := dR1 (f := Instr.iload) (k := 0) (i := 68) bn_cX11_move_0 dop_21 5 (by decide +kernel)
theorem dX11_move_70 : decode cX11_move 70 = .ok (.ifCond .lt 39, 3) := dR2s (f := Instr.ifCond .lt) (k := 0) (i := 70) bn_cX11_move_0 dop_155 39 39 (by decide +kernel)
theorem dX11_move_73 : decode cX11_move 73 = .ok (.iload_n 2, 1) := dR0 (k := 0) (i := 73) bn_cX11_move_0 dop_28 (by decide +kernel)
theorem dX11_move_74 : decode cX11_move 74 = .ok (.ifCond .lt 35, 3) := dR2s (f := Instr.ifCond .lt) (k := 0) (i := 74) bn_cX11_move_0 dop_155 35 35 (by decide +kernel)
theorem dX11_move_77 : decode cX11_move 77 = .ok (.iload 4, 2) := dR1 (f := Instr.iload) (k := 0) (i := 77) bn_cX11_move_0 dop_21 4 (by decide +kernel)
theorem dX11_move_79 : decode cX11_move 79 = .ok (.ifCond .lt 30, 3) := dR2s (f := Instr.ifCond .lt) (k := 0) (i := 79) bn_cX11_move_0 dop_155 30 30 (by decide +kernel)
theorem dX11_move_82 : decode cX11_move 82 = .ok (.iload_n 2, 1) := dR0 (k := 0) (i := 82) bn_cX11_move_0 dop_28 (by decide +kernel)
theorem dX11_move_83 : decode cX11_move 83 = .ok (.aload_n 0, 1) := dR0 (k := 0) (i := 83) bn_cX11_move_0 dop_42 (by decide +kernel)
theorem dX11_move_84 : decode cX11_move 84 = .ok (.getfield 25, 3) := dR2 (f := Instr.getfield) (k := 0) (i := 84) bn_cX11_move_0 dop_180 25 (by decide +kernel)
theorem dX11_move_87 : decode cX11_move 87 = .ok (.iload_n 1, 1) := dR0 (k := 0) (i := 87) bn_cX11_move_0 dop_27 (by decide +kernel)
theorem dX11_move_88 : decode cX11_move 88 = .ok (.iaload, 1) := dR0 (k := 0) (i := 88) bn_cX11_move_0 dop_46 (by decide +kernel)
theorem dX11_move_89 : decode cX11_move 89 = .ok (.iload 5, 2) := dR1 (f := Instr.iload) (k := 0) (i := 89) bn_cX11_move_0 dop_21 5 (by decide +kernel)
theorem dX11_move_91 : decode cX11_move 91 = .ok (.isub, 1) := dR0 (k := 0) (i := 91) bn_cX11_move_0 dop_100 (by decide +kernel)
theorem dX11_move_92 : decode cX11_move 92 = .ok (.if_icmp .gt 17, 3) := dR2s (f := Instr.if_icmp .gt) (k := 0) (i := 92) bn_cX11_move_0 dop_163 17 17 (by decide +kernel)
theorem dX11_move_95 : decode cX11_move 95 = .ok (.iload 4, 2) := dR1 (f := Instr.iload) (k := 0) (i := 95) bn_cX11_move_0 dop_21 4 (by decide +kernel)
theorem dX11_move_97 : decode cX11_move 97 = .ok (.aload_n 0, 1) := dR0 (k := 0) (i := 97) bn_cX11_move_0 dop_42 (by decide +kernel)
theorem dX11_move_98 : decode cX11_move 98 = .ok (.getfield 25, 3) := dR2 (f := Instr.getfield) (k := 0) (i := 98) bn_cX11_move_0 dop_180 25 (by decide +kernel)
theorem dX11_move_101 : decode cX11_move 101 = .ok (.iload_n 3, 1) := dR0 (k := 0) (i := 101) bn_cX11_move_0 dop_29 (by decide +kernel)
theorem dX11_move_102 : decode cX11_move 102 = .ok (.iaload, 1) := dR0 (k := 0) (i := 102) bn_cX11_move_0 dop_46 (by decide +kernel)
theorem dX11_move_103 : decode cX11_move 103 = .ok (.iload 5, 2) := dR1 (f := Instr.iload) (k := 0) (i := 103) bn_cX11_move_0 dop_21 5 (by decide +kernel)
theorem dX11_move_105 : decode cX11_move 105 = .ok (.isub, 1) := dR0 (k := 0) (i := 105) bn_cX11_move_0 dop_100 (by decide +kernel)
theorem dX11_move_106 : decode cX11_move 106 = .ok (.if_icmp .le 10, 3) := dR2s (f := Instr.if_icmp .le) (k := 0) (i := 106) bn_cX11_move_0 dop_164 10 10 (by decide +kernel)
theorem dX11_move_109 : decode cX11_move 109 = .ok (.aload_n 0, 1) := dR0 (k := 0) (i := 109) bn_cX11_move_0 dop_42 (by decide +kernel)
theorem dX11_move_110 : decode cX11_move 110 = .ok (.ldc 63, 2) := dR1 (f := Instr.ldc) (k := 0) (i := 110) bn_cX11_move_0 dop_18 63 (by decide +kernel)
theorem dX11_move_112 : decode cX11_move 112 = .ok (.invokevirtual 64, 3) := dR2 (f := Instr.invokevirtual) (k := 0) (i := 112) bn_cX11_move_0 dop_182 64 (by decide +kernel)
theorem dX11_move_115 : decode cX11_move 115 = .ok (.ireturn, 1) := dR0 (k := 0) (i := 115) bn_cX11_move_0 dop_172 (by decide +kernel)
theorem dX11_move_116 : decode cX11_move 116 = .ok (.iconst 0, 1) := dR0 (k := 0) (i := 116) bn_cX11_move_0 dop_3 (by decide +kernel)
theorem dX11_move_117 : decode cX11_move 117 = .ok (.istore 6, 2) := dR1 (f := Instr.istore) (k := 0) (i := 117) bn_cX11_move_0 dop_54 6 (by decide +kernel)
theorem dX11_move_119 : decode cX11_move 119 = .ok (.iload 6, 2) := dR1 (f := Instr.iload) (k := 0) (i := 119) bn_cX11_move_0 dop_21 6 (by decide +kernel)
theorem dX11_move_121 : decode cX11_move 121 = .ok (.iload 5, 2) := dR1 (f := Instr.iload) (k := 0) (i := 121) bn_cX11_move_0 dop_21 5 (by decide +kernel)
theorem dX11_move_123 : decode cX11_move 123 = .ok (.if_icmp .ge 25, 3) := dR2s (f := Instr.if_icmp .ge) (k := 0) (i := 123) bn_cX11_move_0 dop_162 25 25 (by decide +kernel)
theorem dX11_move_126 : decode cX11_move 126 = .ok (.aload_n 0, 1) := dR0 (k := 0) (i := 126) bn_cX11_move_0 dop_42 (by decide +kernel)
theorem dX11_move_127 : decode cX11_move 127 = .ok (.getfield 43, 3) := dR2 (f := Instr.getfield) (k := 0) (i := 127) bn_cX11_move_0 dop_180 43 (by decide +kernel)
theorem bn_cX11_move_128 : BN cX11_move 128 0xad03059c300540080e85280bc0e16160056a2b3081c2c6102858d21e128443a015a8ac4001518182c070b01c6e0473c01500203a14a07400adcc2070b074382b038585801 := by
  unfold BN; decide +kernel
theorem dX11_move_130 : decode cX11_move 130 = .ok (.iload 6, 2) := dR1 (f := Instr.iload) (k := 128) (i := 2) bn_cX11_move_128 dop_21 6 (by decide +kernel)
theorem dX11_move_132 : decode cX11_move 132 = .ok (.aload_n 0, 1) := dR0 (k := 128) (i := 4) bn_cX11_move_128 dop_42 (by decide +kernel)
theorem dX11_move_133 : decode cX11_move 133 = .ok (.iload_n 1, 1) := dR0 (k := 128) (i := 5) bn_cX11_move_128 dop_27 (by decide +kernel)
theorem dX11_move_134 : decode cX11_move 134 = .ok (.iload_n 2, 1) := dR0 (k := 128) (i := 6) bn_cX11_move_128 dop_28 (by decide +kernel)
theorem dX11_move_135 : decode cX11_move 135 = .ok (.iload 6, 2) := dR1 (f := Instr.iload) (k := 128) (i := 7) bn_cX11_move_128 dop_21 6 (by decide +kernel)
theorem dX11_move_137 : decode cX11_move 137 = .ok (.iadd, 1) := dR0 (k := 128) (i := 9) bn_cX11_move_128 dop_96 (by decide +kernel)
theorem dX11_move_138 : decode cX11_move 138 = .ok (.invokevirtual 115, 3) := dR2 (f := Instr.invokevirtual) (k := 128) (i := 10) bn_cX11_move_128 dop_182 115 (by decide +kernel)
theorem dX11_move_141 : decode cX11_move 141 = .ok (.iastore, 1) := dR0 (k := 128) (i := 13) bn_cX11_move_128 dop_79 (by decide +kernel)
theorem dX11_move_142 : decode cX11_move 142 = .ok (.iinc 6 1, 3) := dRii (f := Instr.iinc) (k := 128) (i := 14) bn_cX11_move_128 dop_132 6 1 1 (by decide +kernel)
theorem dX11_move_145 : decode cX11_move 145 = .ok (.goto (-26), 3) := dR2s (f := Instr.goto) (k := 128) (i := 17) bn_cX11_move_128 dop_167 65510 (-26) (by decide +kernel)
theorem dX11_move_148 : decode cX11_move 148 = .ok (.iconst 0, 1) := dR0 (k := 128) (i := 20) bn_cX11_move_128 dop_3 (by decide +kernel)
theorem dX11_move_149 : decode cX11_move 149 = .ok (.istore 6, 2) := dR1 (f := Instr.istore) (k := 128) (i := 21) bn_cX11_move_128 dop_54 6 (by decide +kernel)
theorem dX11_move_151 : decode cX11_move 151 = .ok (.iload 6, 2) := dR1 (f := Instr.iload) (k := 128) (i := 23) bn_cX11_move_128 dop_21 6 (by decide +kernel)
theorem dX11_move_153 : decode cX11_move 153 = .ok (.iload 5, 2) := dR1 (f := Instr.iload) (k := 128) (i := 25) bn_cX11_move_128 dop_21 5 (by decide +kernel)
theorem dX11_move_155 : decode cX11_move 155 = .ok (.if_icmp .ge 31, 3) := dR2s (f := Instr.if_icmp .ge) (k := 128) (i := 27) bn_cX11_move_128 dop_162 31 31 (by decide +kernel)
theorem dX11_move_158 : decode cX11_move 158 = .ok (.aload_n 0, 1) := dR0 (k := 128) (i := 30) bn_cX11_move_128 dop_42 (by decide +kernel)
theorem dX11_move_159 : decode cX11_move 159 = .ok (.getfield 28, 3) := dR2 (f := Instr.getfield) (k := 128) (i := 31) bn_cX11_move_128 dop_180 28 (by decide +kernel)
theorem dX11_move_162 : decode cX11_move 162 = .ok (.bipush 36, 2) := dR1s (f := Instr.bipush) (k := 128) (i := 34) bn_cX11_move_128 dop_16 36 36 (by decide +kernel)
theorem dX11_move_164 : decode cX11_move 164 = .ok (.iload_n 3, 1) := dR0 (k := 128) (i := 36) bn_cX11_move_128 dop_29 (by decide +kernel)
theorem dX11_move_165 : decode cX11_move 165 = .ok (.imul, 1) := dR0 (k := 128) (i := 37) bn_cX11_move_128 dop_104 (by decide +kernel)
theorem dX11_move_166 : decode cX11_move 166 = .ok (.iload 4, 2) := dR1 (f := Instr.iload) (k := 128) (i := 38) bn_cX11_move_128 dop_21 4 (by decide +kernel)
theorem dX11_move_168 : decode cX11_move 168 = .ok (.iadd, 1) := dR0 (k := 128) (i := 40) bn_cX11_move_128 dop_96 (by decide +kernel)
theorem dX11_move_169 : decode cX11_move 169 = .ok (.iload 6, 2) := dR1 (f := Instr.iload) (k := 128) (i := 41) bn_cX11_move_128 dop_21 6 (by decide +kernel)
theorem dX11_move_171 : decode cX11_move 171 = .ok (.iadd, 1) := dR0 (k := 128) (i := 43) bn_cX11_move_128 dop_96 (by decide +kernel)
theorem dX11_move_172 : decode cX11_move 172 = .ok (.aload_n 0, 1) := dR0 (k := 128) (i := 44) bn_cX11_move_128 dop_42 (by decide +kernel)
theorem dX11_move_173 : decode cX11_move 173 = .ok (.getfield 43, 3) := dR2 (f := Instr.getfield) (k := 128) (i := 45) bn_cX11_move_128 dop_180 43 (by decide +kernel)
theorem dX11_move_176 : decode cX11_move 176 = .ok (.iload 6, 2) := dR1 (f := Instr.iload) (k := 128) (i := 48) bn_cX11_move_128 dop_21 6 (by decide +kernel)
theorem dX11_move_178 : decode cX11_move 178 = .ok (.iaload, 1) := dR0 (k := 128) (i := 50) bn_cX11_move_128 dop_46 (by decide +kernel)
theorem dX11_move_179 : decode cX11_move 179 = .ok (.iastore, 1) := dR0 (k := 128) (i := 51) bn_cX11_move_128 dop_79 (by decide +kernel)
theorem dX11_move_180 : decode cX11_move 180 = .ok (.iinc 6 1, 3) := dRii (f := Instr.iinc) (k := 128) (i := 52) bn_cX11_move_128 dop_132 6 1 1 (by decide +kernel)
theorem dX11_move_183 : decode cX11_move 183 = .ok (.goto (-32), 3) := dR2s (f := Instr.goto) (k := 128) (i := 55) bn_cX11_move_128 dop_167 65504 (-32) (by decide +kernel)
theorem dX11_move_186 : decode cX11_move 186 = .ok (.iload 5, 2) := dR1 (f := Instr.iload) (k := 128) (i := 58) bn_cX11_move_128 dop_21 5 (by decide +kernel)
theorem dX11_move_188 : decode cX11_move 188 = .ok (.ireturn, 1) := dR0 (k := 128) (i := 60) bn_cX11_move_128 dop_172 (by decide +kernel)
set_option maxHeartbeats 4000000 in
set_option maxRecDepth 100000 in
theorem c_X11_moveG (l : Launch) (D : va_G) (cI : ClassId) (aK aV : Nat → Nat) (k k0 k1 k2 k4 k5 k6 k7 k8 ka kb kl ko : Nat) (sz : Nat) (c3 : Int32) (c9 : Int32) (cc : Int32) (cd : Int32) (ce : Int32) (cf : Int32) (cg : Int32) (ch : Int32) (ci : Int32) (cj : Int32) (ck : Int32) (cm : Int32) (cn : Int32) (c4 : Nat → Int32) (c5 : Nat → Int32) (c6 : Nat → Int32) (c7 : Nat → Int32) (co : Nat → Int32) (a0 : Int32) (a1 : Int32) (a2 : Int32) (a3 : Int32) (a4 : Int32) (pre0 : ∀ k : Nat, k < 4 → 0 ≤ (c6 k).toInt ∧ (c6 k).toInt ≤ 36) : Met l yX11_move (gW yX11_move cX11_move 7 (some .int)) ({ frames := 2, cells := 0, slots := 0, locals := 42 } : Room) (kPreX D cI aK aV [.ref k, .int a0, .int a1, .int a2, .int a3, .int a4] [(k, .inr (11, [.ref k0, .ref k1, .ref k2, .int c3, .ref k4, .ref k5, .ref k6, .ref k7, .ref k8, .int c9, .ref ka, .ref kb, .int cc, .int cd, .int ce, .int cf, .int cg, .int ch, .int ci, .int cj, .int ck, .ref kl, .int cm, .int cn, .ref ko])), (k4, .inl (cI, 6, .inl c4)), (k5, .inl (cI, 4, .inl c5)), (k6, .inl (cI, 4, .inl c6)), (k7, .inl (cI, 144, .inl c7)), (ko, .inl (cI, 36, .inl co))] sz) (va_Qi (fun (r : Int32) (u : (Nat → Int32) × (Nat → Int32) × (Nat → Int32)) => r = moveR c5 c6 a0 a1 a2 a3 a4 ∧ u.2.1 = moveS c5 c6 c7 a0 a1 a2 a3 a4) (fun u t => kWd D cI (va_A [(k, .inr (11, [.ref k0, .ref k1, .ref k2, .int c3, .ref k4, .ref k5, .ref k6, .ref k7, .ref k8, .int c9, .ref ka, .ref kb, .int cc, .int cd, .int ce, .int cf, .int cg, .int ch, .int ci, .int cj, .int ck, .ref kl, .int cm, .int cn, .ref ko])), (k4, .inl (cI, 6, .inl c4)), (k5, .inl (cI, 4, .inl c5)), (k6, .inl (cI, 4, .inl c6)), (k7, .inl (cI, 144, .inl c7)), (ko, .inl (cI, 36, .inl co))] sz) [(k, .inr (11, [.ref k0, .ref k1, .ref k2, .int c3, .ref k4, .ref k5, .ref k6, .ref k7, .ref k8, .int c9, .ref ka, .ref kb, .int cc, .int cd, .int ce, .int cf, .int cg, .int ch, .int ci, .int cj, .int ck, .ref kl, .int cm, .int cn, .ref ko])), (k4, .inl (cI, 6, .inl u.1)), (k5, .inl (cI, 4, .inl c5)), (k6, .inl (cI, 4, .inl c6)), (k7, .inl (cI, 144, .inl u.2.1)), (ko, .inl (cI, 36, .inl u.2.2))] t) (va_A [(k, .inr (11, [.ref k0, .ref k1, .ref k2, .int c3, .ref k4, .ref k5, .ref k6, .ref k7, .ref k8, .int c9, .ref ka, .ref kb, .int cc, .int cd, .int ce, .int cf, .int cg, .int ch, .int ci, .int cj, .int ck, .ref kl, .int cm, .int cn, .ref ko])), (k4, .inl (cI, 6, .inl c4)), (k5, .inl (cI, 4, .inl c5)), (k6, .inl (cI, 4, .inl c6)), (k7, .inl (cI, 144, .inl c7)), (ko, .inl (cI, 36, .inl co))] sz)) 0 0 (va_A [(k, .inr (11, [.ref k0, .ref k1, .ref k2, .int c3, .ref k4, .ref k5, .ref k6, .ref k7, .ref k8, .int c9, .ref ka, .ref kb, .int cc, .int cd, .int ce, .int cf, .int cg, .int ch, .int ci, .int cj, .int ck, .ref kl, .int cm, .int cn, .ref ko])), (k4, .inl (cI, 6, .inl c4)), (k5, .inl (cI, 4, .inl c5)), (k6, .inl (cI, 4, .inl c6)), (k7, .inl (cI, 144, .inl c7)), (ko, .inl (cI, 36, .inl co))] sz) := by
  refine kMetIX (own := RX11) (by decide +kernel) rfl (Nat.le_of_ble_eq_true rfl) ?_
  intro p e s m args below meth c hx hb hT hown hname hml A Q hK hP hD hS hA hN hXS hRet ls hl
  have hl : lv_has ls 7 [(0, .ref k), (1, .int a0), (2, .int a1), (3, .int a2), (4, .int a3), (5, .int a4)] := hl
  have lo_a0 := k_lo a0
  have hi_a0 := k_hi a0
  have lo_a1 := k_lo a1
  have hi_a1 := k_hi a1
  have lo_a2 := k_lo a2
  have hi_a2 := k_hi a2
  have lo_a3 := k_lo a3
  have hi_a3 := k_hi a3
  have lo_a4 := k_lo a4
  have hi_a4 := k_hi a4
  have lo_ci := k_lo ci
  have hi_ci := k_hi ci
  have hln_a0 : 0 ≤ a0.toInt → a0.toInt ≤ 3 → 0 ≤ (c6 a0.toNatClampNeg).toInt ∧ (c6 a0.toNatClampNeg).toInt ≤ 36 := fun z0 z1 => pre0 a0.toNatClampNeg (by rw [k_clamp]; omega)
  have hln_a2 : 0 ≤ a2.toInt → a2.toInt ≤ 3 → 0 ≤ (c6 a2.toNatClampNeg).toInt ∧ (c6 a2.toNatClampNeg).toInt ≤ 36 := fun z0 z1 => pre0 a2.toNatClampNeg (by rw [k_clamp]; omega)
  refine lv_iload_n hx hb dX11_move_0 rfl (lv_at hl 1 rfl) ?_
  refine kJi (wr := [(k, .inr (11, [.ref k0, .ref k1, .ref k2, .int c3, .ref k4, .ref k5, .ref k6, .ref k7, .ref k8, .int c9, .ref ka, .ref kb, .int cc, .int cd, .int ce, .int cf, .int cg, .int ch, .int ci, .int cj, .int ck, .ref kl, .int cm, .int cn, .ref ko])), (k4, .inl (cI, 6, .inl c4)), (k5, .inl (cI, 4, .inl c5)), (k6, .inl (cI, 4, .inl c6)), (k7, .inl (cI, 144, .inl c7)), (ko, .inl (cI, 36, .inl co))]) (va_runS (As := [.int a0]) (rest := []) ⟨hx, hb, hml, hown, hT⟩ (c_X11_isSheetG l D cI aK aV s.heap.size a0) (cwS 1 hT (gS_in mw_1391 mw_1389 mw_1390 mw_12) rfl rfl rfl (by decide +kernel) ⟨Nat.le_of_ble_eq_true rfl, Nat.le_of_ble_eq_true rfl⟩) (kStatX hK hP hD hN hXS hS hA [] rfl (by decide +kernel)) rfl rfl hl.1 rfl (lv_room (Nat.le_of_ble_eq_true rfl)) dX11_move_1 ⟨Nat.le_of_ble_eq_true rfl, Nat.le_of_ble_eq_true rfl⟩) hP hD hS hA [] [0, 1, 2, 3, 4, 5] rfl rfl (by decide +kernel) (by decide +kernel) ?_
  clear hP hD hS
  intro r_1 u_3 H locs w_2 hP hD hS
  replace hP : va_P D vwCl [(k, .inr (11, [.ref k0, .ref k1, .ref k2, .int c3, .ref k4, .ref k5, .ref k6, .ref k7, .ref k8, .int c9, .ref ka, .ref kb, .int cc, .int cd, .int ce, .int cf, .int cg, .int ch, .int ci, .int cj, .int ck, .ref kl, .int cm, .int cn, .ref ko])), (k4, .inl (cI, 6, .inl c4)), (k5, .inl (cI, 4, .inl c5)), (k6, .inl (cI, 4, .inl c6)), (k7, .inl (cI, 144, .inl c7)), (ko, .inl (cI, 36, .inl co))] H := hP
  replace hD : va_D A [(k, .inr (11, [.ref k0, .ref k1, .ref k2, .int c3, .ref k4, .ref k5, .ref k6, .ref k7, .ref k8, .int c9, .ref ka, .ref kb, .int cc, .int cd, .int ce, .int cf, .int cg, .int ch, .int ci, .int cj, .int ck, .ref kl, .int cm, .int cn, .ref ko])), (k4, .inl (cI, 6, .inl c4)), (k5, .inl (cI, 4, .inl c5)), (k6, .inl (cI, 4, .inl c6)), (k7, .inl (cI, 144, .inl c7)), (ko, .inl (cI, 36, .inl co))] := hD
  rcases w_2 with ⟨hr_1, h_4, h_5⟩ | ⟨hr_1, h_6⟩
  · have h_4 : 0 ≤ a0.toInt := h_4
    have h_5 : a0.toInt ≤ 3 := h_5
    obtain rfl : r_1 = 1 := hr_1.trans (by decide +kernel)
    refine b_if_eq hx hb zl_1 (tgt := 14) dX11_move_4 (by decide +kernel) (fun c_7 => by exfalso; omega) (fun c_7 => ?_)
    refine lv_iload_n hx hb dX11_move_7 rfl (lv_at hl 3 rfl) ?_
    refine kJi (wr := [(k, .inr (11, [.ref k0, .ref k1, .ref k2, .int c3, .ref k4, .ref k5, .ref k6, .ref k7, .ref k8, .int c9, .ref ka, .ref kb, .int cc, .int cd, .int ce, .int cf, .int cg, .int ch, .int ci, .int cj, .int ck, .ref kl, .int cm, .int cn, .ref ko])), (k4, .inl (cI, 6, .inl c4)), (k5, .inl (cI, 4, .inl c5)), (k6, .inl (cI, 4, .inl c6)), (k7, .inl (cI, 144, .inl c7)), (ko, .inl (cI, 36, .inl co))]) (va_runS (As := [.int a2]) (rest := []) ⟨hx, hb, hml, hown, hT⟩ (c_X11_isSheetG l D cI aK aV H.size a2) (cwS 1 hT (gS_in mw_1391 mw_1389 mw_1390 mw_12) rfl rfl rfl (by decide +kernel) ⟨Nat.le_of_ble_eq_true rfl, Nat.le_of_ble_eq_true rfl⟩) (kStatX hK hP hD hN hXS hS hA [] rfl (by decide +kernel)) rfl rfl hl.1 rfl (lv_room (Nat.le_of_ble_eq_true rfl)) dX11_move_8 ⟨Nat.le_of_ble_eq_true rfl, Nat.le_of_ble_eq_true rfl⟩) hP hD hS hA [] [0, 1, 2, 3, 4, 5] rfl rfl (by decide +kernel) (by decide +kernel) ?_
    clear hP hD hS
    intro r_8 u_10 H locs w_9 hP hD hS
    replace hP : va_P D vwCl [(k, .inr (11, [.ref k0, .ref k1, .ref k2, .int c3, .ref k4, .ref k5, .ref k6, .ref k7, .ref k8, .int c9, .ref ka, .ref kb, .int cc, .int cd, .int ce, .int cf, .int cg, .int ch, .int ci, .int cj, .int ck, .ref kl, .int cm, .int cn, .ref ko])), (k4, .inl (cI, 6, .inl c4)), (k5, .inl (cI, 4, .inl c5)), (k6, .inl (cI, 4, .inl c6)), (k7, .inl (cI, 144, .inl c7)), (ko, .inl (cI, 36, .inl co))] H := hP
    replace hD : va_D A [(k, .inr (11, [.ref k0, .ref k1, .ref k2, .int c3, .ref k4, .ref k5, .ref k6, .ref k7, .ref k8, .int c9, .ref ka, .ref kb, .int cc, .int cd, .int ce, .int cf, .int cg, .int ch, .int ci, .int cj, .int ck, .ref kl, .int cm, .int cn, .ref ko])), (k4, .inl (cI, 6, .inl c4)), (k5, .inl (cI, 4, .inl c5)), (k6, .inl (cI, 4, .inl c6)), (k7, .inl (cI, 144, .inl c7)), (ko, .inl (cI, 36, .inl co))] := hD
    rcases w_9 with ⟨hr_8, h_11, h_12⟩ | ⟨hr_8, h_13⟩
    · have h_11 : 0 ≤ a2.toInt := h_11
      have h_12 : a2.toInt ≤ 3 := h_12
      obtain rfl : r_8 = 1 := hr_8.trans (by decide +kernel)
      refine b_if_ne hx hb zl_1 (tgt := 21) dX11_move_11 (by decide +kernel) (fun c_14 => ?_) (fun c_14 => by exfalso; omega)
      refine lv_aload_n hx hb dX11_move_21 rfl (lv_at hl 0 rfl) ?_
      refine va_get (D := D) (ci := 11) (v := .ref k5) (C := RX11) (T := TX11) (N := 25) hx hb hT giX11 hown hK hP 0 rfl rfl 5 (by decide +kernel) (hT (Cond.fieldLink RX11 22 "DesertWireModel" "bits" "[I") mw_1161) (fun _ h9 => h9) rfl dX11_move_22 ?_
      refine lv_iload_n hx hb dX11_move_25 rfl (lv_at hl 1 rfl) ?_
      refine k_iald (v := (c5 a0.toNatClampNeg)) hx hb hK hP 2 0 rfl rfl (k_in (by omega) (by omega)) rfl dX11_move_26 ?_
      refine lv_topi (fun v_15 ev_15 => ?_)
      have lo_v_15 := k_lo v_15
      have hi_v_15 := k_hi v_15
      have tv_15 : v_15.toInt = (c5 a0.toNatClampNeg).toInt := by rw [ev_15]
      refine b_if_eq hx hb rfl (tgt := 39) dX11_move_27 (by decide +kernel) (fun c_16 => ?_) (fun c_16 => ?_)
      · refine lv_aload_n hx hb dX11_move_39 rfl (lv_at hl 0 rfl) ?_
        refine lv_ldc (v := (-1000002)) hx hb hown (hT _ mw_1392) dX11_move_40 ?_
        refine kJi (wr := [(k5, .inl (cI, 4, .inl c5)), (k6, .inl (cI, 4, .inl c6)), (k7, .inl (cI, 144, .inl c7)), (ko, .inl (cI, 36, .inl co))]) (va_runV (As := [.int (-1000002)]) (rest := []) ⟨hx, hb, hml, hown, hT⟩ (c_X11_findingG l D cI aK aV k k0 k1 k2 k4 k5 k6 k7 k8 ka kb kl ko H.size c3 c9 cc cd ce cf cg ch ci cj ck cm cn c4 (-1000002) (by first | omega | (simp only [zl_m1000002]; first | done | omega) | decide | assumption | rfl) (by first | omega | (simp only [zl_m1000002]; first | done | omega) | decide | assumption | rfl)) (cwV 1 hT (gV_in mw_1243 mw_1240 mw_1242 mw_p3_8 mw_12) rfl rfl rfl (by decide +kernel) ⟨Nat.le_of_ble_eq_true rfl, Nat.le_of_ble_eq_true rfl⟩) (kRecvX (q0 := 0) (ci := 11) hK hP hD hN hXS hS hA rfl rfl [0, 1] rfl (by decide +kernel)) rfl rfl hl.1 rfl (lv_room (Nat.le_of_ble_eq_true rfl)) dX11_move_42 ⟨Nat.le_of_ble_eq_true rfl, Nat.le_of_ble_eq_true rfl⟩) hP hD hS hA [0, 1] [2, 3, 4, 5] rfl rfl (by decide +kernel) (by decide +kernel) ?_
        clear hP hD hS
        intro r_17 sc4_19 H locs w_18 hP hD hS
        replace hP : va_P D vwCl [(k5, .inl (cI, 4, .inl c5)), (k6, .inl (cI, 4, .inl c6)), (k7, .inl (cI, 144, .inl c7)), (ko, .inl (cI, 36, .inl co)), (k, .inr (11, [.ref k0, .ref k1, .ref k2, .int c3, .ref k4, .ref k5, .ref k6, .ref k7, .ref k8, .int c9, .ref ka, .ref kb, .int cc, .int cd, .int ce, .int cf, .int cg, .int ch, .int ci, .int cj, .int ck, .ref kl, .int cm, .int cn, .ref ko])), (k4, .inl (cI, 6, .inl sc4_19))] H := hP
        replace hD : va_D A [(k5, .inl (cI, 4, .inl c5)), (k6, .inl (cI, 4, .inl c6)), (k7, .inl (cI, 144, .inl c7)), (ko, .inl (cI, 36, .inl co)), (k, .inr (11, [.ref k0, .ref k1, .ref k2, .int c3, .ref k4, .ref k5, .ref k6, .ref k7, .ref k8, .int c9, .ref ka, .ref kb, .int cc, .int cd, .int ce, .int cf, .int cg, .int ch, .int ci, .int cj, .int ck, .ref kl, .int cm, .int cn, .ref ko])), (k4, .inl (cI, 6, .inl sc4_19))] := hD
        have hr_17 := w_18
        obtain rfl : r_17 = (-1000002) := hr_17.trans (by decide +kernel)
        exact hRet (sc4_19, c7, co) [4, 5, 0, 1, 2, 3] ⟨(by (try dsimp only); unfold moveR; (repeat (first | rw [if_pos (by omega)] | rw [if_neg (by omega)]))), (by (try dsimp only); unfold moveS; (repeat (first | rw [if_pos (by omega)] | rw [if_neg (by omega)])))⟩ hP hD (by decide +kernel) rfl hS rfl dX11_move_45
      · refine lv_aload_n hx hb dX11_move_30 rfl (lv_at hl 0 rfl) ?_
        refine va_get (D := D) (ci := 11) (v := .ref k5) (C := RX11) (T := TX11) (N := 25) hx hb hT giX11 hown hK hP 0 rfl rfl 5 (by decide +kernel) (hT (Cond.fieldLink RX11 22 "DesertWireModel" "bits" "[I") mw_1161) (fun _ h9 => h9) rfl dX11_move_31 ?_
        refine lv_iload_n hx hb dX11_move_34 rfl (lv_at hl 3 rfl) ?_
        refine k_iald (v := (c5 a2.toNatClampNeg)) hx hb hK hP 2 0 rfl rfl (k_in (by omega) (by omega)) rfl dX11_move_35 ?_
        refine lv_topi (fun v_20 ev_20 => ?_)
        have lo_v_20 := k_lo v_20
        have hi_v_20 := k_hi v_20
        have tv_20 : v_20.toInt = (c5 a2.toNatClampNeg).toInt := by rw [ev_20]
        refine b_if_ne hx hb rfl (tgt := 46) dX11_move_36 (by decide +kernel) (fun c_21 => ?_) (fun c_21 => ?_)
        · refine lv_aload_n hx hb dX11_move_46 rfl (lv_at hl 0 rfl) ?_
          refine va_get (D := D) (ci := 11) (v := .ref k5) (C := RX11) (T := TX11) (N := 25) hx hb hT giX11 hown hK hP 0 rfl rfl 5 (by decide +kernel) (hT (Cond.fieldLink RX11 22 "DesertWireModel" "bits" "[I") mw_1161) (fun _ h9 => h9) rfl dX11_move_47 ?_
          refine lv_iload_n hx hb dX11_move_50 rfl (lv_at hl 1 rfl) ?_
          refine k_iald (v := (c5 a0.toNatClampNeg)) hx hb hK hP 2 0 rfl rfl (k_in (by omega) (by omega)) rfl dX11_move_51 ?_
          refine lv_topi (fun v_22 ev_22 => ?_)
          have lo_v_22 := k_lo v_22
          have hi_v_22 := k_hi v_22
          have tv_22 : v_22.toInt = (c5 a0.toNatClampNeg).toInt := by rw [ev_22]
          refine lv_aload_n hx hb dX11_move_52 rfl (lv_at hl 0 rfl) ?_
          refine va_get (D := D) (ci := 11) (v := .ref k5) (C := RX11) (T := TX11) (N := 25) hx hb hT giX11 hown hK hP 0 rfl rfl 5 (by decide +kernel) (hT (Cond.fieldLink RX11 22 "DesertWireModel" "bits" "[I") mw_1161) (fun _ h9 => h9) rfl dX11_move_53 ?_
          refine lv_iload_n hx hb dX11_move_56 rfl (lv_at hl 3 rfl) ?_
          refine k_iald (v := (c5 a2.toNatClampNeg)) hx hb hK hP 2 0 rfl rfl (k_in (by omega) (by omega)) rfl dX11_move_57 ?_
          refine lv_topi (fun v_23 ev_23 => ?_)
          have lo_v_23 := k_lo v_23
          have hi_v_23 := k_hi v_23
          have tv_23 : v_23.toInt = (c5 a2.toNatClampNeg).toInt := by rw [ev_23]
          refine b_icmp_eq hx hb rfl rfl (tgt := 68) dX11_move_58 (by decide +kernel) (fun c_24 => ?_) (fun c_24 => ?_)
          · refine lv_iload hx hb dX11_move_68 (lv_at hl 5 rfl) ?_
            refine b_if_lt hx hb rfl (tgt := 109) dX11_move_70 (by decide +kernel) (fun c_25 => ?_) (fun c_25 => ?_)
            · refine lv_aload_n hx hb dX11_move_109 rfl (lv_at hl 0 rfl) ?_
              refine lv_ldc (v := (-1000001)) hx hb hown (hT _ mw_1239) dX11_move_110 ?_
              refine kJi (wr := [(k5, .inl (cI, 4, .inl c5)), (k6, .inl (cI, 4, .inl c6)), (k7, .inl (cI, 144, .inl c7)), (ko, .inl (cI, 36, .inl co))]) (va_runV (As := [.int (-1000001)]) (rest := []) ⟨hx, hb, hml, hown, hT⟩ (c_X11_findingG l D cI aK aV k k0 k1 k2 k4 k5 k6 k7 k8 ka kb kl ko H.size c3 c9 cc cd ce cf cg ch ci cj ck cm cn c4 (-1000001) (by first | omega | (simp only [zl_m1000001]; first | done | omega) | decide | assumption | rfl) (by first | omega | (simp only [zl_m1000001]; first | done | omega) | decide | assumption | rfl)) (cwV 1 hT (gV_in mw_1243 mw_1240 mw_1242 mw_p3_8 mw_12) rfl rfl rfl (by decide +kernel) ⟨Nat.le_of_ble_eq_true rfl, Nat.le_of_ble_eq_true rfl⟩) (kRecvX (q0 := 0) (ci := 11) hK hP hD hN hXS hS hA rfl rfl [0, 1] rfl (by decide +kernel)) rfl rfl hl.1 rfl (lv_room (Nat.le_of_ble_eq_true rfl)) dX11_move_112 ⟨Nat.le_of_ble_eq_true rfl, Nat.le_of_ble_eq_true rfl⟩) hP hD hS hA [0, 1] [2, 3, 4, 5] rfl rfl (by decide +kernel) (by decide +kernel) ?_
              clear hP hD hS
              intro r_26 sc4_28 H locs w_27 hP hD hS
              replace hP : va_P D vwCl [(k5, .inl (cI, 4, .inl c5)), (k6, .inl (cI, 4, .inl c6)), (k7, .inl (cI, 144, .inl c7)), (ko, .inl (cI, 36, .inl co)), (k, .inr (11, [.ref k0, .ref k1, .ref k2, .int c3, .ref k4, .ref k5, .ref k6, .ref k7, .ref k8, .int c9, .ref ka, .ref kb, .int cc, .int cd, .int ce, .int cf, .int cg, .int ch, .int ci, .int cj, .int ck, .ref kl, .int cm, .int cn, .ref ko])), (k4, .inl (cI, 6, .inl sc4_28))] H := hP
              replace hD : va_D A [(k5, .inl (cI, 4, .inl c5)), (k6, .inl (cI, 4, .inl c6)), (k7, .inl (cI, 144, .inl c7)), (ko, .inl (cI, 36, .inl co)), (k, .inr (11, [.ref k0, .ref k1, .ref k2, .int c3, .ref k4, .ref k5, .ref k6, .ref k7, .ref k8, .int c9, .ref ka, .ref kb, .int cc, .int cd, .int ce, .int cf, .int cg, .int ch, .int ci, .int cj, .int ck, .ref kl, .int cm, .int cn, .ref ko])), (k4, .inl (cI, 6, .inl sc4_28))] := hD
              have hr_26 := w_27
              obtain rfl : r_26 = (-1000001) := hr_26.trans (by decide +kernel)
              exact hRet (sc4_28, c7, co) [4, 5, 0, 1, 2, 3] ⟨(by (try dsimp only); unfold moveR; (repeat (first | rw [if_pos (by omega)] | rw [if_neg (by omega)]))), (by (try dsimp only); unfold moveS; (repeat (first | rw [if_pos (by omega)] | rw [if_neg (by omega)])))⟩ hP hD (by decide +kernel) rfl hS rfl dX11_move_115
            · refine lv_iload_n hx hb dX11_move_73 rfl (lv_at hl 2 rfl) ?_
              refine b_if_lt hx hb rfl (tgt := 109) dX11_move_74 (by decide +kernel) (fun c_29 => ?_) (fun c_29 => ?_)
              · refine lv_aload_n hx hb dX11_move_109 rfl (lv_at hl 0 rfl) ?_
                refine lv_ldc (v := (-1000001)) hx hb hown (hT _ mw_1239) dX11_move_110 ?_
                refine kJi (wr := [(k5, .inl (cI, 4, .inl c5)), (k6, .inl (cI, 4, .inl c6)), (k7, .inl (cI, 144, .inl c7)), (ko, .inl (cI, 36, .inl co))]) (va_runV (As := [.int (-1000001)]) (rest := []) ⟨hx, hb, hml, hown, hT⟩ (c_X11_findingG l D cI aK aV k k0 k1 k2 k4 k5 k6 k7 k8 ka kb kl ko H.size c3 c9 cc cd ce cf cg ch ci cj ck cm cn c4 (-1000001) (by first | omega | (simp only [zl_m1000001]; first | done | omega) | decide | assumption | rfl) (by first | omega | (simp only [zl_m1000001]; first | done | omega) | decide | assumption | rfl)) (cwV 1 hT (gV_in mw_1243 mw_1240 mw_1242 mw_p3_8 mw_12) rfl rfl rfl (by decide +kernel) ⟨Nat.le_of_ble_eq_true rfl, Nat.le_of_ble_eq_true rfl⟩) (kRecvX (q0 := 0) (ci := 11) hK hP hD hN hXS hS hA rfl rfl [0, 1] rfl (by decide +kernel)) rfl rfl hl.1 rfl (lv_room (Nat.le_of_ble_eq_true rfl)) dX11_move_112 ⟨Nat.le_of_ble_eq_true rfl, Nat.le_of_ble_eq_true rfl⟩) hP hD hS hA [0, 1] [2, 3, 4, 5] rfl rfl (by decide +kernel) (by decide +kernel) ?_
                clear hP hD hS
                intro r_30 sc4_32 H locs w_31 hP hD hS
                replace hP : va_P D vwCl [(k5, .inl (cI, 4, .inl c5)), (k6, .inl (cI, 4, .inl c6)), (k7, .inl (cI, 144, .inl c7)), (ko, .inl (cI, 36, .inl co)), (k, .inr (11, [.ref k0, .ref k1, .ref k2, .int c3, .ref k4, .ref k5, .ref k6, .ref k7, .ref k8, .int c9, .ref ka, .ref kb, .int cc, .int cd, .int ce, .int cf, .int cg, .int ch, .int ci, .int cj, .int ck, .ref kl, .int cm, .int cn, .ref ko])), (k4, .inl (cI, 6, .inl sc4_32))] H := hP
                replace hD : va_D A [(k5, .inl (cI, 4, .inl c5)), (k6, .inl (cI, 4, .inl c6)), (k7, .inl (cI, 144, .inl c7)), (ko, .inl (cI, 36, .inl co)), (k, .inr (11, [.ref k0, .ref k1, .ref k2, .int c3, .ref k4, .ref k5, .ref k6, .ref k7, .ref k8, .int c9, .ref ka, .ref kb, .int cc, .int cd, .int ce, .int cf, .int cg, .int ch, .int ci, .int cj, .int ck, .ref kl, .int cm, .int cn, .ref ko])), (k4, .inl (cI, 6, .inl sc4_32))] := hD
                have hr_30 := w_31
                obtain rfl : r_30 = (-1000001) := hr_30.trans (by decide +kernel)
                exact hRet (sc4_32, c7, co) [4, 5, 0, 1, 2, 3] ⟨(by (try dsimp only); unfold moveR; (repeat (first | rw [if_pos (by omega)] | rw [if_neg (by omega)]))), (by (try dsimp only); unfold moveS; (repeat (first | rw [if_pos (by omega)] | rw [if_neg (by omega)])))⟩ hP hD (by decide +kernel) rfl hS rfl dX11_move_115
              · refine lv_iload hx hb dX11_move_77 (lv_at hl 4 rfl) ?_
                refine b_if_lt hx hb rfl (tgt := 109) dX11_move_79 (by decide +kernel) (fun c_33 => ?_) (fun c_33 => ?_)
                · refine lv_aload_n hx hb dX11_move_109 rfl (lv_at hl 0 rfl) ?_
                  refine lv_ldc (v := (-1000001)) hx hb hown (hT _ mw_1239) dX11_move_110 ?_
                  refine kJi (wr := [(k5, .inl (cI, 4, .inl c5)), (k6, .inl (cI, 4, .inl c6)), (k7, .inl (cI, 144, .inl c7)), (ko, .inl (cI, 36, .inl co))]) (va_runV (As := [.int (-1000001)]) (rest := []) ⟨hx, hb, hml, hown, hT⟩ (c_X11_findingG l D cI aK aV k k0 k1 k2 k4 k5 k6 k7 k8 ka kb kl ko H.size c3 c9 cc cd ce cf cg ch ci cj ck cm cn c4 (-1000001) (by first | omega | (simp only [zl_m1000001]; first | done | omega) | decide | assumption | rfl) (by first | omega | (simp only [zl_m1000001]; first | done | omega) | decide | assumption | rfl)) (cwV 1 hT (gV_in mw_1243 mw_1240 mw_1242 mw_p3_8 mw_12) rfl rfl rfl (by decide +kernel) ⟨Nat.le_of_ble_eq_true rfl, Nat.le_of_ble_eq_true rfl⟩) (kRecvX (q0 := 0) (ci := 11) hK hP hD hN hXS hS hA rfl rfl [0, 1] rfl (by decide +kernel)) rfl rfl hl.1 rfl (lv_room (Nat.le_of_ble_eq_true rfl)) dX11_move_112 ⟨Nat.le_of_ble_eq_true rfl, Nat.le_of_ble_eq_true rfl⟩) hP hD hS hA [0, 1] [2, 3, 4, 5] rfl rfl (by decide +kernel) (by decide +kernel) ?_
                  clear hP hD hS
                  intro r_34 sc4_36 H locs w_35 hP hD hS
                  replace hP : va_P D vwCl [(k5, .inl (cI, 4, .inl c5)), (k6, .inl (cI, 4, .inl c6)), (k7, .inl (cI, 144, .inl c7)), (ko, .inl (cI, 36, .inl co)), (k, .inr (11, [.ref k0, .ref k1, .ref k2, .int c3, .ref k4, .ref k5, .ref k6, .ref k7, .ref k8, .int c9, .ref ka, .ref kb, .int cc, .int cd, .int ce, .int cf, .int cg, .int ch, .int ci, .int cj, .int ck, .ref kl, .int cm, .int cn, .ref ko])), (k4, .inl (cI, 6, .inl sc4_36))] H := hP
                  replace hD : va_D A [(k5, .inl (cI, 4, .inl c5)), (k6, .inl (cI, 4, .inl c6)), (k7, .inl (cI, 144, .inl c7)), (ko, .inl (cI, 36, .inl co)), (k, .inr (11, [.ref k0, .ref k1, .ref k2, .int c3, .ref k4, .ref k5, .ref k6, .ref k7, .ref k8, .int c9, .ref ka, .ref kb, .int cc, .int cd, .int ce, .int cf, .int cg, .int ch, .int ci, .int cj, .int ck, .ref kl, .int cm, .int cn, .ref ko])), (k4, .inl (cI, 6, .inl sc4_36))] := hD
                  have hr_34 := w_35
                  obtain rfl : r_34 = (-1000001) := hr_34.trans (by decide +kernel)
                  exact hRet (sc4_36, c7, co) [4, 5, 0, 1, 2, 3] ⟨(by (try dsimp only); unfold moveR; (repeat (first | rw [if_pos (by omega)] | rw [if_neg (by omega)]))), (by (try dsimp only); unfold moveS; (repeat (first | rw [if_pos (by omega)] | rw [if_neg (by omega)])))⟩ hP hD (by decide +kernel) rfl hS rfl dX11_move_115
                · refine lv_iload_n hx hb dX11_move_82 rfl (lv_at hl 2 rfl) ?_
                  refine lv_aload_n hx hb dX11_move_83 rfl (lv_at hl 0 rfl) ?_
                  refine va_get (D := D) (ci := 11) (v := .ref k6) (C := RX11) (T := TX11) (N := 25) hx hb hT giX11 hown hK hP 0 rfl rfl 6 (by decide +kernel) (hT (Cond.fieldLink RX11 25 "DesertWireModel" "size" "[I") mw_1162) (fun _ h9 => h9) rfl dX11_move_84 ?_
                  refine lv_iload_n hx hb dX11_move_87 rfl (lv_at hl 1 rfl) ?_
                  refine k_iald (v := (c6 a0.toNatClampNeg)) hx hb hK hP 3 0 rfl rfl (k_in (by omega) (by omega)) rfl dX11_move_88 ?_
                  refine lv_topi (fun v_37 ev_37 => ?_)
                  have lo_v_37 := k_lo v_37
                  have hi_v_37 := k_hi v_37
                  have tv_37 : v_37.toInt = (c6 a0.toNatClampNeg).toInt := by rw [ev_37]
                  have b_38 : 0 ≤ v_37.toInt ∧ v_37.toInt ≤ 36 := by rw [tv_37]; exact pre0 a0.toNatClampNeg (by rw [k_clamp]; omega)
                  refine lv_iload hx hb dX11_move_89 (lv_at hl 5 rfl) ?_
                  refine lv_isub hx hb dX11_move_91 ?_
                  refine lv_topi (fun v_39 ev_39 => ?_)
                  have tv_39 : v_39.toInt = v_37.toInt - a4.toInt := by rw [ev_39]; exact k_subv rfl rfl (by omega) (by omega)
                  refine b_icmp_gt hx hb rfl rfl (tgt := 109) dX11_move_92 (by decide +kernel) (fun c_40 => ?_) (fun c_40 => ?_)
                  · refine lv_aload_n hx hb dX11_move_109 rfl (lv_at hl 0 rfl) ?_
                    refine lv_ldc (v := (-1000001)) hx hb hown (hT _ mw_1239) dX11_move_110 ?_
                    refine kJi (wr := [(k5, .inl (cI, 4, .inl c5)), (k6, .inl (cI, 4, .inl c6)), (k7, .inl (cI, 144, .inl c7)), (ko, .inl (cI, 36, .inl co))]) (va_runV (As := [.int (-1000001)]) (rest := []) ⟨hx, hb, hml, hown, hT⟩ (c_X11_findingG l D cI aK aV k k0 k1 k2 k4 k5 k6 k7 k8 ka kb kl ko H.size c3 c9 cc cd ce cf cg ch ci cj ck cm cn c4 (-1000001) (by first | omega | (simp only [zl_m1000001]; first | done | omega) | decide | assumption | rfl) (by first | omega | (simp only [zl_m1000001]; first | done | omega) | decide | assumption | rfl)) (cwV 1 hT (gV_in mw_1243 mw_1240 mw_1242 mw_p3_8 mw_12) rfl rfl rfl (by decide +kernel) ⟨Nat.le_of_ble_eq_true rfl, Nat.le_of_ble_eq_true rfl⟩) (kRecvX (q0 := 0) (ci := 11) hK hP hD hN hXS hS hA rfl rfl [0, 1] rfl (by decide +kernel)) rfl rfl hl.1 rfl (lv_room (Nat.le_of_ble_eq_true rfl)) dX11_move_112 ⟨Nat.le_of_ble_eq_true rfl, Nat.le_of_ble_eq_true rfl⟩) hP hD hS hA [0, 1] [2, 3, 4, 5] rfl rfl (by decide +kernel) (by decide +kernel) ?_
                    clear hP hD hS
                    intro r_41 sc4_43 H locs w_42 hP hD hS
                    replace hP : va_P D vwCl [(k5, .inl (cI, 4, .inl c5)), (k6, .inl (cI, 4, .inl c6)), (k7, .inl (cI, 144, .inl c7)), (ko, .inl (cI, 36, .inl co)), (k, .inr (11, [.ref k0, .ref k1, .ref k2, .int c3, .ref k4, .ref k5, .ref k6, .ref k7, .ref k8, .int c9, .ref ka, .ref kb, .int cc, .int cd, .int ce, .int cf, .int cg, .int ch, .int ci, .int cj, .int ck, .ref kl, .int cm, .int cn, .ref ko])), (k4, .inl (cI, 6, .inl sc4_43))] H := hP
                    replace hD : va_D A [(k5, .inl (cI, 4, .inl c5)), (k6, .inl (cI, 4, .inl c6)), (k7, .inl (cI, 144, .inl c7)), (ko, .inl (cI, 36, .inl co)), (k, .inr (11, [.ref k0, .ref k1, .ref k2, .int c3, .ref k4, .ref k5, .ref k6, .ref k7, .ref k8, .int c9, .ref ka, .ref kb, .int cc, .int cd, .int ce, .int cf, .int cg, .int ch, .int ci, .int cj, .int ck, .ref kl, .int cm, .int cn, .ref ko])), (k4, .inl (cI, 6, .inl sc4_43))] := hD
                    have hr_41 := w_42
                    obtain rfl : r_41 = (-1000001) := hr_41.trans (by decide +kernel)
                    exact hRet (sc4_43, c7, co) [4, 5, 0, 1, 2, 3] ⟨(by (try dsimp only); unfold moveR; (repeat (first | rw [if_pos (by omega)] | rw [if_neg (by omega)]))), (by (try dsimp only); unfold moveS; (repeat (first | rw [if_pos (by omega)] | rw [if_neg (by omega)])))⟩ hP hD (by decide +kernel) rfl hS rfl dX11_move_115
                  · refine lv_iload hx hb dX11_move_95 (lv_at hl 4 rfl) ?_
                    refine lv_aload_n hx hb dX11_move_97 rfl (lv_at hl 0 rfl) ?_
                    refine va_get (D := D) (ci := 11) (v := .ref k6) (C := RX11) (T := TX11) (N := 25) hx hb hT giX11 hown hK hP 0 rfl rfl 6 (by decide +kernel) (hT (Cond.fieldLink RX11 25 "DesertWireModel" "size" "[I") mw_1162) (fun _ h9 => h9) rfl dX11_move_98 ?_
                    refine lv_iload_n hx hb dX11_move_101 rfl (lv_at hl 3 rfl) ?_
                    refine k_iald (v := (c6 a2.toNatClampNeg)) hx hb hK hP 3 0 rfl rfl (k_in (by omega) (by omega)) rfl dX11_move_102 ?_
                    refine lv_topi (fun v_44 ev_44 => ?_)
                    have lo_v_44 := k_lo v_44
                    have hi_v_44 := k_hi v_44
                    have tv_44 : v_44.toInt = (c6 a2.toNatClampNeg).toInt := by rw [ev_44]
                    have b_45 : 0 ≤ v_44.toInt ∧ v_44.toInt ≤ 36 := by rw [tv_44]; exact pre0 a2.toNatClampNeg (by rw [k_clamp]; omega)
                    refine lv_iload hx hb dX11_move_103 (lv_at hl 5 rfl) ?_
                    refine lv_isub hx hb dX11_move_105 ?_
                    refine lv_topi (fun v_46 ev_46 => ?_)
                    have tv_46 : v_46.toInt = v_44.toInt - a4.toInt := by rw [ev_46]; exact k_subv rfl rfl (by omega) (by omega)
                    refine b_icmp_le hx hb rfl rfl (tgt := 116) dX11_move_106 (by decide +kernel) (fun c_47 => ?_) (fun c_47 => ?_)
                    · refine lv_iconst (v := 0) hx hb dX11_move_116 (by decide +kernel) ?_
                      refine lv_istore (lv' := [(6, .int 0), (0, .ref k), (1, .int a0), (2, .int a1), (3, .int a2), (4, .int a3), (5, .int a4)]) hx hb dX11_move_117 hl (by decide +kernel) rfl ?_
                      clear hl
                      intro ls hl
                      have hloop_119 : ∀ (fu_ : Nat) (l119_6 : Int32) (g119_ko : Nat → Int32), 0 ≤ l119_6.toInt → l119_6.toInt ≤ a4.toInt → (∀ j : Nat, j < l119_6.toInt.toNat → g119_ko j = c7 (36 * a0.toInt.toNat + a1.toInt.toNat + j)) → (a4.toInt - l119_6.toInt).toNat < fu_ → ∀ (ls : Array Slot) (H : Heap) (locs : List Loc), lv_has ls 7 [(6, .int l119_6), (0, .ref k), (1, .int a0), (2, .int a1), (3, .int a2), (4, .int a3), (5, .int a4)] → va_P D vwCl [(k, .inr (11, [.ref k0, .ref k1, .ref k2, .int c3, .ref k4, .ref k5, .ref k6, .ref k7, .ref k8, .int c9, .ref ka, .ref kb, .int cc, .int cd, .int ce, .int cf, .int cg, .int ch, .int ci, .int cj, .int ck, .ref kl, .int cm, .int cn, .ref ko])), (k4, .inl (cI, 6, .inl c4)), (k5, .inl (cI, 4, .inl c5)), (k6, .inl (cI, 4, .inl c6)), (k7, .inl (cI, 144, .inl c7)), (ko, .inl (cI, 36, .inl g119_ko))] H → va_D A [(k, .inr (11, [.ref k0, .ref k1, .ref k2, .int c3, .ref k4, .ref k5, .ref k6, .ref k7, .ref k8, .int c9, .ref ka, .ref kb, .int cc, .int cd, .int ce, .int cf, .int cg, .int ch, .int ci, .int cj, .int ck, .ref kl, .int cm, .int cn, .ref ko])), (k4, .inl (cI, 6, .inl c4)), (k5, .inl (cI, 4, .inl c5)), (k6, .inl (cI, 4, .inl c6)), (k7, .inl (cI, 144, .inl c7)), (ko, .inl (cI, 36, .inl g119_ko))] → va_S A s.heap H locs → W p l e ({ frames := 2, cells := 0, slots := 0, locals := 42 } : Room) s m args below meth c H locs 0 0 Q (F0 m 119 ls []) := by
                        intro fu_; induction fu_ with
                        | zero => intro l119_6 g119_ko i119_0 i119_1 i119_2 hm; exact absurd hm (by omega)
                        | succ fu_ ih119 =>
                            intro l119_6 g119_ko i119_0 i119_1 i119_2 hm ls H locs hl hP hD hS
                            have lo_l119_6 := k_lo l119_6
                            have hi_l119_6 := k_hi l119_6
                            refine lv_iload hx hb dX11_move_119 (lv_at hl 0 rfl) ?_
                            refine lv_iload hx hb dX11_move_121 (lv_at hl 6 rfl) ?_
                            refine b_icmp_ge hx hb rfl rfl (tgt := 148) dX11_move_123 (by decide +kernel) (fun c_48 => ?_) (fun c_48 => ?_)
                            · refine lv_iconst (v := 0) hx hb dX11_move_148 (by decide +kernel) ?_
                              refine lv_istore (lv' := [(6, .int 0), (0, .ref k), (1, .int a0), (2, .int a1), (3, .int a2), (4, .int a3), (5, .int a4)]) hx hb dX11_move_149 hl (by decide +kernel) rfl ?_
                              clear hl
                              intro ls hl
                              have hloop_151 : ∀ (fu_ : Nat) (l151_6 : Int32) (g151_k7 : Nat → Int32), 0 ≤ l151_6.toInt → l151_6.toInt ≤ a4.toInt → g151_k7 = va_cpy c7 c7 (36 * a0.toInt.toNat + a1.toInt.toNat) (36 * a2.toInt.toNat + a3.toInt.toNat) l151_6.toInt.toNat → (a4.toInt - l151_6.toInt).toNat < fu_ → ∀ (ls : Array Slot) (H : Heap) (locs : List Loc), lv_has ls 7 [(6, .int l151_6), (0, .ref k), (1, .int a0), (2, .int a1), (3, .int a2), (4, .int a3), (5, .int a4)] → va_P D vwCl [(k, .inr (11, [.ref k0, .ref k1, .ref k2, .int c3, .ref k4, .ref k5, .ref k6, .ref k7, .ref k8, .int c9, .ref ka, .ref kb, .int cc, .int cd, .int ce, .int cf, .int cg, .int ch, .int ci, .int cj, .int ck, .ref kl, .int cm, .int cn, .ref ko])), (k4, .inl (cI, 6, .inl c4)), (k5, .inl (cI, 4, .inl c5)), (k6, .inl (cI, 4, .inl c6)), (k7, .inl (cI, 144, .inl g151_k7)), (ko, .inl (cI, 36, .inl g119_ko))] H → va_D A [(k, .inr (11, [.ref k0, .ref k1, .ref k2, .int c3, .ref k4, .ref k5, .ref k6, .ref k7, .ref k8, .int c9, .ref ka, .ref kb, .int cc, .int cd, .int ce, .int cf, .int cg, .int ch, .int ci, .int cj, .int ck, .ref kl, .int cm, .int cn, .ref ko])), (k4, .inl (cI, 6, .inl c4)), (k5, .inl (cI, 4, .inl c5)), (k6, .inl (cI, 4, .inl c6)), (k7, .inl (cI, 144, .inl g151_k7)), (ko, .inl (cI, 36, .inl g119_ko))] → va_S A s.heap H locs → W p l e ({ frames := 2, cells := 0, slots := 0, locals := 42 } : Room) s m args below meth c H locs 0 0 Q (F0 m 151 ls []) := by
                                intro fu_; induction fu_ with
                                | zero => intro l151_6 g151_k7 i151_0 i151_1 i151_2 hm; exact absurd hm (by omega)
                                | succ fu_ ih151 =>
                                    intro l151_6 g151_k7 i151_0 i151_1 i151_2 hm ls H locs hl hP hD hS
                                    have lo_l151_6 := k_lo l151_6
                                    have hi_l151_6 := k_hi l151_6
                                    have i151_2 : g151_k7 = va_cpy c7 c7 (36 * a0.toInt.toNat + a1.toInt.toNat) (36 * a2.toInt.toNat + a3.toInt.toNat) l151_6.toInt.toNat := i151_2
                                    refine lv_iload hx hb dX11_move_151 (lv_at hl 0 rfl) ?_
                                    refine lv_iload hx hb dX11_move_153 (lv_at hl 6 rfl) ?_
                                    refine b_icmp_ge hx hb rfl rfl (tgt := 186) dX11_move_155 (by decide +kernel) (fun c_49 => ?_) (fun c_49 => ?_)
                                    · refine lv_iload hx hb dX11_move_186 (lv_at hl 6 rfl) ?_
                                      exact hRet (c4, g151_k7, g119_ko) [0, 1, 2, 3, 4, 5] ⟨(by (try dsimp only); unfold moveR; (repeat (first | rw [if_pos (by omega)] | rw [if_neg (by omega)]))), (by unfold moveS; rw [if_pos (by omega), show a4.toInt.toNat = l151_6.toInt.toNat from by omega]; exact i151_2)⟩ hP hD (by decide +kernel) rfl hS rfl dX11_move_188
                                    · refine lv_aload_n hx hb dX11_move_158 rfl (lv_at hl 1 rfl) ?_
                                      refine va_get (D := D) (ci := 11) (v := .ref k7) (C := RX11) (T := TX11) (N := 25) hx hb hT giX11 hown hK hP 0 rfl rfl 7 (by decide +kernel) (hT (Cond.fieldLink RX11 28 "DesertWireModel" "number" "[I") mw_1163) (fun _ h9 => h9) rfl dX11_move_159 ?_
                                      refine lv_bipush (v := 36) hx hb dX11_move_162 (by decide +kernel) ?_
                                      refine lv_iload_n hx hb dX11_move_164 rfl (lv_at hl 4 rfl) ?_
                                      refine lv_imul hx hb dX11_move_165 ?_
                                      refine lv_topi (fun v_50 ev_50 => ?_)
                                      have tv_50 : v_50.toInt = 36 * a2.toInt := by rw [ev_50]; exact k_mulv zl_36 rfl (by omega) (by omega)
                                      refine lv_iload hx hb dX11_move_166 (lv_at hl 5 rfl) ?_
                                      refine lv_iadd hx hb dX11_move_168 ?_
                                      refine lv_topi (fun v_51 ev_51 => ?_)
                                      have tv_51 : v_51.toInt = v_50.toInt + a3.toInt := by rw [ev_51]; exact k_addv rfl rfl (by omega) (by omega)
                                      refine lv_iload hx hb dX11_move_169 (lv_at hl 0 rfl) ?_
                                      refine lv_iadd hx hb dX11_move_171 ?_
                                      refine lv_topi (fun v_52 ev_52 => ?_)
                                      have tv_52 : v_52.toInt = v_51.toInt + l151_6.toInt := by rw [ev_52]; exact k_addv rfl rfl (by omega) (by omega)
                                      refine lv_aload_n hx hb dX11_move_172 rfl (lv_at hl 1 rfl) ?_
                                      refine va_get (D := D) (ci := 11) (v := .ref ko) (C := RX11) (T := TX11) (N := 25) hx hb hT giX11 hown hK hP 0 rfl rfl 24 (by decide +kernel) (hT (Cond.fieldLink RX11 43 "DesertWireModel" "carried" "[I") mw_1180) (fun _ h9 => h9) rfl dX11_move_173 ?_
                                      refine lv_iload hx hb dX11_move_176 (lv_at hl 0 rfl) ?_
                                      refine k_iald (v := (g119_ko l151_6.toNatClampNeg)) hx hb hK hP 5 0 rfl rfl (k_in (by omega) (by omega)) rfl dX11_move_178 ?_
                                      refine lv_topi (fun v_53 ev_53 => ?_)
                                      have lo_v_53 := k_lo v_53
                                      have hi_v_53 := k_hi v_53
                                      have tv_53 : v_53.toInt = (g119_ko l151_6.toNatClampNeg).toInt := by rw [ev_53]
                                      refine va_iast hx hb hK hP hD hS 4 0 rfl rfl (k_in (by omega) (by omega)) dX11_move_179 ?_
                                      clear hP hD hS
                                      intro H locs hP hD hS
                                      replace hP : va_P D vwCl [(k, .inr (11, [.ref k0, .ref k1, .ref k2, .int c3, .ref k4, .ref k5, .ref k6, .ref k7, .ref k8, .int c9, .ref ka, .ref kb, .int cc, .int cd, .int ce, .int cf, .int cg, .int ch, .int ci, .int cj, .int ck, .ref kl, .int cm, .int cn, .ref ko])), (k4, .inl (cI, 6, .inl c4)), (k5, .inl (cI, 4, .inl c5)), (k6, .inl (cI, 4, .inl c6)), (k7, .inl (cI, 144, .inl (upd g151_k7 v_52.toNatClampNeg v_53))), (ko, .inl (cI, 36, .inl g119_ko))] H := hP
                                      replace hD : va_D A [(k, .inr (11, [.ref k0, .ref k1, .ref k2, .int c3, .ref k4, .ref k5, .ref k6, .ref k7, .ref k8, .int c9, .ref ka, .ref kb, .int cc, .int cd, .int ce, .int cf, .int cg, .int ch, .int ci, .int cj, .int ck, .ref kl, .int cm, .int cn, .ref ko])), (k4, .inl (cI, 6, .inl c4)), (k5, .inl (cI, 4, .inl c5)), (k6, .inl (cI, 4, .inl c6)), (k7, .inl (cI, 144, .inl (upd g151_k7 v_52.toNatClampNeg v_53))), (ko, .inl (cI, 36, .inl g119_ko))] := hD
                                      obtain ⟨f_54, ef_54⟩ : ∃ g : Nat → Int32, g = upd g151_k7 v_52.toNatClampNeg v_53 := ⟨_, rfl⟩
                                      rw [← ef_54] at hP hD
                                      obtain ⟨v_55, ev_55⟩ : ∃ y : Int32, y = l151_6 + 1 := ⟨_, rfl⟩
                                      have tv_55 : v_55.toInt = l151_6.toInt + 1 := by rw [ev_55]; exact k_addv rfl zl_1 (by omega) (by omega)
                                      refine lv_iinc (v := v_55) (lv' := [(6, .int v_55), (0, .ref k), (1, .int a0), (2, .int a1), (3, .int a2), (4, .int a3), (5, .int a4)]) hx hb dX11_move_180 hl (k := 0) rfl (by rw [ev_55]; rfl) (by decide +kernel) rfl ?_
                                      clear hl
                                      intro ls hl
                                      refine lv_goto (tgt := 151) hx hb dX11_move_183 (by decide +kernel) ?_
                                      exact ih151 v_55 f_54 (by first | omega | decide | assumption | rfl) (by first | omega | decide | assumption | rfl) (cpy_step i151_2 (by omega) (by omega) ef_54 (by omega) (by rw [ev_53, k_clamp]; exact i119_2 _ (by omega))) (by omega) ls _ _ (lv_sub hl [0, 1, 2, 3, 4, 5, 6] rfl) (hP.sub [0, 1, 2, 3, 4, 5] rfl) (hD.sub [0, 1, 2, 3, 4, 5] (by decide +kernel) rfl) hS
                              exact hloop_151 _ 0 c7 (by first | omega | (simp only [zl_0]; first | done | omega) | decide | assumption | rfl) (by first | omega | (simp only [zl_0]; first | done | omega) | decide | assumption | rfl) (cpy_0 zl_0) (Nat.lt_succ_self _) ls _ _ (lv_sub hl [0, 1, 2, 3, 4, 5, 6] rfl) hP hD hS
                            · refine lv_aload_n hx hb dX11_move_126 rfl (lv_at hl 1 rfl) ?_
                              refine va_get (D := D) (ci := 11) (v := .ref ko) (C := RX11) (T := TX11) (N := 25) hx hb hT giX11 hown hK hP 0 rfl rfl 24 (by decide +kernel) (hT (Cond.fieldLink RX11 43 "DesertWireModel" "carried" "[I") mw_1180) (fun _ h9 => h9) rfl dX11_move_127 ?_
                              refine lv_iload hx hb dX11_move_130 (lv_at hl 0 rfl) ?_
                              refine lv_aload_n hx hb dX11_move_132 rfl (lv_at hl 1 rfl) ?_
                              refine lv_iload_n hx hb dX11_move_133 rfl (lv_at hl 2 rfl) ?_
                              refine lv_iload_n hx hb dX11_move_134 rfl (lv_at hl 3 rfl) ?_
                              refine lv_iload hx hb dX11_move_135 (lv_at hl 0 rfl) ?_
                              refine lv_iadd hx hb dX11_move_137 ?_
                              refine lv_topi (fun v_56 ev_56 => ?_)
                              have tv_56 : v_56.toInt = a1.toInt + l119_6.toInt := by rw [ev_56]; exact k_addv rfl rfl (by omega) (by omega)
                              refine kJi (wr := [(k4, .inl (cI, 6, .inl c4)), (k5, .inl (cI, 4, .inl c5)), (k6, .inl (cI, 4, .inl c6)), (ko, .inl (cI, 36, .inl g119_ko))]) (va_runV (As := [.int a0, .int v_56]) (rest := [.int l119_6, .ref ko]) ⟨hx, hb, hml, hown, hT⟩ (c_X11_atG l D cI aK aV k k0 k1 k2 k4 k5 k6 k7 k8 ka kb kl ko H.size c3 c9 cc cd ce cf cg ch ci cj ck cm cn c7 a0 v_56 (by first | omega | decide | assumption | rfl) (by first | omega | decide | assumption | rfl) (by first | omega | decide | assumption | rfl) (by first | omega | decide | assumption | rfl)) (cwV 2 hT (gV_in mw_1396 mw_1393 mw_1395 mw_p5_2 mw_12) rfl rfl rfl (by decide +kernel) ⟨Nat.le_of_ble_eq_true rfl, Nat.le_of_ble_eq_true rfl⟩) (kRecvX (q0 := 0) (ci := 11) hK hP hD hN hXS hS hA rfl rfl [0, 4] rfl (by decide +kernel)) rfl rfl hl.1 rfl (lv_room (Nat.le_of_ble_eq_true rfl)) dX11_move_138 ⟨Nat.le_of_ble_eq_true rfl, Nat.le_of_ble_eq_true rfl⟩) hP hD hS hA [0, 4] [1, 2, 3, 5] rfl rfl (by decide +kernel) (by decide +kernel) ?_
                              clear hP hD hS
                              intro r_57 u_59 H locs w_58 hP hD hS
                              replace hP : va_P D vwCl [(k4, .inl (cI, 6, .inl c4)), (k5, .inl (cI, 4, .inl c5)), (k6, .inl (cI, 4, .inl c6)), (ko, .inl (cI, 36, .inl g119_ko)), (k, .inr (11, [.ref k0, .ref k1, .ref k2, .int c3, .ref k4, .ref k5, .ref k6, .ref k7, .ref k8, .int c9, .ref ka, .ref kb, .int cc, .int cd, .int ce, .int cf, .int cg, .int ch, .int ci, .int cj, .int ck, .ref kl, .int cm, .int cn, .ref ko])), (k7, .inl (cI, 144, .inl c7))] H := hP
                              replace hD : va_D A [(k4, .inl (cI, 6, .inl c4)), (k5, .inl (cI, 4, .inl c5)), (k6, .inl (cI, 4, .inl c6)), (ko, .inl (cI, 36, .inl g119_ko)), (k, .inr (11, [.ref k0, .ref k1, .ref k2, .int c3, .ref k4, .ref k5, .ref k6, .ref k7, .ref k8, .int c9, .ref ka, .ref kb, .int cc, .int cd, .int ce, .int cf, .int cg, .int ch, .int ci, .int cj, .int ck, .ref kl, .int cm, .int cn, .ref ko])), (k7, .inl (cI, 144, .inl c7))] := hD
                              have h_60 := w_58
                              have h_60 : r_57 = c7 (36 * a0.toInt.toNat + v_56.toInt.toNat) := h_60
                              have h_60 : r_57 = c7 (36 * a0.toInt.toNat + v_56.toInt.toNat) := h_60
                              have lo_r_57 := k_lo r_57
                              have hi_r_57 := k_hi r_57
                              refine va_iast hx hb hK hP hD hS 3 0 rfl rfl (k_in (by omega) (by omega)) dX11_move_141 ?_
                              clear hP hD hS
                              intro H locs hP hD hS
                              replace hP : va_P D vwCl [(k4, .inl (cI, 6, .inl c4)), (k5, .inl (cI, 4, .inl c5)), (k6, .inl (cI, 4, .inl c6)), (ko, .inl (cI, 36, .inl (upd g119_ko l119_6.toNatClampNeg r_57))), (k, .inr (11, [.ref k0, .ref k1, .ref k2, .int c3, .ref k4, .ref k5, .ref k6, .ref k7, .ref k8, .int c9, .ref ka, .ref kb, .int cc, .int cd, .int ce, .int cf, .int cg, .int ch, .int ci, .int cj, .int ck, .ref kl, .int cm, .int cn, .ref ko])), (k7, .inl (cI, 144, .inl c7))] H := hP
                              replace hD : va_D A [(k4, .inl (cI, 6, .inl c4)), (k5, .inl (cI, 4, .inl c5)), (k6, .inl (cI, 4, .inl c6)), (ko, .inl (cI, 36, .inl (upd g119_ko l119_6.toNatClampNeg r_57))), (k, .inr (11, [.ref k0, .ref k1, .ref k2, .int c3, .ref k4, .ref k5, .ref k6, .ref k7, .ref k8, .int c9, .ref ka, .ref kb, .int cc, .int cd, .int ce, .int cf, .int cg, .int ch, .int ci, .int cj, .int ck, .ref kl, .int cm, .int cn, .ref ko])), (k7, .inl (cI, 144, .inl c7))] := hD
                              obtain ⟨f_61, ef_61⟩ : ∃ g : Nat → Int32, g = upd g119_ko l119_6.toNatClampNeg r_57 := ⟨_, rfl⟩
                              rw [← ef_61] at hP hD
                              obtain ⟨v_62, ev_62⟩ : ∃ y : Int32, y = l119_6 + 1 := ⟨_, rfl⟩
                              have tv_62 : v_62.toInt = l119_6.toInt + 1 := by rw [ev_62]; exact k_addv rfl zl_1 (by omega) (by omega)
                              refine lv_iinc (v := v_62) (lv' := [(6, .int v_62), (0, .ref k), (1, .int a0), (2, .int a1), (3, .int a2), (4, .int a3), (5, .int a4)]) hx hb dX11_move_142 hl (k := 0) rfl (by rw [ev_62]; rfl) (by decide +kernel) rfl ?_
                              clear hl
                              intro ls hl
                              refine lv_goto (tgt := 119) hx hb dX11_move_145 (by decide +kernel) ?_
                              exact ih119 v_62 f_61 (by first | omega | decide | assumption | rfl) (by first | omega | decide | assumption | rfl) (cr_step i119_2 (by omega) (by omega) ef_61 h_60 (by omega)) (by omega) ls _ _ (lv_sub hl [0, 1, 2, 3, 4, 5, 6] rfl) (hP.sub [4, 0, 1, 2, 5, 3] rfl) (hD.sub [4, 0, 1, 2, 5, 3] (by decide +kernel) rfl) hS
                      exact hloop_119 _ 0 co (by first | omega | (simp only [zl_0]; first | done | omega) | decide | assumption | rfl) (by first | omega | (simp only [zl_0]; first | done | omega) | decide | assumption | rfl) (fun j hj => by rw [zl_0] at hj; omega) (Nat.lt_succ_self _) ls _ _ (lv_sub hl [0, 1, 2, 3, 4, 5, 6] rfl) hP hD hS
                    · refine lv_aload_n hx hb dX11_move_109 rfl (lv_at hl 0 rfl) ?_
                      refine lv_ldc (v := (-1000001)) hx hb hown (hT _ mw_1239) dX11_move_110 ?_
                      refine kJi (wr := [(k5, .inl (cI, 4, .inl c5)), (k6, .inl (cI, 4, .inl c6)), (k7, .inl (cI, 144, .inl c7)), (ko, .inl (cI, 36, .inl co))]) (va_runV (As := [.int (-1000001)]) (rest := []) ⟨hx, hb, hml, hown, hT⟩ (c_X11_findingG l D cI aK aV k k0 k1 k2 k4 k5 k6 k7 k8 ka kb kl ko H.size c3 c9 cc cd ce cf cg ch ci cj ck cm cn c4 (-1000001) (by first | omega | (simp only [zl_m1000001]; first | done | omega) | decide | assumption | rfl) (by first | omega | (simp only [zl_m1000001]; first | done | omega) | decide | assumption | rfl)) (cwV 1 hT (gV_in mw_1243 mw_1240 mw_1242 mw_p3_8 mw_12) rfl rfl rfl (by decide +kernel) ⟨Nat.le_of_ble_eq_true rfl, Nat.le_of_ble_eq_true rfl⟩) (kRecvX (q0 := 0) (ci := 11) hK hP hD hN hXS hS hA rfl rfl [0, 1] rfl (by decide +kernel)) rfl rfl hl.1 rfl (lv_room (Nat.le_of_ble_eq_true rfl)) dX11_move_112 ⟨Nat.le_of_ble_eq_true rfl, Nat.le_of_ble_eq_true rfl⟩) hP hD hS hA [0, 1] [2, 3, 4, 5] rfl rfl (by decide +kernel) (by decide +kernel) ?_
                      clear hP hD hS
                      intro r_63 sc4_65 H locs w_64 hP hD hS
                      replace hP : va_P D vwCl [(k5, .inl (cI, 4, .inl c5)), (k6, .inl (cI, 4, .inl c6)), (k7, .inl (cI, 144, .inl c7)), (ko, .inl (cI, 36, .inl co)), (k, .inr (11, [.ref k0, .ref k1, .ref k2, .int c3, .ref k4, .ref k5, .ref k6, .ref k7, .ref k8, .int c9, .ref ka, .ref kb, .int cc, .int cd, .int ce, .int cf, .int cg, .int ch, .int ci, .int cj, .int ck, .ref kl, .int cm, .int cn, .ref ko])), (k4, .inl (cI, 6, .inl sc4_65))] H := hP
                      replace hD : va_D A [(k5, .inl (cI, 4, .inl c5)), (k6, .inl (cI, 4, .inl c6)), (k7, .inl (cI, 144, .inl c7)), (ko, .inl (cI, 36, .inl co)), (k, .inr (11, [.ref k0, .ref k1, .ref k2, .int c3, .ref k4, .ref k5, .ref k6, .ref k7, .ref k8, .int c9, .ref ka, .ref kb, .int cc, .int cd, .int ce, .int cf, .int cg, .int ch, .int ci, .int cj, .int ck, .ref kl, .int cm, .int cn, .ref ko])), (k4, .inl (cI, 6, .inl sc4_65))] := hD
                      have hr_63 := w_64
                      obtain rfl : r_63 = (-1000001) := hr_63.trans (by decide +kernel)
                      exact hRet (sc4_65, c7, co) [4, 5, 0, 1, 2, 3] ⟨(by (try dsimp only); unfold moveR; (repeat (first | rw [if_pos (by omega)] | rw [if_neg (by omega)]))), (by (try dsimp only); unfold moveS; (repeat (first | rw [if_pos (by omega)] | rw [if_neg (by omega)])))⟩ hP hD (by decide +kernel) rfl hS rfl dX11_move_115
          · refine lv_aload_n hx hb dX11_move_61 rfl (lv_at hl 0 rfl) ?_
            refine lv_ldc (v := (-1000005)) hx hb hown (hT _ mw_1283) dX11_move_62 ?_
            refine kJi (wr := [(k5, .inl (cI, 4, .inl c5)), (k6, .inl (cI, 4, .inl c6)), (k7, .inl (cI, 144, .inl c7)), (ko, .inl (cI, 36, .inl co))]) (va_runV (As := [.int (-1000005)]) (rest := []) ⟨hx, hb, hml, hown, hT⟩ (c_X11_findingG l D cI aK aV k k0 k1 k2 k4 k5 k6 k7 k8 ka kb kl ko H.size c3 c9 cc cd ce cf cg ch ci cj ck cm cn c4 (-1000005) (by first | omega | (simp only [zl_m1000005]; first | done | omega) | decide | assumption | rfl) (by first | omega | (simp only [zl_m1000005]; first | done | omega) | decide | assumption | rfl)) (cwV 1 hT (gV_in mw_1243 mw_1240 mw_1242 mw_p3_8 mw_12) rfl rfl rfl (by decide +kernel) ⟨Nat.le_of_ble_eq_true rfl, Nat.le_of_ble_eq_true rfl⟩) (kRecvX (q0 := 0) (ci := 11) hK hP hD hN hXS hS hA rfl rfl [0, 1] rfl (by decide +kernel)) rfl rfl hl.1 rfl (lv_room (Nat.le_of_ble_eq_true rfl)) dX11_move_64 ⟨Nat.le_of_ble_eq_true rfl, Nat.le_of_ble_eq_true rfl⟩) hP hD hS hA [0, 1] [2, 3, 4, 5] rfl rfl (by decide +kernel) (by decide +kernel) ?_
            clear hP hD hS
            intro r_66 sc4_68 H locs w_67 hP hD hS
            replace hP : va_P D vwCl [(k5, .inl (cI, 4, .inl c5)), (k6, .inl (cI, 4, .inl c6)), (k7, .inl (cI, 144, .inl c7)), (ko, .inl (cI, 36, .inl co)), (k, .inr (11, [.ref k0, .ref k1, .ref k2, .int c3, .ref k4, .ref k5, .ref k6, .ref k7, .ref k8, .int c9, .ref ka, .ref kb, .int cc, .int cd, .int ce, .int cf, .int cg, .int ch, .int ci, .int cj, .int ck, .ref kl, .int cm, .int cn, .ref ko])), (k4, .inl (cI, 6, .inl sc4_68))] H := hP
            replace hD : va_D A [(k5, .inl (cI, 4, .inl c5)), (k6, .inl (cI, 4, .inl c6)), (k7, .inl (cI, 144, .inl c7)), (ko, .inl (cI, 36, .inl co)), (k, .inr (11, [.ref k0, .ref k1, .ref k2, .int c3, .ref k4, .ref k5, .ref k6, .ref k7, .ref k8, .int c9, .ref ka, .ref kb, .int cc, .int cd, .int ce, .int cf, .int cg, .int ch, .int ci, .int cj, .int ck, .ref kl, .int cm, .int cn, .ref ko])), (k4, .inl (cI, 6, .inl sc4_68))] := hD
            have hr_66 := w_67
            obtain rfl : r_66 = (-1000005) := hr_66.trans (by decide +kernel)
            exact hRet (sc4_68, c7, co) [4, 5, 0, 1, 2, 3] ⟨(by (try dsimp only); unfold moveR; (repeat (first | rw [if_pos (by omega)] | rw [if_neg (by omega)]))), (by (try dsimp only); unfold moveS; (repeat (first | rw [if_pos (by omega)] | rw [if_neg (by omega)])))⟩ hP hD (by decide +kernel) rfl hS rfl dX11_move_67
        · refine lv_aload_n hx hb dX11_move_39 rfl (lv_at hl 0 rfl) ?_
          refine lv_ldc (v := (-1000002)) hx hb hown (hT _ mw_1392) dX11_move_40 ?_
          refine kJi (wr := [(k5, .inl (cI, 4, .inl c5)), (k6, .inl (cI, 4, .inl c6)), (k7, .inl (cI, 144, .inl c7)), (ko, .inl (cI, 36, .inl co))]) (va_runV (As := [.int (-1000002)]) (rest := []) ⟨hx, hb, hml, hown, hT⟩ (c_X11_findingG l D cI aK aV k k0 k1 k2 k4 k5 k6 k7 k8 ka kb kl ko H.size c3 c9 cc cd ce cf cg ch ci cj ck cm cn c4 (-1000002) (by first | omega | (simp only [zl_m1000002]; first | done | omega) | decide | assumption | rfl) (by first | omega | (simp only [zl_m1000002]; first | done | omega) | decide | assumption | rfl)) (cwV 1 hT (gV_in mw_1243 mw_1240 mw_1242 mw_p3_8 mw_12) rfl rfl rfl (by decide +kernel) ⟨Nat.le_of_ble_eq_true rfl, Nat.le_of_ble_eq_true rfl⟩) (kRecvX (q0 := 0) (ci := 11) hK hP hD hN hXS hS hA rfl rfl [0, 1] rfl (by decide +kernel)) rfl rfl hl.1 rfl (lv_room (Nat.le_of_ble_eq_true rfl)) dX11_move_42 ⟨Nat.le_of_ble_eq_true rfl, Nat.le_of_ble_eq_true rfl⟩) hP hD hS hA [0, 1] [2, 3, 4, 5] rfl rfl (by decide +kernel) (by decide +kernel) ?_
          clear hP hD hS
          intro r_69 sc4_71 H locs w_70 hP hD hS
          replace hP : va_P D vwCl [(k5, .inl (cI, 4, .inl c5)), (k6, .inl (cI, 4, .inl c6)), (k7, .inl (cI, 144, .inl c7)), (ko, .inl (cI, 36, .inl co)), (k, .inr (11, [.ref k0, .ref k1, .ref k2, .int c3, .ref k4, .ref k5, .ref k6, .ref k7, .ref k8, .int c9, .ref ka, .ref kb, .int cc, .int cd, .int ce, .int cf, .int cg, .int ch, .int ci, .int cj, .int ck, .ref kl, .int cm, .int cn, .ref ko])), (k4, .inl (cI, 6, .inl sc4_71))] H := hP
          replace hD : va_D A [(k5, .inl (cI, 4, .inl c5)), (k6, .inl (cI, 4, .inl c6)), (k7, .inl (cI, 144, .inl c7)), (ko, .inl (cI, 36, .inl co)), (k, .inr (11, [.ref k0, .ref k1, .ref k2, .int c3, .ref k4, .ref k5, .ref k6, .ref k7, .ref k8, .int c9, .ref ka, .ref kb, .int cc, .int cd, .int ce, .int cf, .int cg, .int ch, .int ci, .int cj, .int ck, .ref kl, .int cm, .int cn, .ref ko])), (k4, .inl (cI, 6, .inl sc4_71))] := hD
          have hr_69 := w_70
          obtain rfl : r_69 = (-1000002) := hr_69.trans (by decide +kernel)
          exact hRet (sc4_71, c7, co) [4, 5, 0, 1, 2, 3] ⟨(by (try dsimp only); unfold moveR; (repeat (first | rw [if_pos (by omega)] | rw [if_neg (by omega)]))), (by (try dsimp only); unfold moveS; (repeat (first | rw [if_pos (by omega)] | rw [if_neg (by omega)])))⟩ hP hD (by decide +kernel) rfl hS rfl dX11_move_45
    · have h_13 : a2.toInt < 0 ∨ 3 < a2.toInt := h_13
      obtain rfl : r_8 = 0 := hr_8.trans (by decide +kernel)
      refine b_if_ne hx hb zl_0 (tgt := 21) dX11_move_11 (by decide +kernel) (fun c_72 => by exfalso; omega) (fun c_72 => ?_)
      refine lv_aload_n hx hb dX11_move_14 rfl (lv_at hl 0 rfl) ?_
      refine lv_ldc (v := (-1000001)) hx hb hown (hT _ mw_1239) dX11_move_15 ?_
      refine kJi (wr := [(k5, .inl (cI, 4, .inl c5)), (k6, .inl (cI, 4, .inl c6)), (k7, .inl (cI, 144, .inl c7)), (ko, .inl (cI, 36, .inl co))]) (va_runV (As := [.int (-1000001)]) (rest := []) ⟨hx, hb, hml, hown, hT⟩ (c_X11_findingG l D cI aK aV k k0 k1 k2 k4 k5 k6 k7 k8 ka kb kl ko H.size c3 c9 cc cd ce cf cg ch ci cj ck cm cn c4 (-1000001) (by first | omega | (simp only [zl_m1000001]; first | done | omega) | decide | assumption | rfl) (by first | omega | (simp only [zl_m1000001]; first | done | omega) | decide | assumption | rfl)) (cwV 1 hT (gV_in mw_1243 mw_1240 mw_1242 mw_p3_8 mw_12) rfl rfl rfl (by decide +kernel) ⟨Nat.le_of_ble_eq_true rfl, Nat.le_of_ble_eq_true rfl⟩) (kRecvX (q0 := 0) (ci := 11) hK hP hD hN hXS hS hA rfl rfl [0, 1] rfl (by decide +kernel)) rfl rfl hl.1 rfl (lv_room (Nat.le_of_ble_eq_true rfl)) dX11_move_17 ⟨Nat.le_of_ble_eq_true rfl, Nat.le_of_ble_eq_true rfl⟩) hP hD hS hA [0, 1] [2, 3, 4, 5] rfl rfl (by decide +kernel) (by decide +kernel) ?_
      clear hP hD hS
      intro r_73 sc4_75 H locs w_74 hP hD hS
      replace hP : va_P D vwCl [(k5, .inl (cI, 4, .inl c5)), (k6, .inl (cI, 4, .inl c6)), (k7, .inl (cI, 144, .inl c7)), (ko, .inl (cI, 36, .inl co)), (k, .inr (11, [.ref k0, .ref k1, .ref k2, .int c3, .ref k4, .ref k5, .ref k6, .ref k7, .ref k8, .int c9, .ref ka, .ref kb, .int cc, .int cd, .int ce, .int cf, .int cg, .int ch, .int ci, .int cj, .int ck, .ref kl, .int cm, .int cn, .ref ko])), (k4, .inl (cI, 6, .inl sc4_75))] H := hP
      replace hD : va_D A [(k5, .inl (cI, 4, .inl c5)), (k6, .inl (cI, 4, .inl c6)), (k7, .inl (cI, 144, .inl c7)), (ko, .inl (cI, 36, .inl co)), (k, .inr (11, [.ref k0, .ref k1, .ref k2, .int c3, .ref k4, .ref k5, .ref k6, .ref k7, .ref k8, .int c9, .ref ka, .ref kb, .int cc, .int cd, .int ce, .int cf, .int cg, .int ch, .int ci, .int cj, .int ck, .ref kl, .int cm, .int cn, .ref ko])), (k4, .inl (cI, 6, .inl sc4_75))] := hD
      have hr_73 := w_74
      obtain rfl : r_73 = (-1000001) := hr_73.trans (by decide +kernel)
      exact hRet (sc4_75, c7, co) [4, 5, 0, 1, 2, 3] ⟨(by (try dsimp only); unfold moveR; (repeat (first | rw [if_pos (by omega)] | rw [if_neg (by omega)]))), (by (try dsimp only); unfold moveS; (repeat (first | rw [if_pos (by omega)] | rw [if_neg (by omega)])))⟩ hP hD (by decide +kernel) rfl hS rfl dX11_move_20
  · have h_6 : a0.toInt < 0 ∨ 3 < a0.toInt := h_6
    obtain rfl : r_1 = 0 := hr_1.trans (by decide +kernel)
    refine b_if_eq hx hb zl_0 (tgt := 14) dX11_move_4 (by decide +kernel) (fun c_76 => ?_) (fun c_76 => by exfalso; omega)
    refine lv_aload_n hx hb dX11_move_14 rfl (lv_at hl 0 rfl) ?_
    refine lv_ldc (v := (-1000001)) hx hb hown (hT _ mw_1239) dX11_move_15 ?_
    refine kJi (wr := [(k5, .inl (cI, 4, .inl c5)), (k6, .inl (cI, 4, .inl c6)), (k7, .inl (cI, 144, .inl c7)), (ko, .inl (cI, 36, .inl co))]) (va_runV (As := [.int (-1000001)]) (rest := []) ⟨hx, hb, hml, hown, hT⟩ (c_X11_findingG l D cI aK aV k k0 k1 k2 k4 k5 k6 k7 k8 ka kb kl ko H.size c3 c9 cc cd ce cf cg ch ci cj ck cm cn c4 (-1000001) (by first | omega | (simp only [zl_m1000001]; first | done | omega) | decide | assumption | rfl) (by first | omega | (simp only [zl_m1000001]; first | done | omega) | decide | assumption | rfl)) (cwV 1 hT (gV_in mw_1243 mw_1240 mw_1242 mw_p3_8 mw_12) rfl rfl rfl (by decide +kernel) ⟨Nat.le_of_ble_eq_true rfl, Nat.le_of_ble_eq_true rfl⟩) (kRecvX (q0 := 0) (ci := 11) hK hP hD hN hXS hS hA rfl rfl [0, 1] rfl (by decide +kernel)) rfl rfl hl.1 rfl (lv_room (Nat.le_of_ble_eq_true rfl)) dX11_move_17 ⟨Nat.le_of_ble_eq_true rfl, Nat.le_of_ble_eq_true rfl⟩) hP hD hS hA [0, 1] [2, 3, 4, 5] rfl rfl (by decide +kernel) (by decide +kernel) ?_
    clear hP hD hS
    intro r_77 sc4_79 H locs w_78 hP hD hS
    replace hP : va_P D vwCl [(k5, .inl (cI, 4, .inl c5)), (k6, .inl (cI, 4, .inl c6)), (k7, .inl (cI, 144, .inl c7)), (ko, .inl (cI, 36, .inl co)), (k, .inr (11, [.ref k0, .ref k1, .ref k2, .int c3, .ref k4, .ref k5, .ref k6, .ref k7, .ref k8, .int c9, .ref ka, .ref kb, .int cc, .int cd, .int ce, .int cf, .int cg, .int ch, .int ci, .int cj, .int ck, .ref kl, .int cm, .int cn, .ref ko])), (k4, .inl (cI, 6, .inl sc4_79))] H := hP
    replace hD : va_D A [(k5, .inl (cI, 4, .inl c5)), (k6, .inl (cI, 4, .inl c6)), (k7, .inl (cI, 144, .inl c7)), (ko, .inl (cI, 36, .inl co)), (k, .inr (11, [.ref k0, .ref k1, .ref k2, .int c3, .ref k4, .ref k5, .ref k6, .ref k7, .ref k8, .int c9, .ref ka, .ref kb, .int cc, .int cd, .int ce, .int cf, .int cg, .int ch, .int ci, .int cj, .int ck, .ref kl, .int cm, .int cn, .ref ko])), (k4, .inl (cI, 6, .inl sc4_79))] := hD
    have hr_77 := w_78
    obtain rfl : r_77 = (-1000001) := hr_77.trans (by decide +kernel)
    exact hRet (sc4_79, c7, co) [4, 5, 0, 1, 2, 3] ⟨(by (try dsimp only); unfold moveR; (repeat (first | rw [if_pos (by omega)] | rw [if_neg (by omega)]))), (by (try dsimp only); unfold moveS; (repeat (first | rw [if_pos (by omega)] | rw [if_neg (by omega)])))⟩ hP hD (by decide +kernel) rfl hS rfl dX11_move_20
theorem bn_cX11_check_0 : BN cX11_check 0 0x2b408e3802a0040342ab4c21d0282002a0338056e1d158bcc21d4f014240a00ad4562000a8c381d1f010a0040482802b5158f45e09050056a2b := by
  unfold BN; decide +kernel
theorem dX11_check_0 : decode cX11_check 0 = .ok (.aload_n 0, 1) := dR0 (k := 0) (i := 0) bn_cX11_check_0 dop_42 (by decide +kernel)
theorem dX11_check_1 : decode cX11_check 1 = .ok (.getfield 9, 3) := dR2 (f := Instr.getfield) (k := 0) (i := 1) bn_cX11_check_0 dop_180 9 (by decide +kernel)
theorem dX11_check_4 : decode cX11_check 4 = .ok (.iconst 5, 1) := dR0 (k := 0) (i := 4) bn_cX11_check_0 dop_8 (by decide +kernel)
theorem dX11_check_5 : decode cX11_check 5 = .ok (.iaload, 1) := dR0 (k := 0) (i := 5) bn_cX11_check_0 dop_46 (by decide +kernel)
theorem dX11_check_6 : decode cX11_check 6 = .ok (.istore_n 1, 1) := dR0 (k := 0) (i := 6) bn_cX11_check_0 dop_60 (by decide +kernel)
theorem dX11_check_7 : decode cX11_check 7 = .ok (.aload_n 0, 1) := dR0 (k := 0) (i := 7) bn_cX11_check_0 dop_42 (by decide +kernel)
theorem dX11_check_8 : decode cX11_check 8 = .ok (.getfield 9, 3) := dR2 (f := Instr.getfield) (k := 0) (i := 8) bn_cX11_check_0 dop_180 9 (by decide +kernel)
theorem dX11_check_11 : decode cX11_check 11 = .ok (.iconst 5, 1) := dR0 (k := 0) (i := 11) bn_cX11_check_0 dop_8 (by decide +kernel)
theorem dX11_check_12 : decode cX11_check 12 = .ok (.iconst 0, 1) := dR0 (k := 0) (i := 12) bn_cX11_check_0 dop_3 (by decide +kernel)
theorem dX11_check_13 : decode cX11_check 13 = .ok (.iastore, 1) := dR0 (k := 0) (i := 13) bn_cX11_check_0 dop_79 (by decide +kernel)
theorem dX11_check_14 : decode cX11_check 14 = .ok (.iconst 0, 1) := dR0 (k := 0) (i := 14) bn_cX11_check_0 dop_3 (by decide +kernel)
theorem dX11_check_15 : decode cX11_check 15 = .ok (.istore_n 2, 1) := dR0 (k := 0) (i := 15) bn_cX11_check_0 dop_61 (by decide +kernel)
theorem dX11_check_16 : decode cX11_check 16 = .ok (.iload_n 2, 1) := dR0 (k := 0) (i := 16) bn_cX11_check_0 dop_28 (by decide +kernel)
theorem dX11_check_17 : decode cX11_check 17 = .ok (.iload_n 1, 1) := dR0 (k := 0) (i := 17) bn_cX11_check_0 dop_27 (by decide +kernel)
theorem dX11_check_18 : decode cX11_check 18 = .ok (.if_icmp .ge 31, 3) := dR2s (f := Instr.if_icmp .ge) (k := 0) (i := 18) bn_cX11_check_0 dop_162 31 31 (by decide +kernel)
theorem dX11_check_21 : decode cX11_check 21 = .ok (.aload_n 0, 1) := dR0 (k := 0) (i := 21) bn_cX11_check_0 dop_42 (by decide +kernel)
theorem dX11_check_22 : decode cX11_check 22 = .ok (.getfield 9, 3) := dR2 (f := Instr.getfield) (k := 0) (i := 22) bn_cX11_check_0 dop_180 9 (by decide +kernel)
theorem dX11_check_25 : decode cX11_check 25 = .ok (.sipush 1181, 3) := dR2s (f := Instr.sipush) (k := 0) (i := 25) bn_cX11_check_0 dop_17 1181 1181 (by decide +kernel)
theorem dX11_check_28 : decode cX11_check 28 = .ok (.iload_n 2, 1) := dR0 (k := 0) (i := 28) bn_cX11_check_0 dop_28 (by decide +kernel)
theorem dX11_check_29 : decode cX11_check 29 = .ok (.iadd, 1) := dR0 (k := 0) (i := 29) bn_cX11_check_0 dop_96 (by decide +kernel)
theorem dX11_check_30 : decode cX11_check 30 = .ok (.iaload, 1) := dR0 (k := 0) (i := 30) bn_cX11_check_0 dop_46 (by decide +kernel)
theorem dX11_check_31 : decode cX11_check 31 = .ok (.aload_n 0, 1) := dR0 (k := 0) (i := 31) bn_cX11_check_0 dop_42 (by decide +kernel)
theorem dX11_check_32 : decode cX11_check 32 = .ok (.iload_n 2, 1) := dR0 (k := 0) (i := 32) bn_cX11_check_0 dop_28 (by decide +kernel)
theorem dX11_check_33 : decode cX11_check 33 = .ok (.invokevirtual 102, 3) := dR2 (f := Instr.invokevirtual) (k := 0) (i := 33) bn_cX11_check_0 dop_182 102 (by decide +kernel)
theorem dX11_check_36 : decode cX11_check 36 = .ok (.if_icmp .eq 7, 3) := dR2s (f := Instr.if_icmp .eq) (k := 0) (i := 36) bn_cX11_check_0 dop_159 7 7 (by decide +kernel)
theorem dX11_check_39 : decode cX11_check 39 = .ok (.iconst 1, 1) := dR0 (k := 0) (i := 39) bn_cX11_check_0 dop_4 (by decide +kernel)
theorem dX11_check_40 : decode cX11_check 40 = .ok (.iload_n 2, 1) := dR0 (k := 0) (i := 40) bn_cX11_check_0 dop_28 (by decide +kernel)
theorem dX11_check_41 : decode cX11_check 41 = .ok (.iadd, 1) := dR0 (k := 0) (i := 41) bn_cX11_check_0 dop_96 (by decide +kernel)
theorem dX11_check_42 : decode cX11_check 42 = .ok (.ireturn, 1) := dR0 (k := 0) (i := 42) bn_cX11_check_0 dop_172 (by decide +kernel)
theorem dX11_check_43 : decode cX11_check 43 = .ok (.iinc 2 1, 3) := dRii (f := Instr.iinc) (k := 0) (i := 43) bn_cX11_check_0 dop_132 2 1 1 (by decide +kernel)
theorem dX11_check_46 : decode cX11_check 46 = .ok (.goto (-30), 3) := dR2s (f := Instr.goto) (k := 0) (i := 46) bn_cX11_check_0 dop_167 65506 (-30) (by decide +kernel)
theorem dX11_check_49 : decode cX11_check 49 = .ok (.iconst 0, 1) := dR0 (k := 0) (i := 49) bn_cX11_check_0 dop_3 (by decide +kernel)
theorem dX11_check_50 : decode cX11_check 50 = .ok (.ireturn, 1) := dR0 (k := 0) (i := 50) bn_cX11_check_0 dop_172 (by decide +kernel)
set_option maxHeartbeats 4000000 in
set_option maxRecDepth 100000 in
theorem c_X11_checkG (l : Launch) (D : va_G) (cI : ClassId) (aK aV : Nat → Nat) (k k0 k1 k2 k4 k5 k6 k7 k8 ka kb kl ko : Nat) (sz : Nat) (c3 : Int32) (c9 : Int32) (cc : Int32) (cd : Int32) (ce : Int32) (cf : Int32) (cg : Int32) (ch : Int32) (ci : Int32) (cj : Int32) (ck : Int32) (cm : Int32) (cn : Int32) (c0 : Nat → Int32) (pre0 : SIX c0 (-1)) : Met l yX11_check (gW yX11_check cX11_check 3 (some .int)) ({ frames := 4, cells := 0, slots := 0, locals := 88 } : Room) (kPreX D cI aK aV [.ref k] [(k, .inr (11, [.ref k0, .ref k1, .ref k2, .int c3, .ref k4, .ref k5, .ref k6, .ref k7, .ref k8, .int c9, .ref ka, .ref kb, .int cc, .int cd, .int ce, .int cf, .int cg, .int ch, .int ci, .int cj, .int ck, .ref kl, .int cm, .int cn, .ref ko])), (k0, .inl (cI, 1201, .inl c0))] sz) (va_Qi (fun (r : Int32) (u : (Nat → Int32)) => SIX u (-1) ∧ r = chkR c0 ∧ u = upd c0 5 0) (fun u t => kWd D cI (va_A [(k, .inr (11, [.ref k0, .ref k1, .ref k2, .int c3, .ref k4, .ref k5, .ref k6, .ref k7, .ref k8, .int c9, .ref ka, .ref kb, .int cc, .int cd, .int ce, .int cf, .int cg, .int ch, .int ci, .int cj, .int ck, .ref kl, .int cm, .int cn, .ref ko])), (k0, .inl (cI, 1201, .inl c0))] sz) [(k, .inr (11, [.ref k0, .ref k1, .ref k2, .int c3, .ref k4, .ref k5, .ref k6, .ref k7, .ref k8, .int c9, .ref ka, .ref kb, .int cc, .int cd, .int ce, .int cf, .int cg, .int ch, .int ci, .int cj, .int ck, .ref kl, .int cm, .int cn, .ref ko])), (k0, .inl (cI, 1201, .inl u))] t) (va_A [(k, .inr (11, [.ref k0, .ref k1, .ref k2, .int c3, .ref k4, .ref k5, .ref k6, .ref k7, .ref k8, .int c9, .ref ka, .ref kb, .int cc, .int cd, .int ce, .int cf, .int cg, .int ch, .int ci, .int cj, .int ck, .ref kl, .int cm, .int cn, .ref ko])), (k0, .inl (cI, 1201, .inl c0))] sz)) 0 0 (va_A [(k, .inr (11, [.ref k0, .ref k1, .ref k2, .int c3, .ref k4, .ref k5, .ref k6, .ref k7, .ref k8, .int c9, .ref ka, .ref kb, .int cc, .int cd, .int ce, .int cf, .int cg, .int ch, .int ci, .int cj, .int ck, .ref kl, .int cm, .int cn, .ref ko])), (k0, .inl (cI, 1201, .inl c0))] sz) := by
  refine kMetIX (own := RX11) (by decide +kernel) rfl (Nat.le_of_ble_eq_true rfl) ?_
  intro p e s m args below meth c hx hb hT hown hname hml A Q hK hP hD hS hA hN hXS hRet ls hl
  have hl : lv_has ls 3 [(0, .ref k)] := hl
  have lo_ci := k_lo ci
  have hi_ci := k_hi ci
  have hn5 := SB.n5 (And.left pre0)
  have pre0 : SIX c0 (-1) := pre0
  have nb_1 : 0 ≤ (c0 0).toInt ∧ (c0 0).toInt ≤ 2000 := SB.n0 (And.left pre0)
  have nb_2 : 0 ≤ (c0 1).toInt ∧ (c0 1).toInt ≤ 60 := SB.n1 (And.left pre0)
  have nb_3 : 0 ≤ (c0 2).toInt ∧ (c0 2).toInt ≤ 4 := SB.n2 (And.left pre0)
  refine lv_aload_n hx hb dX11_check_0 rfl (lv_at hl 0 rfl) ?_
  refine va_get (D := D) (ci := 11) (v := .ref k0) (C := RX11) (T := TX11) (N := 25) hx hb hT giX11 hown hK hP 0 rfl rfl 0 (by decide +kernel) (hT (Cond.fieldLink RX11 9 "DesertWireModel" "s" "[I") mw_1156) (fun _ h9 => h9) rfl dX11_check_1 ?_
  refine lv_iconst (v := 5) hx hb dX11_check_4 (by decide +kernel) ?_
  refine k_iald (v := (c0 5)) hx hb hK hP 1 0 rfl rfl (k_inl (by decide +kernel)) rfl dX11_check_5 ?_
  refine lv_topi (fun v_4 ev_4 => ?_)
  have lo_v_4 := k_lo v_4
  have hi_v_4 := k_hi v_4
  have tv_4 : v_4.toInt = (c0 5).toInt := by rw [ev_4]
  have b_5 : 0 ≤ v_4.toInt ∧ v_4.toInt ≤ 20 := by first | (rw [tv_4]; exact SB.n5 (And.left pre0)) | exact SB.n5 (And.left pre0) | omega
  refine lv_istore_n (lv' := [(1, .int v_4), (0, .ref k)]) hx hb dX11_check_6 rfl hl (by decide +kernel) rfl ?_
  clear hl
  intro ls hl
  refine lv_aload_n hx hb dX11_check_7 rfl (lv_at hl 1 rfl) ?_
  refine va_get (D := D) (ci := 11) (v := .ref k0) (C := RX11) (T := TX11) (N := 25) hx hb hT giX11 hown hK hP 0 rfl rfl 0 (by decide +kernel) (hT (Cond.fieldLink RX11 9 "DesertWireModel" "s" "[I") mw_1156) (fun _ h9 => h9) rfl dX11_check_8 ?_
  refine lv_iconst (v := 5) hx hb dX11_check_11 (by decide +kernel) ?_
  refine lv_iconst (v := 0) hx hb dX11_check_12 (by decide +kernel) ?_
  refine va_iast hx hb hK hP hD hS 1 0 rfl rfl (k_inl (by decide +kernel)) dX11_check_13 ?_
  clear hP hD hS
  intro H locs hP hD hS
  replace hP : va_P D vwCl [(k, .inr (11, [.ref k0, .ref k1, .ref k2, .int c3, .ref k4, .ref k5, .ref k6, .ref k7, .ref k8, .int c9, .ref ka, .ref kb, .int cc, .int cd, .int ce, .int cf, .int cg, .int ch, .int ci, .int cj, .int ck, .ref kl, .int cm, .int cn, .ref ko])), (k0, .inl (cI, 1201, .inl (upd c0 5 0)))] H := hP
  replace hD : va_D A [(k, .inr (11, [.ref k0, .ref k1, .ref k2, .int c3, .ref k4, .ref k5, .ref k6, .ref k7, .ref k8, .int c9, .ref ka, .ref kb, .int cc, .int cd, .int ce, .int cf, .int cg, .int ch, .int ci, .int cj, .int ck, .ref kl, .int cm, .int cn, .ref ko])), (k0, .inl (cI, 1201, .inl (upd c0 5 0)))] := hD
  obtain ⟨f_6, ef_6⟩ : ∃ g : Nat → Int32, g = upd c0 5 0 := ⟨_, rfl⟩
  rw [← ef_6] at hP hD
  have hS_7 : SIX f_6 (-1) := SIX.n pre0 ef_6 zl_0 (by decide +kernel) (by decide +kernel) (by omega)
  have n_8 : (f_6 0).toInt = (c0 0).toInt := by rw [updN ef_6 (by omega)]
  have n_9 : (f_6 1).toInt = (c0 1).toInt := by rw [updN ef_6 (by omega)]
  have n_10 : (f_6 2).toInt = (c0 2).toInt := by rw [updN ef_6 (by omega)]
  refine lv_iconst (v := 0) hx hb dX11_check_14 (by decide +kernel) ?_
  refine lv_istore_n (lv' := [(2, .int 0), (1, .int v_4), (0, .ref k)]) hx hb dX11_check_15 rfl hl (by decide +kernel) rfl ?_
  clear hl
  intro ls hl
  have hloop_16 : ∀ (fu_ : Nat) (l16_2 : Int32), 0 ≤ l16_2.toInt → chkF c0 l16_2.toInt.toNat ((c0 5).toInt - l16_2.toInt).toNat = chkR c0 → 0 ≤ l16_2.toInt → l16_2.toInt ≤ (c0 5).toInt → (v_4.toInt - l16_2.toInt).toNat < fu_ → ∀ (ls : Array Slot) (H : Heap) (locs : List Loc), lv_has ls 3 [(2, .int l16_2), (1, .int v_4), (0, .ref k)] → va_P D vwCl [(k, .inr (11, [.ref k0, .ref k1, .ref k2, .int c3, .ref k4, .ref k5, .ref k6, .ref k7, .ref k8, .int c9, .ref ka, .ref kb, .int cc, .int cd, .int ce, .int cf, .int cg, .int ch, .int ci, .int cj, .int ck, .ref kl, .int cm, .int cn, .ref ko])), (k0, .inl (cI, 1201, .inl f_6))] H → va_D A [(k, .inr (11, [.ref k0, .ref k1, .ref k2, .int c3, .ref k4, .ref k5, .ref k6, .ref k7, .ref k8, .int c9, .ref ka, .ref kb, .int cc, .int cd, .int ce, .int cf, .int cg, .int ch, .int ci, .int cj, .int ck, .ref kl, .int cm, .int cn, .ref ko])), (k0, .inl (cI, 1201, .inl f_6))] → va_S A s.heap H locs → W p l e ({ frames := 4, cells := 0, slots := 0, locals := 88 } : Room) s m args below meth c H locs 0 0 Q (F0 m 16 ls []) := by
    intro fu_; induction fu_ with
    | zero => intro l16_2 i16_0 i16_1 i16_2 i16_3 hm; exact absurd hm (by omega)
    | succ fu_ ih16 =>
        intro l16_2 i16_0 i16_1 i16_2 i16_3 hm ls H locs hl hP hD hS
        have lo_l16_2 := k_lo l16_2
        have hi_l16_2 := k_hi l16_2
        refine lv_iload_n hx hb dX11_check_16 rfl (lv_at hl 0 rfl) ?_
        refine lv_iload_n hx hb dX11_check_17 rfl (lv_at hl 1 rfl) ?_
        refine b_icmp_ge hx hb rfl rfl (tgt := 49) dX11_check_18 (by decide +kernel) (fun c_11 => ?_) (fun c_11 => ?_)
        · refine lv_iconst (v := 0) hx hb dX11_check_49 (by decide +kernel) ?_
          exact hRet f_6 [0, 1] ⟨hS_7, ((chk_e (by omega)).symm.trans i16_1), ef_6⟩ hP hD (by decide +kernel) rfl hS rfl dX11_check_50
        · refine lv_aload_n hx hb dX11_check_21 rfl (lv_at hl 2 rfl) ?_
          refine va_get (D := D) (ci := 11) (v := .ref k0) (C := RX11) (T := TX11) (N := 25) hx hb hT giX11 hown hK hP 0 rfl rfl 0 (by decide +kernel) (hT (Cond.fieldLink RX11 9 "DesertWireModel" "s" "[I") mw_1156) (fun _ h9 => h9) rfl dX11_check_22 ?_
          refine lv_sipush (v := 1181) hx hb dX11_check_25 (by decide +kernel) ?_
          refine lv_iload_n hx hb dX11_check_28 rfl (lv_at hl 0 rfl) ?_
          refine lv_iadd hx hb dX11_check_29 ?_
          refine lv_topi (fun v_12 ev_12 => ?_)
          have tv_12 : v_12.toInt = 1181 + l16_2.toInt := by rw [ev_12]; exact k_addv zl_1181 rfl (by omega) (by omega)
          refine k_iald (v := (f_6 v_12.toNatClampNeg)) hx hb hK hP 1 0 rfl rfl (k_in (by omega) (by omega)) rfl dX11_check_30 ?_
          refine lv_topi (fun v_13 ev_13 => ?_)
          have lo_v_13 := k_lo v_13
          have hi_v_13 := k_hi v_13
          have tv_13 : v_13.toInt = (f_6 v_12.toNatClampNeg).toInt := by rw [ev_13]
          refine lv_aload_n hx hb dX11_check_31 rfl (lv_at hl 2 rfl) ?_
          refine lv_iload_n hx hb dX11_check_32 rfl (lv_at hl 0 rfl) ?_
          refine kJi (wr := []) (va_runV (As := [.int l16_2]) (rest := [.int v_13]) ⟨hx, hb, hml, hown, hT⟩ (c_X11_leakOfG l D cI aK aV k k0 k1 k2 k4 k5 k6 k7 k8 ka kb kl ko H.size c3 c9 cc cd ce cf cg ch ci cj ck cm cn f_6 l16_2 (And.left hS_7)) (cwV 1 hT (gV_in mw_1372 mw_1369 mw_1371 mw_p4_14 mw_12) rfl rfl rfl (by decide +kernel) ⟨Nat.le_of_ble_eq_true rfl, Nat.le_of_ble_eq_true rfl⟩) (kRecvX (q0 := 0) (ci := 11) hK hP hD hN hXS hS hA rfl rfl [0, 1] rfl (by decide +kernel)) rfl rfl hl.1 rfl (lv_room (Nat.le_of_ble_eq_true rfl)) dX11_check_33 ⟨Nat.le_of_ble_eq_true rfl, Nat.le_of_ble_eq_true rfl⟩) hP hD hS hA [0, 1] [] rfl rfl (by decide +kernel) (by decide +kernel) ?_
          clear hP hD hS
          intro r_14 u_16 H locs w_15 hP hD hS
          replace hP : va_P D vwCl [(k, .inr (11, [.ref k0, .ref k1, .ref k2, .int c3, .ref k4, .ref k5, .ref k6, .ref k7, .ref k8, .int c9, .ref ka, .ref kb, .int cc, .int cd, .int ce, .int cf, .int cg, .int ch, .int ci, .int cj, .int ck, .ref kl, .int cm, .int cn, .ref ko])), (k0, .inl (cI, 1201, .inl f_6))] H := hP
          replace hD : va_D A [(k, .inr (11, [.ref k0, .ref k1, .ref k2, .int c3, .ref k4, .ref k5, .ref k6, .ref k7, .ref k8, .int c9, .ref ka, .ref kb, .int cc, .int cd, .int ce, .int cf, .int cg, .int ch, .int ci, .int cj, .int ck, .ref kl, .int cm, .int cn, .ref ko])), (k0, .inl (cI, 1201, .inl f_6))] := hD
          have h_17 := w_15
          have h_17 : r_14 = lkF f_6 l16_2.toInt := h_17
          have lo_r_14 := k_lo r_14
          have hi_r_14 := k_hi r_14
          refine b_icmp_eq hx hb rfl rfl (tgt := 43) dX11_check_36 (by decide +kernel) (fun c_18 => ?_) (fun c_18 => ?_)
          · obtain ⟨v_19, ev_19⟩ : ∃ y : Int32, y = l16_2 + 1 := ⟨_, rfl⟩
            have tv_19 : v_19.toInt = l16_2.toInt + 1 := by rw [ev_19]; exact k_addv rfl zl_1 (by omega) (by omega)
            refine lv_iinc (v := v_19) (lv' := [(2, .int v_19), (1, .int v_4), (0, .ref k)]) hx hb dX11_check_43 hl (k := 0) rfl (by rw [ev_19]; rfl) (by decide +kernel) rfl ?_
            clear hl
            intro ls hl
            refine lv_goto (tgt := 16) hx hb dX11_check_46 (by decide +kernel) ?_
            exact ih16 v_19 (by first | omega | decide | assumption | rfl) ((chk_y (by omega) (by omega) (by omega) (by rw [show c0 (1181 + l16_2.toInt.toNat) = v_13 from (by rw [rd_in (k := 1181 + l16_2.toInt.toNat) ev_13 (by omega), ef_6, sp_ne (by omega)]), ← lkF_at (g := f_6) (f := c0) (fun i hi => by rw [ef_6, sp_ne (by omega)]) (by omega) (by omega), ← h_17]; omega)).symm.trans i16_1) (by first | omega | decide | assumption | rfl) (by first | omega | decide | assumption | rfl) (by omega) ls _ _ (lv_sub hl [0, 1, 2] rfl) (hP.sub [0, 1] rfl) (hD.sub [0, 1] (by decide +kernel) rfl) hS
          · refine lv_iconst (v := 1) hx hb dX11_check_39 (by decide +kernel) ?_
            refine lv_iload_n hx hb dX11_check_40 rfl (lv_at hl 0 rfl) ?_
            refine lv_iadd hx hb dX11_check_41 ?_
            refine lv_topi (fun v_20 ev_20 => ?_)
            have tv_20 : v_20.toInt = 1 + l16_2.toInt := by rw [ev_20]; exact k_addv zl_1 rfl (by omega) (by omega)
            exact hRet f_6 [0, 1] ⟨hS_7, ((chk_n (by omega) (by omega) (by omega) (by omega) (by rw [show c0 (1181 + l16_2.toInt.toNat) = v_13 from (by rw [rd_in (k := 1181 + l16_2.toInt.toNat) ev_13 (by omega), ef_6, sp_ne (by omega)]), ← lkF_at (g := f_6) (f := c0) (fun i hi => by rw [ef_6, sp_ne (by omega)]) (by omega) (by omega), ← h_17]; omega)).symm.trans i16_1), ef_6⟩ hP hD (by decide +kernel) rfl hS rfl dX11_check_42
  exact hloop_16 _ 0 (by first | omega | (simp only [zl_0]; first | done | omega) | decide | assumption | rfl) (by unfold chkR; rw [zl_0, show ((c0 5).toInt - 0).toNat = (c0 5).toInt.toNat from by omega]; rfl) (by first | omega | (simp only [zl_0]; first | done | omega) | decide | assumption | rfl) (by first | omega | (simp only [zl_0]; first | done | omega) | decide | assumption | rfl) (Nat.lt_succ_self _) ls _ _ (lv_sub hl [0, 1, 2] rfl) hP hD hS
theorem bn_cX11_count_0 : BN cX11_count 0 0x2805500504005348000adc3c2b0e86802a31781814015a8ac3c3f022b45e06050056a2b56875d7005400808851f18470015b8203c2b0e84c02a31781414015a8ac3c3f022b45e05050056a2b7c80402016e00402015b80402015900402015580402015300402014f80402014c0040201488040201368040201330040201248040201210040201068040201008040201118080201558707c04 := by
  unfold BN; decide +kernel
theorem dX11_count_0 : decode cX11_count 0 = .ok (.iconst 0, 1) := dR0 (k := 0) (i := 0) bn_cX11_count_0 dop_3 (by decide +kernel)
theorem dX11_count_1 : decode cX11_count 1 = .ok (.istore_n 2, 1) := dR0 (k := 0) (i := 1) bn_cX11_count_0 dop_61 (by decide +kernel)
theorem dX11_count_2 : decode cX11_count 2 = .ok (.iload_n 1, 1) := dR0 (k := 0) (i := 2) bn_cX11_count_0 dop_27 (by decide +kernel)
theorem dX11_count_3 : decode cX11_count 3 = .ok (.tableswitch 290 0 12 #[65, 72, 101, 108, 144, 151, 158, 165, 170, 177, 182, 219, 248], 65) := by decide +kernel
theorem dX11_count_68 : decode cX11_count 68 = .ok (.aload_n 0, 1) := dR0 (k := 0) (i := 68) bn_cX11_count_0 dop_42 (by decide +kernel)
theorem dX11_count_69 : decode cX11_count 69 = .ok (.getfield 9, 3) := dR2 (f := Instr.getfield) (k := 0) (i := 69) bn_cX11_count_0 dop_180 9 (by decide +kernel)
theorem dX11_count_72 : decode cX11_count 72 = .ok (.iconst 1, 1) := dR0 (k := 0) (i := 72) bn_cX11_count_0 dop_4 (by decide +kernel)
theorem dX11_count_73 : decode cX11_count 73 = .ok (.iaload, 1) := dR0 (k := 0) (i := 73) bn_cX11_count_0 dop_46 (by decide +kernel)
theorem dX11_count_74 : decode cX11_count 74 = .ok (.ireturn, 1) := dR0 (k := 0) (i := 74) bn_cX11_count_0 dop_172 (by decide +kernel)
theorem dX11_count_75 : decode cX11_count 75 = .ok (.iconst 0, 1) := dR0 (k := 0) (i := 75) bn_cX11_count_0 dop_3 (by decide +kernel)
theorem dX11_count_76 : decode cX11_count 76 = .ok (.istore_n 3, 1) := dR0 (k := 0) (i := 76) bn_cX11_count_0 dop_62 (by decide +kernel)
theorem dX11_count_77 : decode cX11_count 77 = .ok (.iload_n 3, 1) := dR0 (k := 0) (i := 77) bn_cX11_count_0 dop_29 (by decide +kernel)
theorem dX11_count_78 : decode cX11_count 78 = .ok (.aload_n 0, 1) := dR0 (k := 0) (i := 78) bn_cX11_count_0 dop_42 (by decide +kernel)
theorem dX11_count_79 : decode cX11_count 79 = .ok (.getfield 9, 3) := dR2 (f := Instr.getfield) (k := 0) (i := 79) bn_cX11_count_0 dop_180 9 (by decide +kernel)
theorem dX11_count_82 : decode cX11_count 82 = .ok (.iconst 1, 1) := dR0 (k := 0) (i := 82) bn_cX11_count_0 dop_4 (by decide +kernel)
theorem dX11_count_83 : decode cX11_count 83 = .ok (.iaload, 1) := dR0 (k := 0) (i := 83) bn_cX11_count_0 dop_46 (by decide +kernel)
theorem dX11_count_84 : decode cX11_count 84 = .ok (.if_icmp .ge 18, 3) := dR2s (f := Instr.if_icmp .ge) (k := 0) (i := 84) bn_cX11_count_0 dop_162 18 18 (by decide +kernel)
theorem dX11_count_87 : decode cX11_count 87 = .ok (.iload_n 2, 1) := dR0 (k := 0) (i := 87) bn_cX11_count_0 dop_28 (by decide +kernel)
theorem dX11_count_88 : decode cX11_count 88 = .ok (.aload_n 0, 1) := dR0 (k := 0) (i := 88) bn_cX11_count_0 dop_42 (by decide +kernel)
theorem dX11_count_89 : decode cX11_count 89 = .ok (.iload_n 3, 1) := dR0 (k := 0) (i := 89) bn_cX11_count_0 dop_29 (by decide +kernel)
theorem dX11_count_90 : decode cX11_count 90 = .ok (.iconst 4, 1) := dR0 (k := 0) (i := 90) bn_cX11_count_0 dop_7 (by decide +kernel)
theorem dX11_count_91 : decode cX11_count 91 = .ok (.invokevirtual 55, 3) := dR2 (f := Instr.invokevirtual) (k := 0) (i := 91) bn_cX11_count_0 dop_182 55 (by decide +kernel)
theorem dX11_count_94 : decode cX11_count 94 = .ok (.iadd, 1) := dR0 (k := 0) (i := 94) bn_cX11_count_0 dop_96 (by decide +kernel)
theorem dX11_count_95 : decode cX11_count 95 = .ok (.istore_n 2, 1) := dR0 (k := 0) (i := 95) bn_cX11_count_0 dop_61 (by decide +kernel)
theorem dX11_count_96 : decode cX11_count 96 = .ok (.iinc 3 1, 3) := dRii (f := Instr.iinc) (k := 0) (i := 96) bn_cX11_count_0 dop_132 3 1 1 (by decide +kernel)
theorem dX11_count_99 : decode cX11_count 99 = .ok (.goto (-22), 3) := dR2s (f := Instr.goto) (k := 0) (i := 99) bn_cX11_count_0 dop_167 65514 (-22) (by decide +kernel)
theorem dX11_count_102 : decode cX11_count 102 = .ok (.iload_n 2, 1) := dR0 (k := 0) (i := 102) bn_cX11_count_0 dop_28 (by decide +kernel)
theorem dX11_count_103 : decode cX11_count 103 = .ok (.ireturn, 1) := dR0 (k := 0) (i := 103) bn_cX11_count_0 dop_172 (by decide +kernel)
theorem dX11_count_104 : decode cX11_count 104 = .ok (.aload_n 0, 1) := dR0 (k := 0) (i := 104) bn_cX11_count_0 dop_42 (by decide +kernel)
theorem dX11_count_105 : decode cX11_count 105 = .ok (.getfield 9, 3) := dR2 (f := Instr.getfield) (k := 0) (i := 105) bn_cX11_count_0 dop_180 9 (by decide +kernel)
theorem dX11_count_108 : decode cX11_count 108 = .ok (.iconst 2, 1) := dR0 (k := 0) (i := 108) bn_cX11_count_0 dop_5 (by decide +kernel)
theorem dX11_count_109 : decode cX11_count 109 = .ok (.iaload, 1) := dR0 (k := 0) (i := 109) bn_cX11_count_0 dop_46 (by decide +kernel)
theorem dX11_count_110 : decode cX11_count 110 = .ok (.ireturn, 1) := dR0 (k := 0) (i := 110) bn_cX11_count_0 dop_172 (by decide +kernel)
theorem dX11_count_111 : decode cX11_count 111 = .ok (.iconst 0, 1) := dR0 (k := 0) (i := 111) bn_cX11_count_0 dop_3 (by decide +kernel)
theorem dX11_count_112 : decode cX11_count 112 = .ok (.istore_n 3, 1) := dR0 (k := 0) (i := 112) bn_cX11_count_0 dop_62 (by decide +kernel)
theorem dX11_count_113 : decode cX11_count 113 = .ok (.iload_n 3, 1) := dR0 (k := 0) (i := 113) bn_cX11_count_0 dop_29 (by decide +kernel)
theorem dX11_count_114 : decode cX11_count 114 = .ok (.aload_n 0, 1) := dR0 (k := 0) (i := 114) bn_cX11_count_0 dop_42 (by decide +kernel)
theorem dX11_count_115 : decode cX11_count 115 = .ok (.getfield 9, 3) := dR2 (f := Instr.getfield) (k := 0) (i := 115) bn_cX11_count_0 dop_180 9 (by decide +kernel)
theorem dX11_count_118 : decode cX11_count 118 = .ok (.iconst 2, 1) := dR0 (k := 0) (i := 118) bn_cX11_count_0 dop_5 (by decide +kernel)
theorem dX11_count_119 : decode cX11_count 119 = .ok (.iaload, 1) := dR0 (k := 0) (i := 119) bn_cX11_count_0 dop_46 (by decide +kernel)
theorem dX11_count_120 : decode cX11_count 120 = .ok (.if_icmp .ge 25, 3) := dR2s (f := Instr.if_icmp .ge) (k := 0) (i := 120) bn_cX11_count_0 dop_162 25 25 (by decide +kernel)
theorem dX11_count_123 : decode cX11_count 123 = .ok (.iload_n 2, 1) := dR0 (k := 0) (i := 123) bn_cX11_count_0 dop_28 (by decide +kernel)
theorem dX11_count_124 : decode cX11_count 124 = .ok (.aload_n 0, 1) := dR0 (k := 0) (i := 124) bn_cX11_count_0 dop_42 (by decide +kernel)
theorem dX11_count_125 : decode cX11_count 125 = .ok (.iload_n 3, 1) := dR0 (k := 0) (i := 125) bn_cX11_count_0 dop_29 (by decide +kernel)
theorem dX11_count_126 : decode cX11_count 126 = .ok (.invokevirtual 127, 3) := dR2 (f := Instr.invokevirtual) (k := 0) (i := 126) bn_cX11_count_0 dop_182 127 (by decide +kernel)
theorem bn_cX11_count_128 : BN cX11_count 128 0xe88002a31781414015a8ac3c3f022b43aeb802a00404428f8c27d00adc0c1e158742601518bc0c0a00ad4561e1f8115a1d71c015002022147c610201402a802820029a2a8056e070f0ac3a1b00a8c5e05050056a2b0f0fc08ad030096e2b568bc120a00ad456ad060096a2b568bc100a00ad456ad1781014015a8ad5a2f0382802b515ab43ae4802a00404428f8c204028055005040053480 := by
  unfold BN; decide +kernel
theorem dX11_count_129 : decode cX11_count 129 = .ok (.ifCond .eq 7, 3) := dR2s (f := Instr.ifCond .eq) (k := 128) (i := 1) bn_cX11_count_128 dop_153 7 7 (by decide +kernel)
theorem dX11_count_132 : decode cX11_count 132 = .ok (.iconst 1, 1) := dR0 (k := 128) (i := 4) bn_cX11_count_128 dop_4 (by decide +kernel)
theorem dX11_count_133 : decode cX11_count 133 = .ok (.goto 4, 3) := dR2s (f := Instr.goto) (k := 128) (i := 5) bn_cX11_count_128 dop_167 4 4 (by decide +kernel)
theorem dX11_count_136 : decode cX11_count 136 = .ok (.iconst 0, 1) := dR0 (k := 128) (i := 8) bn_cX11_count_128 dop_3 (by decide +kernel)
theorem dX11_count_137 : decode cX11_count 137 = .ok (.iadd, 1) := dR0 (k := 128) (i := 9) bn_cX11_count_128 dop_96 (by decide +kernel)
theorem dX11_count_138 : decode cX11_count 138 = .ok (.istore_n 2, 1) := dR0 (k := 128) (i := 10) bn_cX11_count_128 dop_61 (by decide +kernel)
theorem dX11_count_139 : decode cX11_count 139 = .ok (.iinc 3 1, 3) := dRii (f := Instr.iinc) (k := 128) (i := 11) bn_cX11_count_128 dop_132 3 1 1 (by decide +kernel)
theorem dX11_count_142 : decode cX11_count 142 = .ok (.goto (-29), 3) := dR2s (f := Instr.goto) (k := 128) (i := 14) bn_cX11_count_128 dop_167 65507 (-29) (by decide +kernel)
theorem dX11_count_145 : decode cX11_count 145 = .ok (.iload_n 2, 1) := dR0 (k := 128) (i := 17) bn_cX11_count_128 dop_28 (by decide +kernel)
theorem dX11_count_146 : decode cX11_count 146 = .ok (.ireturn, 1) := dR0 (k := 128) (i := 18) bn_cX11_count_128 dop_172 (by decide +kernel)
theorem dX11_count_147 : decode cX11_count 147 = .ok (.aload_n 0, 1) := dR0 (k := 128) (i := 19) bn_cX11_count_128 dop_42 (by decide +kernel)
theorem dX11_count_148 : decode cX11_count 148 = .ok (.getfield 9, 3) := dR2 (f := Instr.getfield) (k := 128) (i := 20) bn_cX11_count_128 dop_180 9 (by decide +kernel)
theorem dX11_count_151 : decode cX11_count 151 = .ok (.iconst 3, 1) := dR0 (k := 128) (i := 23) bn_cX11_count_128 dop_6 (by decide +kernel)
theorem dX11_count_152 : decode cX11_count 152 = .ok (.iaload, 1) := dR0 (k := 128) (i := 24) bn_cX11_count_128 dop_46 (by decide +kernel)
theorem dX11_count_153 : decode cX11_count 153 = .ok (.ireturn, 1) := dR0 (k := 128) (i := 25) bn_cX11_count_128 dop_172 (by decide +kernel)
theorem dX11_count_154 : decode cX11_count 154 = .ok (.aload_n 0, 1) := dR0 (k := 128) (i := 26) bn_cX11_count_128 dop_42 (by decide +kernel)
theorem dX11_count_155 : decode cX11_count 155 = .ok (.getfield 9, 3) := dR2 (f := Instr.getfield) (k := 128) (i := 27) bn_cX11_count_128 dop_180 9 (by decide +kernel)
theorem dX11_count_158 : decode cX11_count 158 = .ok (.iconst 0, 1) := dR0 (k := 128) (i := 30) bn_cX11_count_128 dop_3 (by decide +kernel)
theorem dX11_count_159 : decode cX11_count 159 = .ok (.iaload, 1) := dR0 (k := 128) (i := 31) bn_cX11_count_128 dop_46 (by decide +kernel)
theorem dX11_count_160 : decode cX11_count 160 = .ok (.ireturn, 1) := dR0 (k := 128) (i := 32) bn_cX11_count_128 dop_172 (by decide +kernel)
theorem dX11_count_161 : decode cX11_count 161 = .ok (.aload_n 0, 1) := dR0 (k := 128) (i := 33) bn_cX11_count_128 dop_42 (by decide +kernel)
theorem dX11_count_162 : decode cX11_count 162 = .ok (.getfield 9, 3) := dR2 (f := Instr.getfield) (k := 128) (i := 34) bn_cX11_count_128 dop_180 9 (by decide +kernel)
theorem dX11_count_165 : decode cX11_count 165 = .ok (.iconst 4, 1) := dR0 (k := 128) (i := 37) bn_cX11_count_128 dop_7 (by decide +kernel)
theorem dX11_count_166 : decode cX11_count 166 = .ok (.iaload, 1) := dR0 (k := 128) (i := 38) bn_cX11_count_128 dop_46 (by decide +kernel)
theorem dX11_count_167 : decode cX11_count 167 = .ok (.ireturn, 1) := dR0 (k := 128) (i := 39) bn_cX11_count_128 dop_172 (by decide +kernel)
theorem dX11_count_168 : decode cX11_count 168 = .ok (.aload_n 0, 1) := dR0 (k := 128) (i := 40) bn_cX11_count_128 dop_42 (by decide +kernel)
theorem dX11_count_169 : decode cX11_count 169 = .ok (.getfield 267, 3) := dR2 (f := Instr.getfield) (k := 128) (i := 41) bn_cX11_count_128 dop_180 267 (by decide +kernel)
theorem dX11_count_172 : decode cX11_count 172 = .ok (.ireturn, 1) := dR0 (k := 128) (i := 44) bn_cX11_count_128 dop_172 (by decide +kernel)
theorem dX11_count_173 : decode cX11_count 173 = .ok (.aload_n 0, 1) := dR0 (k := 128) (i := 45) bn_cX11_count_128 dop_42 (by decide +kernel)
theorem dX11_count_174 : decode cX11_count 174 = .ok (.getfield 9, 3) := dR2 (f := Instr.getfield) (k := 128) (i := 46) bn_cX11_count_128 dop_180 9 (by decide +kernel)
theorem dX11_count_177 : decode cX11_count 177 = .ok (.iconst 5, 1) := dR0 (k := 128) (i := 49) bn_cX11_count_128 dop_8 (by decide +kernel)
theorem dX11_count_178 : decode cX11_count 178 = .ok (.iaload, 1) := dR0 (k := 128) (i := 50) bn_cX11_count_128 dop_46 (by decide +kernel)
theorem dX11_count_179 : decode cX11_count 179 = .ok (.ireturn, 1) := dR0 (k := 128) (i := 51) bn_cX11_count_128 dop_172 (by decide +kernel)
theorem dX11_count_180 : decode cX11_count 180 = .ok (.aload_n 0, 1) := dR0 (k := 128) (i := 52) bn_cX11_count_128 dop_42 (by decide +kernel)
theorem dX11_count_181 : decode cX11_count 181 = .ok (.invokevirtual 261, 3) := dR2 (f := Instr.invokevirtual) (k := 128) (i := 53) bn_cX11_count_128 dop_182 261 (by decide +kernel)
theorem dX11_count_184 : decode cX11_count 184 = .ok (.ireturn, 1) := dR0 (k := 128) (i := 56) bn_cX11_count_128 dop_172 (by decide +kernel)
theorem dX11_count_185 : decode cX11_count 185 = .ok (.iconst 0, 1) := dR0 (k := 128) (i := 57) bn_cX11_count_128 dop_3 (by decide +kernel)
theorem dX11_count_186 : decode cX11_count 186 = .ok (.istore_n 3, 1) := dR0 (k := 128) (i := 58) bn_cX11_count_128 dop_62 (by decide +kernel)
theorem dX11_count_187 : decode cX11_count 187 = .ok (.iload_n 3, 1) := dR0 (k := 128) (i := 59) bn_cX11_count_128 dop_29 (by decide +kernel)
theorem dX11_count_188 : decode cX11_count 188 = .ok (.aload_n 0, 1) := dR0 (k := 128) (i := 60) bn_cX11_count_128 dop_42 (by decide +kernel)
theorem dX11_count_189 : decode cX11_count 189 = .ok (.getfield 9, 3) := dR2 (f := Instr.getfield) (k := 128) (i := 61) bn_cX11_count_128 dop_180 9 (by decide +kernel)
theorem dX11_count_192 : decode cX11_count 192 = .ok (.iconst 1, 1) := dR0 (k := 128) (i := 64) bn_cX11_count_128 dop_4 (by decide +kernel)
theorem dX11_count_193 : decode cX11_count 193 = .ok (.iaload, 1) := dR0 (k := 128) (i := 65) bn_cX11_count_128 dop_46 (by decide +kernel)
theorem dX11_count_194 : decode cX11_count 194 = .ok (.if_icmp .ge 26, 3) := dR2s (f := Instr.if_icmp .ge) (k := 128) (i := 66) bn_cX11_count_128 dop_162 26 26 (by decide +kernel)
theorem dX11_count_197 : decode cX11_count 197 = .ok (.iload_n 2, 1) := dR0 (k := 128) (i := 69) bn_cX11_count_128 dop_28 (by decide +kernel)
theorem dX11_count_198 : decode cX11_count 198 = .ok (.aload_n 0, 1) := dR0 (k := 128) (i := 70) bn_cX11_count_128 dop_42 (by decide +kernel)
theorem dX11_count_199 : decode cX11_count 199 = .ok (.iload_n 3, 1) := dR0 (k := 128) (i := 71) bn_cX11_count_128 dop_29 (by decide +kernel)
theorem dX11_count_200 : decode cX11_count 200 = .ok (.iconst 3, 1) := dR0 (k := 128) (i := 72) bn_cX11_count_128 dop_6 (by decide +kernel)
theorem dX11_count_201 : decode cX11_count 201 = .ok (.invokevirtual 84, 3) := dR2 (f := Instr.invokevirtual) (k := 128) (i := 73) bn_cX11_count_128 dop_182 84 (by decide +kernel)
theorem dX11_count_204 : decode cX11_count 204 = .ok (.ifCond .eq 7, 3) := dR2s (f := Instr.ifCond .eq) (k := 128) (i := 76) bn_cX11_count_128 dop_153 7 7 (by decide +kernel)
theorem dX11_count_207 : decode cX11_count 207 = .ok (.iconst 1, 1) := dR0 (k := 128) (i := 79) bn_cX11_count_128 dop_4 (by decide +kernel)
theorem dX11_count_208 : decode cX11_count 208 = .ok (.goto 4, 3) := dR2s (f := Instr.goto) (k := 128) (i := 80) bn_cX11_count_128 dop_167 4 4 (by decide +kernel)
theorem dX11_count_211 : decode cX11_count 211 = .ok (.iconst 0, 1) := dR0 (k := 128) (i := 83) bn_cX11_count_128 dop_3 (by decide +kernel)
theorem dX11_count_212 : decode cX11_count 212 = .ok (.iadd, 1) := dR0 (k := 128) (i := 84) bn_cX11_count_128 dop_96 (by decide +kernel)
theorem dX11_count_213 : decode cX11_count 213 = .ok (.istore_n 2, 1) := dR0 (k := 128) (i := 85) bn_cX11_count_128 dop_61 (by decide +kernel)
theorem dX11_count_214 : decode cX11_count 214 = .ok (.iinc 3 1, 3) := dRii (f := Instr.iinc) (k := 128) (i := 86) bn_cX11_count_128 dop_132 3 1 1 (by decide +kernel)
theorem dX11_count_217 : decode cX11_count 217 = .ok (.goto (-30), 3) := dR2s (f := Instr.goto) (k := 128) (i := 89) bn_cX11_count_128 dop_167 65506 (-30) (by decide +kernel)
theorem dX11_count_220 : decode cX11_count 220 = .ok (.iload_n 2, 1) := dR0 (k := 128) (i := 92) bn_cX11_count_128 dop_28 (by decide +kernel)
theorem dX11_count_221 : decode cX11_count 221 = .ok (.ireturn, 1) := dR0 (k := 128) (i := 93) bn_cX11_count_128 dop_172 (by decide +kernel)
theorem dX11_count_222 : decode cX11_count 222 = .ok (.iconst 0, 1) := dR0 (k := 128) (i := 94) bn_cX11_count_128 dop_3 (by decide +kernel)
theorem dX11_count_223 : decode cX11_count 223 = .ok (.istore_n 3, 1) := dR0 (k := 128) (i := 95) bn_cX11_count_128 dop_62 (by decide +kernel)
theorem dX11_count_224 : decode cX11_count 224 = .ok (.iload_n 3, 1) := dR0 (k := 128) (i := 96) bn_cX11_count_128 dop_29 (by decide +kernel)
theorem dX11_count_225 : decode cX11_count 225 = .ok (.aload_n 0, 1) := dR0 (k := 128) (i := 97) bn_cX11_count_128 dop_42 (by decide +kernel)
theorem dX11_count_226 : decode cX11_count 226 = .ok (.getfield 9, 3) := dR2 (f := Instr.getfield) (k := 128) (i := 98) bn_cX11_count_128 dop_180 9 (by decide +kernel)
theorem dX11_count_229 : decode cX11_count 229 = .ok (.iconst 2, 1) := dR0 (k := 128) (i := 101) bn_cX11_count_128 dop_5 (by decide +kernel)
theorem dX11_count_230 : decode cX11_count 230 = .ok (.iaload, 1) := dR0 (k := 128) (i := 102) bn_cX11_count_128 dop_46 (by decide +kernel)
theorem dX11_count_231 : decode cX11_count 231 = .ok (.if_icmp .ge 18, 3) := dR2s (f := Instr.if_icmp .ge) (k := 128) (i := 103) bn_cX11_count_128 dop_162 18 18 (by decide +kernel)
theorem dX11_count_234 : decode cX11_count 234 = .ok (.iload_n 2, 1) := dR0 (k := 128) (i := 106) bn_cX11_count_128 dop_28 (by decide +kernel)
theorem dX11_count_235 : decode cX11_count 235 = .ok (.aload_n 0, 1) := dR0 (k := 128) (i := 107) bn_cX11_count_128 dop_42 (by decide +kernel)
theorem dX11_count_236 : decode cX11_count 236 = .ok (.iload_n 3, 1) := dR0 (k := 128) (i := 108) bn_cX11_count_128 dop_29 (by decide +kernel)
theorem dX11_count_237 : decode cX11_count 237 = .ok (.iconst 2, 1) := dR0 (k := 128) (i := 109) bn_cX11_count_128 dop_5 (by decide +kernel)
theorem dX11_count_238 : decode cX11_count 238 = .ok (.invokevirtual 124, 3) := dR2 (f := Instr.invokevirtual) (k := 128) (i := 110) bn_cX11_count_128 dop_182 124 (by decide +kernel)
theorem dX11_count_241 : decode cX11_count 241 = .ok (.iadd, 1) := dR0 (k := 128) (i := 113) bn_cX11_count_128 dop_96 (by decide +kernel)
theorem dX11_count_242 : decode cX11_count 242 = .ok (.istore_n 2, 1) := dR0 (k := 128) (i := 114) bn_cX11_count_128 dop_61 (by decide +kernel)
theorem dX11_count_243 : decode cX11_count 243 = .ok (.iinc 3 1, 3) := dRii (f := Instr.iinc) (k := 128) (i := 115) bn_cX11_count_128 dop_132 3 1 1 (by decide +kernel)
theorem dX11_count_246 : decode cX11_count 246 = .ok (.goto (-22), 3) := dR2s (f := Instr.goto) (k := 128) (i := 118) bn_cX11_count_128 dop_167 65514 (-22) (by decide +kernel)
theorem dX11_count_249 : decode cX11_count 249 = .ok (.iload_n 2, 1) := dR0 (k := 128) (i := 121) bn_cX11_count_128 dop_28 (by decide +kernel)
theorem dX11_count_250 : decode cX11_count 250 = .ok (.ireturn, 1) := dR0 (k := 128) (i := 122) bn_cX11_count_128 dop_172 (by decide +kernel)
theorem dX11_count_251 : decode cX11_count 251 = .ok (.iconst 0, 1) := dR0 (k := 128) (i := 123) bn_cX11_count_128 dop_3 (by decide +kernel)
theorem dX11_count_252 : decode cX11_count 252 = .ok (.istore_n 3, 1) := dR0 (k := 128) (i := 124) bn_cX11_count_128 dop_62 (by decide +kernel)
theorem dX11_count_253 : decode cX11_count 253 = .ok (.iload_n 3, 1) := dR0 (k := 128) (i := 125) bn_cX11_count_128 dop_29 (by decide +kernel)
theorem dX11_count_254 : decode cX11_count 254 = .ok (.aload_n 0, 1) := dR0 (k := 128) (i := 126) bn_cX11_count_128 dop_42 (by decide +kernel)
theorem dX11_count_255 : decode cX11_count 255 = .ok (.getfield 9, 3) := dR2 (f := Instr.getfield) (k := 128) (i := 127) bn_cX11_count_128 dop_180 9 (by decide +kernel)
theorem bn_cX11_count_256 : BN cX11_count 256 0x5690402b72004c56ad0eb7a00a8010110a3e308100a01540e002b704878560d00a68aa015b8243c2b0e88002a3178141401 := by
  unfold BN; decide +kernel
theorem dX11_count_258 : decode cX11_count 258 = .ok (.iconst 1, 1) := dR0 (k := 256) (i := 2) bn_cX11_count_256 dop_4 (by decide +kernel)
theorem dX11_count_259 : decode cX11_count 259 = .ok (.iaload, 1) := dR0 (k := 256) (i := 3) bn_cX11_count_256 dop_46 (by decide +kernel)
theorem dX11_count_260 : decode cX11_count 260 = .ok (.if_icmp .ge 31, 3) := dR2s (f := Instr.if_icmp .ge) (k := 256) (i := 4) bn_cX11_count_256 dop_162 31 31 (by decide +kernel)
theorem dX11_count_263 : decode cX11_count 263 = .ok (.iload_n 2, 1) := dR0 (k := 256) (i := 7) bn_cX11_count_256 dop_28 (by decide +kernel)
theorem dX11_count_264 : decode cX11_count 264 = .ok (.aload_n 0, 1) := dR0 (k := 256) (i := 8) bn_cX11_count_256 dop_42 (by decide +kernel)
theorem dX11_count_265 : decode cX11_count 265 = .ok (.iload_n 3, 1) := dR0 (k := 256) (i := 9) bn_cX11_count_256 dop_29 (by decide +kernel)
theorem dX11_count_266 : decode cX11_count 266 = .ok (.iconst 5, 1) := dR0 (k := 256) (i := 10) bn_cX11_count_256 dop_8 (by decide +kernel)
theorem dX11_count_267 : decode cX11_count 267 = .ok (.invokevirtual 84, 3) := dR2 (f := Instr.invokevirtual) (k := 256) (i := 11) bn_cX11_count_256 dop_182 84 (by decide +kernel)
theorem dX11_count_270 : decode cX11_count 270 = .ok (.ifCond .eq 12, 3) := dR2s (f := Instr.ifCond .eq) (k := 256) (i := 14) bn_cX11_count_256 dop_153 12 12 (by decide +kernel)
theorem dX11_count_273 : decode cX11_count 273 = .ok (.aload_n 0, 1) := dR0 (k := 256) (i := 17) bn_cX11_count_256 dop_42 (by decide +kernel)
theorem dX11_count_274 : decode cX11_count 274 = .ok (.iload_n 3, 1) := dR0 (k := 256) (i := 18) bn_cX11_count_256 dop_29 (by decide +kernel)
theorem dX11_count_275 : decode cX11_count 275 = .ok (.iconst 5, 1) := dR0 (k := 256) (i := 19) bn_cX11_count_256 dop_8 (by decide +kernel)
theorem dX11_count_276 : decode cX11_count 276 = .ok (.invokevirtual 55, 3) := dR2 (f := Instr.invokevirtual) (k := 256) (i := 20) bn_cX11_count_256 dop_182 55 (by decide +kernel)
theorem dX11_count_279 : decode cX11_count 279 = .ok (.goto 4, 3) := dR2s (f := Instr.goto) (k := 256) (i := 23) bn_cX11_count_256 dop_167 4 4 (by decide +kernel)
theorem dX11_count_282 : decode cX11_count 282 = .ok (.iconst 0, 1) := dR0 (k := 256) (i := 26) bn_cX11_count_256 dop_3 (by decide +kernel)
theorem dX11_count_283 : decode cX11_count 283 = .ok (.iadd, 1) := dR0 (k := 256) (i := 27) bn_cX11_count_256 dop_96 (by decide +kernel)
theorem dX11_count_284 : decode cX11_count 284 = .ok (.istore_n 2, 1) := dR0 (k := 256) (i := 28) bn_cX11_count_256 dop_61 (by decide +kernel)
theorem dX11_count_285 : decode cX11_count 285 = .ok (.iinc 3 1, 3) := dRii (f := Instr.iinc) (k := 256) (i := 29) bn_cX11_count_256 dop_132 3 1 1 (by decide +kernel)
theorem dX11_count_288 : decode cX11_count 288 = .ok (.goto (-35), 3) := dR2s (f := Instr.goto) (k := 256) (i := 32) bn_cX11_count_256 dop_167 65501 (-35) (by decide +kernel)
theorem dX11_count_291 : decode cX11_count 291 = .ok (.iload_n 2, 1) := dR0 (k := 256) (i := 35) bn_cX11_count_256 dop_28 (by decide +kernel)
theorem dX11_count_292 : decode cX11_count 292 = .ok (.ireturn, 1) := dR0 (k := 256) (i := 36) bn_cX11_count_256 dop_172 (by decide +kernel)
theorem dX11_count_293 : decode cX11_count 293 = .ok (.aload_n 0, 1) := dR0 (k := 256) (i := 37) bn_cX11_count_256 dop_42 (by decide +kernel)
theorem dX11_count_294 : decode cX11_count 294 = .ok (.ldc 63, 2) := dR1 (f := Instr.ldc) (k := 256) (i := 38) bn_cX11_count_256 dop_18 63 (by decide +kernel)
theorem dX11_count_296 : decode cX11_count 296 = .ok (.invokevirtual 64, 3) := dR2 (f := Instr.invokevirtual) (k := 256) (i := 40) bn_cX11_count_256 dop_182 64 (by decide +kernel)
theorem dX11_count_299 : decode cX11_count 299 = .ok (.ireturn, 1) := dR0 (k := 256) (i := 43) bn_cX11_count_256 dop_172 (by decide +kernel)
set_option maxHeartbeats 4000000 in
set_option maxRecDepth 100000 in
theorem c_X11_countG (l : Launch) (D : va_G) (cI : ClassId) (aK aV : Nat → Nat) (k k0 k1 k2 k4 k5 k6 k7 k8 ka kb kl ko : Nat) (sz : Nat) (c3 : Int32) (c9 : Int32) (cc : Int32) (cd : Int32) (ce : Int32) (cf : Int32) (cg : Int32) (ch : Int32) (ci : Int32) (cj : Int32) (ck : Int32) (cm : Int32) (cn : Int32) (c0 : Nat → Int32) (c4 : Nat → Int32) (a0 : Int32) (pre0 : SIX c0 (-1)) (pre1 : 0 ≤ c9.toInt) (pre2 : c9.toInt ≤ 40) : Met l yX11_count (gW yX11_count cX11_count 4 (some .int)) ({ frames := 5, cells := 0, slots := 0, locals := 109 } : Room) (kPreX D cI aK aV [.ref k, .int a0] [(k, .inr (11, [.ref k0, .ref k1, .ref k2, .int c3, .ref k4, .ref k5, .ref k6, .ref k7, .ref k8, .int c9, .ref ka, .ref kb, .int cc, .int cd, .int ce, .int cf, .int cg, .int ch, .int ci, .int cj, .int ck, .ref kl, .int cm, .int cn, .ref ko])), (k0, .inl (cI, 1201, .inl c0)), (k4, .inl (cI, 6, .inl c4))] sz) (va_Qi (fun (r : Int32) (u : (Nat → Int32)) => True) (fun u t => kWd D cI (va_A [(k, .inr (11, [.ref k0, .ref k1, .ref k2, .int c3, .ref k4, .ref k5, .ref k6, .ref k7, .ref k8, .int c9, .ref ka, .ref kb, .int cc, .int cd, .int ce, .int cf, .int cg, .int ch, .int ci, .int cj, .int ck, .ref kl, .int cm, .int cn, .ref ko])), (k0, .inl (cI, 1201, .inl c0)), (k4, .inl (cI, 6, .inl c4))] sz) [(k, .inr (11, [.ref k0, .ref k1, .ref k2, .int c3, .ref k4, .ref k5, .ref k6, .ref k7, .ref k8, .int c9, .ref ka, .ref kb, .int cc, .int cd, .int ce, .int cf, .int cg, .int ch, .int ci, .int cj, .int ck, .ref kl, .int cm, .int cn, .ref ko])), (k0, .inl (cI, 1201, .inl c0)), (k4, .inl (cI, 6, .inl u))] t) (va_A [(k, .inr (11, [.ref k0, .ref k1, .ref k2, .int c3, .ref k4, .ref k5, .ref k6, .ref k7, .ref k8, .int c9, .ref ka, .ref kb, .int cc, .int cd, .int ce, .int cf, .int cg, .int ch, .int ci, .int cj, .int ck, .ref kl, .int cm, .int cn, .ref ko])), (k0, .inl (cI, 1201, .inl c0)), (k4, .inl (cI, 6, .inl c4))] sz)) 0 0 (va_A [(k, .inr (11, [.ref k0, .ref k1, .ref k2, .int c3, .ref k4, .ref k5, .ref k6, .ref k7, .ref k8, .int c9, .ref ka, .ref kb, .int cc, .int cd, .int ce, .int cf, .int cg, .int ch, .int ci, .int cj, .int ck, .ref kl, .int cm, .int cn, .ref ko])), (k0, .inl (cI, 1201, .inl c0)), (k4, .inl (cI, 6, .inl c4))] sz) := by
  refine kMetIX (own := RX11) (by decide +kernel) rfl (Nat.le_of_ble_eq_true rfl) ?_
  intro p e s m args below meth c hx hb hT hown hname hml A Q hK hP hD hS hA hN hXS hRet ls hl
  have hl : lv_has ls 4 [(0, .ref k), (1, .int a0)] := hl
  have lo_a0 := k_lo a0
  have hi_a0 := k_hi a0
  have lo_c9 := k_lo c9
  have hi_c9 := k_hi c9
  have lo_ci := k_lo ci
  have hi_ci := k_hi ci
  have pre0 : SIX c0 (-1) := pre0
  have nb_1 : 0 ≤ (c0 0).toInt ∧ (c0 0).toInt ≤ 2000 := SB.n0 (And.left pre0)
  have nb_2 : 0 ≤ (c0 1).toInt ∧ (c0 1).toInt ≤ 60 := SB.n1 (And.left pre0)
  have nb_3 : 0 ≤ (c0 2).toInt ∧ (c0 2).toInt ≤ 4 := SB.n2 (And.left pre0)
  refine lv_iconst (v := 0) hx hb dX11_count_0 (by decide +kernel) ?_
  refine lv_istore_n (lv' := [(2, .int 0), (0, .ref k), (1, .int a0)]) hx hb dX11_count_1 rfl hl (by decide +kernel) rfl ?_
  clear hl
  intro ls hl
  refine lv_iload_n hx hb dX11_count_2 rfl (lv_at hl 2 rfl) ?_
  by_cases c_4 : a0.toInt = 0
  · refine lv_tableIn (off := 65) (tgt := 68) hx hb dX11_count_3 (by omega) (by omega) (by rw [c_4]; decide) (by decide +kernel) ?_
    refine lv_aload_n hx hb dX11_count_68 rfl (lv_at hl 1 rfl) ?_
    refine va_get (D := D) (ci := 11) (v := .ref k0) (C := RX11) (T := TX11) (N := 25) hx hb hT giX11 hown hK hP 0 rfl rfl 0 (by decide +kernel) (hT (Cond.fieldLink RX11 9 "DesertWireModel" "s" "[I") mw_1156) (fun _ h9 => h9) rfl dX11_count_69 ?_
    refine lv_iconst (v := 1) hx hb dX11_count_72 (by decide +kernel) ?_
    refine k_iald (v := (c0 1)) hx hb hK hP 1 0 rfl rfl (k_inl (by decide +kernel)) rfl dX11_count_73 ?_
    refine lv_topi (fun v_5 ev_5 => ?_)
    have lo_v_5 := k_lo v_5
    have hi_v_5 := k_hi v_5
    have tv_5 : v_5.toInt = (c0 1).toInt := by rw [ev_5]
    have b_6 : 0 ≤ v_5.toInt ∧ v_5.toInt ≤ 60 := by first | (rw [tv_5]; exact SB.n1 (And.left pre0)) | exact SB.n1 (And.left pre0) | omega
    exact hRet c4 [0, 1, 2] trivial hP hD (by decide +kernel) rfl hS rfl dX11_count_74
  by_cases c_7 : a0.toInt = 1
  · refine lv_tableIn (off := 72) (tgt := 75) hx hb dX11_count_3 (by omega) (by omega) (by rw [c_7]; decide) (by decide +kernel) ?_
    refine lv_iconst (v := 0) hx hb dX11_count_75 (by decide +kernel) ?_
    refine lv_istore_n (lv' := [(3, .int 0), (2, .int 0), (0, .ref k), (1, .int a0)]) hx hb dX11_count_76 rfl hl (by decide +kernel) rfl ?_
    clear hl
    intro ls hl
    have hloop_77 : ∀ (fu_ : Nat) (l77_2 : Int32) (l77_3 : Int32), 0 ≤ l77_3.toInt → ((c0 1).toInt - l77_3.toInt).toNat < fu_ → ∀ (ls : Array Slot) (H : Heap) (locs : List Loc), lv_has ls 4 [(3, .int l77_3), (2, .int l77_2), (0, .ref k), (1, .int a0)] → va_P D vwCl [(k, .inr (11, [.ref k0, .ref k1, .ref k2, .int c3, .ref k4, .ref k5, .ref k6, .ref k7, .ref k8, .int c9, .ref ka, .ref kb, .int cc, .int cd, .int ce, .int cf, .int cg, .int ch, .int ci, .int cj, .int ck, .ref kl, .int cm, .int cn, .ref ko])), (k0, .inl (cI, 1201, .inl c0)), (k4, .inl (cI, 6, .inl c4))] H → va_D A [(k, .inr (11, [.ref k0, .ref k1, .ref k2, .int c3, .ref k4, .ref k5, .ref k6, .ref k7, .ref k8, .int c9, .ref ka, .ref kb, .int cc, .int cd, .int ce, .int cf, .int cg, .int ch, .int ci, .int cj, .int ck, .ref kl, .int cm, .int cn, .ref ko])), (k0, .inl (cI, 1201, .inl c0)), (k4, .inl (cI, 6, .inl c4))] → va_S A s.heap H locs → W p l e ({ frames := 5, cells := 0, slots := 0, locals := 109 } : Room) s m args below meth c H locs 0 0 Q (F0 m 77 ls []) := by
      intro fu_; induction fu_ with
      | zero => intro l77_2 l77_3 i77_0 hm; exact absurd hm (by omega)
      | succ fu_ ih77 =>
          intro l77_2 l77_3 i77_0 hm ls H locs hl hP hD hS
          have lo_l77_2 := k_lo l77_2
          have hi_l77_2 := k_hi l77_2
          have lo_l77_3 := k_lo l77_3
          have hi_l77_3 := k_hi l77_3
          refine lv_iload_n hx hb dX11_count_77 rfl (lv_at hl 0 rfl) ?_
          refine lv_aload_n hx hb dX11_count_78 rfl (lv_at hl 2 rfl) ?_
          refine va_get (D := D) (ci := 11) (v := .ref k0) (C := RX11) (T := TX11) (N := 25) hx hb hT giX11 hown hK hP 0 rfl rfl 0 (by decide +kernel) (hT (Cond.fieldLink RX11 9 "DesertWireModel" "s" "[I") mw_1156) (fun _ h9 => h9) rfl dX11_count_79 ?_
          refine lv_iconst (v := 1) hx hb dX11_count_82 (by decide +kernel) ?_
          refine k_iald (v := (c0 1)) hx hb hK hP 1 0 rfl rfl (k_inl (by decide +kernel)) rfl dX11_count_83 ?_
          refine lv_topi (fun v_8 ev_8 => ?_)
          have lo_v_8 := k_lo v_8
          have hi_v_8 := k_hi v_8
          have tv_8 : v_8.toInt = (c0 1).toInt := by rw [ev_8]
          have b_9 : 0 ≤ v_8.toInt ∧ v_8.toInt ≤ 60 := by first | (rw [tv_8]; exact SB.n1 (And.left pre0)) | exact SB.n1 (And.left pre0) | omega
          refine b_icmp_ge hx hb rfl rfl (tgt := 102) dX11_count_84 (by decide +kernel) (fun c_10 => ?_) (fun c_10 => ?_)
          · refine lv_iload_n hx hb dX11_count_102 rfl (lv_at hl 1 rfl) ?_
            exact hRet c4 [0, 1, 2] trivial hP hD (by decide +kernel) rfl hS rfl dX11_count_103
          · refine lv_iload_n hx hb dX11_count_87 rfl (lv_at hl 1 rfl) ?_
            refine lv_aload_n hx hb dX11_count_88 rfl (lv_at hl 2 rfl) ?_
            refine lv_iload_n hx hb dX11_count_89 rfl (lv_at hl 0 rfl) ?_
            refine lv_iconst (v := 4) hx hb dX11_count_90 (by decide +kernel) ?_
            refine kJi (wr := [(k4, .inl (cI, 6, .inl c4))]) (va_runV (As := [.int l77_3, .int 4]) (rest := [.int l77_2]) ⟨hx, hb, hml, hown, hT⟩ (c_X11_workG4 l D cI aK aV k k0 k1 k2 k4 k5 k6 k7 k8 ka kb kl ko H.size c3 c9 cc cd ce cf cg ch ci cj ck cm cn c0 l77_3 4 (by first | omega | (simp only [zl_4]; first | done | omega) | decide | assumption | rfl) (by first | omega | (simp only [zl_4]; first | done | omega) | decide | assumption | rfl) (by first | omega | (simp only [zl_4]; first | done | omega) | decide | assumption | rfl)) (cwV 2 hT (gV_in mw_1276 mw_1273 mw_1275 mw_p3_12 mw_12) rfl rfl rfl (by decide +kernel) ⟨Nat.le_of_ble_eq_true rfl, Nat.le_of_ble_eq_true rfl⟩) (kRecvX (q0 := 0) (ci := 11) hK hP hD hN hXS hS hA rfl rfl [0, 1] rfl (by decide +kernel)) rfl rfl hl.1 rfl (lv_room (Nat.le_of_ble_eq_true rfl)) dX11_count_91 ⟨Nat.le_of_ble_eq_true rfl, Nat.le_of_ble_eq_true rfl⟩) hP hD hS hA [0, 1] [2] rfl rfl (by decide +kernel) (by decide +kernel) ?_
            clear hP hD hS
            intro r_11 u_13 H locs w_12 hP hD hS
            replace hP : va_P D vwCl [(k4, .inl (cI, 6, .inl c4)), (k, .inr (11, [.ref k0, .ref k1, .ref k2, .int c3, .ref k4, .ref k5, .ref k6, .ref k7, .ref k8, .int c9, .ref ka, .ref kb, .int cc, .int cd, .int ce, .int cf, .int cg, .int ch, .int ci, .int cj, .int ck, .ref kl, .int cm, .int cn, .ref ko])), (k0, .inl (cI, 1201, .inl c0))] H := hP
            replace hD : va_D A [(k4, .inl (cI, 6, .inl c4)), (k, .inr (11, [.ref k0, .ref k1, .ref k2, .int c3, .ref k4, .ref k5, .ref k6, .ref k7, .ref k8, .int c9, .ref ka, .ref kb, .int cc, .int cd, .int ce, .int cf, .int cg, .int ch, .int ci, .int cj, .int ck, .ref kl, .int cm, .int cn, .ref ko])), (k0, .inl (cI, 1201, .inl c0))] := hD
            have h_14 := w_12
            have h_14 : r_11 = wW c0 l77_3 4 := h_14
            have t_15 : r_11.toInt = (wW c0 l77_3 4).toInt := by rw [h_14]
            have b_16 : 0 ≤ r_11.toInt ∧ r_11.toInt ≤ 1 := by rw [h_14]; exact SB.w4 (And.left pre0) (by omega) (by omega)
            have lo_r_11 := k_lo r_11
            have hi_r_11 := k_hi r_11
            refine lv_iadd hx hb dX11_count_94 ?_
            refine lv_topi (fun v_17 ev_17 => ?_)
            have lo_v_17 := k_lo v_17
            have hi_v_17 := k_hi v_17
            refine lv_istore_n (lv' := [(2, .int v_17), (3, .int l77_3), (0, .ref k), (1, .int a0)]) hx hb dX11_count_95 rfl hl (by decide +kernel) rfl ?_
            clear hl
            intro ls hl
            obtain ⟨v_18, ev_18⟩ : ∃ y : Int32, y = l77_3 + 1 := ⟨_, rfl⟩
            have tv_18 : v_18.toInt = l77_3.toInt + 1 := by rw [ev_18]; exact k_addv rfl zl_1 (by omega) (by omega)
            refine lv_iinc (v := v_18) (lv' := [(3, .int v_18), (2, .int v_17), (0, .ref k), (1, .int a0)]) hx hb dX11_count_96 hl (k := 1) rfl (by rw [ev_18]; rfl) (by decide +kernel) rfl ?_
            clear hl
            intro ls hl
            refine lv_goto (tgt := 77) hx hb dX11_count_99 (by decide +kernel) ?_
            exact ih77 v_17 v_18 (by first | omega | decide | assumption | rfl) (by omega) ls _ _ (lv_sub hl [0, 1, 2, 3] rfl) (hP.sub [1, 2, 0] rfl) (hD.sub [1, 2, 0] (by decide +kernel) rfl) hS
    exact hloop_77 _ 0 0 (by first | omega | (simp only [zl_0]; first | done | omega) | decide | assumption | rfl) (Nat.lt_succ_self _) ls _ _ (lv_sub hl [0, 1, 2, 3] rfl) hP hD hS
  by_cases c_19 : a0.toInt = 2
  · refine lv_tableIn (off := 101) (tgt := 104) hx hb dX11_count_3 (by omega) (by omega) (by rw [c_19]; decide) (by decide +kernel) ?_
    refine lv_aload_n hx hb dX11_count_104 rfl (lv_at hl 1 rfl) ?_
    refine va_get (D := D) (ci := 11) (v := .ref k0) (C := RX11) (T := TX11) (N := 25) hx hb hT giX11 hown hK hP 0 rfl rfl 0 (by decide +kernel) (hT (Cond.fieldLink RX11 9 "DesertWireModel" "s" "[I") mw_1156) (fun _ h9 => h9) rfl dX11_count_105 ?_
    refine lv_iconst (v := 2) hx hb dX11_count_108 (by decide +kernel) ?_
    refine k_iald (v := (c0 2)) hx hb hK hP 1 0 rfl rfl (k_inl (by decide +kernel)) rfl dX11_count_109 ?_
    refine lv_topi (fun v_20 ev_20 => ?_)
    have lo_v_20 := k_lo v_20
    have hi_v_20 := k_hi v_20
    have tv_20 : v_20.toInt = (c0 2).toInt := by rw [ev_20]
    have b_21 : 0 ≤ v_20.toInt ∧ v_20.toInt ≤ 4 := by first | (rw [tv_20]; exact SB.n2 (And.left pre0)) | exact SB.n2 (And.left pre0) | omega
    exact hRet c4 [0, 1, 2] trivial hP hD (by decide +kernel) rfl hS rfl dX11_count_110
  by_cases c_22 : a0.toInt = 3
  · refine lv_tableIn (off := 108) (tgt := 111) hx hb dX11_count_3 (by omega) (by omega) (by rw [c_22]; decide) (by decide +kernel) ?_
    refine lv_iconst (v := 0) hx hb dX11_count_111 (by decide +kernel) ?_
    refine lv_istore_n (lv' := [(3, .int 0), (2, .int 0), (0, .ref k), (1, .int a0)]) hx hb dX11_count_112 rfl hl (by decide +kernel) rfl ?_
    clear hl
    intro ls hl
    have hloop_113 : ∀ (fu_ : Nat) (l113_2 : Int32) (l113_3 : Int32), 0 ≤ l113_3.toInt → ((c0 2).toInt - l113_3.toInt).toNat < fu_ → ∀ (ls : Array Slot) (H : Heap) (locs : List Loc), lv_has ls 4 [(3, .int l113_3), (2, .int l113_2), (0, .ref k), (1, .int a0)] → va_P D vwCl [(k, .inr (11, [.ref k0, .ref k1, .ref k2, .int c3, .ref k4, .ref k5, .ref k6, .ref k7, .ref k8, .int c9, .ref ka, .ref kb, .int cc, .int cd, .int ce, .int cf, .int cg, .int ch, .int ci, .int cj, .int ck, .ref kl, .int cm, .int cn, .ref ko])), (k0, .inl (cI, 1201, .inl c0)), (k4, .inl (cI, 6, .inl c4))] H → va_D A [(k, .inr (11, [.ref k0, .ref k1, .ref k2, .int c3, .ref k4, .ref k5, .ref k6, .ref k7, .ref k8, .int c9, .ref ka, .ref kb, .int cc, .int cd, .int ce, .int cf, .int cg, .int ch, .int ci, .int cj, .int ck, .ref kl, .int cm, .int cn, .ref ko])), (k0, .inl (cI, 1201, .inl c0)), (k4, .inl (cI, 6, .inl c4))] → va_S A s.heap H locs → W p l e ({ frames := 5, cells := 0, slots := 0, locals := 109 } : Room) s m args below meth c H locs 0 0 Q (F0 m 113 ls []) := by
      intro fu_; induction fu_ with
      | zero => intro l113_2 l113_3 i113_0 hm; exact absurd hm (by omega)
      | succ fu_ ih113 =>
          intro l113_2 l113_3 i113_0 hm ls H locs hl hP hD hS
          have lo_l113_2 := k_lo l113_2
          have hi_l113_2 := k_hi l113_2
          have lo_l113_3 := k_lo l113_3
          have hi_l113_3 := k_hi l113_3
          refine lv_iload_n hx hb dX11_count_113 rfl (lv_at hl 0 rfl) ?_
          refine lv_aload_n hx hb dX11_count_114 rfl (lv_at hl 2 rfl) ?_
          refine va_get (D := D) (ci := 11) (v := .ref k0) (C := RX11) (T := TX11) (N := 25) hx hb hT giX11 hown hK hP 0 rfl rfl 0 (by decide +kernel) (hT (Cond.fieldLink RX11 9 "DesertWireModel" "s" "[I") mw_1156) (fun _ h9 => h9) rfl dX11_count_115 ?_
          refine lv_iconst (v := 2) hx hb dX11_count_118 (by decide +kernel) ?_
          refine k_iald (v := (c0 2)) hx hb hK hP 1 0 rfl rfl (k_inl (by decide +kernel)) rfl dX11_count_119 ?_
          refine lv_topi (fun v_23 ev_23 => ?_)
          have lo_v_23 := k_lo v_23
          have hi_v_23 := k_hi v_23
          have tv_23 : v_23.toInt = (c0 2).toInt := by rw [ev_23]
          have b_24 : 0 ≤ v_23.toInt ∧ v_23.toInt ≤ 4 := by first | (rw [tv_23]; exact SB.n2 (And.left pre0)) | exact SB.n2 (And.left pre0) | omega
          refine b_icmp_ge hx hb rfl rfl (tgt := 145) dX11_count_120 (by decide +kernel) (fun c_25 => ?_) (fun c_25 => ?_)
          · refine lv_iload_n hx hb dX11_count_145 rfl (lv_at hl 1 rfl) ?_
            exact hRet c4 [0, 1, 2] trivial hP hD (by decide +kernel) rfl hS rfl dX11_count_146
          · refine lv_iload_n hx hb dX11_count_123 rfl (lv_at hl 1 rfl) ?_
            refine lv_aload_n hx hb dX11_count_124 rfl (lv_at hl 2 rfl) ?_
            refine lv_iload_n hx hb dX11_count_125 rfl (lv_at hl 0 rfl) ?_
            refine kJi (wr := [(k4, .inl (cI, 6, .inl c4))]) (va_runV (As := [.int l113_3]) (rest := [.int l113_2]) ⟨hx, hb, hml, hown, hT⟩ (c_X11_isLostG l D cI aK aV k k0 k1 k2 k4 k5 k6 k7 k8 ka kb kl ko H.size c3 c9 cc cd ce cf cg ch ci cj ck cm cn c0 l113_3 pre0 (by first | omega | decide | assumption | rfl) (by first | omega | decide | assumption | rfl) (by first | omega | decide | assumption | rfl)) (cwV 1 hT (gV_in mw_1424 mw_1421 mw_1423 mw_p5_6 mw_12) rfl rfl rfl (by decide +kernel) ⟨Nat.le_of_ble_eq_true rfl, Nat.le_of_ble_eq_true rfl⟩) (kRecvX (q0 := 0) (ci := 11) hK hP hD hN hXS hS hA rfl rfl [0, 1] rfl (by decide +kernel)) rfl rfl hl.1 rfl (lv_room (Nat.le_of_ble_eq_true rfl)) dX11_count_126 ⟨Nat.le_of_ble_eq_true rfl, Nat.le_of_ble_eq_true rfl⟩) hP hD hS hA [0, 1] [2] rfl rfl (by decide +kernel) (by decide +kernel) ?_
            clear hP hD hS
            intro r_26 u_28 H locs w_27 hP hD hS
            replace hP : va_P D vwCl [(k4, .inl (cI, 6, .inl c4)), (k, .inr (11, [.ref k0, .ref k1, .ref k2, .int c3, .ref k4, .ref k5, .ref k6, .ref k7, .ref k8, .int c9, .ref ka, .ref kb, .int cc, .int cd, .int ce, .int cf, .int cg, .int ch, .int ci, .int cj, .int ck, .ref kl, .int cm, .int cn, .ref ko])), (k0, .inl (cI, 1201, .inl c0))] H := hP
            replace hD : va_D A [(k4, .inl (cI, 6, .inl c4)), (k, .inr (11, [.ref k0, .ref k1, .ref k2, .int c3, .ref k4, .ref k5, .ref k6, .ref k7, .ref k8, .int c9, .ref ka, .ref kb, .int cc, .int cd, .int ce, .int cf, .int cg, .int ch, .int ci, .int cj, .int ck, .ref kl, .int cm, .int cn, .ref ko])), (k0, .inl (cI, 1201, .inl c0))] := hD
            rcases w_27 with ⟨hr_26, h_29⟩ | ⟨hr_26, h_30, h_31⟩
            · have h_29 : (pW c0 l113_3 8).toInt = 2 := h_29
              obtain rfl : r_26 = 1 := hr_26.trans (by decide +kernel)
              refine b_if_eq hx hb zl_1 (tgt := 136) dX11_count_129 (by decide +kernel) (fun c_32 => by exfalso; omega) (fun c_32 => ?_)
              refine lv_iconst (v := 1) hx hb dX11_count_132 (by decide +kernel) ?_
              refine lv_goto (tgt := 137) hx hb dX11_count_133 (by decide +kernel) ?_
              refine lv_iadd hx hb dX11_count_137 ?_
              refine lv_topi (fun v_33 ev_33 => ?_)
              have lo_v_33 := k_lo v_33
              have hi_v_33 := k_hi v_33
              refine lv_istore_n (lv' := [(2, .int v_33), (3, .int l113_3), (0, .ref k), (1, .int a0)]) hx hb dX11_count_138 rfl hl (by decide +kernel) rfl ?_
              clear hl
              intro ls hl
              obtain ⟨v_34, ev_34⟩ : ∃ y : Int32, y = l113_3 + 1 := ⟨_, rfl⟩
              have tv_34 : v_34.toInt = l113_3.toInt + 1 := by rw [ev_34]; exact k_addv rfl zl_1 (by omega) (by omega)
              refine lv_iinc (v := v_34) (lv' := [(3, .int v_34), (2, .int v_33), (0, .ref k), (1, .int a0)]) hx hb dX11_count_139 hl (k := 1) rfl (by rw [ev_34]; rfl) (by decide +kernel) rfl ?_
              clear hl
              intro ls hl
              refine lv_goto (tgt := 113) hx hb dX11_count_142 (by decide +kernel) ?_
              exact ih113 v_33 v_34 (by first | omega | decide | assumption | rfl) (by omega) ls _ _ (lv_sub hl [0, 1, 2, 3] rfl) (hP.sub [1, 2, 0] rfl) (hD.sub [1, 2, 0] (by decide +kernel) rfl) hS
            · have h_30 : (pW c0 l113_3 8).toInt ≠ 2 := h_30
              have h_31 : 1 ≤ (pW c0 l113_3 2).toInt := h_31
              obtain rfl : r_26 = 0 := hr_26.trans (by decide +kernel)
              refine b_if_eq hx hb zl_0 (tgt := 136) dX11_count_129 (by decide +kernel) (fun c_35 => ?_) (fun c_35 => by exfalso; omega)
              refine lv_iconst (v := 0) hx hb dX11_count_136 (by decide +kernel) ?_
              refine lv_iadd hx hb dX11_count_137 ?_
              refine lv_topi (fun v_36 ev_36 => ?_)
              have tv_36 : v_36.toInt = l113_2.toInt + 0 := by rw [ev_36]; exact k_addv rfl zl_0 (by omega) (by omega)
              refine lv_istore_n (lv' := [(2, .int v_36), (3, .int l113_3), (0, .ref k), (1, .int a0)]) hx hb dX11_count_138 rfl hl (by decide +kernel) rfl ?_
              clear hl
              intro ls hl
              obtain ⟨v_37, ev_37⟩ : ∃ y : Int32, y = l113_3 + 1 := ⟨_, rfl⟩
              have tv_37 : v_37.toInt = l113_3.toInt + 1 := by rw [ev_37]; exact k_addv rfl zl_1 (by omega) (by omega)
              refine lv_iinc (v := v_37) (lv' := [(3, .int v_37), (2, .int v_36), (0, .ref k), (1, .int a0)]) hx hb dX11_count_139 hl (k := 1) rfl (by rw [ev_37]; rfl) (by decide +kernel) rfl ?_
              clear hl
              intro ls hl
              refine lv_goto (tgt := 113) hx hb dX11_count_142 (by decide +kernel) ?_
              exact ih113 v_36 v_37 (by first | omega | decide | assumption | rfl) (by omega) ls _ _ (lv_sub hl [0, 1, 2, 3] rfl) (hP.sub [1, 2, 0] rfl) (hD.sub [1, 2, 0] (by decide +kernel) rfl) hS
    exact hloop_113 _ 0 0 (by first | omega | (simp only [zl_0]; first | done | omega) | decide | assumption | rfl) (Nat.lt_succ_self _) ls _ _ (lv_sub hl [0, 1, 2, 3] rfl) hP hD hS
  by_cases c_38 : a0.toInt = 4
  · refine lv_tableIn (off := 144) (tgt := 147) hx hb dX11_count_3 (by omega) (by omega) (by rw [c_38]; decide) (by decide +kernel) ?_
    refine lv_aload_n hx hb dX11_count_147 rfl (lv_at hl 1 rfl) ?_
    refine va_get (D := D) (ci := 11) (v := .ref k0) (C := RX11) (T := TX11) (N := 25) hx hb hT giX11 hown hK hP 0 rfl rfl 0 (by decide +kernel) (hT (Cond.fieldLink RX11 9 "DesertWireModel" "s" "[I") mw_1156) (fun _ h9 => h9) rfl dX11_count_148 ?_
    refine lv_iconst (v := 3) hx hb dX11_count_151 (by decide +kernel) ?_
    refine k_iald (v := (c0 3)) hx hb hK hP 1 0 rfl rfl (k_inl (by decide +kernel)) rfl dX11_count_152 ?_
    refine lv_topi (fun v_39 ev_39 => ?_)
    have lo_v_39 := k_lo v_39
    have hi_v_39 := k_hi v_39
    have tv_39 : v_39.toInt = (c0 3).toInt := by rw [ev_39]
    have b_40 : 0 ≤ v_39.toInt ∧ v_39.toInt ≤ 12 := by first | (rw [tv_39]; exact SB.n3 (And.left pre0)) | exact SB.n3 (And.left pre0) | omega
    exact hRet c4 [0, 1, 2] trivial hP hD (by decide +kernel) rfl hS rfl dX11_count_153
  by_cases c_41 : a0.toInt = 5
  · refine lv_tableIn (off := 151) (tgt := 154) hx hb dX11_count_3 (by omega) (by omega) (by rw [c_41]; decide) (by decide +kernel) ?_
    refine lv_aload_n hx hb dX11_count_154 rfl (lv_at hl 1 rfl) ?_
    refine va_get (D := D) (ci := 11) (v := .ref k0) (C := RX11) (T := TX11) (N := 25) hx hb hT giX11 hown hK hP 0 rfl rfl 0 (by decide +kernel) (hT (Cond.fieldLink RX11 9 "DesertWireModel" "s" "[I") mw_1156) (fun _ h9 => h9) rfl dX11_count_155 ?_
    refine lv_iconst (v := 0) hx hb dX11_count_158 (by decide +kernel) ?_
    refine k_iald (v := (c0 0)) hx hb hK hP 1 0 rfl rfl (k_inl (by decide +kernel)) rfl dX11_count_159 ?_
    refine lv_topi (fun v_42 ev_42 => ?_)
    have lo_v_42 := k_lo v_42
    have hi_v_42 := k_hi v_42
    have tv_42 : v_42.toInt = (c0 0).toInt := by rw [ev_42]
    have b_43 : 0 ≤ v_42.toInt ∧ v_42.toInt ≤ 2000 := by first | (rw [tv_42]; exact SB.n0 (And.left pre0)) | exact SB.n0 (And.left pre0) | omega
    exact hRet c4 [0, 1, 2] trivial hP hD (by decide +kernel) rfl hS rfl dX11_count_160
  by_cases c_44 : a0.toInt = 6
  · refine lv_tableIn (off := 158) (tgt := 161) hx hb dX11_count_3 (by omega) (by omega) (by rw [c_44]; decide) (by decide +kernel) ?_
    refine lv_aload_n hx hb dX11_count_161 rfl (lv_at hl 1 rfl) ?_
    refine va_get (D := D) (ci := 11) (v := .ref k0) (C := RX11) (T := TX11) (N := 25) hx hb hT giX11 hown hK hP 0 rfl rfl 0 (by decide +kernel) (hT (Cond.fieldLink RX11 9 "DesertWireModel" "s" "[I") mw_1156) (fun _ h9 => h9) rfl dX11_count_162 ?_
    refine lv_iconst (v := 4) hx hb dX11_count_165 (by decide +kernel) ?_
    refine k_iald (v := (c0 4)) hx hb hK hP 1 0 rfl rfl (k_inl (by decide +kernel)) rfl dX11_count_166 ?_
    refine lv_topi (fun v_45 ev_45 => ?_)
    have lo_v_45 := k_lo v_45
    have hi_v_45 := k_hi v_45
    have tv_45 : v_45.toInt = (c0 4).toInt := by rw [ev_45]
    have b_46 : 0 ≤ v_45.toInt ∧ v_45.toInt ≤ 50 := by first | (rw [tv_45]; exact SB.n4 (And.left pre0)) | exact SB.n4 (And.left pre0) | omega
    exact hRet c4 [0, 1, 2] trivial hP hD (by decide +kernel) rfl hS rfl dX11_count_167
  by_cases c_47 : a0.toInt = 7
  · refine lv_tableIn (off := 165) (tgt := 168) hx hb dX11_count_3 (by omega) (by omega) (by rw [c_47]; decide) (by decide +kernel) ?_
    refine lv_aload_n hx hb dX11_count_168 rfl (lv_at hl 1 rfl) ?_
    refine va_get (D := D) (ci := 11) (v := .int c9) (C := RX11) (T := TX11) (N := 25) hx hb hT giX11 hown hK hP 0 rfl rfl 9 (by decide +kernel) (hT (Cond.fieldLink RX11 267 "DesertWireModel" "traces" "I") mw_1165) (fun _ h9 => h9) rfl dX11_count_169 ?_
    exact hRet c4 [0, 1, 2] trivial hP hD (by decide +kernel) rfl hS rfl dX11_count_172
  by_cases c_48 : a0.toInt = 8
  · refine lv_tableIn (off := 170) (tgt := 173) hx hb dX11_count_3 (by omega) (by omega) (by rw [c_48]; decide) (by decide +kernel) ?_
    refine lv_aload_n hx hb dX11_count_173 rfl (lv_at hl 1 rfl) ?_
    refine va_get (D := D) (ci := 11) (v := .ref k0) (C := RX11) (T := TX11) (N := 25) hx hb hT giX11 hown hK hP 0 rfl rfl 0 (by decide +kernel) (hT (Cond.fieldLink RX11 9 "DesertWireModel" "s" "[I") mw_1156) (fun _ h9 => h9) rfl dX11_count_174 ?_
    refine lv_iconst (v := 5) hx hb dX11_count_177 (by decide +kernel) ?_
    refine k_iald (v := (c0 5)) hx hb hK hP 1 0 rfl rfl (k_inl (by decide +kernel)) rfl dX11_count_178 ?_
    refine lv_topi (fun v_49 ev_49 => ?_)
    have lo_v_49 := k_lo v_49
    have hi_v_49 := k_hi v_49
    have tv_49 : v_49.toInt = (c0 5).toInt := by rw [ev_49]
    have b_50 : 0 ≤ v_49.toInt ∧ v_49.toInt ≤ 20 := by first | (rw [tv_49]; exact SB.n5 (And.left pre0)) | exact SB.n5 (And.left pre0) | omega
    exact hRet c4 [0, 1, 2] trivial hP hD (by decide +kernel) rfl hS rfl dX11_count_179
  by_cases c_51 : a0.toInt = 9
  · refine lv_tableIn (off := 177) (tgt := 180) hx hb dX11_count_3 (by omega) (by omega) (by rw [c_51]; decide) (by decide +kernel) ?_
    refine lv_aload_n hx hb dX11_count_180 rfl (lv_at hl 1 rfl) ?_
    refine kJi (wr := [(k4, .inl (cI, 6, .inl c4))]) (va_runV (As := []) (rest := []) ⟨hx, hb, hml, hown, hT⟩ (c_X11_wiredG l D cI aK aV k k0 k1 k2 k4 k5 k6 k7 k8 ka kb kl ko s.heap.size c3 c9 cc cd ce cf cg ch ci cj ck cm cn c0 (And.left pre0)) (cwV 0 hT (gV_in mw_1562 mw_1559 mw_1561 mw_p6_4 mw_12) rfl rfl rfl (by decide +kernel) ⟨Nat.le_of_ble_eq_true rfl, Nat.le_of_ble_eq_true rfl⟩) (kRecvX (q0 := 0) (ci := 11) hK hP hD hN hXS hS hA rfl rfl [0, 1] rfl (by decide +kernel)) rfl rfl hl.1 rfl (lv_room (Nat.le_of_ble_eq_true rfl)) dX11_count_181 ⟨Nat.le_of_ble_eq_true rfl, Nat.le_of_ble_eq_true rfl⟩) hP hD hS hA [0, 1] [2] rfl rfl (by decide +kernel) (by decide +kernel) ?_
    clear hP hD hS
    intro r_52 u_54 H locs w_53 hP hD hS
    replace hP : va_P D vwCl [(k4, .inl (cI, 6, .inl c4)), (k, .inr (11, [.ref k0, .ref k1, .ref k2, .int c3, .ref k4, .ref k5, .ref k6, .ref k7, .ref k8, .int c9, .ref ka, .ref kb, .int cc, .int cd, .int ce, .int cf, .int cg, .int ch, .int ci, .int cj, .int ck, .ref kl, .int cm, .int cn, .ref ko])), (k0, .inl (cI, 1201, .inl c0))] H := hP
    replace hD : va_D A [(k4, .inl (cI, 6, .inl c4)), (k, .inr (11, [.ref k0, .ref k1, .ref k2, .int c3, .ref k4, .ref k5, .ref k6, .ref k7, .ref k8, .int c9, .ref ka, .ref kb, .int cc, .int cd, .int ce, .int cf, .int cg, .int ch, .int ci, .int cj, .int ck, .ref kl, .int cm, .int cn, .ref ko])), (k0, .inl (cI, 1201, .inl c0))] := hD
    have h_55 := w_53
    have h_55 : r_52 = wmN c0 40 := h_55
    have lo_r_52 := k_lo r_52
    have hi_r_52 := k_hi r_52
    exact hRet c4 [1, 2, 0] trivial hP hD (by decide +kernel) rfl hS rfl dX11_count_184
  by_cases c_56 : a0.toInt = 10
  · refine lv_tableIn (off := 182) (tgt := 185) hx hb dX11_count_3 (by omega) (by omega) (by rw [c_56]; decide) (by decide +kernel) ?_
    refine lv_iconst (v := 0) hx hb dX11_count_185 (by decide +kernel) ?_
    refine lv_istore_n (lv' := [(3, .int 0), (2, .int 0), (0, .ref k), (1, .int a0)]) hx hb dX11_count_186 rfl hl (by decide +kernel) rfl ?_
    clear hl
    intro ls hl
    have hloop_187 : ∀ (fu_ : Nat) (l187_2 : Int32) (l187_3 : Int32), 0 ≤ l187_3.toInt → ((c0 1).toInt - l187_3.toInt).toNat < fu_ → ∀ (ls : Array Slot) (H : Heap) (locs : List Loc), lv_has ls 4 [(3, .int l187_3), (2, .int l187_2), (0, .ref k), (1, .int a0)] → va_P D vwCl [(k, .inr (11, [.ref k0, .ref k1, .ref k2, .int c3, .ref k4, .ref k5, .ref k6, .ref k7, .ref k8, .int c9, .ref ka, .ref kb, .int cc, .int cd, .int ce, .int cf, .int cg, .int ch, .int ci, .int cj, .int ck, .ref kl, .int cm, .int cn, .ref ko])), (k0, .inl (cI, 1201, .inl c0)), (k4, .inl (cI, 6, .inl c4))] H → va_D A [(k, .inr (11, [.ref k0, .ref k1, .ref k2, .int c3, .ref k4, .ref k5, .ref k6, .ref k7, .ref k8, .int c9, .ref ka, .ref kb, .int cc, .int cd, .int ce, .int cf, .int cg, .int ch, .int ci, .int cj, .int ck, .ref kl, .int cm, .int cn, .ref ko])), (k0, .inl (cI, 1201, .inl c0)), (k4, .inl (cI, 6, .inl c4))] → va_S A s.heap H locs → W p l e ({ frames := 5, cells := 0, slots := 0, locals := 109 } : Room) s m args below meth c H locs 0 0 Q (F0 m 187 ls []) := by
      intro fu_; induction fu_ with
      | zero => intro l187_2 l187_3 i187_0 hm; exact absurd hm (by omega)
      | succ fu_ ih187 =>
          intro l187_2 l187_3 i187_0 hm ls H locs hl hP hD hS
          have lo_l187_2 := k_lo l187_2
          have hi_l187_2 := k_hi l187_2
          have lo_l187_3 := k_lo l187_3
          have hi_l187_3 := k_hi l187_3
          refine lv_iload_n hx hb dX11_count_187 rfl (lv_at hl 0 rfl) ?_
          refine lv_aload_n hx hb dX11_count_188 rfl (lv_at hl 2 rfl) ?_
          refine va_get (D := D) (ci := 11) (v := .ref k0) (C := RX11) (T := TX11) (N := 25) hx hb hT giX11 hown hK hP 0 rfl rfl 0 (by decide +kernel) (hT (Cond.fieldLink RX11 9 "DesertWireModel" "s" "[I") mw_1156) (fun _ h9 => h9) rfl dX11_count_189 ?_
          refine lv_iconst (v := 1) hx hb dX11_count_192 (by decide +kernel) ?_
          refine k_iald (v := (c0 1)) hx hb hK hP 1 0 rfl rfl (k_inl (by decide +kernel)) rfl dX11_count_193 ?_
          refine lv_topi (fun v_57 ev_57 => ?_)
          have lo_v_57 := k_lo v_57
          have hi_v_57 := k_hi v_57
          have tv_57 : v_57.toInt = (c0 1).toInt := by rw [ev_57]
          have b_58 : 0 ≤ v_57.toInt ∧ v_57.toInt ≤ 60 := by first | (rw [tv_57]; exact SB.n1 (And.left pre0)) | exact SB.n1 (And.left pre0) | omega
          refine b_icmp_ge hx hb rfl rfl (tgt := 220) dX11_count_194 (by decide +kernel) (fun c_59 => ?_) (fun c_59 => ?_)
          · refine lv_iload_n hx hb dX11_count_220 rfl (lv_at hl 1 rfl) ?_
            exact hRet c4 [0, 1, 2] trivial hP hD (by decide +kernel) rfl hS rfl dX11_count_221
          · refine lv_iload_n hx hb dX11_count_197 rfl (lv_at hl 1 rfl) ?_
            refine lv_aload_n hx hb dX11_count_198 rfl (lv_at hl 2 rfl) ?_
            refine lv_iload_n hx hb dX11_count_199 rfl (lv_at hl 0 rfl) ?_
            refine lv_iconst (v := 3) hx hb dX11_count_200 (by decide +kernel) ?_
            refine kJi (wr := [(k4, .inl (cI, 6, .inl c4))]) (va_runV (As := [.int l187_3, .int 3]) (rest := [.int l187_2]) ⟨hx, hb, hml, hown, hT⟩ (c_X11_standsG l D cI aK aV k k0 k1 k2 k4 k5 k6 k7 k8 ka kb kl ko H.size c3 c9 cc cd ce cf cg ch ci cj ck cm cn c0 l187_3 3 (by first | omega | (simp only [zl_3]; first | done | omega) | decide | assumption | rfl) (by first | omega | (simp only [zl_3]; first | done | omega) | decide | assumption | rfl) (And.left pre0)) (cwV 2 hT (gV_in mw_1295 mw_1292 mw_1294 mw_p3_14 mw_12) rfl rfl rfl (by decide +kernel) ⟨Nat.le_of_ble_eq_true rfl, Nat.le_of_ble_eq_true rfl⟩) (kRecvX (q0 := 0) (ci := 11) hK hP hD hN hXS hS hA rfl rfl [0, 1] rfl (by decide +kernel)) rfl rfl hl.1 rfl (lv_room (Nat.le_of_ble_eq_true rfl)) dX11_count_201 ⟨Nat.le_of_ble_eq_true rfl, Nat.le_of_ble_eq_true rfl⟩) hP hD hS hA [0, 1] [2] rfl rfl (by decide +kernel) (by decide +kernel) ?_
            clear hP hD hS
            intro r_60 u_62 H locs w_61 hP hD hS
            replace hP : va_P D vwCl [(k4, .inl (cI, 6, .inl c4)), (k, .inr (11, [.ref k0, .ref k1, .ref k2, .int c3, .ref k4, .ref k5, .ref k6, .ref k7, .ref k8, .int c9, .ref ka, .ref kb, .int cc, .int cd, .int ce, .int cf, .int cg, .int ch, .int ci, .int cj, .int ck, .ref kl, .int cm, .int cn, .ref ko])), (k0, .inl (cI, 1201, .inl c0))] H := hP
            replace hD : va_D A [(k4, .inl (cI, 6, .inl c4)), (k, .inr (11, [.ref k0, .ref k1, .ref k2, .int c3, .ref k4, .ref k5, .ref k6, .ref k7, .ref k8, .int c9, .ref ka, .ref kb, .int cc, .int cd, .int ce, .int cf, .int cg, .int ch, .int ci, .int cj, .int ck, .ref kl, .int cm, .int cn, .ref ko])), (k0, .inl (cI, 1201, .inl c0))] := hD
            rcases w_61 with ⟨hr_60, h_63⟩ | ⟨hr_60, h_64⟩
            · try simp only [zl_3] at h_63
              have h_63 : stF c0 l187_3 3 = 1 := h_63
              obtain rfl : r_60 = 1 := hr_60.trans (by decide +kernel)
              refine b_if_eq hx hb zl_1 (tgt := 211) dX11_count_204 (by decide +kernel) (fun c_65 => by exfalso; omega) (fun c_65 => ?_)
              refine lv_iconst (v := 1) hx hb dX11_count_207 (by decide +kernel) ?_
              refine lv_goto (tgt := 212) hx hb dX11_count_208 (by decide +kernel) ?_
              refine lv_iadd hx hb dX11_count_212 ?_
              refine lv_topi (fun v_66 ev_66 => ?_)
              have lo_v_66 := k_lo v_66
              have hi_v_66 := k_hi v_66
              refine lv_istore_n (lv' := [(2, .int v_66), (3, .int l187_3), (0, .ref k), (1, .int a0)]) hx hb dX11_count_213 rfl hl (by decide +kernel) rfl ?_
              clear hl
              intro ls hl
              obtain ⟨v_67, ev_67⟩ : ∃ y : Int32, y = l187_3 + 1 := ⟨_, rfl⟩
              have tv_67 : v_67.toInt = l187_3.toInt + 1 := by rw [ev_67]; exact k_addv rfl zl_1 (by omega) (by omega)
              refine lv_iinc (v := v_67) (lv' := [(3, .int v_67), (2, .int v_66), (0, .ref k), (1, .int a0)]) hx hb dX11_count_214 hl (k := 1) rfl (by rw [ev_67]; rfl) (by decide +kernel) rfl ?_
              clear hl
              intro ls hl
              refine lv_goto (tgt := 187) hx hb dX11_count_217 (by decide +kernel) ?_
              exact ih187 v_66 v_67 (by first | omega | decide | assumption | rfl) (by omega) ls _ _ (lv_sub hl [0, 1, 2, 3] rfl) (hP.sub [1, 2, 0] rfl) (hD.sub [1, 2, 0] (by decide +kernel) rfl) hS
            · try simp only [zl_3] at h_64
              have h_64 : stF c0 l187_3 3 = 0 := h_64
              obtain rfl : r_60 = 0 := hr_60.trans (by decide +kernel)
              refine b_if_eq hx hb zl_0 (tgt := 211) dX11_count_204 (by decide +kernel) (fun c_68 => ?_) (fun c_68 => by exfalso; omega)
              refine lv_iconst (v := 0) hx hb dX11_count_211 (by decide +kernel) ?_
              refine lv_iadd hx hb dX11_count_212 ?_
              refine lv_topi (fun v_69 ev_69 => ?_)
              have tv_69 : v_69.toInt = l187_2.toInt + 0 := by rw [ev_69]; exact k_addv rfl zl_0 (by omega) (by omega)
              refine lv_istore_n (lv' := [(2, .int v_69), (3, .int l187_3), (0, .ref k), (1, .int a0)]) hx hb dX11_count_213 rfl hl (by decide +kernel) rfl ?_
              clear hl
              intro ls hl
              obtain ⟨v_70, ev_70⟩ : ∃ y : Int32, y = l187_3 + 1 := ⟨_, rfl⟩
              have tv_70 : v_70.toInt = l187_3.toInt + 1 := by rw [ev_70]; exact k_addv rfl zl_1 (by omega) (by omega)
              refine lv_iinc (v := v_70) (lv' := [(3, .int v_70), (2, .int v_69), (0, .ref k), (1, .int a0)]) hx hb dX11_count_214 hl (k := 1) rfl (by rw [ev_70]; rfl) (by decide +kernel) rfl ?_
              clear hl
              intro ls hl
              refine lv_goto (tgt := 187) hx hb dX11_count_217 (by decide +kernel) ?_
              exact ih187 v_69 v_70 (by first | omega | decide | assumption | rfl) (by omega) ls _ _ (lv_sub hl [0, 1, 2, 3] rfl) (hP.sub [1, 2, 0] rfl) (hD.sub [1, 2, 0] (by decide +kernel) rfl) hS
    exact hloop_187 _ 0 0 (by first | omega | (simp only [zl_0]; first | done | omega) | decide | assumption | rfl) (Nat.lt_succ_self _) ls _ _ (lv_sub hl [0, 1, 2, 3] rfl) hP hD hS
  by_cases c_71 : a0.toInt = 11
  · refine lv_tableIn (off := 219) (tgt := 222) hx hb dX11_count_3 (by omega) (by omega) (by rw [c_71]; decide) (by decide +kernel) ?_
    refine lv_iconst (v := 0) hx hb dX11_count_222 (by decide +kernel) ?_
    refine lv_istore_n (lv' := [(3, .int 0), (2, .int 0), (0, .ref k), (1, .int a0)]) hx hb dX11_count_223 rfl hl (by decide +kernel) rfl ?_
    clear hl
    intro ls hl
    have hloop_224 : ∀ (fu_ : Nat) (l224_2 : Int32) (l224_3 : Int32), 0 ≤ l224_3.toInt → ((c0 2).toInt - l224_3.toInt).toNat < fu_ → ∀ (ls : Array Slot) (H : Heap) (locs : List Loc), lv_has ls 4 [(3, .int l224_3), (2, .int l224_2), (0, .ref k), (1, .int a0)] → va_P D vwCl [(k, .inr (11, [.ref k0, .ref k1, .ref k2, .int c3, .ref k4, .ref k5, .ref k6, .ref k7, .ref k8, .int c9, .ref ka, .ref kb, .int cc, .int cd, .int ce, .int cf, .int cg, .int ch, .int ci, .int cj, .int ck, .ref kl, .int cm, .int cn, .ref ko])), (k0, .inl (cI, 1201, .inl c0)), (k4, .inl (cI, 6, .inl c4))] H → va_D A [(k, .inr (11, [.ref k0, .ref k1, .ref k2, .int c3, .ref k4, .ref k5, .ref k6, .ref k7, .ref k8, .int c9, .ref ka, .ref kb, .int cc, .int cd, .int ce, .int cf, .int cg, .int ch, .int ci, .int cj, .int ck, .ref kl, .int cm, .int cn, .ref ko])), (k0, .inl (cI, 1201, .inl c0)), (k4, .inl (cI, 6, .inl c4))] → va_S A s.heap H locs → W p l e ({ frames := 5, cells := 0, slots := 0, locals := 109 } : Room) s m args below meth c H locs 0 0 Q (F0 m 224 ls []) := by
      intro fu_; induction fu_ with
      | zero => intro l224_2 l224_3 i224_0 hm; exact absurd hm (by omega)
      | succ fu_ ih224 =>
          intro l224_2 l224_3 i224_0 hm ls H locs hl hP hD hS
          have lo_l224_2 := k_lo l224_2
          have hi_l224_2 := k_hi l224_2
          have lo_l224_3 := k_lo l224_3
          have hi_l224_3 := k_hi l224_3
          refine lv_iload_n hx hb dX11_count_224 rfl (lv_at hl 0 rfl) ?_
          refine lv_aload_n hx hb dX11_count_225 rfl (lv_at hl 2 rfl) ?_
          refine va_get (D := D) (ci := 11) (v := .ref k0) (C := RX11) (T := TX11) (N := 25) hx hb hT giX11 hown hK hP 0 rfl rfl 0 (by decide +kernel) (hT (Cond.fieldLink RX11 9 "DesertWireModel" "s" "[I") mw_1156) (fun _ h9 => h9) rfl dX11_count_226 ?_
          refine lv_iconst (v := 2) hx hb dX11_count_229 (by decide +kernel) ?_
          refine k_iald (v := (c0 2)) hx hb hK hP 1 0 rfl rfl (k_inl (by decide +kernel)) rfl dX11_count_230 ?_
          refine lv_topi (fun v_72 ev_72 => ?_)
          have lo_v_72 := k_lo v_72
          have hi_v_72 := k_hi v_72
          have tv_72 : v_72.toInt = (c0 2).toInt := by rw [ev_72]
          have b_73 : 0 ≤ v_72.toInt ∧ v_72.toInt ≤ 4 := by first | (rw [tv_72]; exact SB.n2 (And.left pre0)) | exact SB.n2 (And.left pre0) | omega
          refine b_icmp_ge hx hb rfl rfl (tgt := 249) dX11_count_231 (by decide +kernel) (fun c_74 => ?_) (fun c_74 => ?_)
          · refine lv_iload_n hx hb dX11_count_249 rfl (lv_at hl 1 rfl) ?_
            exact hRet c4 [0, 1, 2] trivial hP hD (by decide +kernel) rfl hS rfl dX11_count_250
          · refine lv_iload_n hx hb dX11_count_234 rfl (lv_at hl 1 rfl) ?_
            refine lv_aload_n hx hb dX11_count_235 rfl (lv_at hl 2 rfl) ?_
            refine lv_iload_n hx hb dX11_count_236 rfl (lv_at hl 0 rfl) ?_
            refine lv_iconst (v := 2) hx hb dX11_count_237 (by decide +kernel) ?_
            refine kJi (wr := [(k4, .inl (cI, 6, .inl c4))]) (va_runV (As := [.int l224_3, .int 2]) (rest := [.int l224_2]) ⟨hx, hb, hml, hown, hT⟩ (c_X11_partyG2 l D cI aK aV k k0 k1 k2 k4 k5 k6 k7 k8 ka kb kl ko H.size c3 c9 cc cd ce cf cg ch ci cj ck cm cn c0 l224_3 2 (by first | omega | (simp only [zl_2]; first | done | omega) | decide | assumption | rfl) (by first | omega | (simp only [zl_2]; first | done | omega) | decide | assumption | rfl) (by first | omega | (simp only [zl_2]; first | done | omega) | decide | assumption | rfl)) (cwV 2 hT (gV_in mw_1416 mw_1413 mw_1415 mw_p5_5 mw_12) rfl rfl rfl (by decide +kernel) ⟨Nat.le_of_ble_eq_true rfl, Nat.le_of_ble_eq_true rfl⟩) (kRecvX (q0 := 0) (ci := 11) hK hP hD hN hXS hS hA rfl rfl [0, 1] rfl (by decide +kernel)) rfl rfl hl.1 rfl (lv_room (Nat.le_of_ble_eq_true rfl)) dX11_count_238 ⟨Nat.le_of_ble_eq_true rfl, Nat.le_of_ble_eq_true rfl⟩) hP hD hS hA [0, 1] [2] rfl rfl (by decide +kernel) (by decide +kernel) ?_
            clear hP hD hS
            intro r_75 u_77 H locs w_76 hP hD hS
            replace hP : va_P D vwCl [(k4, .inl (cI, 6, .inl c4)), (k, .inr (11, [.ref k0, .ref k1, .ref k2, .int c3, .ref k4, .ref k5, .ref k6, .ref k7, .ref k8, .int c9, .ref ka, .ref kb, .int cc, .int cd, .int ce, .int cf, .int cg, .int ch, .int ci, .int cj, .int ck, .ref kl, .int cm, .int cn, .ref ko])), (k0, .inl (cI, 1201, .inl c0))] H := hP
            replace hD : va_D A [(k4, .inl (cI, 6, .inl c4)), (k, .inr (11, [.ref k0, .ref k1, .ref k2, .int c3, .ref k4, .ref k5, .ref k6, .ref k7, .ref k8, .int c9, .ref ka, .ref kb, .int cc, .int cd, .int ce, .int cf, .int cg, .int ch, .int ci, .int cj, .int ck, .ref kl, .int cm, .int cn, .ref ko])), (k0, .inl (cI, 1201, .inl c0))] := hD
            have h_78 := w_76
            have h_78 : r_75 = pW c0 l224_3 2 := h_78
            have t_79 : r_75.toInt = (pW c0 l224_3 2).toInt := by rw [h_78]
            have b_80 : 0 ≤ r_75.toInt ∧ r_75.toInt ≤ 50 := by rw [h_78]; exact SB.p2 (And.left pre0) (by omega) (by omega)
            have lo_r_75 := k_lo r_75
            have hi_r_75 := k_hi r_75
            refine lv_iadd hx hb dX11_count_241 ?_
            refine lv_topi (fun v_81 ev_81 => ?_)
            have lo_v_81 := k_lo v_81
            have hi_v_81 := k_hi v_81
            refine lv_istore_n (lv' := [(2, .int v_81), (3, .int l224_3), (0, .ref k), (1, .int a0)]) hx hb dX11_count_242 rfl hl (by decide +kernel) rfl ?_
            clear hl
            intro ls hl
            obtain ⟨v_82, ev_82⟩ : ∃ y : Int32, y = l224_3 + 1 := ⟨_, rfl⟩
            have tv_82 : v_82.toInt = l224_3.toInt + 1 := by rw [ev_82]; exact k_addv rfl zl_1 (by omega) (by omega)
            refine lv_iinc (v := v_82) (lv' := [(3, .int v_82), (2, .int v_81), (0, .ref k), (1, .int a0)]) hx hb dX11_count_243 hl (k := 1) rfl (by rw [ev_82]; rfl) (by decide +kernel) rfl ?_
            clear hl
            intro ls hl
            refine lv_goto (tgt := 224) hx hb dX11_count_246 (by decide +kernel) ?_
            exact ih224 v_81 v_82 (by first | omega | decide | assumption | rfl) (by omega) ls _ _ (lv_sub hl [0, 1, 2, 3] rfl) (hP.sub [1, 2, 0] rfl) (hD.sub [1, 2, 0] (by decide +kernel) rfl) hS
    exact hloop_224 _ 0 0 (by first | omega | (simp only [zl_0]; first | done | omega) | decide | assumption | rfl) (Nat.lt_succ_self _) ls _ _ (lv_sub hl [0, 1, 2, 3] rfl) hP hD hS
  by_cases c_83 : a0.toInt = 12
  · refine lv_tableIn (off := 248) (tgt := 251) hx hb dX11_count_3 (by omega) (by omega) (by rw [c_83]; decide) (by decide +kernel) ?_
    refine lv_iconst (v := 0) hx hb dX11_count_251 (by decide +kernel) ?_
    refine lv_istore_n (lv' := [(3, .int 0), (2, .int 0), (0, .ref k), (1, .int a0)]) hx hb dX11_count_252 rfl hl (by decide +kernel) rfl ?_
    clear hl
    intro ls hl
    have hloop_253 : ∀ (fu_ : Nat) (l253_2 : Int32) (l253_3 : Int32), 0 ≤ l253_3.toInt → ((c0 1).toInt - l253_3.toInt).toNat < fu_ → ∀ (ls : Array Slot) (H : Heap) (locs : List Loc), lv_has ls 4 [(3, .int l253_3), (2, .int l253_2), (0, .ref k), (1, .int a0)] → va_P D vwCl [(k, .inr (11, [.ref k0, .ref k1, .ref k2, .int c3, .ref k4, .ref k5, .ref k6, .ref k7, .ref k8, .int c9, .ref ka, .ref kb, .int cc, .int cd, .int ce, .int cf, .int cg, .int ch, .int ci, .int cj, .int ck, .ref kl, .int cm, .int cn, .ref ko])), (k0, .inl (cI, 1201, .inl c0)), (k4, .inl (cI, 6, .inl c4))] H → va_D A [(k, .inr (11, [.ref k0, .ref k1, .ref k2, .int c3, .ref k4, .ref k5, .ref k6, .ref k7, .ref k8, .int c9, .ref ka, .ref kb, .int cc, .int cd, .int ce, .int cf, .int cg, .int ch, .int ci, .int cj, .int ck, .ref kl, .int cm, .int cn, .ref ko])), (k0, .inl (cI, 1201, .inl c0)), (k4, .inl (cI, 6, .inl c4))] → va_S A s.heap H locs → W p l e ({ frames := 5, cells := 0, slots := 0, locals := 109 } : Room) s m args below meth c H locs 0 0 Q (F0 m 253 ls []) := by
      intro fu_; induction fu_ with
      | zero => intro l253_2 l253_3 i253_0 hm; exact absurd hm (by omega)
      | succ fu_ ih253 =>
          intro l253_2 l253_3 i253_0 hm ls H locs hl hP hD hS
          have lo_l253_2 := k_lo l253_2
          have hi_l253_2 := k_hi l253_2
          have lo_l253_3 := k_lo l253_3
          have hi_l253_3 := k_hi l253_3
          refine lv_iload_n hx hb dX11_count_253 rfl (lv_at hl 0 rfl) ?_
          refine lv_aload_n hx hb dX11_count_254 rfl (lv_at hl 2 rfl) ?_
          refine va_get (D := D) (ci := 11) (v := .ref k0) (C := RX11) (T := TX11) (N := 25) hx hb hT giX11 hown hK hP 0 rfl rfl 0 (by decide +kernel) (hT (Cond.fieldLink RX11 9 "DesertWireModel" "s" "[I") mw_1156) (fun _ h9 => h9) rfl dX11_count_255 ?_
          refine lv_iconst (v := 1) hx hb dX11_count_258 (by decide +kernel) ?_
          refine k_iald (v := (c0 1)) hx hb hK hP 1 0 rfl rfl (k_inl (by decide +kernel)) rfl dX11_count_259 ?_
          refine lv_topi (fun v_84 ev_84 => ?_)
          have lo_v_84 := k_lo v_84
          have hi_v_84 := k_hi v_84
          have tv_84 : v_84.toInt = (c0 1).toInt := by rw [ev_84]
          have b_85 : 0 ≤ v_84.toInt ∧ v_84.toInt ≤ 60 := by first | (rw [tv_84]; exact SB.n1 (And.left pre0)) | exact SB.n1 (And.left pre0) | omega
          refine b_icmp_ge hx hb rfl rfl (tgt := 291) dX11_count_260 (by decide +kernel) (fun c_86 => ?_) (fun c_86 => ?_)
          · refine lv_iload_n hx hb dX11_count_291 rfl (lv_at hl 1 rfl) ?_
            exact hRet c4 [0, 1, 2] trivial hP hD (by decide +kernel) rfl hS rfl dX11_count_292
          · refine lv_iload_n hx hb dX11_count_263 rfl (lv_at hl 1 rfl) ?_
            refine lv_aload_n hx hb dX11_count_264 rfl (lv_at hl 2 rfl) ?_
            refine lv_iload_n hx hb dX11_count_265 rfl (lv_at hl 0 rfl) ?_
            refine lv_iconst (v := 5) hx hb dX11_count_266 (by decide +kernel) ?_
            refine kJi (wr := [(k4, .inl (cI, 6, .inl c4))]) (va_runV (As := [.int l253_3, .int 5]) (rest := [.int l253_2]) ⟨hx, hb, hml, hown, hT⟩ (c_X11_standsG l D cI aK aV k k0 k1 k2 k4 k5 k6 k7 k8 ka kb kl ko H.size c3 c9 cc cd ce cf cg ch ci cj ck cm cn c0 l253_3 5 (by first | omega | (simp only [zl_5]; first | done | omega) | decide | assumption | rfl) (by first | omega | (simp only [zl_5]; first | done | omega) | decide | assumption | rfl) (And.left pre0)) (cwV 2 hT (gV_in mw_1295 mw_1292 mw_1294 mw_p3_14 mw_12) rfl rfl rfl (by decide +kernel) ⟨Nat.le_of_ble_eq_true rfl, Nat.le_of_ble_eq_true rfl⟩) (kRecvX (q0 := 0) (ci := 11) hK hP hD hN hXS hS hA rfl rfl [0, 1] rfl (by decide +kernel)) rfl rfl hl.1 rfl (lv_room (Nat.le_of_ble_eq_true rfl)) dX11_count_267 ⟨Nat.le_of_ble_eq_true rfl, Nat.le_of_ble_eq_true rfl⟩) hP hD hS hA [0, 1] [2] rfl rfl (by decide +kernel) (by decide +kernel) ?_
            clear hP hD hS
            intro r_87 u_89 H locs w_88 hP hD hS
            replace hP : va_P D vwCl [(k4, .inl (cI, 6, .inl c4)), (k, .inr (11, [.ref k0, .ref k1, .ref k2, .int c3, .ref k4, .ref k5, .ref k6, .ref k7, .ref k8, .int c9, .ref ka, .ref kb, .int cc, .int cd, .int ce, .int cf, .int cg, .int ch, .int ci, .int cj, .int ck, .ref kl, .int cm, .int cn, .ref ko])), (k0, .inl (cI, 1201, .inl c0))] H := hP
            replace hD : va_D A [(k4, .inl (cI, 6, .inl c4)), (k, .inr (11, [.ref k0, .ref k1, .ref k2, .int c3, .ref k4, .ref k5, .ref k6, .ref k7, .ref k8, .int c9, .ref ka, .ref kb, .int cc, .int cd, .int ce, .int cf, .int cg, .int ch, .int ci, .int cj, .int ck, .ref kl, .int cm, .int cn, .ref ko])), (k0, .inl (cI, 1201, .inl c0))] := hD
            rcases w_88 with ⟨hr_87, h_90⟩ | ⟨hr_87, h_91⟩
            · try simp only [zl_5] at h_90
              have h_90 : stF c0 l253_3 5 = 1 := h_90
              obtain rfl : r_87 = 1 := hr_87.trans (by decide +kernel)
              refine b_if_eq hx hb zl_1 (tgt := 282) dX11_count_270 (by decide +kernel) (fun c_92 => by exfalso; omega) (fun c_92 => ?_)
              refine lv_aload_n hx hb dX11_count_273 rfl (lv_at hl 2 rfl) ?_
              refine lv_iload_n hx hb dX11_count_274 rfl (lv_at hl 0 rfl) ?_
              refine lv_iconst (v := 5) hx hb dX11_count_275 (by decide +kernel) ?_
              refine kJi (wr := [(k4, .inl (cI, 6, .inl c4))]) (va_runV (As := [.int l253_3, .int 5]) (rest := [.int l253_2]) ⟨hx, hb, hml, hown, hT⟩ (c_X11_workG5 l D cI aK aV k k0 k1 k2 k4 k5 k6 k7 k8 ka kb kl ko H.size c3 c9 cc cd ce cf cg ch ci cj ck cm cn c0 l253_3 5 (by first | omega | (simp only [zl_5]; first | done | omega) | decide | assumption | rfl) (by first | omega | (simp only [zl_5]; first | done | omega) | decide | assumption | rfl) (by first | omega | (simp only [zl_5]; first | done | omega) | decide | assumption | rfl)) (cwV 2 hT (gV_in mw_1276 mw_1273 mw_1275 mw_p3_12 mw_12) rfl rfl rfl (by decide +kernel) ⟨Nat.le_of_ble_eq_true rfl, Nat.le_of_ble_eq_true rfl⟩) (kRecvX (q0 := 1) (ci := 11) hK hP hD hN hXS hS hA rfl rfl [1, 2] rfl (by decide +kernel)) rfl rfl hl.1 rfl (lv_room (Nat.le_of_ble_eq_true rfl)) dX11_count_276 ⟨Nat.le_of_ble_eq_true rfl, Nat.le_of_ble_eq_true rfl⟩) hP hD hS hA [1, 2] [0] rfl rfl (by decide +kernel) (by decide +kernel) ?_
              clear hP hD hS
              intro r_93 u_95 H locs w_94 hP hD hS
              replace hP : va_P D vwCl [(k4, .inl (cI, 6, .inl c4)), (k, .inr (11, [.ref k0, .ref k1, .ref k2, .int c3, .ref k4, .ref k5, .ref k6, .ref k7, .ref k8, .int c9, .ref ka, .ref kb, .int cc, .int cd, .int ce, .int cf, .int cg, .int ch, .int ci, .int cj, .int ck, .ref kl, .int cm, .int cn, .ref ko])), (k0, .inl (cI, 1201, .inl c0))] H := hP
              replace hD : va_D A [(k4, .inl (cI, 6, .inl c4)), (k, .inr (11, [.ref k0, .ref k1, .ref k2, .int c3, .ref k4, .ref k5, .ref k6, .ref k7, .ref k8, .int c9, .ref ka, .ref kb, .int cc, .int cd, .int ce, .int cf, .int cg, .int ch, .int ci, .int cj, .int ck, .ref kl, .int cm, .int cn, .ref ko])), (k0, .inl (cI, 1201, .inl c0))] := hD
              have h_96 := w_94
              have h_96 : r_93 = wW c0 l253_3 5 := h_96
              have t_97 : r_93.toInt = (wW c0 l253_3 5).toInt := by rw [h_96]
              have b_98 : 0 ≤ r_93.toInt ∧ r_93.toInt ≤ 9999 := by rw [h_96]; exact SB.w5 (And.left pre0) (by omega) (by omega)
              have lo_r_93 := k_lo r_93
              have hi_r_93 := k_hi r_93
              refine lv_goto (tgt := 283) hx hb dX11_count_279 (by decide +kernel) ?_
              refine lv_iadd hx hb dX11_count_283 ?_
              refine lv_topi (fun v_99 ev_99 => ?_)
              have lo_v_99 := k_lo v_99
              have hi_v_99 := k_hi v_99
              refine lv_istore_n (lv' := [(2, .int v_99), (3, .int l253_3), (0, .ref k), (1, .int a0)]) hx hb dX11_count_284 rfl hl (by decide +kernel) rfl ?_
              clear hl
              intro ls hl
              obtain ⟨v_100, ev_100⟩ : ∃ y : Int32, y = l253_3 + 1 := ⟨_, rfl⟩
              have tv_100 : v_100.toInt = l253_3.toInt + 1 := by rw [ev_100]; exact k_addv rfl zl_1 (by omega) (by omega)
              refine lv_iinc (v := v_100) (lv' := [(3, .int v_100), (2, .int v_99), (0, .ref k), (1, .int a0)]) hx hb dX11_count_285 hl (k := 1) rfl (by rw [ev_100]; rfl) (by decide +kernel) rfl ?_
              clear hl
              intro ls hl
              refine lv_goto (tgt := 253) hx hb dX11_count_288 (by decide +kernel) ?_
              exact ih253 v_99 v_100 (by first | omega | decide | assumption | rfl) (by omega) ls _ _ (lv_sub hl [0, 1, 2, 3] rfl) (hP.sub [1, 2, 0] rfl) (hD.sub [1, 2, 0] (by decide +kernel) rfl) hS
            · try simp only [zl_5] at h_91
              have h_91 : stF c0 l253_3 5 = 0 := h_91
              obtain rfl : r_87 = 0 := hr_87.trans (by decide +kernel)
              refine b_if_eq hx hb zl_0 (tgt := 282) dX11_count_270 (by decide +kernel) (fun c_101 => ?_) (fun c_101 => by exfalso; omega)
              refine lv_iconst (v := 0) hx hb dX11_count_282 (by decide +kernel) ?_
              refine lv_iadd hx hb dX11_count_283 ?_
              refine lv_topi (fun v_102 ev_102 => ?_)
              have tv_102 : v_102.toInt = l253_2.toInt + 0 := by rw [ev_102]; exact k_addv rfl zl_0 (by omega) (by omega)
              refine lv_istore_n (lv' := [(2, .int v_102), (3, .int l253_3), (0, .ref k), (1, .int a0)]) hx hb dX11_count_284 rfl hl (by decide +kernel) rfl ?_
              clear hl
              intro ls hl
              obtain ⟨v_103, ev_103⟩ : ∃ y : Int32, y = l253_3 + 1 := ⟨_, rfl⟩
              have tv_103 : v_103.toInt = l253_3.toInt + 1 := by rw [ev_103]; exact k_addv rfl zl_1 (by omega) (by omega)
              refine lv_iinc (v := v_103) (lv' := [(3, .int v_103), (2, .int v_102), (0, .ref k), (1, .int a0)]) hx hb dX11_count_285 hl (k := 1) rfl (by rw [ev_103]; rfl) (by decide +kernel) rfl ?_
              clear hl
              intro ls hl
              refine lv_goto (tgt := 253) hx hb dX11_count_288 (by decide +kernel) ?_
              exact ih253 v_102 v_103 (by first | omega | decide | assumption | rfl) (by omega) ls _ _ (lv_sub hl [0, 1, 2, 3] rfl) (hP.sub [1, 2, 0] rfl) (hD.sub [1, 2, 0] (by decide +kernel) rfl) hS
    exact hloop_253 _ 0 0 (by first | omega | (simp only [zl_0]; first | done | omega) | decide | assumption | rfl) (Nat.lt_succ_self _) ls _ _ (lv_sub hl [0, 1, 2, 3] rfl) hP hD hS
  refine lv_tableOut (tgt := 293) hx hb dX11_count_3 (by omega) (by decide +kernel) ?_
  refine lv_aload_n hx hb dX11_count_293 rfl (lv_at hl 1 rfl) ?_
  refine lv_ldc (v := (-1000001)) hx hb hown (hT _ mw_1239) dX11_count_294 ?_
  refine kJi (wr := [(k0, .inl (cI, 1201, .inl c0))]) (va_runV (As := [.int (-1000001)]) (rest := []) ⟨hx, hb, hml, hown, hT⟩ (c_X11_findingG l D cI aK aV k k0 k1 k2 k4 k5 k6 k7 k8 ka kb kl ko s.heap.size c3 c9 cc cd ce cf cg ch ci cj ck cm cn c4 (-1000001) (by first | omega | (simp only [zl_m1000001]; first | done | omega) | decide | assumption | rfl) (by first | omega | (simp only [zl_m1000001]; first | done | omega) | decide | assumption | rfl)) (cwV 1 hT (gV_in mw_1243 mw_1240 mw_1242 mw_p3_8 mw_12) rfl rfl rfl (by decide +kernel) ⟨Nat.le_of_ble_eq_true rfl, Nat.le_of_ble_eq_true rfl⟩) (kRecvX (q0 := 0) (ci := 11) hK hP hD hN hXS hS hA rfl rfl [0, 2] rfl (by decide +kernel)) rfl rfl hl.1 rfl (lv_room (Nat.le_of_ble_eq_true rfl)) dX11_count_296 ⟨Nat.le_of_ble_eq_true rfl, Nat.le_of_ble_eq_true rfl⟩) hP hD hS hA [0, 2] [1] rfl rfl (by decide +kernel) (by decide +kernel) ?_
  clear hP hD hS
  intro r_104 sc4_106 H locs w_105 hP hD hS
  replace hP : va_P D vwCl [(k0, .inl (cI, 1201, .inl c0)), (k, .inr (11, [.ref k0, .ref k1, .ref k2, .int c3, .ref k4, .ref k5, .ref k6, .ref k7, .ref k8, .int c9, .ref ka, .ref kb, .int cc, .int cd, .int ce, .int cf, .int cg, .int ch, .int ci, .int cj, .int ck, .ref kl, .int cm, .int cn, .ref ko])), (k4, .inl (cI, 6, .inl sc4_106))] H := hP
  replace hD : va_D A [(k0, .inl (cI, 1201, .inl c0)), (k, .inr (11, [.ref k0, .ref k1, .ref k2, .int c3, .ref k4, .ref k5, .ref k6, .ref k7, .ref k8, .int c9, .ref ka, .ref kb, .int cc, .int cd, .int ce, .int cf, .int cg, .int ch, .int ci, .int cj, .int ck, .ref kl, .int cm, .int cn, .ref ko])), (k4, .inl (cI, 6, .inl sc4_106))] := hD
  have hr_104 := w_105
  obtain rfl : r_104 = (-1000001) := hr_104.trans (by decide +kernel)
  exact hRet sc4_106 [1, 0, 2] trivial hP hD (by decide +kernel) rfl hS rfl dX11_count_299
theorem bn_cX11_found_0 : BN cX11_found 0 0xad208056e40098ac1401540bc381400ad4560d00a6860015c8240a1c := by
  unfold BN; decide +kernel
theorem dX11_found_0 : decode cX11_found 0 = .ok (.iload_n 1, 1) := dR0 (k := 0) (i := 0) bn_cX11_found_0 dop_27 (by decide +kernel)
theorem dX11_found_1 : decode cX11_found 1 = .ok (.iconst 1, 1) := dR0 (k := 0) (i := 1) bn_cX11_found_0 dop_4 (by decide +kernel)
theorem dX11_found_2 : decode cX11_found 2 = .ok (.iconst 5, 1) := dR0 (k := 0) (i := 2) bn_cX11_found_0 dop_8 (by decide +kernel)
theorem dX11_found_3 : decode cX11_found 3 = .ok (.invokestatic 47, 3) := dR2 (f := Instr.invokestatic) (k := 0) (i := 3) bn_cX11_found_0 dop_184 47 (by decide +kernel)
theorem dX11_found_6 : decode cX11_found 6 = .ok (.ifCond .eq 12, 3) := dR2s (f := Instr.ifCond .eq) (k := 0) (i := 6) bn_cX11_found_0 dop_153 12 12 (by decide +kernel)
theorem dX11_found_9 : decode cX11_found 9 = .ok (.aload_n 0, 1) := dR0 (k := 0) (i := 9) bn_cX11_found_0 dop_42 (by decide +kernel)
theorem dX11_found_10 : decode cX11_found 10 = .ok (.getfield 19, 3) := dR2 (f := Instr.getfield) (k := 0) (i := 10) bn_cX11_found_0 dop_180 19 (by decide +kernel)
theorem dX11_found_13 : decode cX11_found 13 = .ok (.iload_n 1, 1) := dR0 (k := 0) (i := 13) bn_cX11_found_0 dop_27 (by decide +kernel)
theorem dX11_found_14 : decode cX11_found 14 = .ok (.iaload, 1) := dR0 (k := 0) (i := 14) bn_cX11_found_0 dop_46 (by decide +kernel)
theorem dX11_found_15 : decode cX11_found 15 = .ok (.goto 9, 3) := dR2s (f := Instr.goto) (k := 0) (i := 15) bn_cX11_found_0 dop_167 9 9 (by decide +kernel)
theorem dX11_found_18 : decode cX11_found 18 = .ok (.aload_n 0, 1) := dR0 (k := 0) (i := 18) bn_cX11_found_0 dop_42 (by decide +kernel)
theorem dX11_found_19 : decode cX11_found 19 = .ok (.ldc 63, 2) := dR1 (f := Instr.ldc) (k := 0) (i := 19) bn_cX11_found_0 dop_18 63 (by decide +kernel)
theorem dX11_found_21 : decode cX11_found 21 = .ok (.invokevirtual 64, 3) := dR2 (f := Instr.invokevirtual) (k := 0) (i := 21) bn_cX11_found_0 dop_182 64 (by decide +kernel)
theorem dX11_found_24 : decode cX11_found 24 = .ok (.ireturn, 1) := dR0 (k := 0) (i := 24) bn_cX11_found_0 dop_172 (by decide +kernel)
set_option maxHeartbeats 4000000 in
set_option maxRecDepth 100000 in
theorem c_X11_foundG (l : Launch) (D : va_G) (cI : ClassId) (aK aV : Nat → Nat) (k k0 k1 k2 k4 k5 k6 k7 k8 ka kb kl ko : Nat) (sz : Nat) (c3 : Int32) (c9 : Int32) (cc : Int32) (cd : Int32) (ce : Int32) (cf : Int32) (cg : Int32) (ch : Int32) (ci : Int32) (cj : Int32) (ck : Int32) (cm : Int32) (cn : Int32) (c4 : Nat → Int32) (a0 : Int32) : Met l yX11_found (gW yX11_found cX11_found 2 (some .int)) ({ frames := 1, cells := 0, slots := 0, locals := 22 } : Room) (kPreX D cI aK aV [.ref k, .int a0] [(k, .inr (11, [.ref k0, .ref k1, .ref k2, .int c3, .ref k4, .ref k5, .ref k6, .ref k7, .ref k8, .int c9, .ref ka, .ref kb, .int cc, .int cd, .int ce, .int cf, .int cg, .int ch, .int ci, .int cj, .int ck, .ref kl, .int cm, .int cn, .ref ko])), (k4, .inl (cI, 6, .inl c4))] sz) (va_Qi (fun (r : Int32) (u : (Nat → Int32)) => True) (fun u t => kWd D cI (va_A [(k, .inr (11, [.ref k0, .ref k1, .ref k2, .int c3, .ref k4, .ref k5, .ref k6, .ref k7, .ref k8, .int c9, .ref ka, .ref kb, .int cc, .int cd, .int ce, .int cf, .int cg, .int ch, .int ci, .int cj, .int ck, .ref kl, .int cm, .int cn, .ref ko])), (k4, .inl (cI, 6, .inl c4))] sz) [(k, .inr (11, [.ref k0, .ref k1, .ref k2, .int c3, .ref k4, .ref k5, .ref k6, .ref k7, .ref k8, .int c9, .ref ka, .ref kb, .int cc, .int cd, .int ce, .int cf, .int cg, .int ch, .int ci, .int cj, .int ck, .ref kl, .int cm, .int cn, .ref ko])), (k4, .inl (cI, 6, .inl u))] t) (va_A [(k, .inr (11, [.ref k0, .ref k1, .ref k2, .int c3, .ref k4, .ref k5, .ref k6, .ref k7, .ref k8, .int c9, .ref ka, .ref kb, .int cc, .int cd, .int ce, .int cf, .int cg, .int ch, .int ci, .int cj, .int ck, .ref kl, .int cm, .int cn, .ref ko])), (k4, .inl (cI, 6, .inl c4))] sz)) 0 0 (va_A [(k, .inr (11, [.ref k0, .ref k1, .ref k2, .int c3, .ref k4, .ref k5, .ref k6, .ref k7, .ref k8, .int c9, .ref ka, .ref kb, .int cc, .int cd, .int ce, .int cf, .int cg, .int ch, .int ci, .int cj, .int ck, .ref kl, .int cm, .int cn, .ref ko])), (k4, .inl (cI, 6, .inl c4))] sz) := by
  refine kMetIX (own := RX11) (by decide +kernel) rfl (Nat.le_of_ble_eq_true rfl) ?_
  intro p e s m args below meth c hx hb hT hown hname hml A Q hK hP hD hS hA hN hXS hRet ls hl
  have hl : lv_has ls 2 [(0, .ref k), (1, .int a0)] := hl
  have lo_a0 := k_lo a0
  have hi_a0 := k_hi a0
  have lo_ci := k_lo ci
  have hi_ci := k_hi ci
  refine lv_iload_n hx hb dX11_found_0 rfl (lv_at hl 1 rfl) ?_
  refine lv_iconst (v := 1) hx hb dX11_found_1 (by decide +kernel) ?_
  refine lv_iconst (v := 5) hx hb dX11_found_2 (by decide +kernel) ?_
  refine kJi (wr := [(k, .inr (11, [.ref k0, .ref k1, .ref k2, .int c3, .ref k4, .ref k5, .ref k6, .ref k7, .ref k8, .int c9, .ref ka, .ref kb, .int cc, .int cd, .int ce, .int cf, .int cg, .int ch, .int ci, .int cj, .int ck, .ref kl, .int cm, .int cn, .ref ko])), (k4, .inl (cI, 6, .inl c4))]) (va_runS (As := [.int a0, .int 1, .int 5]) (rest := []) ⟨hx, hb, hml, hown, hT⟩ (c_X11_inG l D cI aK aV s.heap.size a0 1 5) (cwS 3 hT (gS_in mw_1238 mw_1236 mw_1237 mw_12) rfl rfl rfl (by decide +kernel) ⟨Nat.le_of_ble_eq_true rfl, Nat.le_of_ble_eq_true rfl⟩) (kStatX hK hP hD hN hXS hS hA [] rfl (by decide +kernel)) rfl rfl hl.1 rfl (lv_room (Nat.le_of_ble_eq_true rfl)) dX11_found_3 ⟨Nat.le_of_ble_eq_true rfl, Nat.le_of_ble_eq_true rfl⟩) hP hD hS hA [] [0, 1] rfl rfl (by decide +kernel) (by decide +kernel) ?_
  clear hP hD hS
  intro r_1 u_3 H locs w_2 hP hD hS
  replace hP : va_P D vwCl [(k, .inr (11, [.ref k0, .ref k1, .ref k2, .int c3, .ref k4, .ref k5, .ref k6, .ref k7, .ref k8, .int c9, .ref ka, .ref kb, .int cc, .int cd, .int ce, .int cf, .int cg, .int ch, .int ci, .int cj, .int ck, .ref kl, .int cm, .int cn, .ref ko])), (k4, .inl (cI, 6, .inl c4))] H := hP
  replace hD : va_D A [(k, .inr (11, [.ref k0, .ref k1, .ref k2, .int c3, .ref k4, .ref k5, .ref k6, .ref k7, .ref k8, .int c9, .ref ka, .ref kb, .int cc, .int cd, .int ce, .int cf, .int cg, .int ch, .int ci, .int cj, .int ck, .ref kl, .int cm, .int cn, .ref ko])), (k4, .inl (cI, 6, .inl c4))] := hD
  rcases w_2 with ⟨hr_1, h_4, h_5⟩ | ⟨hr_1, h_6⟩
  · try simp only [zl_1, zl_5] at h_4
    have h_4 : 1 ≤ a0.toInt := h_4
    try simp only [zl_1, zl_5] at h_5
    have h_5 : a0.toInt ≤ 5 := h_5
    obtain rfl : r_1 = 1 := hr_1.trans (by decide +kernel)
    refine b_if_eq hx hb zl_1 (tgt := 18) dX11_found_6 (by decide +kernel) (fun c_7 => by exfalso; omega) (fun c_7 => ?_)
    refine lv_aload_n hx hb dX11_found_9 rfl (lv_at hl 0 rfl) ?_
    refine va_get (D := D) (ci := 11) (v := .ref k4) (C := RX11) (T := TX11) (N := 25) hx hb hT giX11 hown hK hP 0 rfl rfl 4 (by decide +kernel) (hT (Cond.fieldLink RX11 19 "DesertWireModel" "found" "[I") mw_1160) (fun _ h9 => h9) rfl dX11_found_10 ?_
    refine lv_iload_n hx hb dX11_found_13 rfl (lv_at hl 1 rfl) ?_
    refine k_iald (v := (c4 a0.toNatClampNeg)) hx hb hK hP 1 0 rfl rfl (k_in (by omega) (by omega)) rfl dX11_found_14 ?_
    refine lv_topi (fun v_8 ev_8 => ?_)
    have lo_v_8 := k_lo v_8
    have hi_v_8 := k_hi v_8
    have tv_8 : v_8.toInt = (c4 a0.toNatClampNeg).toInt := by rw [ev_8]
    refine lv_goto (tgt := 24) hx hb dX11_found_15 (by decide +kernel) ?_
    exact hRet c4 [0, 1] trivial hP hD (by decide +kernel) rfl hS rfl dX11_found_24
  · try simp only [zl_1, zl_5] at h_6
    have h_6 : a0.toInt < 1 ∨ 5 < a0.toInt := h_6
    obtain rfl : r_1 = 0 := hr_1.trans (by decide +kernel)
    refine b_if_eq hx hb zl_0 (tgt := 18) dX11_found_6 (by decide +kernel) (fun c_9 => ?_) (fun c_9 => by exfalso; omega)
    refine lv_aload_n hx hb dX11_found_18 rfl (lv_at hl 0 rfl) ?_
    refine lv_ldc (v := (-1000001)) hx hb hown (hT _ mw_1239) dX11_found_19 ?_
    refine kJi (wr := []) (va_runV (As := [.int (-1000001)]) (rest := []) ⟨hx, hb, hml, hown, hT⟩ (c_X11_findingG l D cI aK aV k k0 k1 k2 k4 k5 k6 k7 k8 ka kb kl ko H.size c3 c9 cc cd ce cf cg ch ci cj ck cm cn c4 (-1000001) (by first | omega | (simp only [zl_m1000001]; first | done | omega) | decide | assumption | rfl) (by first | omega | (simp only [zl_m1000001]; first | done | omega) | decide | assumption | rfl)) (cwV 1 hT (gV_in mw_1243 mw_1240 mw_1242 mw_p3_8 mw_12) rfl rfl rfl (by decide +kernel) ⟨Nat.le_of_ble_eq_true rfl, Nat.le_of_ble_eq_true rfl⟩) (kRecvX (q0 := 0) (ci := 11) hK hP hD hN hXS hS hA rfl rfl [0, 1] rfl (by decide +kernel)) rfl rfl hl.1 rfl (lv_room (Nat.le_of_ble_eq_true rfl)) dX11_found_21 ⟨Nat.le_of_ble_eq_true rfl, Nat.le_of_ble_eq_true rfl⟩) hP hD hS hA [0, 1] [] rfl rfl (by decide +kernel) (by decide +kernel) ?_
    clear hP hD hS
    intro r_10 sc4_12 H locs w_11 hP hD hS
    replace hP : va_P D vwCl [(k, .inr (11, [.ref k0, .ref k1, .ref k2, .int c3, .ref k4, .ref k5, .ref k6, .ref k7, .ref k8, .int c9, .ref ka, .ref kb, .int cc, .int cd, .int ce, .int cf, .int cg, .int ch, .int ci, .int cj, .int ck, .ref kl, .int cm, .int cn, .ref ko])), (k4, .inl (cI, 6, .inl sc4_12))] H := hP
    replace hD : va_D A [(k, .inr (11, [.ref k0, .ref k1, .ref k2, .int c3, .ref k4, .ref k5, .ref k6, .ref k7, .ref k8, .int c9, .ref ka, .ref kb, .int cc, .int cd, .int ce, .int cf, .int cg, .int ch, .int ci, .int cj, .int ck, .ref kl, .int cm, .int cn, .ref ko])), (k4, .inl (cI, 6, .inl sc4_12))] := hD
    have hr_10 := w_11
    obtain rfl : r_10 = (-1000001) := hr_10.trans (by decide +kernel)
    exact hRet sc4_12 [0, 1] trivial hP hD (by decide +kernel) rfl hS rfl dX11_found_24
theorem bn_cX11_rate_0 : BN cX11_rate 0 0x50056a2b28070c2040385814015a8ac0e37309a40c161b045e00209140c205179740e0a00ad456061b8bc0e0a00ad456ad32a2c02b515bdc220c00a8d1e015a8ad16015a8ac1e014da5402b5158146ecd00adc080402078d8050907056500202014015a8ac7e2f0402802b515ab482015b930262b05805420d088bc0e0a00ad456ad208056e40098ac16014db2802b90e82c029a63805721c := by
  unfold BN; decide +kernel
theorem dX11_rate_0 : decode cX11_rate 0 = .ok (.iload_n 1, 1) := dR0 (k := 0) (i := 0) bn_cX11_rate_0 dop_27 (by decide +kernel)
theorem dX11_rate_1 : decode cX11_rate 1 = .ok (.invokestatic 198, 3) := dR2 (f := Instr.invokestatic) (k := 0) (i := 1) bn_cX11_rate_0 dop_184 198 (by decide +kernel)
theorem dX11_rate_4 : decode cX11_rate 4 = .ok (.ifCond .eq 10, 3) := dR2s (f := Instr.ifCond .eq) (k := 0) (i := 4) bn_cX11_rate_0 dop_153 10 10 (by decide +kernel)
theorem dX11_rate_7 : decode cX11_rate 7 = .ok (.iload_n 2, 1) := dR0 (k := 0) (i := 7) bn_cX11_rate_0 dop_28 (by decide +kernel)
theorem dX11_rate_8 : decode cX11_rate 8 = .ok (.invokestatic 201, 3) := dR2 (f := Instr.invokestatic) (k := 0) (i := 8) bn_cX11_rate_0 dop_184 201 (by decide +kernel)
theorem dX11_rate_11 : decode cX11_rate 11 = .ok (.ifCond .ne 10, 3) := dR2s (f := Instr.ifCond .ne) (k := 0) (i := 11) bn_cX11_rate_0 dop_154 10 10 (by decide +kernel)
theorem dX11_rate_14 : decode cX11_rate 14 = .ok (.aload_n 0, 1) := dR0 (k := 0) (i := 14) bn_cX11_rate_0 dop_42 (by decide +kernel)
theorem dX11_rate_15 : decode cX11_rate 15 = .ok (.ldc 63, 2) := dR1 (f := Instr.ldc) (k := 0) (i := 15) bn_cX11_rate_0 dop_18 63 (by decide +kernel)
theorem dX11_rate_17 : decode cX11_rate 17 = .ok (.invokevirtual 64, 3) := dR2 (f := Instr.invokevirtual) (k := 0) (i := 17) bn_cX11_rate_0 dop_182 64 (by decide +kernel)
theorem dX11_rate_20 : decode cX11_rate 20 = .ok (.ireturn, 1) := dR0 (k := 0) (i := 20) bn_cX11_rate_0 dop_172 (by decide +kernel)
theorem dX11_rate_21 : decode cX11_rate 21 = .ok (.aload_n 0, 1) := dR0 (k := 0) (i := 21) bn_cX11_rate_0 dop_42 (by decide +kernel)
theorem dX11_rate_22 : decode cX11_rate 22 = .ok (.getfield 9, 3) := dR2 (f := Instr.getfield) (k := 0) (i := 22) bn_cX11_rate_0 dop_180 9 (by decide +kernel)
theorem dX11_rate_25 : decode cX11_rate 25 = .ok (.iconst 3, 1) := dR0 (k := 0) (i := 25) bn_cX11_rate_0 dop_6 (by decide +kernel)
theorem dX11_rate_26 : decode cX11_rate 26 = .ok (.iaload, 1) := dR0 (k := 0) (i := 26) bn_cX11_rate_0 dop_46 (by decide +kernel)
theorem dX11_rate_27 : decode cX11_rate 27 = .ok (.bipush 12, 2) := dR1s (f := Instr.bipush) (k := 0) (i := 27) bn_cX11_rate_0 dop_16 12 12 (by decide +kernel)
theorem dX11_rate_29 : decode cX11_rate 29 = .ok (.if_icmp .ne 10, 3) := dR2s (f := Instr.if_icmp .ne) (k := 0) (i := 29) bn_cX11_rate_0 dop_160 10 10 (by decide +kernel)
theorem dX11_rate_32 : decode cX11_rate 32 = .ok (.aload_n 0, 1) := dR0 (k := 0) (i := 32) bn_cX11_rate_0 dop_42 (by decide +kernel)
theorem dX11_rate_33 : decode cX11_rate 33 = .ok (.ldc 75, 2) := dR1 (f := Instr.ldc) (k := 0) (i := 33) bn_cX11_rate_0 dop_18 75 (by decide +kernel)
theorem dX11_rate_35 : decode cX11_rate 35 = .ok (.invokevirtual 64, 3) := dR2 (f := Instr.invokevirtual) (k := 0) (i := 35) bn_cX11_rate_0 dop_182 64 (by decide +kernel)
theorem dX11_rate_38 : decode cX11_rate 38 = .ok (.ireturn, 1) := dR0 (k := 0) (i := 38) bn_cX11_rate_0 dop_172 (by decide +kernel)
theorem dX11_rate_39 : decode cX11_rate 39 = .ok (.aload_n 0, 1) := dR0 (k := 0) (i := 39) bn_cX11_rate_0 dop_42 (by decide +kernel)
theorem dX11_rate_40 : decode cX11_rate 40 = .ok (.getfield 9, 3) := dR2 (f := Instr.getfield) (k := 0) (i := 40) bn_cX11_rate_0 dop_180 9 (by decide +kernel)
theorem dX11_rate_43 : decode cX11_rate 43 = .ok (.iconst 4, 1) := dR0 (k := 0) (i := 43) bn_cX11_rate_0 dop_7 (by decide +kernel)
theorem dX11_rate_44 : decode cX11_rate 44 = .ok (.iaload, 1) := dR0 (k := 0) (i := 44) bn_cX11_rate_0 dop_46 (by decide +kernel)
theorem dX11_rate_45 : decode cX11_rate 45 = .ok (.istore_n 3, 1) := dR0 (k := 0) (i := 45) bn_cX11_rate_0 dop_62 (by decide +kernel)
theorem dX11_rate_46 : decode cX11_rate 46 = .ok (.aload_n 0, 1) := dR0 (k := 0) (i := 46) bn_cX11_rate_0 dop_42 (by decide +kernel)
theorem dX11_rate_47 : decode cX11_rate 47 = .ok (.getfield 9, 3) := dR2 (f := Instr.getfield) (k := 0) (i := 47) bn_cX11_rate_0 dop_180 9 (by decide +kernel)
theorem dX11_rate_50 : decode cX11_rate 50 = .ok (.iconst 4, 1) := dR0 (k := 0) (i := 50) bn_cX11_rate_0 dop_7 (by decide +kernel)
theorem dX11_rate_51 : decode cX11_rate 51 = .ok (.iconst 0, 1) := dR0 (k := 0) (i := 51) bn_cX11_rate_0 dop_3 (by decide +kernel)
theorem dX11_rate_52 : decode cX11_rate 52 = .ok (.iastore, 1) := dR0 (k := 0) (i := 52) bn_cX11_rate_0 dop_79 (by decide +kernel)
theorem dX11_rate_53 : decode cX11_rate 53 = .ok (.aload_n 0, 1) := dR0 (k := 0) (i := 53) bn_cX11_rate_0 dop_42 (by decide +kernel)
theorem dX11_rate_54 : decode cX11_rate 54 = .ok (.iload_n 1, 1) := dR0 (k := 0) (i := 54) bn_cX11_rate_0 dop_27 (by decide +kernel)
theorem dX11_rate_55 : decode cX11_rate 55 = .ok (.sipush 1131, 3) := dR2s (f := Instr.sipush) (k := 0) (i := 55) bn_cX11_rate_0 dop_17 1131 1131 (by decide +kernel)
theorem dX11_rate_58 : decode cX11_rate 58 = .ok (.iload_n 3, 1) := dR0 (k := 0) (i := 58) bn_cX11_rate_0 dop_29 (by decide +kernel)
theorem dX11_rate_59 : decode cX11_rate 59 = .ok (.iconst 0, 1) := dR0 (k := 0) (i := 59) bn_cX11_rate_0 dop_3 (by decide +kernel)
theorem dX11_rate_60 : decode cX11_rate 60 = .ok (.iconst 0, 1) := dR0 (k := 0) (i := 60) bn_cX11_rate_0 dop_3 (by decide +kernel)
theorem dX11_rate_61 : decode cX11_rate 61 = .ok (.iconst 0, 1) := dR0 (k := 0) (i := 61) bn_cX11_rate_0 dop_3 (by decide +kernel)
theorem dX11_rate_62 : decode cX11_rate 62 = .ok (.invokevirtual 204, 3) := dR2 (f := Instr.invokevirtual) (k := 0) (i := 62) bn_cX11_rate_0 dop_182 204 (by decide +kernel)
theorem dX11_rate_65 : decode cX11_rate 65 = .ok (.istore 4, 2) := dR1 (f := Instr.istore) (k := 0) (i := 65) bn_cX11_rate_0 dop_54 4 (by decide +kernel)
theorem dX11_rate_67 : decode cX11_rate 67 = .ok (.aload_n 0, 1) := dR0 (k := 0) (i := 67) bn_cX11_rate_0 dop_42 (by decide +kernel)
theorem dX11_rate_68 : decode cX11_rate 68 = .ok (.getfield 148, 3) := dR2 (f := Instr.getfield) (k := 0) (i := 68) bn_cX11_rate_0 dop_180 148 (by decide +kernel)
theorem dX11_rate_71 : decode cX11_rate 71 = .ok (.ifCond .ne 14, 3) := dR2s (f := Instr.ifCond .ne) (k := 0) (i := 71) bn_cX11_rate_0 dop_154 14 14 (by decide +kernel)
theorem dX11_rate_74 : decode cX11_rate 74 = .ok (.aload_n 0, 1) := dR0 (k := 0) (i := 74) bn_cX11_rate_0 dop_42 (by decide +kernel)
theorem dX11_rate_75 : decode cX11_rate 75 = .ok (.getfield 138, 3) := dR2 (f := Instr.getfield) (k := 0) (i := 75) bn_cX11_rate_0 dop_180 138 (by decide +kernel)
theorem dX11_rate_78 : decode cX11_rate 78 = .ok (.aload_n 0, 1) := dR0 (k := 0) (i := 78) bn_cX11_rate_0 dop_42 (by decide +kernel)
theorem dX11_rate_79 : decode cX11_rate 79 = .ok (.getfield 142, 3) := dR2 (f := Instr.getfield) (k := 0) (i := 79) bn_cX11_rate_0 dop_180 142 (by decide +kernel)
theorem dX11_rate_82 : decode cX11_rate 82 = .ok (.if_icmp .ge 11, 3) := dR2s (f := Instr.if_icmp .ge) (k := 0) (i := 82) bn_cX11_rate_0 dop_162 11 11 (by decide +kernel)
theorem dX11_rate_85 : decode cX11_rate 85 = .ok (.bipush (-10), 2) := dR1s (f := Instr.bipush) (k := 0) (i := 85) bn_cX11_rate_0 dop_16 246 (-10) (by decide +kernel)
theorem dX11_rate_87 : decode cX11_rate 87 = .ok (.aload_n 0, 1) := dR0 (k := 0) (i := 87) bn_cX11_rate_0 dop_42 (by decide +kernel)
theorem dX11_rate_88 : decode cX11_rate 88 = .ok (.getfield 138, 3) := dR2 (f := Instr.getfield) (k := 0) (i := 88) bn_cX11_rate_0 dop_180 138 (by decide +kernel)
theorem dX11_rate_91 : decode cX11_rate 91 = .ok (.isub, 1) := dR0 (k := 0) (i := 91) bn_cX11_rate_0 dop_100 (by decide +kernel)
theorem dX11_rate_92 : decode cX11_rate 92 = .ok (.ireturn, 1) := dR0 (k := 0) (i := 92) bn_cX11_rate_0 dop_172 (by decide +kernel)
theorem dX11_rate_93 : decode cX11_rate 93 = .ok (.aload_n 0, 1) := dR0 (k := 0) (i := 93) bn_cX11_rate_0 dop_42 (by decide +kernel)
theorem dX11_rate_94 : decode cX11_rate 94 = .ok (.getfield 9, 3) := dR2 (f := Instr.getfield) (k := 0) (i := 94) bn_cX11_rate_0 dop_180 9 (by decide +kernel)
theorem dX11_rate_97 : decode cX11_rate 97 = .ok (.iconst 3, 1) := dR0 (k := 0) (i := 97) bn_cX11_rate_0 dop_6 (by decide +kernel)
theorem dX11_rate_98 : decode cX11_rate 98 = .ok (.iaload, 1) := dR0 (k := 0) (i := 98) bn_cX11_rate_0 dop_46 (by decide +kernel)
theorem dX11_rate_99 : decode cX11_rate 99 = .ok (.istore 5, 2) := dR1 (f := Instr.istore) (k := 0) (i := 99) bn_cX11_rate_0 dop_54 5 (by decide +kernel)
theorem dX11_rate_101 : decode cX11_rate 101 = .ok (.aload_n 0, 1) := dR0 (k := 0) (i := 101) bn_cX11_rate_0 dop_42 (by decide +kernel)
theorem dX11_rate_102 : decode cX11_rate 102 = .ok (.getfield 9, 3) := dR2 (f := Instr.getfield) (k := 0) (i := 102) bn_cX11_rate_0 dop_180 9 (by decide +kernel)
theorem dX11_rate_105 : decode cX11_rate 105 = .ok (.iconst 3, 1) := dR0 (k := 0) (i := 105) bn_cX11_rate_0 dop_6 (by decide +kernel)
theorem dX11_rate_106 : decode cX11_rate 106 = .ok (.dup2, 1) := dR0 (k := 0) (i := 106) bn_cX11_rate_0 dop_92 (by decide +kernel)
theorem dX11_rate_107 : decode cX11_rate 107 = .ok (.iaload, 1) := dR0 (k := 0) (i := 107) bn_cX11_rate_0 dop_46 (by decide +kernel)
theorem dX11_rate_108 : decode cX11_rate 108 = .ok (.iconst 1, 1) := dR0 (k := 0) (i := 108) bn_cX11_rate_0 dop_4 (by decide +kernel)
theorem dX11_rate_109 : decode cX11_rate 109 = .ok (.iadd, 1) := dR0 (k := 0) (i := 109) bn_cX11_rate_0 dop_96 (by decide +kernel)
theorem dX11_rate_110 : decode cX11_rate 110 = .ok (.iastore, 1) := dR0 (k := 0) (i := 110) bn_cX11_rate_0 dop_79 (by decide +kernel)
theorem dX11_rate_111 : decode cX11_rate 111 = .ok (.sipush 495, 3) := dR2s (f := Instr.sipush) (k := 0) (i := 111) bn_cX11_rate_0 dop_17 495 495 (by decide +kernel)
theorem dX11_rate_114 : decode cX11_rate 114 = .ok (.bipush 53, 2) := dR1s (f := Instr.bipush) (k := 0) (i := 114) bn_cX11_rate_0 dop_16 53 53 (by decide +kernel)
theorem dX11_rate_116 : decode cX11_rate 116 = .ok (.iload 5, 2) := dR1 (f := Instr.iload) (k := 0) (i := 116) bn_cX11_rate_0 dop_21 5 (by decide +kernel)
theorem dX11_rate_118 : decode cX11_rate 118 = .ok (.imul, 1) := dR0 (k := 0) (i := 118) bn_cX11_rate_0 dop_104 (by decide +kernel)
theorem dX11_rate_119 : decode cX11_rate 119 = .ok (.iadd, 1) := dR0 (k := 0) (i := 119) bn_cX11_rate_0 dop_96 (by decide +kernel)
theorem dX11_rate_120 : decode cX11_rate 120 = .ok (.istore 6, 2) := dR1 (f := Instr.istore) (k := 0) (i := 120) bn_cX11_rate_0 dop_54 6 (by decide +kernel)
theorem dX11_rate_122 : decode cX11_rate 122 = .ok (.aload_n 0, 1) := dR0 (k := 0) (i := 122) bn_cX11_rate_0 dop_42 (by decide +kernel)
theorem dX11_rate_123 : decode cX11_rate 123 = .ok (.getfield 9, 3) := dR2 (f := Instr.getfield) (k := 0) (i := 123) bn_cX11_rate_0 dop_180 9 (by decide +kernel)
theorem dX11_rate_126 : decode cX11_rate 126 = .ok (.iload 6, 2) := dR1 (f := Instr.iload) (k := 0) (i := 126) bn_cX11_rate_0 dop_21 6 (by decide +kernel)
theorem bn_cX11_rate_128 : BN cX11_rate 128 0x15a060b38200a8010210a5017984101636014240a00ad4566104058c2070385814015a8ac4201518cc22080b0206e0428078c2060385814015a8aca01d308140e16050056a2b28070c204 := by
  unfold BN; decide +kernel
theorem dX11_rate_128 : decode cX11_rate 128 = .ok (.iconst 0, 1) := dR0 (k := 128) (i := 0) bn_cX11_rate_128 dop_3 (by decide +kernel)
theorem dX11_rate_129 : decode cX11_rate 129 = .ok (.iadd, 1) := dR0 (k := 128) (i := 1) bn_cX11_rate_128 dop_96 (by decide +kernel)
theorem dX11_rate_130 : decode cX11_rate 130 = .ok (.iload_n 1, 1) := dR0 (k := 128) (i := 2) bn_cX11_rate_128 dop_27 (by decide +kernel)
theorem dX11_rate_131 : decode cX11_rate 131 = .ok (.iastore, 1) := dR0 (k := 128) (i := 3) bn_cX11_rate_128 dop_79 (by decide +kernel)
theorem dX11_rate_132 : decode cX11_rate 132 = .ok (.aload_n 0, 1) := dR0 (k := 128) (i := 4) bn_cX11_rate_128 dop_42 (by decide +kernel)
theorem dX11_rate_133 : decode cX11_rate 133 = .ok (.getfield 9, 3) := dR2 (f := Instr.getfield) (k := 128) (i := 5) bn_cX11_rate_128 dop_180 9 (by decide +kernel)
theorem dX11_rate_136 : decode cX11_rate 136 = .ok (.iload 6, 2) := dR1 (f := Instr.iload) (k := 128) (i := 8) bn_cX11_rate_128 dop_21 6 (by decide +kernel)
theorem dX11_rate_138 : decode cX11_rate 138 = .ok (.iconst 1, 1) := dR0 (k := 128) (i := 10) bn_cX11_rate_128 dop_4 (by decide +kernel)
theorem dX11_rate_139 : decode cX11_rate 139 = .ok (.iadd, 1) := dR0 (k := 128) (i := 11) bn_cX11_rate_128 dop_96 (by decide +kernel)
theorem dX11_rate_140 : decode cX11_rate 140 = .ok (.iload_n 2, 1) := dR0 (k := 128) (i := 12) bn_cX11_rate_128 dop_28 (by decide +kernel)
theorem dX11_rate_141 : decode cX11_rate 141 = .ok (.iastore, 1) := dR0 (k := 128) (i := 13) bn_cX11_rate_128 dop_79 (by decide +kernel)
theorem dX11_rate_142 : decode cX11_rate 142 = .ok (.aload_n 0, 1) := dR0 (k := 128) (i := 14) bn_cX11_rate_128 dop_42 (by decide +kernel)
theorem dX11_rate_143 : decode cX11_rate 143 = .ok (.getfield 9, 3) := dR2 (f := Instr.getfield) (k := 128) (i := 15) bn_cX11_rate_128 dop_180 9 (by decide +kernel)
theorem dX11_rate_146 : decode cX11_rate 146 = .ok (.iload 6, 2) := dR1 (f := Instr.iload) (k := 128) (i := 18) bn_cX11_rate_128 dop_21 6 (by decide +kernel)
theorem dX11_rate_148 : decode cX11_rate 148 = .ok (.iconst 2, 1) := dR0 (k := 128) (i := 20) bn_cX11_rate_128 dop_5 (by decide +kernel)
theorem dX11_rate_149 : decode cX11_rate 149 = .ok (.iadd, 1) := dR0 (k := 128) (i := 21) bn_cX11_rate_128 dop_96 (by decide +kernel)
theorem dX11_rate_150 : decode cX11_rate 150 = .ok (.iload_n 3, 1) := dR0 (k := 128) (i := 22) bn_cX11_rate_128 dop_29 (by decide +kernel)
theorem dX11_rate_151 : decode cX11_rate 151 = .ok (.iastore, 1) := dR0 (k := 128) (i := 23) bn_cX11_rate_128 dop_79 (by decide +kernel)
theorem dX11_rate_152 : decode cX11_rate 152 = .ok (.iconst 0, 1) := dR0 (k := 128) (i := 24) bn_cX11_rate_128 dop_3 (by decide +kernel)
theorem dX11_rate_153 : decode cX11_rate 153 = .ok (.istore 7, 2) := dR1 (f := Instr.istore) (k := 128) (i := 25) bn_cX11_rate_128 dop_54 7 (by decide +kernel)
theorem dX11_rate_155 : decode cX11_rate 155 = .ok (.iload 7, 2) := dR1 (f := Instr.iload) (k := 128) (i := 27) bn_cX11_rate_128 dop_21 7 (by decide +kernel)
theorem dX11_rate_157 : decode cX11_rate 157 = .ok (.bipush 50, 2) := dR1s (f := Instr.bipush) (k := 128) (i := 29) bn_cX11_rate_128 dop_16 50 50 (by decide +kernel)
theorem dX11_rate_159 : decode cX11_rate 159 = .ok (.if_icmp .ge 32, 3) := dR2s (f := Instr.if_icmp .ge) (k := 128) (i := 31) bn_cX11_rate_128 dop_162 32 32 (by decide +kernel)
theorem dX11_rate_162 : decode cX11_rate 162 = .ok (.aload_n 0, 1) := dR0 (k := 128) (i := 34) bn_cX11_rate_128 dop_42 (by decide +kernel)
theorem dX11_rate_163 : decode cX11_rate 163 = .ok (.getfield 9, 3) := dR2 (f := Instr.getfield) (k := 128) (i := 35) bn_cX11_rate_128 dop_180 9 (by decide +kernel)
theorem dX11_rate_166 : decode cX11_rate 166 = .ok (.iload 6, 2) := dR1 (f := Instr.iload) (k := 128) (i := 38) bn_cX11_rate_128 dop_21 6 (by decide +kernel)
theorem dX11_rate_168 : decode cX11_rate 168 = .ok (.iconst 3, 1) := dR0 (k := 128) (i := 40) bn_cX11_rate_128 dop_6 (by decide +kernel)
theorem dX11_rate_169 : decode cX11_rate 169 = .ok (.iadd, 1) := dR0 (k := 128) (i := 41) bn_cX11_rate_128 dop_96 (by decide +kernel)
theorem dX11_rate_170 : decode cX11_rate 170 = .ok (.iload 7, 2) := dR1 (f := Instr.iload) (k := 128) (i := 42) bn_cX11_rate_128 dop_21 7 (by decide +kernel)
theorem dX11_rate_172 : decode cX11_rate 172 = .ok (.iadd, 1) := dR0 (k := 128) (i := 44) bn_cX11_rate_128 dop_96 (by decide +kernel)
theorem dX11_rate_173 : decode cX11_rate 173 = .ok (.aload_n 0, 1) := dR0 (k := 128) (i := 45) bn_cX11_rate_128 dop_42 (by decide +kernel)
theorem dX11_rate_174 : decode cX11_rate 174 = .ok (.getfield 9, 3) := dR2 (f := Instr.getfield) (k := 128) (i := 46) bn_cX11_rate_128 dop_180 9 (by decide +kernel)
theorem dX11_rate_177 : decode cX11_rate 177 = .ok (.sipush 1131, 3) := dR2s (f := Instr.sipush) (k := 128) (i := 49) bn_cX11_rate_128 dop_17 1131 1131 (by decide +kernel)
theorem dX11_rate_180 : decode cX11_rate 180 = .ok (.iload 7, 2) := dR1 (f := Instr.iload) (k := 128) (i := 52) bn_cX11_rate_128 dop_21 7 (by decide +kernel)
theorem dX11_rate_182 : decode cX11_rate 182 = .ok (.iadd, 1) := dR0 (k := 128) (i := 54) bn_cX11_rate_128 dop_96 (by decide +kernel)
theorem dX11_rate_183 : decode cX11_rate 183 = .ok (.iaload, 1) := dR0 (k := 128) (i := 55) bn_cX11_rate_128 dop_46 (by decide +kernel)
theorem dX11_rate_184 : decode cX11_rate 184 = .ok (.iastore, 1) := dR0 (k := 128) (i := 56) bn_cX11_rate_128 dop_79 (by decide +kernel)
theorem dX11_rate_185 : decode cX11_rate 185 = .ok (.iinc 7 1, 3) := dRii (f := Instr.iinc) (k := 128) (i := 57) bn_cX11_rate_128 dop_132 7 1 1 (by decide +kernel)
theorem dX11_rate_188 : decode cX11_rate 188 = .ok (.goto (-33), 3) := dR2s (f := Instr.goto) (k := 128) (i := 60) bn_cX11_rate_128 dop_167 65503 (-33) (by decide +kernel)
theorem dX11_rate_191 : decode cX11_rate 191 = .ok (.iload 5, 2) := dR1 (f := Instr.iload) (k := 128) (i := 63) bn_cX11_rate_128 dop_21 5 (by decide +kernel)
theorem dX11_rate_193 : decode cX11_rate 193 = .ok (.ireturn, 1) := dR0 (k := 128) (i := 65) bn_cX11_rate_128 dop_172 (by decide +kernel)
set_option maxHeartbeats 4000000 in
set_option maxRecDepth 100000 in
theorem c_X11_rateG (l : Launch) (D : va_G) (cI : ClassId) (aK aV : Nat → Nat) (k k0 k1 k2 k4 k5 k6 k7 k8 ka kb kl ko : Nat) (sz : Nat) (c3 : Int32) (c9 : Int32) (cc : Int32) (cd : Int32) (ce : Int32) (cf : Int32) (cg : Int32) (ch : Int32) (ci : Int32) (cj : Int32) (ck : Int32) (cm : Int32) (cn : Int32) (c0 : Nat → Int32) (c4 : Nat → Int32) (a0 : Int32) (a1 : Int32) (pre0 : SIX c0 (-1)) : Met l yX11_rate (gW yX11_rate cX11_rate 8 (some .int)) ({ frames := 120, cells := 0, slots := 0, locals := 8308 } : Room) (kPreX D cI aK aV [.ref k, .int a0, .int a1] [(k, .inr (11, [.ref k0, .ref k1, .ref k2, .int c3, .ref k4, .ref k5, .ref k6, .ref k7, .ref k8, .int c9, .ref ka, .ref kb, .int cc, .int cd, .int ce, .int cf, .int cg, .int ch, .int ci, .int cj, .int ck, .ref kl, .int cm, .int cn, .ref ko])), (k0, .inl (cI, 1201, .inl c0)), (k4, .inl (cI, 6, .inl c4))] sz) (va_Qi (fun (r : Int32) (u : Int32 × Int32 × Int32 × Int32 × Int32 × Int32 × Int32 × Int32 × Int32 × (Nat → Int32) × (Nat → Int32)) => SIX u.2.2.2.2.2.2.2.2.2.1 (-1) ∧ RTR (tG c0 1131 (c0 4)) (c0 4) (c0 3) a0 a1 r (u.2.2.2.2.2.2.2.2.2.1 4) (u.2.2.2.2.2.2.2.2.2.1 3) ∧ RTX c0 u.2.2.2.2.2.2.2.2.2.1 a0 a1) (fun u t => kWd D cI (va_A [(k, .inr (11, [.ref k0, .ref k1, .ref k2, .int c3, .ref k4, .ref k5, .ref k6, .ref k7, .ref k8, .int c9, .ref ka, .ref kb, .int cc, .int cd, .int ce, .int cf, .int cg, .int ch, .int ci, .int cj, .int ck, .ref kl, .int cm, .int cn, .ref ko])), (k0, .inl (cI, 1201, .inl c0)), (k4, .inl (cI, 6, .inl c4))] sz) [(k, .inr (11, [.ref k0, .ref k1, .ref k2, .int c3, .ref k4, .ref k5, .ref k6, .ref k7, .ref k8, .int c9, .ref ka, .ref kb, .int u.1, .int u.2.1, .int u.2.2.1, .int u.2.2.2.1, .int u.2.2.2.2.1, .int u.2.2.2.2.2.1, .int u.2.2.2.2.2.2.1, .int u.2.2.2.2.2.2.2.1, .int u.2.2.2.2.2.2.2.2.1, .ref kl, .int cm, .int cn, .ref ko])), (k0, .inl (cI, 1201, .inl u.2.2.2.2.2.2.2.2.2.1)), (k4, .inl (cI, 6, .inl u.2.2.2.2.2.2.2.2.2.2))] t) (va_A [(k, .inr (11, [.ref k0, .ref k1, .ref k2, .int c3, .ref k4, .ref k5, .ref k6, .ref k7, .ref k8, .int c9, .ref ka, .ref kb, .int cc, .int cd, .int ce, .int cf, .int cg, .int ch, .int ci, .int cj, .int ck, .ref kl, .int cm, .int cn, .ref ko])), (k0, .inl (cI, 1201, .inl c0)), (k4, .inl (cI, 6, .inl c4))] sz)) 0 0 (va_A [(k, .inr (11, [.ref k0, .ref k1, .ref k2, .int c3, .ref k4, .ref k5, .ref k6, .ref k7, .ref k8, .int c9, .ref ka, .ref kb, .int cc, .int cd, .int ce, .int cf, .int cg, .int ch, .int ci, .int cj, .int ck, .ref kl, .int cm, .int cn, .ref ko])), (k0, .inl (cI, 1201, .inl c0)), (k4, .inl (cI, 6, .inl c4))] sz) := by
  refine kMetIX (own := RX11) (by decide +kernel) rfl (Nat.le_of_ble_eq_true rfl) ?_
  intro p e s m args below meth c hx hb hT hown hname hml A Q hK hP hD hS hA hN hXS hRet ls hl
  have hl : lv_has ls 8 [(0, .ref k), (1, .int a0), (2, .int a1)] := hl
  have lo_a0 := k_lo a0
  have hi_a0 := k_hi a0
  have lo_a1 := k_lo a1
  have hi_a1 := k_hi a1
  have lo_ci := k_lo ci
  have hi_ci := k_hi ci
  have hn4 := SB.n4 (And.left pre0)
  have hn3 := SB.n3 (And.left pre0)
  have pre0 : SIX c0 (-1) := pre0
  have nb_1 : 0 ≤ (c0 0).toInt ∧ (c0 0).toInt ≤ 2000 := SB.n0 (And.left pre0)
  have nb_2 : 0 ≤ (c0 1).toInt ∧ (c0 1).toInt ≤ 60 := SB.n1 (And.left pre0)
  have nb_3 : 0 ≤ (c0 2).toInt ∧ (c0 2).toInt ≤ 4 := SB.n2 (And.left pre0)
  refine lv_iload_n hx hb dX11_rate_0 rfl (lv_at hl 1 rfl) ?_
  refine kJi (wr := [(k, .inr (11, [.ref k0, .ref k1, .ref k2, .int c3, .ref k4, .ref k5, .ref k6, .ref k7, .ref k8, .int c9, .ref ka, .ref kb, .int cc, .int cd, .int ce, .int cf, .int cg, .int ch, .int ci, .int cj, .int ck, .ref kl, .int cm, .int cn, .ref ko])), (k0, .inl (cI, 1201, .inl c0)), (k4, .inl (cI, 6, .inl c4))]) (va_runS (As := [.int a0]) (rest := []) ⟨hx, hb, hml, hown, hT⟩ (c_X11_isUseG l D cI aK aV s.heap.size a0) (cwS 1 hT (gS_in mw_1476 mw_1474 mw_1475 mw_12) rfl rfl rfl (by decide +kernel) ⟨Nat.le_of_ble_eq_true rfl, Nat.le_of_ble_eq_true rfl⟩) (kStatX hK hP hD hN hXS hS hA [] rfl (by decide +kernel)) rfl rfl hl.1 rfl (lv_room (Nat.le_of_ble_eq_true rfl)) dX11_rate_1 ⟨Nat.le_of_ble_eq_true rfl, Nat.le_of_ble_eq_true rfl⟩) hP hD hS hA [] [0, 1, 2] rfl rfl (by decide +kernel) (by decide +kernel) ?_
  clear hP hD hS
  intro r_4 u_6 H locs w_5 hP hD hS
  replace hP : va_P D vwCl [(k, .inr (11, [.ref k0, .ref k1, .ref k2, .int c3, .ref k4, .ref k5, .ref k6, .ref k7, .ref k8, .int c9, .ref ka, .ref kb, .int cc, .int cd, .int ce, .int cf, .int cg, .int ch, .int ci, .int cj, .int ck, .ref kl, .int cm, .int cn, .ref ko])), (k0, .inl (cI, 1201, .inl c0)), (k4, .inl (cI, 6, .inl c4))] H := hP
  replace hD : va_D A [(k, .inr (11, [.ref k0, .ref k1, .ref k2, .int c3, .ref k4, .ref k5, .ref k6, .ref k7, .ref k8, .int c9, .ref ka, .ref kb, .int cc, .int cd, .int ce, .int cf, .int cg, .int ch, .int ci, .int cj, .int ck, .ref kl, .int cm, .int cn, .ref ko])), (k0, .inl (cI, 1201, .inl c0)), (k4, .inl (cI, 6, .inl c4))] := hD
  rcases w_5 with ⟨hr_4, h_7, h_8⟩ | ⟨hr_4, h_9⟩
  · have h_7 : 0 ≤ a0.toInt := h_7
    have h_8 : a0.toInt ≤ 2 := h_8
    obtain rfl : r_4 = 1 := hr_4.trans (by decide +kernel)
    refine b_if_eq hx hb zl_1 (tgt := 14) dX11_rate_4 (by decide +kernel) (fun c_10 => by exfalso; omega) (fun c_10 => ?_)
    refine lv_iload_n hx hb dX11_rate_7 rfl (lv_at hl 2 rfl) ?_
    refine kJi (wr := [(k, .inr (11, [.ref k0, .ref k1, .ref k2, .int c3, .ref k4, .ref k5, .ref k6, .ref k7, .ref k8, .int c9, .ref ka, .ref kb, .int cc, .int cd, .int ce, .int cf, .int cg, .int ch, .int ci, .int cj, .int ck, .ref kl, .int cm, .int cn, .ref ko])), (k0, .inl (cI, 1201, .inl c0)), (k4, .inl (cI, 6, .inl c4))]) (va_runS (As := [.int a1]) (rest := []) ⟨hx, hb, hml, hown, hT⟩ (c_X11_isDayG l D cI aK aV H.size a1) (cwS 1 hT (gS_in mw_1479 mw_1477 mw_1478 mw_12) rfl rfl rfl (by decide +kernel) ⟨Nat.le_of_ble_eq_true rfl, Nat.le_of_ble_eq_true rfl⟩) (kStatX hK hP hD hN hXS hS hA [] rfl (by decide +kernel)) rfl rfl hl.1 rfl (lv_room (Nat.le_of_ble_eq_true rfl)) dX11_rate_8 ⟨Nat.le_of_ble_eq_true rfl, Nat.le_of_ble_eq_true rfl⟩) hP hD hS hA [] [0, 1, 2] rfl rfl (by decide +kernel) (by decide +kernel) ?_
    clear hP hD hS
    intro r_11 u_13 H locs w_12 hP hD hS
    replace hP : va_P D vwCl [(k, .inr (11, [.ref k0, .ref k1, .ref k2, .int c3, .ref k4, .ref k5, .ref k6, .ref k7, .ref k8, .int c9, .ref ka, .ref kb, .int cc, .int cd, .int ce, .int cf, .int cg, .int ch, .int ci, .int cj, .int ck, .ref kl, .int cm, .int cn, .ref ko])), (k0, .inl (cI, 1201, .inl c0)), (k4, .inl (cI, 6, .inl c4))] H := hP
    replace hD : va_D A [(k, .inr (11, [.ref k0, .ref k1, .ref k2, .int c3, .ref k4, .ref k5, .ref k6, .ref k7, .ref k8, .int c9, .ref ka, .ref kb, .int cc, .int cd, .int ce, .int cf, .int cg, .int ch, .int ci, .int cj, .int ck, .ref kl, .int cm, .int cn, .ref ko])), (k0, .inl (cI, 1201, .inl c0)), (k4, .inl (cI, 6, .inl c4))] := hD
    rcases w_12 with ⟨hr_11, h_14, h_15⟩ | ⟨hr_11, h_16⟩
    · have h_14 : 0 ≤ a1.toInt := h_14
      have h_15 : a1.toInt ≤ 2000 := h_15
      obtain rfl : r_11 = 1 := hr_11.trans (by decide +kernel)
      refine b_if_ne hx hb zl_1 (tgt := 21) dX11_rate_11 (by decide +kernel) (fun c_17 => ?_) (fun c_17 => by exfalso; omega)
      refine lv_aload_n hx hb dX11_rate_21 rfl (lv_at hl 0 rfl) ?_
      refine va_get (D := D) (ci := 11) (v := .ref k0) (C := RX11) (T := TX11) (N := 25) hx hb hT giX11 hown hK hP 0 rfl rfl 0 (by decide +kernel) (hT (Cond.fieldLink RX11 9 "DesertWireModel" "s" "[I") mw_1156) (fun _ h9 => h9) rfl dX11_rate_22 ?_
      refine lv_iconst (v := 3) hx hb dX11_rate_25 (by decide +kernel) ?_
      refine k_iald (v := (c0 3)) hx hb hK hP 1 0 rfl rfl (k_inl (by decide +kernel)) rfl dX11_rate_26 ?_
      refine lv_topi (fun v_18 ev_18 => ?_)
      have lo_v_18 := k_lo v_18
      have hi_v_18 := k_hi v_18
      have tv_18 : v_18.toInt = (c0 3).toInt := by rw [ev_18]
      have b_19 : 0 ≤ v_18.toInt ∧ v_18.toInt ≤ 12 := by first | (rw [tv_18]; exact SB.n3 (And.left pre0)) | exact SB.n3 (And.left pre0) | omega
      refine lv_bipush (v := 12) hx hb dX11_rate_27 (by decide +kernel) ?_
      refine b_icmp_ne hx hb rfl zl_12 (tgt := 39) dX11_rate_29 (by decide +kernel) (fun c_20 => ?_) (fun c_20 => ?_)
      · refine lv_aload_n hx hb dX11_rate_39 rfl (lv_at hl 0 rfl) ?_
        refine va_get (D := D) (ci := 11) (v := .ref k0) (C := RX11) (T := TX11) (N := 25) hx hb hT giX11 hown hK hP 0 rfl rfl 0 (by decide +kernel) (hT (Cond.fieldLink RX11 9 "DesertWireModel" "s" "[I") mw_1156) (fun _ h9 => h9) rfl dX11_rate_40 ?_
        refine lv_iconst (v := 4) hx hb dX11_rate_43 (by decide +kernel) ?_
        refine k_iald (v := (c0 4)) hx hb hK hP 1 0 rfl rfl (k_inl (by decide +kernel)) rfl dX11_rate_44 ?_
        refine lv_topi (fun v_21 ev_21 => ?_)
        have lo_v_21 := k_lo v_21
        have hi_v_21 := k_hi v_21
        have tv_21 : v_21.toInt = (c0 4).toInt := by rw [ev_21]
        have b_22 : 0 ≤ v_21.toInt ∧ v_21.toInt ≤ 50 := by first | (rw [tv_21]; exact SB.n4 (And.left pre0)) | exact SB.n4 (And.left pre0) | omega
        refine lv_istore_n (lv' := [(3, .int v_21), (0, .ref k), (1, .int a0), (2, .int a1)]) hx hb dX11_rate_45 rfl hl (by decide +kernel) rfl ?_
        clear hl
        intro ls hl
        refine lv_aload_n hx hb dX11_rate_46 rfl (lv_at hl 1 rfl) ?_
        refine va_get (D := D) (ci := 11) (v := .ref k0) (C := RX11) (T := TX11) (N := 25) hx hb hT giX11 hown hK hP 0 rfl rfl 0 (by decide +kernel) (hT (Cond.fieldLink RX11 9 "DesertWireModel" "s" "[I") mw_1156) (fun _ h9 => h9) rfl dX11_rate_47 ?_
        refine lv_iconst (v := 4) hx hb dX11_rate_50 (by decide +kernel) ?_
        refine lv_iconst (v := 0) hx hb dX11_rate_51 (by decide +kernel) ?_
        refine va_iast hx hb hK hP hD hS 1 0 rfl rfl (k_inl (by decide +kernel)) dX11_rate_52 ?_
        clear hP hD hS
        intro H locs hP hD hS
        replace hP : va_P D vwCl [(k, .inr (11, [.ref k0, .ref k1, .ref k2, .int c3, .ref k4, .ref k5, .ref k6, .ref k7, .ref k8, .int c9, .ref ka, .ref kb, .int cc, .int cd, .int ce, .int cf, .int cg, .int ch, .int ci, .int cj, .int ck, .ref kl, .int cm, .int cn, .ref ko])), (k0, .inl (cI, 1201, .inl (upd c0 4 0))), (k4, .inl (cI, 6, .inl c4))] H := hP
        replace hD : va_D A [(k, .inr (11, [.ref k0, .ref k1, .ref k2, .int c3, .ref k4, .ref k5, .ref k6, .ref k7, .ref k8, .int c9, .ref ka, .ref kb, .int cc, .int cd, .int ce, .int cf, .int cg, .int ch, .int ci, .int cj, .int ck, .ref kl, .int cm, .int cn, .ref ko])), (k0, .inl (cI, 1201, .inl (upd c0 4 0))), (k4, .inl (cI, 6, .inl c4))] := hD
        obtain ⟨f_23, ef_23⟩ : ∃ g : Nat → Int32, g = upd c0 4 0 := ⟨_, rfl⟩
        rw [← ef_23] at hP hD
        have hS_24 : SIX f_23 (-1) := SIX.n pre0 ef_23 zl_0 (by decide +kernel) (by decide +kernel) (by omega)
        have n_25 : (f_23 0).toInt = (c0 0).toInt := by rw [updN ef_23 (by omega)]
        have n_26 : (f_23 1).toInt = (c0 1).toInt := by rw [updN ef_23 (by omega)]
        have n_27 : (f_23 2).toInt = (c0 2).toInt := by rw [updN ef_23 (by omega)]
        refine lv_aload_n hx hb dX11_rate_53 rfl (lv_at hl 1 rfl) ?_
        refine lv_iload_n hx hb dX11_rate_54 rfl (lv_at hl 2 rfl) ?_
        refine lv_sipush (v := 1131) hx hb dX11_rate_55 (by decide +kernel) ?_
        refine lv_iload_n hx hb dX11_rate_58 rfl (lv_at hl 0 rfl) ?_
        refine lv_iconst (v := 0) hx hb dX11_rate_59 (by decide +kernel) ?_
        refine lv_iconst (v := 0) hx hb dX11_rate_60 (by decide +kernel) ?_
        refine lv_iconst (v := 0) hx hb dX11_rate_61 (by decide +kernel) ?_
        refine kJi (wr := [(k4, .inl (cI, 6, .inl c4))]) (va_runV (As := [.int a0, .int 1131, .int v_21, .int 0, .int 0, .int 0]) (rest := []) ⟨hx, hb, hml, hown, hT⟩ (c_X11_goesOverG l D cI aK aV k k0 k1 k2 k4 k5 k6 k7 k8 ka kb kl ko H.size c3 c9 cc cd ce cf cg ch ci cj ck cm cn f_23 a0 1131 v_21 0 0 0 (by first | omega | (simp only [zl_0, zl_1131]; first | done | omega) | decide | assumption | rfl) (by first | omega | (simp only [zl_0, zl_1131]; first | done | omega) | decide | assumption | rfl) (by first | omega | (simp only [zl_0, zl_1131]; first | done | omega) | decide | assumption | rfl) (by first | omega | (simp only [zl_0, zl_1131]; first | done | omega) | decide | assumption | rfl)) (cwV 6 hT (gV_in mw_1311 mw_1308 mw_1310 mw_p4_2 mw_12) rfl rfl rfl (by decide +kernel) ⟨Nat.le_of_ble_eq_true rfl, Nat.le_of_ble_eq_true rfl⟩) (kRecvX (q0 := 0) (ci := 11) hK hP hD hN hXS hS hA rfl rfl [0, 1] rfl (by decide +kernel)) rfl rfl hl.1 rfl (lv_room (Nat.le_of_ble_eq_true rfl)) dX11_rate_62 ⟨Nat.le_of_ble_eq_true rfl, Nat.le_of_ble_eq_true rfl⟩) hP hD hS hA [0, 1] [2] rfl rfl (by decide +kernel) (by decide +kernel) ?_
        clear hP hD hS
        intro r_28 u_39 H locs w_29 hP hD hS
        obtain ⟨scc_30, scd_31, sce_32, scf_33, scg_34, sch_35, sci_36, scj_37, sck_38⟩ := u_39
        replace hP : va_P D vwCl [(k4, .inl (cI, 6, .inl c4)), (k, .inr (11, [.ref k0, .ref k1, .ref k2, .int c3, .ref k4, .ref k5, .ref k6, .ref k7, .ref k8, .int c9, .ref ka, .ref kb, .int scc_30, .int scd_31, .int sce_32, .int scf_33, .int scg_34, .int sch_35, .int sci_36, .int scj_37, .int sck_38, .ref kl, .int cm, .int cn, .ref ko])), (k0, .inl (cI, 1201, .inl f_23))] H := hP
        replace hD : va_D A [(k4, .inl (cI, 6, .inl c4)), (k, .inr (11, [.ref k0, .ref k1, .ref k2, .int c3, .ref k4, .ref k5, .ref k6, .ref k7, .ref k8, .int c9, .ref ka, .ref kb, .int scc_30, .int scd_31, .int sce_32, .int scf_33, .int scg_34, .int sch_35, .int sci_36, .int scj_37, .int sck_38, .ref kl, .int cm, .int cn, .ref ko])), (k0, .inl (cI, 1201, .inl f_23))] := hD
        have lo_scd_31 := k_lo scd_31
        have hi_scd_31 := k_hi scd_31
        have lo_sce_32 := k_lo sce_32
        have hi_sce_32 := k_hi sce_32
        have lo_scf_33 := k_lo scf_33
        have hi_scf_33 := k_hi scf_33
        obtain ⟨h_40, h_41, h_42, h_43⟩ := w_29
        try simp only [zl_0, zl_1131] at h_40
        have h_40 : 0 ≤ scd_31.toInt := h_40
        try simp only [zl_0, zl_1131] at h_41
        have h_41 : scd_31.toInt ≤ v_21.toInt := h_41
        try simp only [zl_0, zl_1131] at h_42
        have h_42 : sce_32.toInt = v_21.toInt := h_42
        try simp only [zl_0, zl_1131] at h_43
        have h_43 : TXQ (tG f_23 ((1131 : Int)).toNat v_21) a0 0 0 0 0 0 0 0 0 r_28 scd_31.toInt scf_33 := h_43
        have h_43 : TXQ (tG f_23 ((1131 : Int)).toNat v_21) a0 0 0 0 0 0 0 0 0 r_28 scd_31.toInt scf_33 := h_43
        have lo_r_28 := k_lo r_28
        have hi_r_28 := k_hi r_28
        refine lv_istore (lv' := [(4, .int r_28), (3, .int v_21), (0, .ref k), (1, .int a0), (2, .int a1)]) hx hb dX11_rate_65 hl (by decide +kernel) rfl ?_
        clear hl
        intro ls hl
        refine lv_aload_n hx hb dX11_rate_67 rfl (lv_at hl 2 rfl) ?_
        refine va_get (D := D) (ci := 11) (v := .int scf_33) (C := RX11) (T := TX11) (N := 25) hx hb hT giX11 hown hK hP 1 rfl rfl 15 (by decide +kernel) (hT (Cond.fieldLink RX11 148 "DesertWireModel" "isWrong" "Z") mw_1171) (fun _ h9 => h9) rfl dX11_rate_68 ?_
        refine b_if_ne hx hb rfl (tgt := 85) dX11_rate_71 (by decide +kernel) (fun c_44 => ?_) (fun c_44 => ?_)
        · refine lv_bipush (v := (-10)) hx hb dX11_rate_85 (by decide +kernel) ?_
          refine lv_aload_n hx hb dX11_rate_87 rfl (lv_at hl 2 rfl) ?_
          refine va_get (D := D) (ci := 11) (v := .int scd_31) (C := RX11) (T := TX11) (N := 25) hx hb hT giX11 hown hK hP 1 rfl rfl 13 (by decide +kernel) (hT (Cond.fieldLink RX11 138 "DesertWireModel" "here" "I") mw_1169) (fun _ h9 => h9) rfl dX11_rate_88 ?_
          refine lv_isub hx hb dX11_rate_91 ?_
          refine lv_topi (fun v_45 ev_45 => ?_)
          have tv_45 : v_45.toInt = (-10) - scd_31.toInt := by rw [ev_45]; exact k_subv zl_m10 rfl (by omega) (by omega)
          exact hRet (scc_30, scd_31, sce_32, scf_33, scg_34, sch_35, sci_36, scj_37, sck_38, f_23, c4) [1, 2, 0] ⟨hS_24, (by (try dsimp only); exact (rtr_no (q := scd_31.toInt) (d := scf_33) ⟨by omega, by omega, by omega, by omega⟩ (by omega) (by have z := h_43; rw [show tG f_23 ((1131 : Int)).toNat v_21 = tG c0 1131 (c0 4) from tG_eq ev_21 (fun j hj => by show f_23 (1131 + j) = c0 (1131 + j); rw [ef_23, sp_ne (by omega)])] at z; exact z) (by first | exact Or.inl (by omega) | exact Or.inr (by omega)) (by (try dsimp only); rw [ef_23, sp_at]; decide) (by omega) (by (try dsimp only); rw [ef_23, sp_ne (by decide +kernel)]))), (RTX_no ef_23)⟩ hP hD (by decide +kernel) rfl hS rfl dX11_rate_92
        · refine lv_aload_n hx hb dX11_rate_74 rfl (lv_at hl 2 rfl) ?_
          refine va_get (D := D) (ci := 11) (v := .int scd_31) (C := RX11) (T := TX11) (N := 25) hx hb hT giX11 hown hK hP 1 rfl rfl 13 (by decide +kernel) (hT (Cond.fieldLink RX11 138 "DesertWireModel" "here" "I") mw_1169) (fun _ h9 => h9) rfl dX11_rate_75 ?_
          refine lv_aload_n hx hb dX11_rate_78 rfl (lv_at hl 2 rfl) ?_
          refine va_get (D := D) (ci := 11) (v := .int sce_32) (C := RX11) (T := TX11) (N := 25) hx hb hT giX11 hown hK hP 1 rfl rfl 14 (by decide +kernel) (hT (Cond.fieldLink RX11 142 "DesertWireModel" "end" "I") mw_1170) (fun _ h9 => h9) rfl dX11_rate_79 ?_
          refine b_icmp_ge hx hb rfl rfl (tgt := 93) dX11_rate_82 (by decide +kernel) (fun c_46 => ?_) (fun c_46 => ?_)
          · refine lv_aload_n hx hb dX11_rate_93 rfl (lv_at hl 2 rfl) ?_
            refine va_get (D := D) (ci := 11) (v := .ref k0) (C := RX11) (T := TX11) (N := 25) hx hb hT giX11 hown hK hP 1 rfl rfl 0 (by decide +kernel) (hT (Cond.fieldLink RX11 9 "DesertWireModel" "s" "[I") mw_1156) (fun _ h9 => h9) rfl dX11_rate_94 ?_
            refine lv_iconst (v := 3) hx hb dX11_rate_97 (by decide +kernel) ?_
            refine k_iald (v := (c0 3)) hx hb hK hP 2 0 rfl rfl (k_inl (by decide +kernel)) (by rw [ef_23]; rfl) dX11_rate_98 ?_
            refine lv_topi (fun v_47 ev_47 => ?_)
            have lo_v_47 := k_lo v_47
            have hi_v_47 := k_hi v_47
            have tv_47 : v_47.toInt = (c0 3).toInt := by rw [ev_47]
            have b_48 : 0 ≤ v_47.toInt ∧ v_47.toInt ≤ 12 := by first | (rw [tv_47]; exact SB.n3 (And.left hS_24)) | exact SB.n3 (And.left hS_24) | omega
            refine lv_istore (lv' := [(5, .int v_47), (4, .int r_28), (3, .int v_21), (0, .ref k), (1, .int a0), (2, .int a1)]) hx hb dX11_rate_99 hl (by decide +kernel) rfl ?_
            clear hl
            intro ls hl
            refine lv_aload_n hx hb dX11_rate_101 rfl (lv_at hl 3 rfl) ?_
            refine va_get (D := D) (ci := 11) (v := .ref k0) (C := RX11) (T := TX11) (N := 25) hx hb hT giX11 hown hK hP 1 rfl rfl 0 (by decide +kernel) (hT (Cond.fieldLink RX11 9 "DesertWireModel" "s" "[I") mw_1156) (fun _ h9 => h9) rfl dX11_rate_102 ?_
            refine lv_iconst (v := 3) hx hb dX11_rate_105 (by decide +kernel) ?_
            refine lv_dup2_11 hx hb dX11_rate_106 rfl rfl ?_
            refine k_iald (v := (c0 3)) hx hb hK hP 2 0 rfl rfl (k_inl (by decide +kernel)) (by rw [ef_23]; rfl) dX11_rate_107 ?_
            refine lv_topi (fun v_49 ev_49 => ?_)
            have lo_v_49 := k_lo v_49
            have hi_v_49 := k_hi v_49
            have tv_49 : v_49.toInt = (c0 3).toInt := by rw [ev_49]
            have b_50 : 0 ≤ v_49.toInt ∧ v_49.toInt ≤ 12 := by first | (rw [tv_49]; exact SB.n3 (And.left hS_24)) | exact SB.n3 (And.left hS_24) | omega
            refine lv_iconst (v := 1) hx hb dX11_rate_108 (by decide +kernel) ?_
            refine lv_iadd hx hb dX11_rate_109 ?_
            refine lv_topi (fun v_51 ev_51 => ?_)
            have tv_51 : v_51.toInt = v_49.toInt + 1 := by rw [ev_51]; exact k_addv rfl zl_1 (by omega) (by omega)
            refine va_iast hx hb hK hP hD hS 2 0 rfl rfl (k_inl (by decide +kernel)) dX11_rate_110 ?_
            clear hP hD hS
            intro H locs hP hD hS
            replace hP : va_P D vwCl [(k4, .inl (cI, 6, .inl c4)), (k, .inr (11, [.ref k0, .ref k1, .ref k2, .int c3, .ref k4, .ref k5, .ref k6, .ref k7, .ref k8, .int c9, .ref ka, .ref kb, .int scc_30, .int scd_31, .int sce_32, .int scf_33, .int scg_34, .int sch_35, .int sci_36, .int scj_37, .int sck_38, .ref kl, .int cm, .int cn, .ref ko])), (k0, .inl (cI, 1201, .inl (upd f_23 3 v_51)))] H := hP
            replace hD : va_D A [(k4, .inl (cI, 6, .inl c4)), (k, .inr (11, [.ref k0, .ref k1, .ref k2, .int c3, .ref k4, .ref k5, .ref k6, .ref k7, .ref k8, .int c9, .ref ka, .ref kb, .int scc_30, .int scd_31, .int sce_32, .int scf_33, .int scg_34, .int sch_35, .int sci_36, .int scj_37, .int sck_38, .ref kl, .int cm, .int cn, .ref ko])), (k0, .inl (cI, 1201, .inl (upd f_23 3 v_51)))] := hD
            obtain ⟨f_52, ef_52⟩ : ∃ g : Nat → Int32, g = upd f_23 3 v_51 := ⟨_, rfl⟩
            rw [← ef_52] at hP hD
            have hS_53 : SIX f_52 (-1) := SIX.n hS_24 ef_52 rfl (by decide +kernel) (by decide +kernel) (by omega)
            have n_54 : (f_52 0).toInt = (f_23 0).toInt := by rw [updN ef_52 (by omega)]
            have n_55 : (f_52 1).toInt = (f_23 1).toInt := by rw [updN ef_52 (by omega)]
            have n_56 : (f_52 2).toInt = (f_23 2).toInt := by rw [updN ef_52 (by omega)]
            refine lv_sipush (v := 495) hx hb dX11_rate_111 (by decide +kernel) ?_
            refine lv_bipush (v := 53) hx hb dX11_rate_114 (by decide +kernel) ?_
            refine lv_iload hx hb dX11_rate_116 (lv_at hl 0 rfl) ?_
            refine lv_imul hx hb dX11_rate_118 ?_
            refine lv_topi (fun v_57 ev_57 => ?_)
            have tv_57 : v_57.toInt = 53 * v_47.toInt := by rw [ev_57]; exact k_mulv zl_53 rfl (by omega) (by omega)
            refine lv_iadd hx hb dX11_rate_119 ?_
            refine lv_topi (fun v_58 ev_58 => ?_)
            have tv_58 : v_58.toInt = 495 + v_57.toInt := by rw [ev_58]; exact k_addv zl_495 rfl (by omega) (by omega)
            refine lv_istore (lv' := [(6, .int v_58), (5, .int v_47), (4, .int r_28), (3, .int v_21), (0, .ref k), (1, .int a0), (2, .int a1)]) hx hb dX11_rate_120 hl (by decide +kernel) rfl ?_
            clear hl
            intro ls hl
            refine lv_aload_n hx hb dX11_rate_122 rfl (lv_at hl 4 rfl) ?_
            refine va_get (D := D) (ci := 11) (v := .ref k0) (C := RX11) (T := TX11) (N := 25) hx hb hT giX11 hown hK hP 1 rfl rfl 0 (by decide +kernel) (hT (Cond.fieldLink RX11 9 "DesertWireModel" "s" "[I") mw_1156) (fun _ h9 => h9) rfl dX11_rate_123 ?_
            refine lv_iload hx hb dX11_rate_126 (lv_at hl 0 rfl) ?_
            refine lv_iconst (v := 0) hx hb dX11_rate_128 (by decide +kernel) ?_
            refine lv_iadd hx hb dX11_rate_129 ?_
            refine lv_topi (fun v_59 ev_59 => ?_)
            have tv_59 : v_59.toInt = v_58.toInt + 0 := by rw [ev_59]; exact k_addv rfl zl_0 (by omega) (by omega)
            refine lv_iload_n hx hb dX11_rate_130 rfl (lv_at hl 5 rfl) ?_
            refine va_iast hx hb hK hP hD hS 2 0 rfl rfl (k_in (by omega) (by omega)) dX11_rate_131 ?_
            clear hP hD hS
            intro H locs hP hD hS
            replace hP : va_P D vwCl [(k4, .inl (cI, 6, .inl c4)), (k, .inr (11, [.ref k0, .ref k1, .ref k2, .int c3, .ref k4, .ref k5, .ref k6, .ref k7, .ref k8, .int c9, .ref ka, .ref kb, .int scc_30, .int scd_31, .int sce_32, .int scf_33, .int scg_34, .int sch_35, .int sci_36, .int scj_37, .int sck_38, .ref kl, .int cm, .int cn, .ref ko])), (k0, .inl (cI, 1201, .inl (upd f_52 v_59.toNatClampNeg a0)))] H := hP
            replace hD : va_D A [(k4, .inl (cI, 6, .inl c4)), (k, .inr (11, [.ref k0, .ref k1, .ref k2, .int c3, .ref k4, .ref k5, .ref k6, .ref k7, .ref k8, .int c9, .ref ka, .ref kb, .int scc_30, .int scd_31, .int sce_32, .int scf_33, .int scg_34, .int sch_35, .int sci_36, .int scj_37, .int sck_38, .ref kl, .int cm, .int cn, .ref ko])), (k0, .inl (cI, 1201, .inl (upd f_52 v_59.toNatClampNeg a0)))] := hD
            obtain ⟨f_60, ef_60⟩ : ∃ g : Nat → Int32, g = upd f_52 v_59.toNatClampNeg a0 := ⟨_, rfl⟩
            rw [← ef_60] at hP hD
            have hS_61 : SIX f_60 (-1) := SIX.r (r := v_47.toInt.toNat) (k := 0) hS_53 ef_60 rfl (by rw [k_clamp]; omega) (by omega) (by omega) (by omega)
            have n_62 : (f_60 0).toInt = (f_52 0).toInt := by rw [updN ef_60 (by rw [k_clamp]; omega)]
            have n_63 : (f_60 1).toInt = (f_52 1).toInt := by rw [updN ef_60 (by rw [k_clamp]; omega)]
            have n_64 : (f_60 2).toInt = (f_52 2).toInt := by rw [updN ef_60 (by rw [k_clamp]; omega)]
            refine lv_aload_n hx hb dX11_rate_132 rfl (lv_at hl 4 rfl) ?_
            refine va_get (D := D) (ci := 11) (v := .ref k0) (C := RX11) (T := TX11) (N := 25) hx hb hT giX11 hown hK hP 1 rfl rfl 0 (by decide +kernel) (hT (Cond.fieldLink RX11 9 "DesertWireModel" "s" "[I") mw_1156) (fun _ h9 => h9) rfl dX11_rate_133 ?_
            refine lv_iload hx hb dX11_rate_136 (lv_at hl 0 rfl) ?_
            refine lv_iconst (v := 1) hx hb dX11_rate_138 (by decide +kernel) ?_
            refine lv_iadd hx hb dX11_rate_139 ?_
            refine lv_topi (fun v_65 ev_65 => ?_)
            have tv_65 : v_65.toInt = v_58.toInt + 1 := by rw [ev_65]; exact k_addv rfl zl_1 (by omega) (by omega)
            refine lv_iload_n hx hb dX11_rate_140 rfl (lv_at hl 6 rfl) ?_
            refine va_iast hx hb hK hP hD hS 2 0 rfl rfl (k_in (by omega) (by omega)) dX11_rate_141 ?_
            clear hP hD hS
            intro H locs hP hD hS
            replace hP : va_P D vwCl [(k4, .inl (cI, 6, .inl c4)), (k, .inr (11, [.ref k0, .ref k1, .ref k2, .int c3, .ref k4, .ref k5, .ref k6, .ref k7, .ref k8, .int c9, .ref ka, .ref kb, .int scc_30, .int scd_31, .int sce_32, .int scf_33, .int scg_34, .int sch_35, .int sci_36, .int scj_37, .int sck_38, .ref kl, .int cm, .int cn, .ref ko])), (k0, .inl (cI, 1201, .inl (upd f_60 v_65.toNatClampNeg a1)))] H := hP
            replace hD : va_D A [(k4, .inl (cI, 6, .inl c4)), (k, .inr (11, [.ref k0, .ref k1, .ref k2, .int c3, .ref k4, .ref k5, .ref k6, .ref k7, .ref k8, .int c9, .ref ka, .ref kb, .int scc_30, .int scd_31, .int sce_32, .int scf_33, .int scg_34, .int sch_35, .int sci_36, .int scj_37, .int sck_38, .ref kl, .int cm, .int cn, .ref ko])), (k0, .inl (cI, 1201, .inl (upd f_60 v_65.toNatClampNeg a1)))] := hD
            obtain ⟨f_66, ef_66⟩ : ∃ g : Nat → Int32, g = upd f_60 v_65.toNatClampNeg a1 := ⟨_, rfl⟩
            rw [← ef_66] at hP hD
            have hS_67 : SIX f_66 (-1) := SIX.r (r := v_47.toInt.toNat) (k := 1) hS_61 ef_66 rfl (by rw [k_clamp]; omega) (by omega) (by omega) (by omega)
            have n_68 : (f_66 0).toInt = (f_60 0).toInt := by rw [updN ef_66 (by rw [k_clamp]; omega)]
            have n_69 : (f_66 1).toInt = (f_60 1).toInt := by rw [updN ef_66 (by rw [k_clamp]; omega)]
            have n_70 : (f_66 2).toInt = (f_60 2).toInt := by rw [updN ef_66 (by rw [k_clamp]; omega)]
            refine lv_aload_n hx hb dX11_rate_142 rfl (lv_at hl 4 rfl) ?_
            refine va_get (D := D) (ci := 11) (v := .ref k0) (C := RX11) (T := TX11) (N := 25) hx hb hT giX11 hown hK hP 1 rfl rfl 0 (by decide +kernel) (hT (Cond.fieldLink RX11 9 "DesertWireModel" "s" "[I") mw_1156) (fun _ h9 => h9) rfl dX11_rate_143 ?_
            refine lv_iload hx hb dX11_rate_146 (lv_at hl 0 rfl) ?_
            refine lv_iconst (v := 2) hx hb dX11_rate_148 (by decide +kernel) ?_
            refine lv_iadd hx hb dX11_rate_149 ?_
            refine lv_topi (fun v_71 ev_71 => ?_)
            have tv_71 : v_71.toInt = v_58.toInt + 2 := by rw [ev_71]; exact k_addv rfl zl_2 (by omega) (by omega)
            refine lv_iload_n hx hb dX11_rate_150 rfl (lv_at hl 3 rfl) ?_
            refine va_iast hx hb hK hP hD hS 2 0 rfl rfl (k_in (by omega) (by omega)) dX11_rate_151 ?_
            clear hP hD hS
            intro H locs hP hD hS
            replace hP : va_P D vwCl [(k4, .inl (cI, 6, .inl c4)), (k, .inr (11, [.ref k0, .ref k1, .ref k2, .int c3, .ref k4, .ref k5, .ref k6, .ref k7, .ref k8, .int c9, .ref ka, .ref kb, .int scc_30, .int scd_31, .int sce_32, .int scf_33, .int scg_34, .int sch_35, .int sci_36, .int scj_37, .int sck_38, .ref kl, .int cm, .int cn, .ref ko])), (k0, .inl (cI, 1201, .inl (upd f_66 v_71.toNatClampNeg v_21)))] H := hP
            replace hD : va_D A [(k4, .inl (cI, 6, .inl c4)), (k, .inr (11, [.ref k0, .ref k1, .ref k2, .int c3, .ref k4, .ref k5, .ref k6, .ref k7, .ref k8, .int c9, .ref ka, .ref kb, .int scc_30, .int scd_31, .int sce_32, .int scf_33, .int scg_34, .int sch_35, .int sci_36, .int scj_37, .int sck_38, .ref kl, .int cm, .int cn, .ref ko])), (k0, .inl (cI, 1201, .inl (upd f_66 v_71.toNatClampNeg v_21)))] := hD
            obtain ⟨f_72, ef_72⟩ : ∃ g : Nat → Int32, g = upd f_66 v_71.toNatClampNeg v_21 := ⟨_, rfl⟩
            rw [← ef_72] at hP hD
            have hS_73 : SIX f_72 (-1) := SIX.r (r := v_47.toInt.toNat) (k := 2) hS_67 ef_72 rfl (by rw [k_clamp]; omega) (by omega) (by omega) (by omega)
            have n_74 : (f_72 0).toInt = (f_66 0).toInt := by rw [updN ef_72 (by rw [k_clamp]; omega)]
            have n_75 : (f_72 1).toInt = (f_66 1).toInt := by rw [updN ef_72 (by rw [k_clamp]; omega)]
            have n_76 : (f_72 2).toInt = (f_66 2).toInt := by rw [updN ef_72 (by rw [k_clamp]; omega)]
            refine lv_iconst (v := 0) hx hb dX11_rate_152 (by decide +kernel) ?_
            refine lv_istore (lv' := [(7, .int 0), (6, .int v_58), (5, .int v_47), (4, .int r_28), (3, .int v_21), (0, .ref k), (1, .int a0), (2, .int a1)]) hx hb dX11_rate_153 hl (by decide +kernel) rfl ?_
            clear hl
            intro ls hl
            have hloop_155 : ∀ (fu_ : Nat) (l155_7 : Int32) (g155_k0 : Nat → Int32), 0 ≤ l155_7.toInt → l155_7.toInt ≤ 50 → SIX g155_k0 (-1) → RTL c0 g155_k0 a0 a1 l155_7.toInt.toNat → (50 - l155_7.toInt).toNat < fu_ → ∀ (ls : Array Slot) (H : Heap) (locs : List Loc), lv_has ls 8 [(7, .int l155_7), (6, .int v_58), (5, .int v_47), (4, .int r_28), (3, .int v_21), (0, .ref k), (1, .int a0), (2, .int a1)] → va_P D vwCl [(k4, .inl (cI, 6, .inl c4)), (k, .inr (11, [.ref k0, .ref k1, .ref k2, .int c3, .ref k4, .ref k5, .ref k6, .ref k7, .ref k8, .int c9, .ref ka, .ref kb, .int scc_30, .int scd_31, .int sce_32, .int scf_33, .int scg_34, .int sch_35, .int sci_36, .int scj_37, .int sck_38, .ref kl, .int cm, .int cn, .ref ko])), (k0, .inl (cI, 1201, .inl g155_k0))] H → va_D A [(k4, .inl (cI, 6, .inl c4)), (k, .inr (11, [.ref k0, .ref k1, .ref k2, .int c3, .ref k4, .ref k5, .ref k6, .ref k7, .ref k8, .int c9, .ref ka, .ref kb, .int scc_30, .int scd_31, .int sce_32, .int scf_33, .int scg_34, .int sch_35, .int sci_36, .int scj_37, .int sck_38, .ref kl, .int cm, .int cn, .ref ko])), (k0, .inl (cI, 1201, .inl g155_k0))] → va_S A s.heap H locs → W p l e ({ frames := 120, cells := 0, slots := 0, locals := 8308 } : Room) s m args below meth c H locs 0 0 Q (F0 m 155 ls []) := by
              intro fu_; induction fu_ with
              | zero => intro l155_7 g155_k0 i155_0 i155_1 i155_2 i155_3 hm; exact absurd hm (by omega)
              | succ fu_ ih155 =>
                  intro l155_7 g155_k0 i155_0 i155_1 i155_2 i155_3 hm ls H locs hl hP hD hS
                  have lo_l155_7 := k_lo l155_7
                  have hi_l155_7 := k_hi l155_7
                  have i155_2 : SIX g155_k0 (-1) := i155_2
                  refine lv_iload hx hb dX11_rate_155 (lv_at hl 0 rfl) ?_
                  refine lv_bipush (v := 50) hx hb dX11_rate_157 (by decide +kernel) ?_
                  refine b_icmp_ge hx hb rfl zl_50 (tgt := 191) dX11_rate_159 (by decide +kernel) (fun c_77 => ?_) (fun c_77 => ?_)
                  · refine lv_iload hx hb dX11_rate_191 (lv_at hl 2 rfl) ?_
                    exact hRet (scc_30, scd_31, sce_32, scf_33, scg_34, sch_35, sci_36, scj_37, sck_38, g155_k0, c4) [1, 2, 0] ⟨i155_2, (by (try dsimp only); exact (rtr_yes (q := scd_31.toInt) (d := scf_33) ⟨by omega, by omega, by omega, by omega⟩ (by omega) (by have z := h_43; rw [show tG f_23 ((1131 : Int)).toNat v_21 = tG c0 1131 (c0 4) from tG_eq ev_21 (fun j hj => by show f_23 (1131 + j) = c0 (1131 + j); rw [ef_23, sp_ne (by omega)])] at z; exact z) (by omega) (by omega) i155_3.2.1 (by omega) i155_3.1)), (RTX_of (by have z := i155_3; rw [show l155_7.toInt.toNat = 50 from by omega] at z; exact z))⟩ hP hD (by decide +kernel) rfl hS rfl dX11_rate_193
                  · refine lv_aload_n hx hb dX11_rate_162 rfl (lv_at hl 5 rfl) ?_
                    refine va_get (D := D) (ci := 11) (v := .ref k0) (C := RX11) (T := TX11) (N := 25) hx hb hT giX11 hown hK hP 1 rfl rfl 0 (by decide +kernel) (hT (Cond.fieldLink RX11 9 "DesertWireModel" "s" "[I") mw_1156) (fun _ h9 => h9) rfl dX11_rate_163 ?_
                    refine lv_iload hx hb dX11_rate_166 (lv_at hl 1 rfl) ?_
                    refine lv_iconst (v := 3) hx hb dX11_rate_168 (by decide +kernel) ?_
                    refine lv_iadd hx hb dX11_rate_169 ?_
                    refine lv_topi (fun v_78 ev_78 => ?_)
                    have tv_78 : v_78.toInt = v_58.toInt + 3 := by rw [ev_78]; exact k_addv rfl zl_3 (by omega) (by omega)
                    refine lv_iload hx hb dX11_rate_170 (lv_at hl 0 rfl) ?_
                    refine lv_iadd hx hb dX11_rate_172 ?_
                    refine lv_topi (fun v_79 ev_79 => ?_)
                    have tv_79 : v_79.toInt = v_78.toInt + l155_7.toInt := by rw [ev_79]; exact k_addv rfl rfl (by omega) (by omega)
                    refine lv_aload_n hx hb dX11_rate_173 rfl (lv_at hl 5 rfl) ?_
                    refine va_get (D := D) (ci := 11) (v := .ref k0) (C := RX11) (T := TX11) (N := 25) hx hb hT giX11 hown hK hP 1 rfl rfl 0 (by decide +kernel) (hT (Cond.fieldLink RX11 9 "DesertWireModel" "s" "[I") mw_1156) (fun _ h9 => h9) rfl dX11_rate_174 ?_
                    refine lv_sipush (v := 1131) hx hb dX11_rate_177 (by decide +kernel) ?_
                    refine lv_iload hx hb dX11_rate_180 (lv_at hl 0 rfl) ?_
                    refine lv_iadd hx hb dX11_rate_182 ?_
                    refine lv_topi (fun v_80 ev_80 => ?_)
                    have tv_80 : v_80.toInt = 1131 + l155_7.toInt := by rw [ev_80]; exact k_addv zl_1131 rfl (by omega) (by omega)
                    refine k_iald (v := (g155_k0 v_80.toNatClampNeg)) hx hb hK hP 2 0 rfl rfl (k_in (by omega) (by omega)) rfl dX11_rate_183 ?_
                    refine lv_topi (fun v_81 ev_81 => ?_)
                    have lo_v_81 := k_lo v_81
                    have hi_v_81 := k_hi v_81
                    have tv_81 : v_81.toInt = (g155_k0 v_80.toNatClampNeg).toInt := by rw [ev_81]
                    refine va_iast hx hb hK hP hD hS 2 0 rfl rfl (k_in (by omega) (by omega)) dX11_rate_184 ?_
                    clear hP hD hS
                    intro H locs hP hD hS
                    replace hP : va_P D vwCl [(k4, .inl (cI, 6, .inl c4)), (k, .inr (11, [.ref k0, .ref k1, .ref k2, .int c3, .ref k4, .ref k5, .ref k6, .ref k7, .ref k8, .int c9, .ref ka, .ref kb, .int scc_30, .int scd_31, .int sce_32, .int scf_33, .int scg_34, .int sch_35, .int sci_36, .int scj_37, .int sck_38, .ref kl, .int cm, .int cn, .ref ko])), (k0, .inl (cI, 1201, .inl (upd g155_k0 v_79.toNatClampNeg v_81)))] H := hP
                    replace hD : va_D A [(k4, .inl (cI, 6, .inl c4)), (k, .inr (11, [.ref k0, .ref k1, .ref k2, .int c3, .ref k4, .ref k5, .ref k6, .ref k7, .ref k8, .int c9, .ref ka, .ref kb, .int scc_30, .int scd_31, .int sce_32, .int scf_33, .int scg_34, .int sch_35, .int sci_36, .int scj_37, .int sck_38, .ref kl, .int cm, .int cn, .ref ko])), (k0, .inl (cI, 1201, .inl (upd g155_k0 v_79.toNatClampNeg v_81)))] := hD
                    obtain ⟨f_82, ef_82⟩ : ∃ g : Nat → Int32, g = upd g155_k0 v_79.toNatClampNeg v_81 := ⟨_, rfl⟩
                    rw [← ef_82] at hP hD
                    have hS_83 : SIX f_82 (-1) := SIX.r (r := v_47.toInt.toNat) (k := (3 + l155_7.toInt.toNat)) i155_2 ef_82 rfl (by rw [k_clamp]; omega) (by omega) (by omega) (by omega)
                    have n_84 : (f_82 0).toInt = (g155_k0 0).toInt := by rw [updN ef_82 (by rw [k_clamp]; omega)]
                    have n_85 : (f_82 1).toInt = (g155_k0 1).toInt := by rw [updN ef_82 (by rw [k_clamp]; omega)]
                    have n_86 : (f_82 2).toInt = (g155_k0 2).toInt := by rw [updN ef_82 (by rw [k_clamp]; omega)]
                    obtain ⟨v_87, ev_87⟩ : ∃ y : Int32, y = l155_7 + 1 := ⟨_, rfl⟩
                    have tv_87 : v_87.toInt = l155_7.toInt + 1 := by rw [ev_87]; exact k_addv rfl zl_1 (by omega) (by omega)
                    refine lv_iinc (v := v_87) (lv' := [(7, .int v_87), (6, .int v_58), (5, .int v_47), (4, .int r_28), (3, .int v_21), (0, .ref k), (1, .int a0), (2, .int a1)]) hx hb dX11_rate_185 hl (k := 0) rfl (by rw [ev_87]; rfl) (by decide +kernel) rfl ?_
                    clear hl
                    intro ls hl
                    refine lv_goto (tgt := 155) hx hb dX11_rate_188 (by decide +kernel) ?_
                    exact ih155 v_87 f_82 (by first | omega | decide | assumption | rfl) (by first | omega | decide | assumption | rfl) hS_83 (RTL_step i155_3 (by omega) (by omega) ef_82 ev_81 (by omega) (by omega) (by omega) (by omega)) (by omega) ls _ _ (lv_sub hl [0, 1, 2, 3, 4, 5, 6, 7] rfl) (hP.sub [0, 1, 2] rfl) (hD.sub [0, 1, 2] (by decide +kernel) rfl) hS
            exact hloop_155 _ 0 f_72 (by first | omega | (simp only [zl_0]; first | done | omega) | decide | assumption | rfl) (by first | omega | (simp only [zl_0]; first | done | omega) | decide | assumption | rfl) hS_73 (by rw [zl_0]; exact RTL_0 (c := v_47.toInt.toNat) ef_23 ef_52 ef_60 ef_66 ef_72 (by omega) (by omega) (by omega) (by omega) (by omega) (by omega)) (Nat.lt_succ_self _) ls _ _ (lv_sub hl [0, 1, 2, 3, 4, 5, 6, 7] rfl) hP hD hS
          · refine lv_bipush (v := (-10)) hx hb dX11_rate_85 (by decide +kernel) ?_
            refine lv_aload_n hx hb dX11_rate_87 rfl (lv_at hl 2 rfl) ?_
            refine va_get (D := D) (ci := 11) (v := .int scd_31) (C := RX11) (T := TX11) (N := 25) hx hb hT giX11 hown hK hP 1 rfl rfl 13 (by decide +kernel) (hT (Cond.fieldLink RX11 138 "DesertWireModel" "here" "I") mw_1169) (fun _ h9 => h9) rfl dX11_rate_88 ?_
            refine lv_isub hx hb dX11_rate_91 ?_
            refine lv_topi (fun v_88 ev_88 => ?_)
            have tv_88 : v_88.toInt = (-10) - scd_31.toInt := by rw [ev_88]; exact k_subv zl_m10 rfl (by omega) (by omega)
            exact hRet (scc_30, scd_31, sce_32, scf_33, scg_34, sch_35, sci_36, scj_37, sck_38, f_23, c4) [1, 2, 0] ⟨hS_24, (by (try dsimp only); exact (rtr_no (q := scd_31.toInt) (d := scf_33) ⟨by omega, by omega, by omega, by omega⟩ (by omega) (by have z := h_43; rw [show tG f_23 ((1131 : Int)).toNat v_21 = tG c0 1131 (c0 4) from tG_eq ev_21 (fun j hj => by show f_23 (1131 + j) = c0 (1131 + j); rw [ef_23, sp_ne (by omega)])] at z; exact z) (by first | exact Or.inl (by omega) | exact Or.inr (by omega)) (by (try dsimp only); rw [ef_23, sp_at]; decide) (by omega) (by (try dsimp only); rw [ef_23, sp_ne (by decide +kernel)]))), (RTX_no ef_23)⟩ hP hD (by decide +kernel) rfl hS rfl dX11_rate_92
      · refine lv_aload_n hx hb dX11_rate_32 rfl (lv_at hl 0 rfl) ?_
        refine lv_ldc (v := (-1000004)) hx hb hown (hT _ mw_1256) dX11_rate_33 ?_
        refine kJi (wr := [(k0, .inl (cI, 1201, .inl c0))]) (va_runV (As := [.int (-1000004)]) (rest := []) ⟨hx, hb, hml, hown, hT⟩ (c_X11_findingG l D cI aK aV k k0 k1 k2 k4 k5 k6 k7 k8 ka kb kl ko H.size c3 c9 cc cd ce cf cg ch ci cj ck cm cn c4 (-1000004) (by first | omega | (simp only [zl_m1000004]; first | done | omega) | decide | assumption | rfl) (by first | omega | (simp only [zl_m1000004]; first | done | omega) | decide | assumption | rfl)) (cwV 1 hT (gV_in mw_1243 mw_1240 mw_1242 mw_p3_8 mw_12) rfl rfl rfl (by decide +kernel) ⟨Nat.le_of_ble_eq_true rfl, Nat.le_of_ble_eq_true rfl⟩) (kRecvX (q0 := 0) (ci := 11) hK hP hD hN hXS hS hA rfl rfl [0, 2] rfl (by decide +kernel)) rfl rfl hl.1 rfl (lv_room (Nat.le_of_ble_eq_true rfl)) dX11_rate_35 ⟨Nat.le_of_ble_eq_true rfl, Nat.le_of_ble_eq_true rfl⟩) hP hD hS hA [0, 2] [1] rfl rfl (by decide +kernel) (by decide +kernel) ?_
        clear hP hD hS
        intro r_89 sc4_91 H locs w_90 hP hD hS
        replace hP : va_P D vwCl [(k0, .inl (cI, 1201, .inl c0)), (k, .inr (11, [.ref k0, .ref k1, .ref k2, .int c3, .ref k4, .ref k5, .ref k6, .ref k7, .ref k8, .int c9, .ref ka, .ref kb, .int cc, .int cd, .int ce, .int cf, .int cg, .int ch, .int ci, .int cj, .int ck, .ref kl, .int cm, .int cn, .ref ko])), (k4, .inl (cI, 6, .inl sc4_91))] H := hP
        replace hD : va_D A [(k0, .inl (cI, 1201, .inl c0)), (k, .inr (11, [.ref k0, .ref k1, .ref k2, .int c3, .ref k4, .ref k5, .ref k6, .ref k7, .ref k8, .int c9, .ref ka, .ref kb, .int cc, .int cd, .int ce, .int cf, .int cg, .int ch, .int ci, .int cj, .int ck, .ref kl, .int cm, .int cn, .ref ko])), (k4, .inl (cI, 6, .inl sc4_91))] := hD
        have hr_89 := w_90
        obtain rfl : r_89 = (-1000004) := hr_89.trans (by decide +kernel)
        exact hRet (cc, cd, ce, cf, cg, ch, ci, cj, ck, c0, sc4_91) [1, 0, 2] ⟨pre0, (by (try dsimp only); exact (Or.inr (Or.inl ⟨⟨by omega, by omega, by omega, by omega⟩, by omega, zl_m1000004, rfl, rfl⟩))), (RTX_rf)⟩ hP hD (by decide +kernel) rfl hS rfl dX11_rate_38
    · have h_16 : a1.toInt < 0 ∨ 2000 < a1.toInt := h_16
      obtain rfl : r_11 = 0 := hr_11.trans (by decide +kernel)
      refine b_if_ne hx hb zl_0 (tgt := 21) dX11_rate_11 (by decide +kernel) (fun c_92 => by exfalso; omega) (fun c_92 => ?_)
      refine lv_aload_n hx hb dX11_rate_14 rfl (lv_at hl 0 rfl) ?_
      refine lv_ldc (v := (-1000001)) hx hb hown (hT _ mw_1239) dX11_rate_15 ?_
      refine kJi (wr := [(k0, .inl (cI, 1201, .inl c0))]) (va_runV (As := [.int (-1000001)]) (rest := []) ⟨hx, hb, hml, hown, hT⟩ (c_X11_findingG l D cI aK aV k k0 k1 k2 k4 k5 k6 k7 k8 ka kb kl ko H.size c3 c9 cc cd ce cf cg ch ci cj ck cm cn c4 (-1000001) (by first | omega | (simp only [zl_m1000001]; first | done | omega) | decide | assumption | rfl) (by first | omega | (simp only [zl_m1000001]; first | done | omega) | decide | assumption | rfl)) (cwV 1 hT (gV_in mw_1243 mw_1240 mw_1242 mw_p3_8 mw_12) rfl rfl rfl (by decide +kernel) ⟨Nat.le_of_ble_eq_true rfl, Nat.le_of_ble_eq_true rfl⟩) (kRecvX (q0 := 0) (ci := 11) hK hP hD hN hXS hS hA rfl rfl [0, 2] rfl (by decide +kernel)) rfl rfl hl.1 rfl (lv_room (Nat.le_of_ble_eq_true rfl)) dX11_rate_17 ⟨Nat.le_of_ble_eq_true rfl, Nat.le_of_ble_eq_true rfl⟩) hP hD hS hA [0, 2] [1] rfl rfl (by decide +kernel) (by decide +kernel) ?_
      clear hP hD hS
      intro r_93 sc4_95 H locs w_94 hP hD hS
      replace hP : va_P D vwCl [(k0, .inl (cI, 1201, .inl c0)), (k, .inr (11, [.ref k0, .ref k1, .ref k2, .int c3, .ref k4, .ref k5, .ref k6, .ref k7, .ref k8, .int c9, .ref ka, .ref kb, .int cc, .int cd, .int ce, .int cf, .int cg, .int ch, .int ci, .int cj, .int ck, .ref kl, .int cm, .int cn, .ref ko])), (k4, .inl (cI, 6, .inl sc4_95))] H := hP
      replace hD : va_D A [(k0, .inl (cI, 1201, .inl c0)), (k, .inr (11, [.ref k0, .ref k1, .ref k2, .int c3, .ref k4, .ref k5, .ref k6, .ref k7, .ref k8, .int c9, .ref ka, .ref kb, .int cc, .int cd, .int ce, .int cf, .int cg, .int ch, .int ci, .int cj, .int ck, .ref kl, .int cm, .int cn, .ref ko])), (k4, .inl (cI, 6, .inl sc4_95))] := hD
      have hr_93 := w_94
      obtain rfl : r_93 = (-1000001) := hr_93.trans (by decide +kernel)
      exact hRet (cc, cd, ce, cf, cg, ch, ci, cj, ck, c0, sc4_95) [1, 0, 2] ⟨pre0, (by (try dsimp only); exact (Or.inl ⟨by omega, zl_m1000001, rfl, rfl⟩)), (RTX_rf)⟩ hP hD (by decide +kernel) rfl hS rfl dX11_rate_20
  · have h_9 : a0.toInt < 0 ∨ 2 < a0.toInt := h_9
    obtain rfl : r_4 = 0 := hr_4.trans (by decide +kernel)
    refine b_if_eq hx hb zl_0 (tgt := 14) dX11_rate_4 (by decide +kernel) (fun c_96 => ?_) (fun c_96 => by exfalso; omega)
    refine lv_aload_n hx hb dX11_rate_14 rfl (lv_at hl 0 rfl) ?_
    refine lv_ldc (v := (-1000001)) hx hb hown (hT _ mw_1239) dX11_rate_15 ?_
    refine kJi (wr := [(k0, .inl (cI, 1201, .inl c0))]) (va_runV (As := [.int (-1000001)]) (rest := []) ⟨hx, hb, hml, hown, hT⟩ (c_X11_findingG l D cI aK aV k k0 k1 k2 k4 k5 k6 k7 k8 ka kb kl ko H.size c3 c9 cc cd ce cf cg ch ci cj ck cm cn c4 (-1000001) (by first | omega | (simp only [zl_m1000001]; first | done | omega) | decide | assumption | rfl) (by first | omega | (simp only [zl_m1000001]; first | done | omega) | decide | assumption | rfl)) (cwV 1 hT (gV_in mw_1243 mw_1240 mw_1242 mw_p3_8 mw_12) rfl rfl rfl (by decide +kernel) ⟨Nat.le_of_ble_eq_true rfl, Nat.le_of_ble_eq_true rfl⟩) (kRecvX (q0 := 0) (ci := 11) hK hP hD hN hXS hS hA rfl rfl [0, 2] rfl (by decide +kernel)) rfl rfl hl.1 rfl (lv_room (Nat.le_of_ble_eq_true rfl)) dX11_rate_17 ⟨Nat.le_of_ble_eq_true rfl, Nat.le_of_ble_eq_true rfl⟩) hP hD hS hA [0, 2] [1] rfl rfl (by decide +kernel) (by decide +kernel) ?_
    clear hP hD hS
    intro r_97 sc4_99 H locs w_98 hP hD hS
    replace hP : va_P D vwCl [(k0, .inl (cI, 1201, .inl c0)), (k, .inr (11, [.ref k0, .ref k1, .ref k2, .int c3, .ref k4, .ref k5, .ref k6, .ref k7, .ref k8, .int c9, .ref ka, .ref kb, .int cc, .int cd, .int ce, .int cf, .int cg, .int ch, .int ci, .int cj, .int ck, .ref kl, .int cm, .int cn, .ref ko])), (k4, .inl (cI, 6, .inl sc4_99))] H := hP
    replace hD : va_D A [(k0, .inl (cI, 1201, .inl c0)), (k, .inr (11, [.ref k0, .ref k1, .ref k2, .int c3, .ref k4, .ref k5, .ref k6, .ref k7, .ref k8, .int c9, .ref ka, .ref kb, .int cc, .int cd, .int ce, .int cf, .int cg, .int ch, .int ci, .int cj, .int ck, .ref kl, .int cm, .int cn, .ref ko])), (k4, .inl (cI, 6, .inl sc4_99))] := hD
    have hr_97 := w_98
    obtain rfl : r_97 = (-1000001) := hr_97.trans (by decide +kernel)
    exact hRet (cc, cd, ce, cf, cg, ch, ci, cj, ck, c0, sc4_99) [1, 0, 2] ⟨pre0, (by (try dsimp only); exact (Or.inl ⟨by omega, zl_m1000001, rfl, rfl⟩)), (RTX_rf)⟩ hP hD (by decide +kernel) rfl hS rfl dX11_rate_20
theorem bn_cX11_speaks_0 : BN cX11_speaks 0 0x5880802015880802015880802011180802010b00802015880802015880802015880802015880802015880802015880802017e00402017780402017080402016e00402011e804020105804020158808020100805560a0b04804b705058560a1b83c04b90f0182c091b8d002b90305810371c0056e060e0ac0e371c0056e040e0ade300540186e3400ae40c1607005360f012e43c060b0186e1d := by
  unfold BN; decide +kernel
theorem dX11_speaks_0 : decode cX11_speaks 0 = .ok (.iload_n 2, 1) := dR0 (k := 0) (i := 0) bn_cX11_speaks_0 dop_28 (by decide +kernel)
theorem dX11_speaks_1 : decode cX11_speaks 1 = .ok (.istore 5, 2) := dR1 (f := Instr.istore) (k := 0) (i := 1) bn_cX11_speaks_0 dop_54 5 (by decide +kernel)
theorem dX11_speaks_3 : decode cX11_speaks 3 = .ok (.iload 5, 2) := dR1 (f := Instr.iload) (k := 0) (i := 3) bn_cX11_speaks_0 dop_21 5 (by decide +kernel)
theorem dX11_speaks_5 : decode cX11_speaks 5 = .ok (.iload_n 3, 1) := dR0 (k := 0) (i := 5) bn_cX11_speaks_0 dop_29 (by decide +kernel)
theorem dX11_speaks_6 : decode cX11_speaks 6 = .ok (.invokestatic 270, 3) := dR2 (f := Instr.invokestatic) (k := 0) (i := 6) bn_cX11_speaks_0 dop_184 270 (by decide +kernel)
theorem dX11_speaks_9 : decode cX11_speaks 9 = .ok (.ifCond .ne 13, 3) := dR2s (f := Instr.ifCond .ne) (k := 0) (i := 9) bn_cX11_speaks_0 dop_154 13 13 (by decide +kernel)
theorem dX11_speaks_12 : decode cX11_speaks 12 = .ok (.iload 5, 2) := dR1 (f := Instr.iload) (k := 0) (i := 12) bn_cX11_speaks_0 dop_21 5 (by decide +kernel)
theorem dX11_speaks_14 : decode cX11_speaks 14 = .ok (.invokestatic 51, 3) := dR2 (f := Instr.invokestatic) (k := 0) (i := 14) bn_cX11_speaks_0 dop_184 51 (by decide +kernel)
theorem dX11_speaks_17 : decode cX11_speaks 17 = .ok (.istore 5, 2) := dR1 (f := Instr.istore) (k := 0) (i := 17) bn_cX11_speaks_0 dop_54 5 (by decide +kernel)
theorem dX11_speaks_19 : decode cX11_speaks 19 = .ok (.goto (-16), 3) := dR2s (f := Instr.goto) (k := 0) (i := 19) bn_cX11_speaks_0 dop_167 65520 (-16) (by decide +kernel)
theorem dX11_speaks_22 : decode cX11_speaks 22 = .ok (.aload_n 0, 1) := dR0 (k := 0) (i := 22) bn_cX11_speaks_0 dop_42 (by decide +kernel)
theorem dX11_speaks_23 : decode cX11_speaks 23 = .ok (.iload_n 1, 1) := dR0 (k := 0) (i := 23) bn_cX11_speaks_0 dop_27 (by decide +kernel)
theorem dX11_speaks_24 : decode cX11_speaks 24 = .ok (.iconst 0, 1) := dR0 (k := 0) (i := 24) bn_cX11_speaks_0 dop_3 (by decide +kernel)
theorem dX11_speaks_25 : decode cX11_speaks 25 = .ok (.invokevirtual 55, 3) := dR2 (f := Instr.invokevirtual) (k := 0) (i := 25) bn_cX11_speaks_0 dop_182 55 (by decide +kernel)
theorem dX11_speaks_28 : decode cX11_speaks 28 = .ok (.istore 6, 2) := dR1 (f := Instr.istore) (k := 0) (i := 28) bn_cX11_speaks_0 dop_54 6 (by decide +kernel)
theorem dX11_speaks_30 : decode cX11_speaks 30 = .ok (.aload_n 0, 1) := dR0 (k := 0) (i := 30) bn_cX11_speaks_0 dop_42 (by decide +kernel)
theorem dX11_speaks_31 : decode cX11_speaks 31 = .ok (.iload_n 1, 1) := dR0 (k := 0) (i := 31) bn_cX11_speaks_0 dop_27 (by decide +kernel)
theorem dX11_speaks_32 : decode cX11_speaks 32 = .ok (.iconst 2, 1) := dR0 (k := 0) (i := 32) bn_cX11_speaks_0 dop_5 (by decide +kernel)
theorem dX11_speaks_33 : decode cX11_speaks 33 = .ok (.invokevirtual 55, 3) := dR2 (f := Instr.invokevirtual) (k := 0) (i := 33) bn_cX11_speaks_0 dop_182 55 (by decide +kernel)
theorem dX11_speaks_36 : decode cX11_speaks 36 = .ok (.istore 7, 2) := dR1 (f := Instr.istore) (k := 0) (i := 36) bn_cX11_speaks_0 dop_54 7 (by decide +kernel)
theorem dX11_speaks_38 : decode cX11_speaks 38 = .ok (.iload 5, 2) := dR1 (f := Instr.iload) (k := 0) (i := 38) bn_cX11_speaks_0 dop_21 5 (by decide +kernel)
theorem dX11_speaks_40 : decode cX11_speaks 40 = .ok (.invokestatic 51, 3) := dR2 (f := Instr.invokestatic) (k := 0) (i := 40) bn_cX11_speaks_0 dop_184 51 (by decide +kernel)
theorem dX11_speaks_43 : decode cX11_speaks 43 = .ok (.istore 8, 2) := dR1 (f := Instr.istore) (k := 0) (i := 43) bn_cX11_speaks_0 dop_54 8 (by decide +kernel)
theorem dX11_speaks_45 : decode cX11_speaks 45 = .ok (.iload 5, 2) := dR1 (f := Instr.iload) (k := 0) (i := 45) bn_cX11_speaks_0 dop_21 5 (by decide +kernel)
theorem dX11_speaks_47 : decode cX11_speaks 47 = .ok (.iload_n 3, 1) := dR0 (k := 0) (i := 47) bn_cX11_speaks_0 dop_29 (by decide +kernel)
theorem dX11_speaks_48 : decode cX11_speaks 48 = .ok (.invokestatic 270, 3) := dR2 (f := Instr.invokestatic) (k := 0) (i := 48) bn_cX11_speaks_0 dop_184 270 (by decide +kernel)
theorem dX11_speaks_51 : decode cX11_speaks 51 = .ok (.istore 9, 2) := dR1 (f := Instr.istore) (k := 0) (i := 51) bn_cX11_speaks_0 dop_54 9 (by decide +kernel)
theorem dX11_speaks_53 : decode cX11_speaks 53 = .ok (.aload_n 0, 1) := dR0 (k := 0) (i := 53) bn_cX11_speaks_0 dop_42 (by decide +kernel)
theorem dX11_speaks_54 : decode cX11_speaks 54 = .ok (.iload 9, 2) := dR1 (f := Instr.iload) (k := 0) (i := 54) bn_cX11_speaks_0 dop_21 9 (by decide +kernel)
theorem dX11_speaks_56 : decode cX11_speaks 56 = .ok (.invokevirtual 273, 3) := dR2 (f := Instr.invokevirtual) (k := 0) (i := 56) bn_cX11_speaks_0 dop_182 273 (by decide +kernel)
theorem dX11_speaks_59 : decode cX11_speaks 59 = .ok (.iload 9, 2) := dR1 (f := Instr.iload) (k := 0) (i := 59) bn_cX11_speaks_0 dop_21 9 (by decide +kernel)
theorem dX11_speaks_61 : decode cX11_speaks 61 = .ok (.tableswitch 432 10 60 #[219, 224, 238, 251, 432, 432, 432, 432, 432, 432, 277, 290, 432, 432, 432, 432, 432, 432, 432, 432, 303, 316, 432, 432, 432, 432, 432, 432, 432, 432, 328, 354, 432, 432, 432, 432, 432, 432, 432, 432, 379, 393, 432, 432, 432, 432, 432, 432, 432, 432, 418], 219) := by decide +kernel
theorem bn_cX11_speaks_256 : BN cX11_speaks 256 0xb07056ad3a85404b7028580c090b07056ad3481c2a025b8142c0404858382b569943815012dc0a16038242c1c15ab42a025b9840a050b01412160e0ad5a830a8096e050b0100e160e0ac1616058dc2a025b8142c0603858382b569a40c15012dc0a160281c2c1c15ab4c2080b05404b70285808070b07056ad328700a16518080201588080201588080201588080201588080201588080201 := by
  unfold BN; decide +kernel
theorem dX11_speaks_280 : decode cX11_speaks 280 = .ok (.iload 4, 2) := dR1 (f := Instr.iload) (k := 256) (i := 24) bn_cX11_speaks_256 dop_21 4 (by decide +kernel)
theorem dX11_speaks_282 : decode cX11_speaks 282 = .ok (.iload_n 1, 1) := dR0 (k := 256) (i := 26) bn_cX11_speaks_256 dop_27 (by decide +kernel)
theorem dX11_speaks_283 : decode cX11_speaks 283 = .ok (.isub, 1) := dR0 (k := 256) (i := 27) bn_cX11_speaks_256 dop_100 (by decide +kernel)
theorem dX11_speaks_284 : decode cX11_speaks 284 = .ok (.ireturn, 1) := dR0 (k := 256) (i := 28) bn_cX11_speaks_256 dop_172 (by decide +kernel)
theorem dX11_speaks_285 : decode cX11_speaks 285 = .ok (.aload_n 0, 1) := dR0 (k := 256) (i := 29) bn_cX11_speaks_256 dop_42 (by decide +kernel)
theorem dX11_speaks_286 : decode cX11_speaks 286 = .ok (.iload_n 1, 1) := dR0 (k := 256) (i := 30) bn_cX11_speaks_256 dop_27 (by decide +kernel)
theorem dX11_speaks_287 : decode cX11_speaks 287 = .ok (.iload 6, 2) := dR1 (f := Instr.iload) (k := 256) (i := 31) bn_cX11_speaks_256 dop_21 6 (by decide +kernel)
theorem dX11_speaks_289 : decode cX11_speaks 289 = .ok (.iconst 0, 1) := dR0 (k := 256) (i := 33) bn_cX11_speaks_256 dop_3 (by decide +kernel)
theorem dX11_speaks_290 : decode cX11_speaks 290 = .ok (.iload 4, 2) := dR1 (f := Instr.iload) (k := 256) (i := 34) bn_cX11_speaks_256 dop_21 4 (by decide +kernel)
theorem dX11_speaks_292 : decode cX11_speaks 292 = .ok (.invokevirtual 276, 3) := dR2 (f := Instr.invokevirtual) (k := 256) (i := 36) bn_cX11_speaks_256 dop_182 276 (by decide +kernel)
theorem dX11_speaks_295 : decode cX11_speaks 295 = .ok (.iload 7, 2) := dR1 (f := Instr.iload) (k := 256) (i := 39) bn_cX11_speaks_256 dop_21 7 (by decide +kernel)
theorem dX11_speaks_297 : decode cX11_speaks 297 = .ok (.iadd, 1) := dR0 (k := 256) (i := 41) bn_cX11_speaks_256 dop_96 (by decide +kernel)
theorem dX11_speaks_298 : decode cX11_speaks 298 = .ok (.ireturn, 1) := dR0 (k := 256) (i := 42) bn_cX11_speaks_256 dop_172 (by decide +kernel)
theorem dX11_speaks_299 : decode cX11_speaks 299 = .ok (.aload_n 0, 1) := dR0 (k := 256) (i := 43) bn_cX11_speaks_256 dop_42 (by decide +kernel)
theorem dX11_speaks_300 : decode cX11_speaks 300 = .ok (.iload_n 1, 1) := dR0 (k := 256) (i := 44) bn_cX11_speaks_256 dop_27 (by decide +kernel)
theorem dX11_speaks_301 : decode cX11_speaks 301 = .ok (.iload 6, 2) := dR1 (f := Instr.iload) (k := 256) (i := 45) bn_cX11_speaks_256 dop_21 6 (by decide +kernel)
theorem dX11_speaks_303 : decode cX11_speaks 303 = .ok (.iconst 1, 1) := dR0 (k := 256) (i := 47) bn_cX11_speaks_256 dop_4 (by decide +kernel)
theorem dX11_speaks_304 : decode cX11_speaks 304 = .ok (.iload 4, 2) := dR1 (f := Instr.iload) (k := 256) (i := 48) bn_cX11_speaks_256 dop_21 4 (by decide +kernel)
theorem dX11_speaks_306 : decode cX11_speaks 306 = .ok (.invokevirtual 276, 3) := dR2 (f := Instr.invokevirtual) (k := 256) (i := 50) bn_cX11_speaks_256 dop_182 276 (by decide +kernel)
theorem dX11_speaks_309 : decode cX11_speaks 309 = .ok (.iconst 2, 1) := dR0 (k := 256) (i := 53) bn_cX11_speaks_256 dop_5 (by decide +kernel)
theorem dX11_speaks_310 : decode cX11_speaks 310 = .ok (.imul, 1) := dR0 (k := 256) (i := 54) bn_cX11_speaks_256 dop_104 (by decide +kernel)
theorem dX11_speaks_311 : decode cX11_speaks 311 = .ok (.ireturn, 1) := dR0 (k := 256) (i := 55) bn_cX11_speaks_256 dop_172 (by decide +kernel)
theorem dX11_speaks_312 : decode cX11_speaks 312 = .ok (.aload_n 0, 1) := dR0 (k := 256) (i := 56) bn_cX11_speaks_256 dop_42 (by decide +kernel)
theorem dX11_speaks_313 : decode cX11_speaks 313 = .ok (.iload_n 1, 1) := dR0 (k := 256) (i := 57) bn_cX11_speaks_256 dop_27 (by decide +kernel)
theorem dX11_speaks_314 : decode cX11_speaks 314 = .ok (.iload 6, 2) := dR1 (f := Instr.iload) (k := 256) (i := 58) bn_cX11_speaks_256 dop_21 6 (by decide +kernel)
theorem dX11_speaks_316 : decode cX11_speaks 316 = .ok (.iconst 2, 1) := dR0 (k := 256) (i := 60) bn_cX11_speaks_256 dop_5 (by decide +kernel)
theorem dX11_speaks_317 : decode cX11_speaks 317 = .ok (.iload 4, 2) := dR1 (f := Instr.iload) (k := 256) (i := 61) bn_cX11_speaks_256 dop_21 4 (by decide +kernel)
theorem dX11_speaks_319 : decode cX11_speaks 319 = .ok (.invokevirtual 276, 3) := dR2 (f := Instr.invokevirtual) (k := 256) (i := 63) bn_cX11_speaks_256 dop_182 276 (by decide +kernel)
theorem dX11_speaks_322 : decode cX11_speaks 322 = .ok (.istore 10, 2) := dR1 (f := Instr.istore) (k := 256) (i := 66) bn_cX11_speaks_256 dop_54 10 (by decide +kernel)
theorem dX11_speaks_324 : decode cX11_speaks 324 = .ok (.iload 10, 2) := dR1 (f := Instr.iload) (k := 256) (i := 68) bn_cX11_speaks_256 dop_21 10 (by decide +kernel)
theorem dX11_speaks_326 : decode cX11_speaks 326 = .ok (.aload_n 0, 1) := dR0 (k := 256) (i := 70) bn_cX11_speaks_256 dop_42 (by decide +kernel)
theorem dX11_speaks_327 : decode cX11_speaks 327 = .ok (.iload_n 1, 1) := dR0 (k := 256) (i := 71) bn_cX11_speaks_256 dop_27 (by decide +kernel)
theorem dX11_speaks_328 : decode cX11_speaks 328 = .ok (.iload 6, 2) := dR1 (f := Instr.iload) (k := 256) (i := 72) bn_cX11_speaks_256 dop_21 6 (by decide +kernel)
theorem dX11_speaks_330 : decode cX11_speaks 330 = .ok (.iconst 0, 1) := dR0 (k := 256) (i := 74) bn_cX11_speaks_256 dop_3 (by decide +kernel)
theorem dX11_speaks_331 : decode cX11_speaks 331 = .ok (.iload 4, 2) := dR1 (f := Instr.iload) (k := 256) (i := 75) bn_cX11_speaks_256 dop_21 4 (by decide +kernel)
theorem dX11_speaks_333 : decode cX11_speaks 333 = .ok (.invokevirtual 276, 3) := dR2 (f := Instr.invokevirtual) (k := 256) (i := 77) bn_cX11_speaks_256 dop_182 276 (by decide +kernel)
theorem dX11_speaks_336 : decode cX11_speaks 336 = .ok (.ixor, 1) := dR0 (k := 256) (i := 80) bn_cX11_speaks_256 dop_130 (by decide +kernel)
theorem dX11_speaks_337 : decode cX11_speaks 337 = .ok (.ireturn, 1) := dR0 (k := 256) (i := 81) bn_cX11_speaks_256 dop_172 (by decide +kernel)
theorem dX11_speaks_338 : decode cX11_speaks 338 = .ok (.aload_n 0, 1) := dR0 (k := 256) (i := 82) bn_cX11_speaks_256 dop_42 (by decide +kernel)
theorem dX11_speaks_339 : decode cX11_speaks 339 = .ok (.iload_n 1, 1) := dR0 (k := 256) (i := 83) bn_cX11_speaks_256 dop_27 (by decide +kernel)
theorem dX11_speaks_340 : decode cX11_speaks 340 = .ok (.iload 8, 2) := dR1 (f := Instr.iload) (k := 256) (i := 84) bn_cX11_speaks_256 dop_21 8 (by decide +kernel)
theorem dX11_speaks_342 : decode cX11_speaks 342 = .ok (.iconst 1, 1) := dR0 (k := 256) (i := 86) bn_cX11_speaks_256 dop_4 (by decide +kernel)
theorem dX11_speaks_343 : decode cX11_speaks 343 = .ok (.iload 4, 2) := dR1 (f := Instr.iload) (k := 256) (i := 87) bn_cX11_speaks_256 dop_21 4 (by decide +kernel)
theorem dX11_speaks_345 : decode cX11_speaks 345 = .ok (.iconst 1, 1) := dR0 (k := 256) (i := 89) bn_cX11_speaks_256 dop_4 (by decide +kernel)
theorem dX11_speaks_346 : decode cX11_speaks 346 = .ok (.iadd, 1) := dR0 (k := 256) (i := 90) bn_cX11_speaks_256 dop_96 (by decide +kernel)
theorem dX11_speaks_347 : decode cX11_speaks 347 = .ok (.invokevirtual 276, 3) := dR2 (f := Instr.invokevirtual) (k := 256) (i := 91) bn_cX11_speaks_256 dop_182 276 (by decide +kernel)
theorem dX11_speaks_350 : decode cX11_speaks 350 = .ok (.ireturn, 1) := dR0 (k := 256) (i := 94) bn_cX11_speaks_256 dop_172 (by decide +kernel)
theorem dX11_speaks_351 : decode cX11_speaks 351 = .ok (.aload_n 0, 1) := dR0 (k := 256) (i := 95) bn_cX11_speaks_256 dop_42 (by decide +kernel)
theorem dX11_speaks_352 : decode cX11_speaks 352 = .ok (.iload_n 1, 1) := dR0 (k := 256) (i := 96) bn_cX11_speaks_256 dop_27 (by decide +kernel)
theorem dX11_speaks_353 : decode cX11_speaks 353 = .ok (.iload 8, 2) := dR1 (f := Instr.iload) (k := 256) (i := 97) bn_cX11_speaks_256 dop_21 8 (by decide +kernel)
theorem dX11_speaks_355 : decode cX11_speaks 355 = .ok (.iconst 3, 1) := dR0 (k := 256) (i := 99) bn_cX11_speaks_256 dop_6 (by decide +kernel)
theorem dX11_speaks_356 : decode cX11_speaks 356 = .ok (.iload 4, 2) := dR1 (f := Instr.iload) (k := 256) (i := 100) bn_cX11_speaks_256 dop_21 4 (by decide +kernel)
theorem dX11_speaks_358 : decode cX11_speaks 358 = .ok (.invokevirtual 276, 3) := dR2 (f := Instr.invokevirtual) (k := 256) (i := 102) bn_cX11_speaks_256 dop_182 276 (by decide +kernel)
theorem dX11_speaks_361 : decode cX11_speaks 361 = .ok (.iload_n 1, 1) := dR0 (k := 256) (i := 105) bn_cX11_speaks_256 dop_27 (by decide +kernel)
theorem dX11_speaks_362 : decode cX11_speaks 362 = .ok (.isub, 1) := dR0 (k := 256) (i := 106) bn_cX11_speaks_256 dop_100 (by decide +kernel)
theorem dX11_speaks_363 : decode cX11_speaks 363 = .ok (.ireturn, 1) := dR0 (k := 256) (i := 107) bn_cX11_speaks_256 dop_172 (by decide +kernel)
theorem dX11_speaks_364 : decode cX11_speaks 364 = .ok (.aload_n 0, 1) := dR0 (k := 256) (i := 108) bn_cX11_speaks_256 dop_42 (by decide +kernel)
theorem dX11_speaks_365 : decode cX11_speaks 365 = .ok (.iload_n 1, 1) := dR0 (k := 256) (i := 109) bn_cX11_speaks_256 dop_27 (by decide +kernel)
theorem dX11_speaks_366 : decode cX11_speaks 366 = .ok (.iload 8, 2) := dR1 (f := Instr.iload) (k := 256) (i := 110) bn_cX11_speaks_256 dop_21 8 (by decide +kernel)
theorem dX11_speaks_368 : decode cX11_speaks 368 = .ok (.iconst 0, 1) := dR0 (k := 256) (i := 112) bn_cX11_speaks_256 dop_3 (by decide +kernel)
theorem dX11_speaks_369 : decode cX11_speaks 369 = .ok (.iload 4, 2) := dR1 (f := Instr.iload) (k := 256) (i := 113) bn_cX11_speaks_256 dop_21 4 (by decide +kernel)
theorem dX11_speaks_371 : decode cX11_speaks 371 = .ok (.invokevirtual 276, 3) := dR2 (f := Instr.invokevirtual) (k := 256) (i := 115) bn_cX11_speaks_256 dop_182 276 (by decide +kernel)
theorem dX11_speaks_374 : decode cX11_speaks 374 = .ok (.iconst 3, 1) := dR0 (k := 256) (i := 118) bn_cX11_speaks_256 dop_6 (by decide +kernel)
theorem dX11_speaks_375 : decode cX11_speaks 375 = .ok (.imul, 1) := dR0 (k := 256) (i := 119) bn_cX11_speaks_256 dop_104 (by decide +kernel)
theorem dX11_speaks_376 : decode cX11_speaks 376 = .ok (.ireturn, 1) := dR0 (k := 256) (i := 120) bn_cX11_speaks_256 dop_172 (by decide +kernel)
theorem dX11_speaks_377 : decode cX11_speaks 377 = .ok (.aload_n 0, 1) := dR0 (k := 256) (i := 121) bn_cX11_speaks_256 dop_42 (by decide +kernel)
theorem dX11_speaks_378 : decode cX11_speaks 378 = .ok (.iload_n 1, 1) := dR0 (k := 256) (i := 122) bn_cX11_speaks_256 dop_27 (by decide +kernel)
theorem dX11_speaks_379 : decode cX11_speaks 379 = .ok (.iload 8, 2) := dR1 (f := Instr.iload) (k := 256) (i := 123) bn_cX11_speaks_256 dop_21 8 (by decide +kernel)
theorem dX11_speaks_381 : decode cX11_speaks 381 = .ok (.iconst 2, 1) := dR0 (k := 256) (i := 125) bn_cX11_speaks_256 dop_5 (by decide +kernel)
theorem dX11_speaks_382 : decode cX11_speaks 382 = .ok (.iload 4, 2) := dR1 (f := Instr.iload) (k := 256) (i := 126) bn_cX11_speaks_256 dop_21 4 (by decide +kernel)
theorem bn_cX11_speaks_384 : BN cX11_speaks 384 0xad3a85404b7028580e090b07056ad348202c15012dc0a16028242c1c15ab4ca15012dc0a0403858382b0585816370a8096e050b01812160e0ad5a61040582a025b8142c0404858382b56a0c2a025b8700a070b070560b0b02c6e15012dc0a16038242c1c15ab4c215012dc10160201c2c1c1582c2c0b1b85404b7028580c090b07056ad3a85404b7 := by
  unfold BN; decide +kernel
theorem dX11_speaks_384 : decode cX11_speaks 384 = .ok (.invokevirtual 276, 3) := dR2 (f := Instr.invokevirtual) (k := 384) (i := 0) bn_cX11_speaks_384 dop_182 276 (by decide +kernel)
theorem dX11_speaks_387 : decode cX11_speaks 387 = .ok (.ineg, 1) := dR0 (k := 384) (i := 3) bn_cX11_speaks_384 dop_116 (by decide +kernel)
theorem dX11_speaks_388 : decode cX11_speaks 388 = .ok (.ireturn, 1) := dR0 (k := 384) (i := 4) bn_cX11_speaks_384 dop_172 (by decide +kernel)
theorem dX11_speaks_389 : decode cX11_speaks 389 = .ok (.aload_n 0, 1) := dR0 (k := 384) (i := 5) bn_cX11_speaks_384 dop_42 (by decide +kernel)
theorem dX11_speaks_390 : decode cX11_speaks 390 = .ok (.iload_n 1, 1) := dR0 (k := 384) (i := 6) bn_cX11_speaks_384 dop_27 (by decide +kernel)
theorem dX11_speaks_391 : decode cX11_speaks 391 = .ok (.iload 8, 2) := dR1 (f := Instr.iload) (k := 384) (i := 7) bn_cX11_speaks_384 dop_21 8 (by decide +kernel)
theorem dX11_speaks_393 : decode cX11_speaks 393 = .ok (.iconst 2, 1) := dR0 (k := 384) (i := 9) bn_cX11_speaks_384 dop_5 (by decide +kernel)
theorem dX11_speaks_394 : decode cX11_speaks 394 = .ok (.iload 4, 2) := dR1 (f := Instr.iload) (k := 384) (i := 10) bn_cX11_speaks_384 dop_21 4 (by decide +kernel)
theorem dX11_speaks_396 : decode cX11_speaks 396 = .ok (.invokevirtual 276, 3) := dR2 (f := Instr.invokevirtual) (k := 384) (i := 12) bn_cX11_speaks_384 dop_182 276 (by decide +kernel)
theorem dX11_speaks_399 : decode cX11_speaks 399 = .ok (.istore 10, 2) := dR1 (f := Instr.istore) (k := 384) (i := 15) bn_cX11_speaks_384 dop_54 10 (by decide +kernel)
theorem dX11_speaks_401 : decode cX11_speaks 401 = .ok (.iload 10, 2) := dR1 (f := Instr.iload) (k := 384) (i := 17) bn_cX11_speaks_384 dop_21 10 (by decide +kernel)
theorem dX11_speaks_403 : decode cX11_speaks 403 = .ok (.aload_n 0, 1) := dR0 (k := 384) (i := 19) bn_cX11_speaks_384 dop_42 (by decide +kernel)
theorem dX11_speaks_404 : decode cX11_speaks 404 = .ok (.iload_n 1, 1) := dR0 (k := 384) (i := 20) bn_cX11_speaks_384 dop_27 (by decide +kernel)
theorem dX11_speaks_405 : decode cX11_speaks 405 = .ok (.iload 6, 2) := dR1 (f := Instr.iload) (k := 384) (i := 21) bn_cX11_speaks_384 dop_21 6 (by decide +kernel)
theorem dX11_speaks_407 : decode cX11_speaks 407 = .ok (.iconst 0, 1) := dR0 (k := 384) (i := 23) bn_cX11_speaks_384 dop_3 (by decide +kernel)
theorem dX11_speaks_408 : decode cX11_speaks 408 = .ok (.iload 7, 2) := dR1 (f := Instr.iload) (k := 384) (i := 24) bn_cX11_speaks_384 dop_21 7 (by decide +kernel)
theorem dX11_speaks_410 : decode cX11_speaks 410 = .ok (.invokevirtual 276, 3) := dR2 (f := Instr.invokevirtual) (k := 384) (i := 26) bn_cX11_speaks_384 dop_182 276 (by decide +kernel)
theorem dX11_speaks_413 : decode cX11_speaks 413 = .ok (.iadd, 1) := dR0 (k := 384) (i := 29) bn_cX11_speaks_384 dop_96 (by decide +kernel)
theorem dX11_speaks_414 : decode cX11_speaks 414 = .ok (.ireturn, 1) := dR0 (k := 384) (i := 30) bn_cX11_speaks_384 dop_172 (by decide +kernel)
theorem dX11_speaks_415 : decode cX11_speaks 415 = .ok (.aload_n 0, 1) := dR0 (k := 384) (i := 31) bn_cX11_speaks_384 dop_42 (by decide +kernel)
theorem dX11_speaks_416 : decode cX11_speaks 416 = .ok (.iload_n 1, 1) := dR0 (k := 384) (i := 32) bn_cX11_speaks_384 dop_27 (by decide +kernel)
theorem dX11_speaks_417 : decode cX11_speaks 417 = .ok (.iload 8, 2) := dR1 (f := Instr.iload) (k := 384) (i := 33) bn_cX11_speaks_384 dop_21 8 (by decide +kernel)
theorem dX11_speaks_419 : decode cX11_speaks 419 = .ok (.iconst 3, 1) := dR0 (k := 384) (i := 35) bn_cX11_speaks_384 dop_6 (by decide +kernel)
theorem dX11_speaks_420 : decode cX11_speaks 420 = .ok (.iload 4, 2) := dR1 (f := Instr.iload) (k := 384) (i := 36) bn_cX11_speaks_384 dop_21 4 (by decide +kernel)
theorem dX11_speaks_422 : decode cX11_speaks 422 = .ok (.invokevirtual 276, 3) := dR2 (f := Instr.invokevirtual) (k := 384) (i := 38) bn_cX11_speaks_384 dop_182 276 (by decide +kernel)
theorem dX11_speaks_425 : decode cX11_speaks 425 = .ok (.istore 10, 2) := dR1 (f := Instr.istore) (k := 384) (i := 41) bn_cX11_speaks_384 dop_54 10 (by decide +kernel)
theorem dX11_speaks_427 : decode cX11_speaks 427 = .ok (.iload 10, 2) := dR1 (f := Instr.iload) (k := 384) (i := 43) bn_cX11_speaks_384 dop_21 10 (by decide +kernel)
theorem dX11_speaks_429 : decode cX11_speaks 429 = .ok (.aload_n 0, 1) := dR0 (k := 384) (i := 45) bn_cX11_speaks_384 dop_42 (by decide +kernel)
theorem dX11_speaks_430 : decode cX11_speaks 430 = .ok (.iload_n 1, 1) := dR0 (k := 384) (i := 46) bn_cX11_speaks_384 dop_27 (by decide +kernel)
theorem dX11_speaks_431 : decode cX11_speaks 431 = .ok (.iload 6, 2) := dR1 (f := Instr.iload) (k := 384) (i := 47) bn_cX11_speaks_384 dop_21 6 (by decide +kernel)
theorem dX11_speaks_433 : decode cX11_speaks 433 = .ok (.iconst 1, 1) := dR0 (k := 384) (i := 49) bn_cX11_speaks_384 dop_4 (by decide +kernel)
theorem dX11_speaks_434 : decode cX11_speaks 434 = .ok (.iload_n 1, 1) := dR0 (k := 384) (i := 50) bn_cX11_speaks_384 dop_27 (by decide +kernel)
theorem dX11_speaks_435 : decode cX11_speaks 435 = .ok (.invokevirtual 276, 3) := dR2 (f := Instr.invokevirtual) (k := 384) (i := 51) bn_cX11_speaks_384 dop_182 276 (by decide +kernel)
theorem dX11_speaks_438 : decode cX11_speaks 438 = .ok (.ixor, 1) := dR0 (k := 384) (i := 54) bn_cX11_speaks_384 dop_130 (by decide +kernel)
theorem dX11_speaks_439 : decode cX11_speaks 439 = .ok (.ireturn, 1) := dR0 (k := 384) (i := 55) bn_cX11_speaks_384 dop_172 (by decide +kernel)
theorem dX11_speaks_440 : decode cX11_speaks 440 = .ok (.aload_n 0, 1) := dR0 (k := 384) (i := 56) bn_cX11_speaks_384 dop_42 (by decide +kernel)
theorem dX11_speaks_441 : decode cX11_speaks 441 = .ok (.iload_n 1, 1) := dR0 (k := 384) (i := 57) bn_cX11_speaks_384 dop_27 (by decide +kernel)
theorem dX11_speaks_442 : decode cX11_speaks 442 = .ok (.iload 8, 2) := dR1 (f := Instr.iload) (k := 384) (i := 58) bn_cX11_speaks_384 dop_21 8 (by decide +kernel)
theorem dX11_speaks_444 : decode cX11_speaks 444 = .ok (.iconst 0, 1) := dR0 (k := 384) (i := 60) bn_cX11_speaks_384 dop_3 (by decide +kernel)
theorem dX11_speaks_445 : decode cX11_speaks 445 = .ok (.iload 4, 2) := dR1 (f := Instr.iload) (k := 384) (i := 61) bn_cX11_speaks_384 dop_21 4 (by decide +kernel)
theorem dX11_speaks_447 : decode cX11_speaks 447 = .ok (.invokevirtual 276, 3) := dR2 (f := Instr.invokevirtual) (k := 384) (i := 63) bn_cX11_speaks_384 dop_182 276 (by decide +kernel)
theorem dX11_speaks_450 : decode cX11_speaks 450 = .ok (.iload 7, 2) := dR1 (f := Instr.iload) (k := 384) (i := 66) bn_cX11_speaks_384 dop_21 7 (by decide +kernel)
theorem dX11_speaks_452 : decode cX11_speaks 452 = .ok (.iadd, 1) := dR0 (k := 384) (i := 68) bn_cX11_speaks_384 dop_96 (by decide +kernel)
theorem dX11_speaks_453 : decode cX11_speaks 453 = .ok (.ireturn, 1) := dR0 (k := 384) (i := 69) bn_cX11_speaks_384 dop_172 (by decide +kernel)
theorem dX11_speaks_454 : decode cX11_speaks 454 = .ok (.aload_n 0, 1) := dR0 (k := 384) (i := 70) bn_cX11_speaks_384 dop_42 (by decide +kernel)
theorem dX11_speaks_455 : decode cX11_speaks 455 = .ok (.iload_n 1, 1) := dR0 (k := 384) (i := 71) bn_cX11_speaks_384 dop_27 (by decide +kernel)
theorem dX11_speaks_456 : decode cX11_speaks 456 = .ok (.iload 8, 2) := dR1 (f := Instr.iload) (k := 384) (i := 72) bn_cX11_speaks_384 dop_21 8 (by decide +kernel)
theorem dX11_speaks_458 : decode cX11_speaks 458 = .ok (.iconst 2, 1) := dR0 (k := 384) (i := 74) bn_cX11_speaks_384 dop_5 (by decide +kernel)
theorem dX11_speaks_459 : decode cX11_speaks 459 = .ok (.iload 4, 2) := dR1 (f := Instr.iload) (k := 384) (i := 75) bn_cX11_speaks_384 dop_21 4 (by decide +kernel)
theorem dX11_speaks_461 : decode cX11_speaks 461 = .ok (.invokevirtual 276, 3) := dR2 (f := Instr.invokevirtual) (k := 384) (i := 77) bn_cX11_speaks_384 dop_182 276 (by decide +kernel)
theorem dX11_speaks_464 : decode cX11_speaks 464 = .ok (.istore 10, 2) := dR1 (f := Instr.istore) (k := 384) (i := 80) bn_cX11_speaks_384 dop_54 10 (by decide +kernel)
theorem dX11_speaks_466 : decode cX11_speaks 466 = .ok (.iload 10, 2) := dR1 (f := Instr.iload) (k := 384) (i := 82) bn_cX11_speaks_384 dop_21 10 (by decide +kernel)
theorem dX11_speaks_468 : decode cX11_speaks 468 = .ok (.aload_n 0, 1) := dR0 (k := 384) (i := 84) bn_cX11_speaks_384 dop_42 (by decide +kernel)
theorem dX11_speaks_469 : decode cX11_speaks 469 = .ok (.iload_n 1, 1) := dR0 (k := 384) (i := 85) bn_cX11_speaks_384 dop_27 (by decide +kernel)
theorem dX11_speaks_470 : decode cX11_speaks 470 = .ok (.iload 6, 2) := dR1 (f := Instr.iload) (k := 384) (i := 86) bn_cX11_speaks_384 dop_21 6 (by decide +kernel)
theorem dX11_speaks_472 : decode cX11_speaks 472 = .ok (.iconst 0, 1) := dR0 (k := 384) (i := 88) bn_cX11_speaks_384 dop_3 (by decide +kernel)
theorem dX11_speaks_473 : decode cX11_speaks 473 = .ok (.iconst 1, 1) := dR0 (k := 384) (i := 89) bn_cX11_speaks_384 dop_4 (by decide +kernel)
theorem dX11_speaks_474 : decode cX11_speaks 474 = .ok (.invokevirtual 276, 3) := dR2 (f := Instr.invokevirtual) (k := 384) (i := 90) bn_cX11_speaks_384 dop_182 276 (by decide +kernel)
theorem dX11_speaks_477 : decode cX11_speaks 477 = .ok (.isub, 1) := dR0 (k := 384) (i := 93) bn_cX11_speaks_384 dop_100 (by decide +kernel)
theorem dX11_speaks_478 : decode cX11_speaks 478 = .ok (.ireturn, 1) := dR0 (k := 384) (i := 94) bn_cX11_speaks_384 dop_172 (by decide +kernel)
theorem dX11_speaks_479 : decode cX11_speaks 479 = .ok (.aload_n 0, 1) := dR0 (k := 384) (i := 95) bn_cX11_speaks_384 dop_42 (by decide +kernel)
theorem dX11_speaks_480 : decode cX11_speaks 480 = .ok (.iload_n 1, 1) := dR0 (k := 384) (i := 96) bn_cX11_speaks_384 dop_27 (by decide +kernel)
theorem dX11_speaks_481 : decode cX11_speaks 481 = .ok (.iload 8, 2) := dR1 (f := Instr.iload) (k := 384) (i := 97) bn_cX11_speaks_384 dop_21 8 (by decide +kernel)
theorem dX11_speaks_483 : decode cX11_speaks 483 = .ok (.iconst 1, 1) := dR0 (k := 384) (i := 99) bn_cX11_speaks_384 dop_4 (by decide +kernel)
theorem dX11_speaks_484 : decode cX11_speaks 484 = .ok (.iload 4, 2) := dR1 (f := Instr.iload) (k := 384) (i := 100) bn_cX11_speaks_384 dop_21 4 (by decide +kernel)
theorem dX11_speaks_486 : decode cX11_speaks 486 = .ok (.invokevirtual 276, 3) := dR2 (f := Instr.invokevirtual) (k := 384) (i := 102) bn_cX11_speaks_384 dop_182 276 (by decide +kernel)
theorem dX11_speaks_489 : decode cX11_speaks 489 = .ok (.iload 7, 2) := dR1 (f := Instr.iload) (k := 384) (i := 105) bn_cX11_speaks_384 dop_21 7 (by decide +kernel)
theorem dX11_speaks_491 : decode cX11_speaks 491 = .ok (.imul, 1) := dR0 (k := 384) (i := 107) bn_cX11_speaks_384 dop_104 (by decide +kernel)
theorem dX11_speaks_492 : decode cX11_speaks 492 = .ok (.ireturn, 1) := dR0 (k := 384) (i := 108) bn_cX11_speaks_384 dop_172 (by decide +kernel)
theorem dX11_speaks_493 : decode cX11_speaks 493 = .ok (.aload_n 0, 1) := dR0 (k := 384) (i := 109) bn_cX11_speaks_384 dop_42 (by decide +kernel)
theorem dX11_speaks_494 : decode cX11_speaks 494 = .ok (.iload_n 1, 1) := dR0 (k := 384) (i := 110) bn_cX11_speaks_384 dop_27 (by decide +kernel)
theorem dX11_speaks_495 : decode cX11_speaks 495 = .ok (.iload 8, 2) := dR1 (f := Instr.iload) (k := 384) (i := 111) bn_cX11_speaks_384 dop_21 8 (by decide +kernel)
theorem dX11_speaks_497 : decode cX11_speaks 497 = .ok (.iconst 3, 1) := dR0 (k := 384) (i := 113) bn_cX11_speaks_384 dop_6 (by decide +kernel)
theorem dX11_speaks_498 : decode cX11_speaks 498 = .ok (.iload 4, 2) := dR1 (f := Instr.iload) (k := 384) (i := 114) bn_cX11_speaks_384 dop_21 4 (by decide +kernel)
theorem dX11_speaks_500 : decode cX11_speaks 500 = .ok (.invokevirtual 276, 3) := dR2 (f := Instr.invokevirtual) (k := 384) (i := 116) bn_cX11_speaks_384 dop_182 276 (by decide +kernel)
theorem dX11_speaks_503 : decode cX11_speaks 503 = .ok (.ineg, 1) := dR0 (k := 384) (i := 119) bn_cX11_speaks_384 dop_116 (by decide +kernel)
theorem dX11_speaks_504 : decode cX11_speaks 504 = .ok (.ireturn, 1) := dR0 (k := 384) (i := 120) bn_cX11_speaks_384 dop_172 (by decide +kernel)
def SPKP (dd : Nat) : Prop := ∀ (l : Launch) (D : va_G) (cI : ClassId) (aK aV : Nat → Nat) (k k0 k1 k2 k4 k5 k6 k7 k8 ka kb kl ko : Nat) (sz : Nat) (c3 : Int32) (c9 : Int32) (cc : Int32) (cd : Int32) (ce : Int32) (cf : Int32) (cg : Int32) (ch : Int32) (ci : Int32) (cj : Int32) (ck : Int32) (cm : Int32) (cn : Int32) (c0 : Nat → Int32) (c8 : Nat → Int32) (a0 : Int32) (a1 : Int32) (a2 : Int32) (a3 : Int32) (pre0 : SB c0) (pre1 : 0 ≤ a0.toInt) (pre2 : a0.toInt ≤ 59) (pre3 : 0 ≤ a1.toInt) (pre4 : a1.toInt ≤ 5) (pre5 : 0 ≤ a2.toInt) (pre6 : a2.toInt ≤ 3) (pre7 : 0 ≤ c9.toInt) (pre8 : c9.toInt ≤ 40) (pre9 : (6 * a2.toInt + a1.toInt).toNat < dd) , Met l yX11_speaks (gW yX11_speaks cX11_speaks 11 (some .int)) ({ frames := 4 * dd, cells := 0, slots := 0, locals := 128 * dd } : Room) (kPreX D cI aK aV [.ref k, .int a0, .int a1, .int a2, .int a3] [(k, .inr (11, [.ref k0, .ref k1, .ref k2, .int c3, .ref k4, .ref k5, .ref k6, .ref k7, .ref k8, .int c9, .ref ka, .ref kb, .int cc, .int cd, .int ce, .int cf, .int cg, .int ch, .int ci, .int cj, .int ck, .ref kl, .int cm, .int cn, .ref ko])), (k0, .inl (cI, 1201, .inl c0)), (k8, .inl (cI, 40, .inl c8))] sz) (va_Qi (fun (r : Int32) (u : Int32 × (Nat → Int32)) => 0 ≤ u.1.toInt ∧ u.1.toInt ≤ 40) (fun u t => kWd D cI (va_A [(k, .inr (11, [.ref k0, .ref k1, .ref k2, .int c3, .ref k4, .ref k5, .ref k6, .ref k7, .ref k8, .int c9, .ref ka, .ref kb, .int cc, .int cd, .int ce, .int cf, .int cg, .int ch, .int ci, .int cj, .int ck, .ref kl, .int cm, .int cn, .ref ko])), (k0, .inl (cI, 1201, .inl c0)), (k8, .inl (cI, 40, .inl c8))] sz) [(k, .inr (11, [.ref k0, .ref k1, .ref k2, .int c3, .ref k4, .ref k5, .ref k6, .ref k7, .ref k8, .int u.1, .ref ka, .ref kb, .int cc, .int cd, .int ce, .int cf, .int cg, .int ch, .int ci, .int cj, .int ck, .ref kl, .int cm, .int cn, .ref ko])), (k0, .inl (cI, 1201, .inl c0)), (k8, .inl (cI, 40, .inl u.2))] t) (va_A [(k, .inr (11, [.ref k0, .ref k1, .ref k2, .int c3, .ref k4, .ref k5, .ref k6, .ref k7, .ref k8, .int c9, .ref ka, .ref kb, .int cc, .int cd, .int ce, .int cf, .int cg, .int ch, .int ci, .int cj, .int ck, .ref kl, .int cm, .int cn, .ref ko])), (k0, .inl (cI, 1201, .inl c0)), (k8, .inl (cI, 40, .inl c8))] sz)) 0 0 (va_A [(k, .inr (11, [.ref k0, .ref k1, .ref k2, .int c3, .ref k4, .ref k5, .ref k6, .ref k7, .ref k8, .int c9, .ref ka, .ref kb, .int cc, .int cd, .int ce, .int cf, .int cg, .int ch, .int ci, .int cj, .int ck, .ref kl, .int cm, .int cn, .ref ko])), (k0, .inl (cI, 1201, .inl c0)), (k8, .inl (cI, 40, .inl c8))] sz)
set_option maxHeartbeats 4000000 in
set_option maxRecDepth 100000 in
theorem c_X11_speaksR : ∀ dd : Nat, SPKP dd := by
  intro dd
  induction dd with
  | zero => intro l D cI aK aV k k0 k1 k2 k4 k5 k6 k7 k8 ka kb kl ko sz c3 c9 cc cd ce cf cg ch ci cj ck cm cn c0 c8 a0 a1 a2 a3 pre0 pre1 pre2 pre3 pre4 pre5 pre6 pre7 pre8 pre9; exact absurd pre9 (by omega)
  | succ dd ih =>
    intro l D cI aK aV k k0 k1 k2 k4 k5 k6 k7 k8 ka kb kl ko sz c3 c9 cc cd ce cf cg ch ci cj ck cm cn c0 c8 a0 a1 a2 a3 pre0 pre1 pre2 pre3 pre4 pre5 pre6 pre7 pre8 pre9
    refine kMetIX (own := RX11) (by decide +kernel) rfl (Nat.le_of_ble_eq_true rfl) ?_
    intro p e s m args below meth c hx hb hT hown hname hml A Q hK hP hD hS hA hN hXS hRet ls hl
    have hl : lv_has ls 11 [(0, .ref k), (1, .int a0), (2, .int a1), (3, .int a2), (4, .int a3)] := hl
    have lo_a0 := k_lo a0
    have hi_a0 := k_hi a0
    have lo_a1 := k_lo a1
    have hi_a1 := k_hi a1
    have lo_a2 := k_lo a2
    have hi_a2 := k_hi a2
    have lo_a3 := k_lo a3
    have hi_a3 := k_hi a3
    have lo_ci := k_lo ci
    have hi_ci := k_hi ci
    have pre0 : SB c0 := pre0
    have nb_1 : 0 ≤ (c0 0).toInt ∧ (c0 0).toInt ≤ 2000 := SB.n0 pre0
    have nb_2 : 0 ≤ (c0 1).toInt ∧ (c0 1).toInt ≤ 60 := SB.n1 pre0
    have nb_3 : 0 ≤ (c0 2).toInt ∧ (c0 2).toInt ≤ 4 := SB.n2 pre0
    refine lv_iload_n hx hb dX11_speaks_0 rfl (lv_at hl 2 rfl) ?_
    refine lv_istore (lv' := [(5, .int a1), (0, .ref k), (1, .int a0), (2, .int a1), (3, .int a2), (4, .int a3)]) hx hb dX11_speaks_1 hl (by decide +kernel) rfl ?_
    clear hl
    intro ls hl
    have hloop_3 : ∀ (fu_ : Nat) (l3_5 : Int32), l3_5.toInt ≤ a1.toInt → 0 ≤ l3_5.toInt → l3_5.toInt ≤ a1.toInt → l3_5.toInt.toNat < fu_ → ∀ (ls : Array Slot) (H : Heap) (locs : List Loc), lv_has ls 11 [(5, .int l3_5), (0, .ref k), (1, .int a0), (2, .int a1), (3, .int a2), (4, .int a3)] → va_P D vwCl [(k, .inr (11, [.ref k0, .ref k1, .ref k2, .int c3, .ref k4, .ref k5, .ref k6, .ref k7, .ref k8, .int c9, .ref ka, .ref kb, .int cc, .int cd, .int ce, .int cf, .int cg, .int ch, .int ci, .int cj, .int ck, .ref kl, .int cm, .int cn, .ref ko])), (k0, .inl (cI, 1201, .inl c0)), (k8, .inl (cI, 40, .inl c8))] H → va_D A [(k, .inr (11, [.ref k0, .ref k1, .ref k2, .int c3, .ref k4, .ref k5, .ref k6, .ref k7, .ref k8, .int c9, .ref ka, .ref kb, .int cc, .int cd, .int ce, .int cf, .int cg, .int ch, .int ci, .int cj, .int ck, .ref kl, .int cm, .int cn, .ref ko])), (k0, .inl (cI, 1201, .inl c0)), (k8, .inl (cI, 40, .inl c8))] → va_S A s.heap H locs → W p l e ({ frames := 4 * (dd + 1), cells := 0, slots := 0, locals := 128 * (dd + 1) } : Room) s m args below meth c H locs 0 0 Q (F0 m 3 ls []) := by
      intro fu_; induction fu_ with
      | zero => intro l3_5 i3_0 i3_1 i3_2 hm; exact absurd hm (by omega)
      | succ fu_ ih3 =>
          intro l3_5 i3_0 i3_1 i3_2 hm ls H locs hl hP hD hS
          have lo_l3_5 := k_lo l3_5
          have hi_l3_5 := k_hi l3_5
          refine lv_iload hx hb dX11_speaks_3 (lv_at hl 0 rfl) ?_
          refine lv_iload_n hx hb dX11_speaks_5 rfl (lv_at hl 4 rfl) ?_
          refine kJi (wr := [(k, .inr (11, [.ref k0, .ref k1, .ref k2, .int c3, .ref k4, .ref k5, .ref k6, .ref k7, .ref k8, .int c9, .ref ka, .ref kb, .int cc, .int cd, .int ce, .int cf, .int cg, .int ch, .int ci, .int cj, .int ck, .ref kl, .int cm, .int cn, .ref ko])), (k0, .inl (cI, 1201, .inl c0)), (k8, .inl (cI, 40, .inl c8))]) (va_runS (As := [.int l3_5, .int a2]) (rest := []) ⟨hx, hb, hml, hown, hT⟩ (c_X11_bodyOfG l D cI aK aV H.size l3_5 a2 (by first | omega | decide | assumption | rfl) (by first | omega | decide | assumption | rfl) (by first | omega | decide | assumption | rfl) (by first | omega | decide | assumption | rfl)) (cwS 2 hT (gS_in mw_1581 mw_1579 mw_1580 mw_12) rfl rfl rfl (by decide +kernel) ⟨(by dsimp only; omega), (by dsimp only; omega)⟩) (kStatX hK hP hD hN hXS hS hA [] rfl (by decide +kernel)) rfl rfl hl.1 rfl (lv_room (Nat.le_of_ble_eq_true rfl)) dX11_speaks_6 ⟨Nat.le_of_ble_eq_true rfl, Nat.le_of_ble_eq_true rfl⟩) hP hD hS hA [] [0, 1, 2] rfl rfl (by decide +kernel) (by decide +kernel) ?_
          clear hP hD hS
          intro r_4 u_6 H locs w_5 hP hD hS
          replace hP : va_P D vwCl [(k, .inr (11, [.ref k0, .ref k1, .ref k2, .int c3, .ref k4, .ref k5, .ref k6, .ref k7, .ref k8, .int c9, .ref ka, .ref kb, .int cc, .int cd, .int ce, .int cf, .int cg, .int ch, .int ci, .int cj, .int ck, .ref kl, .int cm, .int cn, .ref ko])), (k0, .inl (cI, 1201, .inl c0)), (k8, .inl (cI, 40, .inl c8))] H := hP
          replace hD : va_D A [(k, .inr (11, [.ref k0, .ref k1, .ref k2, .int c3, .ref k4, .ref k5, .ref k6, .ref k7, .ref k8, .int c9, .ref ka, .ref kb, .int cc, .int cd, .int ce, .int cf, .int cg, .int ch, .int ci, .int cj, .int ck, .ref kl, .int cm, .int cn, .ref ko])), (k0, .inl (cI, 1201, .inl c0)), (k8, .inl (cI, 40, .inl c8))] := hD
          rcases w_5 with ⟨hr_4, h_7, h_8, h_9⟩ | ⟨hr_4, h_10, h_11, h_12⟩ | ⟨hr_4, h_13, h_14, h_15⟩ | ⟨hr_4, h_16, h_17, h_18⟩ | ⟨hr_4, h_19, h_20, h_21⟩ | ⟨hr_4, h_22, h_23, h_24⟩ | ⟨hr_4, h_25, h_26, h_27⟩ | ⟨hr_4, h_28, h_29, h_30⟩ | ⟨hr_4, h_31, h_32, h_33⟩ | ⟨hr_4, h_34, h_35, h_36⟩ | ⟨hr_4, h_37, h_38, h_39⟩ | ⟨hr_4, h_40, h_41, h_42⟩ | ⟨hr_4, h_43, h_44, h_45⟩ | ⟨hr_4, h_46, h_47, h_48⟩ | ⟨hr_4, h_49, h_50⟩
          · have h_7 : l3_5.toInt = 0 := h_7
            have h_8 : a2.toInt = 0 := h_8
            have h_9 : (bKi l3_5 a2).toInt = 10 := h_9
            obtain rfl : r_4 = 10 := hr_4.trans (by decide +kernel)
            refine b_if_ne hx hb zl_10 (tgt := 22) dX11_speaks_9 (by decide +kernel) (fun c_51 => ?_) (fun c_51 => by exfalso; omega)
            refine lv_aload_n hx hb dX11_speaks_22 rfl (lv_at hl 1 rfl) ?_
            refine lv_iload_n hx hb dX11_speaks_23 rfl (lv_at hl 2 rfl) ?_
            refine lv_iconst (v := 0) hx hb dX11_speaks_24 (by decide +kernel) ?_
            refine kJi (wr := [(k8, .inl (cI, 40, .inl c8))]) (va_runV (As := [.int a0, .int 0]) (rest := []) ⟨hx, hb, hml, hown, hT⟩ (c_X11_workG0 l D cI aK aV k k0 k1 k2 k4 k5 k6 k7 k8 ka kb kl ko H.size c3 c9 cc cd ce cf cg ch ci cj ck cm cn c0 a0 0 (by first | omega | (simp only [zl_0]; first | done | omega) | decide | assumption | rfl) (by first | omega | (simp only [zl_0]; first | done | omega) | decide | assumption | rfl) (by first | omega | (simp only [zl_0]; first | done | omega) | decide | assumption | rfl)) (cwV 2 hT (gV_in mw_1276 mw_1273 mw_1275 mw_p3_12 mw_12) rfl rfl rfl (by decide +kernel) ⟨(by dsimp only; omega), (by dsimp only; omega)⟩) (kRecvX (q0 := 0) (ci := 11) hK hP hD hN hXS hS hA rfl rfl [0, 1] rfl (by decide +kernel)) rfl rfl hl.1 rfl (lv_room (Nat.le_of_ble_eq_true rfl)) dX11_speaks_25 ⟨Nat.le_of_ble_eq_true rfl, Nat.le_of_ble_eq_true rfl⟩) hP hD hS hA [0, 1] [2] rfl rfl (by decide +kernel) (by decide +kernel) ?_
            clear hP hD hS
            intro r_52 u_54 H locs w_53 hP hD hS
            replace hP : va_P D vwCl [(k8, .inl (cI, 40, .inl c8)), (k, .inr (11, [.ref k0, .ref k1, .ref k2, .int c3, .ref k4, .ref k5, .ref k6, .ref k7, .ref k8, .int c9, .ref ka, .ref kb, .int cc, .int cd, .int ce, .int cf, .int cg, .int ch, .int ci, .int cj, .int ck, .ref kl, .int cm, .int cn, .ref ko])), (k0, .inl (cI, 1201, .inl c0))] H := hP
            replace hD : va_D A [(k8, .inl (cI, 40, .inl c8)), (k, .inr (11, [.ref k0, .ref k1, .ref k2, .int c3, .ref k4, .ref k5, .ref k6, .ref k7, .ref k8, .int c9, .ref ka, .ref kb, .int cc, .int cd, .int ce, .int cf, .int cg, .int ch, .int ci, .int cj, .int ck, .ref kl, .int cm, .int cn, .ref ko])), (k0, .inl (cI, 1201, .inl c0))] := hD
            have h_55 := w_53
            have h_55 : r_52 = wW c0 a0 0 := h_55
            have t_56 : r_52.toInt = (wW c0 a0 0).toInt := by rw [h_55]
            have b_57 : 0 ≤ r_52.toInt ∧ r_52.toInt ≤ 5 := by rw [h_55]; exact SB.w0 pre0 (by omega) (by omega)
            have lo_r_52 := k_lo r_52
            have hi_r_52 := k_hi r_52
            refine lv_istore (lv' := [(6, .int r_52), (5, .int l3_5), (0, .ref k), (1, .int a0), (2, .int a1), (3, .int a2), (4, .int a3)]) hx hb dX11_speaks_28 hl (by decide +kernel) rfl ?_
            clear hl
            intro ls hl
            refine lv_aload_n hx hb dX11_speaks_30 rfl (lv_at hl 2 rfl) ?_
            refine lv_iload_n hx hb dX11_speaks_31 rfl (lv_at hl 3 rfl) ?_
            refine lv_iconst (v := 2) hx hb dX11_speaks_32 (by decide +kernel) ?_
            refine kJi (wr := [(k8, .inl (cI, 40, .inl c8))]) (va_runV (As := [.int a0, .int 2]) (rest := []) ⟨hx, hb, hml, hown, hT⟩ (c_X11_workG2 l D cI aK aV k k0 k1 k2 k4 k5 k6 k7 k8 ka kb kl ko H.size c3 c9 cc cd ce cf cg ch ci cj ck cm cn c0 a0 2 (by first | omega | (simp only [zl_2]; first | done | omega) | decide | assumption | rfl) (by first | omega | (simp only [zl_2]; first | done | omega) | decide | assumption | rfl) (by first | omega | (simp only [zl_2]; first | done | omega) | decide | assumption | rfl)) (cwV 2 hT (gV_in mw_1276 mw_1273 mw_1275 mw_p3_12 mw_12) rfl rfl rfl (by decide +kernel) ⟨(by dsimp only; omega), (by dsimp only; omega)⟩) (kRecvX (q0 := 1) (ci := 11) hK hP hD hN hXS hS hA rfl rfl [1, 2] rfl (by decide +kernel)) rfl rfl hl.1 rfl (lv_room (Nat.le_of_ble_eq_true rfl)) dX11_speaks_33 ⟨Nat.le_of_ble_eq_true rfl, Nat.le_of_ble_eq_true rfl⟩) hP hD hS hA [1, 2] [0] rfl rfl (by decide +kernel) (by decide +kernel) ?_
            clear hP hD hS
            intro r_58 u_60 H locs w_59 hP hD hS
            replace hP : va_P D vwCl [(k8, .inl (cI, 40, .inl c8)), (k, .inr (11, [.ref k0, .ref k1, .ref k2, .int c3, .ref k4, .ref k5, .ref k6, .ref k7, .ref k8, .int c9, .ref ka, .ref kb, .int cc, .int cd, .int ce, .int cf, .int cg, .int ch, .int ci, .int cj, .int ck, .ref kl, .int cm, .int cn, .ref ko])), (k0, .inl (cI, 1201, .inl c0))] H := hP
            replace hD : va_D A [(k8, .inl (cI, 40, .inl c8)), (k, .inr (11, [.ref k0, .ref k1, .ref k2, .int c3, .ref k4, .ref k5, .ref k6, .ref k7, .ref k8, .int c9, .ref ka, .ref kb, .int cc, .int cd, .int ce, .int cf, .int cg, .int ch, .int ci, .int cj, .int ck, .ref kl, .int cm, .int cn, .ref ko])), (k0, .inl (cI, 1201, .inl c0))] := hD
            have h_61 := w_59
            have h_61 : r_58 = wW c0 a0 2 := h_61
            have t_62 : r_58.toInt = (wW c0 a0 2).toInt := by rw [h_61]
            have lo_r_58 := k_lo r_58
            have hi_r_58 := k_hi r_58
            refine lv_istore (lv' := [(7, .int r_58), (6, .int r_52), (5, .int l3_5), (0, .ref k), (1, .int a0), (2, .int a1), (3, .int a2), (4, .int a3)]) hx hb dX11_speaks_36 hl (by decide +kernel) rfl ?_
            clear hl
            intro ls hl
            refine lv_iload hx hb dX11_speaks_38 (lv_at hl 2 rfl) ?_
            refine kJi (wr := [(k8, .inl (cI, 40, .inl c8)), (k, .inr (11, [.ref k0, .ref k1, .ref k2, .int c3, .ref k4, .ref k5, .ref k6, .ref k7, .ref k8, .int c9, .ref ka, .ref kb, .int cc, .int cd, .int ce, .int cf, .int cg, .int ch, .int ci, .int cj, .int ck, .ref kl, .int cm, .int cn, .ref ko])), (k0, .inl (cI, 1201, .inl c0))]) (va_runS (As := [.int l3_5]) (rest := []) ⟨hx, hb, hml, hown, hT⟩ (c_X11_parentG l D cI aK aV H.size l3_5 (by first | omega | decide | assumption | rfl) (by first | omega | decide | assumption | rfl)) (cwS 1 hT (gS_in mw_1282 mw_1280 mw_1281 mw_12) rfl rfl rfl (by decide +kernel) ⟨(by dsimp only; omega), (by dsimp only; omega)⟩) (kStatX hK hP hD hN hXS hS hA [] rfl (by decide +kernel)) rfl rfl hl.1 rfl (lv_room (Nat.le_of_ble_eq_true rfl)) dX11_speaks_40 ⟨Nat.le_of_ble_eq_true rfl, Nat.le_of_ble_eq_true rfl⟩) hP hD hS hA [] [0, 1, 2] rfl rfl (by decide +kernel) (by decide +kernel) ?_
            clear hP hD hS
            intro r_63 u_65 H locs w_64 hP hD hS
            replace hP : va_P D vwCl [(k8, .inl (cI, 40, .inl c8)), (k, .inr (11, [.ref k0, .ref k1, .ref k2, .int c3, .ref k4, .ref k5, .ref k6, .ref k7, .ref k8, .int c9, .ref ka, .ref kb, .int cc, .int cd, .int ce, .int cf, .int cg, .int ch, .int ci, .int cj, .int ck, .ref kl, .int cm, .int cn, .ref ko])), (k0, .inl (cI, 1201, .inl c0))] H := hP
            replace hD : va_D A [(k8, .inl (cI, 40, .inl c8)), (k, .inr (11, [.ref k0, .ref k1, .ref k2, .int c3, .ref k4, .ref k5, .ref k6, .ref k7, .ref k8, .int c9, .ref ka, .ref kb, .int cc, .int cd, .int ce, .int cf, .int cg, .int ch, .int ci, .int cj, .int ck, .ref kl, .int cm, .int cn, .ref ko])), (k0, .inl (cI, 1201, .inl c0))] := hD
            rcases w_64 with ⟨hr_63, h_66⟩ | ⟨hr_63, h_67⟩ | ⟨hr_63, h_68⟩ | ⟨hr_63, h_69⟩ | ⟨hr_63, h_70⟩
            · have h_66 : l3_5.toInt = 0 := h_66
              obtain rfl : r_63 = (-1) := hr_63.trans (by decide +kernel)
              refine lv_istore (lv' := [(8, .int (-1)), (7, .int r_58), (6, .int r_52), (5, .int l3_5), (0, .ref k), (1, .int a0), (2, .int a1), (3, .int a2), (4, .int a3)]) hx hb dX11_speaks_43 hl (by decide +kernel) rfl ?_
              clear hl
              intro ls hl
              refine lv_iload hx hb dX11_speaks_45 (lv_at hl 3 rfl) ?_
              refine lv_iload_n hx hb dX11_speaks_47 rfl (lv_at hl 7 rfl) ?_
              refine kJi (wr := [(k8, .inl (cI, 40, .inl c8)), (k, .inr (11, [.ref k0, .ref k1, .ref k2, .int c3, .ref k4, .ref k5, .ref k6, .ref k7, .ref k8, .int c9, .ref ka, .ref kb, .int cc, .int cd, .int ce, .int cf, .int cg, .int ch, .int ci, .int cj, .int ck, .ref kl, .int cm, .int cn, .ref ko])), (k0, .inl (cI, 1201, .inl c0))]) (va_runS (As := [.int l3_5, .int a2]) (rest := []) ⟨hx, hb, hml, hown, hT⟩ (c_X11_bodyOfG l D cI aK aV H.size l3_5 a2 (by first | omega | decide | assumption | rfl) (by first | omega | decide | assumption | rfl) (by first | omega | decide | assumption | rfl) (by first | omega | decide | assumption | rfl)) (cwS 2 hT (gS_in mw_1581 mw_1579 mw_1580 mw_12) rfl rfl rfl (by decide +kernel) ⟨(by dsimp only; omega), (by dsimp only; omega)⟩) (kStatX hK hP hD hN hXS hS hA [] rfl (by decide +kernel)) rfl rfl hl.1 rfl (lv_room (Nat.le_of_ble_eq_true rfl)) dX11_speaks_48 ⟨Nat.le_of_ble_eq_true rfl, Nat.le_of_ble_eq_true rfl⟩) hP hD hS hA [] [0, 1, 2] rfl rfl (by decide +kernel) (by decide +kernel) ?_
              clear hP hD hS
              intro r_71 u_73 H locs w_72 hP hD hS
              replace hP : va_P D vwCl [(k8, .inl (cI, 40, .inl c8)), (k, .inr (11, [.ref k0, .ref k1, .ref k2, .int c3, .ref k4, .ref k5, .ref k6, .ref k7, .ref k8, .int c9, .ref ka, .ref kb, .int cc, .int cd, .int ce, .int cf, .int cg, .int ch, .int ci, .int cj, .int ck, .ref kl, .int cm, .int cn, .ref ko])), (k0, .inl (cI, 1201, .inl c0))] H := hP
              replace hD : va_D A [(k8, .inl (cI, 40, .inl c8)), (k, .inr (11, [.ref k0, .ref k1, .ref k2, .int c3, .ref k4, .ref k5, .ref k6, .ref k7, .ref k8, .int c9, .ref ka, .ref kb, .int cc, .int cd, .int ce, .int cf, .int cg, .int ch, .int ci, .int cj, .int ck, .ref kl, .int cm, .int cn, .ref ko])), (k0, .inl (cI, 1201, .inl c0))] := hD
              rcases w_72 with ⟨hr_71, h_74, h_75, h_76⟩ | ⟨hr_71, h_77, h_78, h_79⟩ | ⟨hr_71, h_80, h_81, h_82⟩ | ⟨hr_71, h_83, h_84, h_85⟩ | ⟨hr_71, h_86, h_87, h_88⟩ | ⟨hr_71, h_89, h_90, h_91⟩ | ⟨hr_71, h_92, h_93, h_94⟩ | ⟨hr_71, h_95, h_96, h_97⟩ | ⟨hr_71, h_98, h_99, h_100⟩ | ⟨hr_71, h_101, h_102, h_103⟩ | ⟨hr_71, h_104, h_105, h_106⟩ | ⟨hr_71, h_107, h_108, h_109⟩ | ⟨hr_71, h_110, h_111, h_112⟩ | ⟨hr_71, h_113, h_114, h_115⟩ | ⟨hr_71, h_116, h_117⟩
              · have h_74 : l3_5.toInt = 0 := h_74
                have h_75 : a2.toInt = 0 := h_75
                have h_76 : (bKi l3_5 a2).toInt = 10 := h_76
                obtain rfl : r_71 = 10 := hr_71.trans (by decide +kernel)
                refine lv_istore (lv' := [(9, .int 10), (8, .int (-1)), (7, .int r_58), (6, .int r_52), (5, .int l3_5), (0, .ref k), (1, .int a0), (2, .int a1), (3, .int a2), (4, .int a3)]) hx hb dX11_speaks_51 hl (by decide +kernel) rfl ?_
                clear hl
                intro ls hl
                refine lv_aload_n hx hb dX11_speaks_53 rfl (lv_at hl 5 rfl) ?_
                refine lv_iload hx hb dX11_speaks_54 (lv_at hl 0 rfl) ?_
                refine kJv (wr := [(k0, .inl (cI, 1201, .inl c0))]) (va_runV (As := [.int 10]) (rest := []) ⟨hx, hb, hml, hown, hT⟩ (c_X11_ranG l D cI aK aV k k0 k1 k2 k4 k5 k6 k7 k8 ka kb kl ko H.size c3 c9 cc cd ce cf cg ch ci cj ck cm cn c8 10 (by first | omega | (simp only [zl_10]; first | done | omega) | decide | assumption | rfl) (by first | omega | (simp only [zl_10]; first | done | omega) | decide | assumption | rfl)) (cwV 1 hT (gV_in mw_1585 mw_1582 mw_1584 mw_p6_7 mw_12) rfl rfl rfl (by decide +kernel) ⟨(by dsimp only; omega), (by dsimp only; omega)⟩) (kRecvX (q0 := 1) (ci := 11) hK hP hD hN hXS hS hA rfl rfl [1, 0] rfl (by decide +kernel)) rfl rfl hl.1 rfl (lv_room (Nat.le_of_ble_eq_true rfl)) dX11_speaks_56 ⟨Nat.le_of_ble_eq_true rfl, Nat.le_of_ble_eq_true rfl⟩) hP hD hS hA [1, 0] [2] rfl rfl (by decide +kernel) (by decide +kernel) ?_
                clear hP hD hS
                intro u_122 H locs w_119 hP hD hS
                obtain ⟨sc9_120, sc8_121⟩ := u_122
                replace hP : va_P D vwCl [(k0, .inl (cI, 1201, .inl c0)), (k, .inr (11, [.ref k0, .ref k1, .ref k2, .int c3, .ref k4, .ref k5, .ref k6, .ref k7, .ref k8, .int sc9_120, .ref ka, .ref kb, .int cc, .int cd, .int ce, .int cf, .int cg, .int ch, .int ci, .int cj, .int ck, .ref kl, .int cm, .int cn, .ref ko])), (k8, .inl (cI, 40, .inl sc8_121))] H := hP
                replace hD : va_D A [(k0, .inl (cI, 1201, .inl c0)), (k, .inr (11, [.ref k0, .ref k1, .ref k2, .int c3, .ref k4, .ref k5, .ref k6, .ref k7, .ref k8, .int sc9_120, .ref ka, .ref kb, .int cc, .int cd, .int ce, .int cf, .int cg, .int ch, .int ci, .int cj, .int ck, .ref kl, .int cm, .int cn, .ref ko])), (k8, .inl (cI, 40, .inl sc8_121))] := hD
                have lo_sc9_120 := k_lo sc9_120
                have hi_sc9_120 := k_hi sc9_120
                obtain ⟨h_123, h_124⟩ := w_119
                try simp only [zl_10] at h_123
                have h_123 : 0 ≤ sc9_120.toInt := h_123
                try simp only [zl_10] at h_124
                have h_124 : sc9_120.toInt ≤ 40 := h_124
                refine lv_iload hx hb dX11_speaks_59 (lv_at hl 0 rfl) ?_
                refine lv_tableIn (off := 219) (tgt := 280) hx hb dX11_speaks_61 (by decide +kernel) (by decide +kernel) (by decide +kernel) (by decide +kernel) ?_
                refine lv_iload hx hb dX11_speaks_280 (lv_at hl 9 rfl) ?_
                refine lv_iload_n hx hb dX11_speaks_282 rfl (lv_at hl 6 rfl) ?_
                refine lv_isub hx hb dX11_speaks_283 ?_
                refine lv_topi (fun v_125 ev_125 => ?_)
                have lo_v_125 := k_lo v_125
                have hi_v_125 := k_hi v_125
                exact hRet (sc9_120, sc8_121) [1, 0, 2] ⟨(by first | omega | decide | assumption | rfl | (dsimp only; first | omega)), (by first | omega | decide | assumption | rfl | (dsimp only; first | omega))⟩ hP hD (by decide +kernel) rfl hS rfl dX11_speaks_284
              · exfalso; omega
              · exfalso; omega
              · exfalso; omega
              · exfalso; omega
              · exfalso; omega
              · exfalso; omega
              · exfalso; omega
              · exfalso; omega
              · exfalso; omega
              · exfalso; omega
              · exfalso; omega
              · exfalso; omega
              · exfalso; omega
              · exfalso; omega
            · exfalso; omega
            · exfalso; omega
            · exfalso; omega
            · exfalso; omega
          · have h_10 : l3_5.toInt = 0 := h_10
            have h_11 : a2.toInt = 1 := h_11
            have h_12 : (bKi l3_5 a2).toInt = 11 := h_12
            obtain rfl : r_4 = 11 := hr_4.trans (by decide +kernel)
            refine b_if_ne hx hb zl_11 (tgt := 22) dX11_speaks_9 (by decide +kernel) (fun c_126 => ?_) (fun c_126 => by exfalso; omega)
            refine lv_aload_n hx hb dX11_speaks_22 rfl (lv_at hl 1 rfl) ?_
            refine lv_iload_n hx hb dX11_speaks_23 rfl (lv_at hl 2 rfl) ?_
            refine lv_iconst (v := 0) hx hb dX11_speaks_24 (by decide +kernel) ?_
            refine kJi (wr := [(k8, .inl (cI, 40, .inl c8))]) (va_runV (As := [.int a0, .int 0]) (rest := []) ⟨hx, hb, hml, hown, hT⟩ (c_X11_workG0 l D cI aK aV k k0 k1 k2 k4 k5 k6 k7 k8 ka kb kl ko H.size c3 c9 cc cd ce cf cg ch ci cj ck cm cn c0 a0 0 (by first | omega | (simp only [zl_0]; first | done | omega) | decide | assumption | rfl) (by first | omega | (simp only [zl_0]; first | done | omega) | decide | assumption | rfl) (by first | omega | (simp only [zl_0]; first | done | omega) | decide | assumption | rfl)) (cwV 2 hT (gV_in mw_1276 mw_1273 mw_1275 mw_p3_12 mw_12) rfl rfl rfl (by decide +kernel) ⟨(by dsimp only; omega), (by dsimp only; omega)⟩) (kRecvX (q0 := 0) (ci := 11) hK hP hD hN hXS hS hA rfl rfl [0, 1] rfl (by decide +kernel)) rfl rfl hl.1 rfl (lv_room (Nat.le_of_ble_eq_true rfl)) dX11_speaks_25 ⟨Nat.le_of_ble_eq_true rfl, Nat.le_of_ble_eq_true rfl⟩) hP hD hS hA [0, 1] [2] rfl rfl (by decide +kernel) (by decide +kernel) ?_
            clear hP hD hS
            intro r_127 u_129 H locs w_128 hP hD hS
            replace hP : va_P D vwCl [(k8, .inl (cI, 40, .inl c8)), (k, .inr (11, [.ref k0, .ref k1, .ref k2, .int c3, .ref k4, .ref k5, .ref k6, .ref k7, .ref k8, .int c9, .ref ka, .ref kb, .int cc, .int cd, .int ce, .int cf, .int cg, .int ch, .int ci, .int cj, .int ck, .ref kl, .int cm, .int cn, .ref ko])), (k0, .inl (cI, 1201, .inl c0))] H := hP
            replace hD : va_D A [(k8, .inl (cI, 40, .inl c8)), (k, .inr (11, [.ref k0, .ref k1, .ref k2, .int c3, .ref k4, .ref k5, .ref k6, .ref k7, .ref k8, .int c9, .ref ka, .ref kb, .int cc, .int cd, .int ce, .int cf, .int cg, .int ch, .int ci, .int cj, .int ck, .ref kl, .int cm, .int cn, .ref ko])), (k0, .inl (cI, 1201, .inl c0))] := hD
            have h_130 := w_128
            have h_130 : r_127 = wW c0 a0 0 := h_130
            have t_131 : r_127.toInt = (wW c0 a0 0).toInt := by rw [h_130]
            have b_132 : 0 ≤ r_127.toInt ∧ r_127.toInt ≤ 5 := by rw [h_130]; exact SB.w0 pre0 (by omega) (by omega)
            have lo_r_127 := k_lo r_127
            have hi_r_127 := k_hi r_127
            refine lv_istore (lv' := [(6, .int r_127), (5, .int l3_5), (0, .ref k), (1, .int a0), (2, .int a1), (3, .int a2), (4, .int a3)]) hx hb dX11_speaks_28 hl (by decide +kernel) rfl ?_
            clear hl
            intro ls hl
            refine lv_aload_n hx hb dX11_speaks_30 rfl (lv_at hl 2 rfl) ?_
            refine lv_iload_n hx hb dX11_speaks_31 rfl (lv_at hl 3 rfl) ?_
            refine lv_iconst (v := 2) hx hb dX11_speaks_32 (by decide +kernel) ?_
            refine kJi (wr := [(k8, .inl (cI, 40, .inl c8))]) (va_runV (As := [.int a0, .int 2]) (rest := []) ⟨hx, hb, hml, hown, hT⟩ (c_X11_workG2 l D cI aK aV k k0 k1 k2 k4 k5 k6 k7 k8 ka kb kl ko H.size c3 c9 cc cd ce cf cg ch ci cj ck cm cn c0 a0 2 (by first | omega | (simp only [zl_2]; first | done | omega) | decide | assumption | rfl) (by first | omega | (simp only [zl_2]; first | done | omega) | decide | assumption | rfl) (by first | omega | (simp only [zl_2]; first | done | omega) | decide | assumption | rfl)) (cwV 2 hT (gV_in mw_1276 mw_1273 mw_1275 mw_p3_12 mw_12) rfl rfl rfl (by decide +kernel) ⟨(by dsimp only; omega), (by dsimp only; omega)⟩) (kRecvX (q0 := 1) (ci := 11) hK hP hD hN hXS hS hA rfl rfl [1, 2] rfl (by decide +kernel)) rfl rfl hl.1 rfl (lv_room (Nat.le_of_ble_eq_true rfl)) dX11_speaks_33 ⟨Nat.le_of_ble_eq_true rfl, Nat.le_of_ble_eq_true rfl⟩) hP hD hS hA [1, 2] [0] rfl rfl (by decide +kernel) (by decide +kernel) ?_
            clear hP hD hS
            intro r_133 u_135 H locs w_134 hP hD hS
            replace hP : va_P D vwCl [(k8, .inl (cI, 40, .inl c8)), (k, .inr (11, [.ref k0, .ref k1, .ref k2, .int c3, .ref k4, .ref k5, .ref k6, .ref k7, .ref k8, .int c9, .ref ka, .ref kb, .int cc, .int cd, .int ce, .int cf, .int cg, .int ch, .int ci, .int cj, .int ck, .ref kl, .int cm, .int cn, .ref ko])), (k0, .inl (cI, 1201, .inl c0))] H := hP
            replace hD : va_D A [(k8, .inl (cI, 40, .inl c8)), (k, .inr (11, [.ref k0, .ref k1, .ref k2, .int c3, .ref k4, .ref k5, .ref k6, .ref k7, .ref k8, .int c9, .ref ka, .ref kb, .int cc, .int cd, .int ce, .int cf, .int cg, .int ch, .int ci, .int cj, .int ck, .ref kl, .int cm, .int cn, .ref ko])), (k0, .inl (cI, 1201, .inl c0))] := hD
            have h_136 := w_134
            have h_136 : r_133 = wW c0 a0 2 := h_136
            have t_137 : r_133.toInt = (wW c0 a0 2).toInt := by rw [h_136]
            have lo_r_133 := k_lo r_133
            have hi_r_133 := k_hi r_133
            refine lv_istore (lv' := [(7, .int r_133), (6, .int r_127), (5, .int l3_5), (0, .ref k), (1, .int a0), (2, .int a1), (3, .int a2), (4, .int a3)]) hx hb dX11_speaks_36 hl (by decide +kernel) rfl ?_
            clear hl
            intro ls hl
            refine lv_iload hx hb dX11_speaks_38 (lv_at hl 2 rfl) ?_
            refine kJi (wr := [(k8, .inl (cI, 40, .inl c8)), (k, .inr (11, [.ref k0, .ref k1, .ref k2, .int c3, .ref k4, .ref k5, .ref k6, .ref k7, .ref k8, .int c9, .ref ka, .ref kb, .int cc, .int cd, .int ce, .int cf, .int cg, .int ch, .int ci, .int cj, .int ck, .ref kl, .int cm, .int cn, .ref ko])), (k0, .inl (cI, 1201, .inl c0))]) (va_runS (As := [.int l3_5]) (rest := []) ⟨hx, hb, hml, hown, hT⟩ (c_X11_parentG l D cI aK aV H.size l3_5 (by first | omega | decide | assumption | rfl) (by first | omega | decide | assumption | rfl)) (cwS 1 hT (gS_in mw_1282 mw_1280 mw_1281 mw_12) rfl rfl rfl (by decide +kernel) ⟨(by dsimp only; omega), (by dsimp only; omega)⟩) (kStatX hK hP hD hN hXS hS hA [] rfl (by decide +kernel)) rfl rfl hl.1 rfl (lv_room (Nat.le_of_ble_eq_true rfl)) dX11_speaks_40 ⟨Nat.le_of_ble_eq_true rfl, Nat.le_of_ble_eq_true rfl⟩) hP hD hS hA [] [0, 1, 2] rfl rfl (by decide +kernel) (by decide +kernel) ?_
            clear hP hD hS
            intro r_138 u_140 H locs w_139 hP hD hS
            replace hP : va_P D vwCl [(k8, .inl (cI, 40, .inl c8)), (k, .inr (11, [.ref k0, .ref k1, .ref k2, .int c3, .ref k4, .ref k5, .ref k6, .ref k7, .ref k8, .int c9, .ref ka, .ref kb, .int cc, .int cd, .int ce, .int cf, .int cg, .int ch, .int ci, .int cj, .int ck, .ref kl, .int cm, .int cn, .ref ko])), (k0, .inl (cI, 1201, .inl c0))] H := hP
            replace hD : va_D A [(k8, .inl (cI, 40, .inl c8)), (k, .inr (11, [.ref k0, .ref k1, .ref k2, .int c3, .ref k4, .ref k5, .ref k6, .ref k7, .ref k8, .int c9, .ref ka, .ref kb, .int cc, .int cd, .int ce, .int cf, .int cg, .int ch, .int ci, .int cj, .int ck, .ref kl, .int cm, .int cn, .ref ko])), (k0, .inl (cI, 1201, .inl c0))] := hD
            rcases w_139 with ⟨hr_138, h_141⟩ | ⟨hr_138, h_142⟩ | ⟨hr_138, h_143⟩ | ⟨hr_138, h_144⟩ | ⟨hr_138, h_145⟩
            · have h_141 : l3_5.toInt = 0 := h_141
              obtain rfl : r_138 = (-1) := hr_138.trans (by decide +kernel)
              refine lv_istore (lv' := [(8, .int (-1)), (7, .int r_133), (6, .int r_127), (5, .int l3_5), (0, .ref k), (1, .int a0), (2, .int a1), (3, .int a2), (4, .int a3)]) hx hb dX11_speaks_43 hl (by decide +kernel) rfl ?_
              clear hl
              intro ls hl
              refine lv_iload hx hb dX11_speaks_45 (lv_at hl 3 rfl) ?_
              refine lv_iload_n hx hb dX11_speaks_47 rfl (lv_at hl 7 rfl) ?_
              refine kJi (wr := [(k8, .inl (cI, 40, .inl c8)), (k, .inr (11, [.ref k0, .ref k1, .ref k2, .int c3, .ref k4, .ref k5, .ref k6, .ref k7, .ref k8, .int c9, .ref ka, .ref kb, .int cc, .int cd, .int ce, .int cf, .int cg, .int ch, .int ci, .int cj, .int ck, .ref kl, .int cm, .int cn, .ref ko])), (k0, .inl (cI, 1201, .inl c0))]) (va_runS (As := [.int l3_5, .int a2]) (rest := []) ⟨hx, hb, hml, hown, hT⟩ (c_X11_bodyOfG l D cI aK aV H.size l3_5 a2 (by first | omega | decide | assumption | rfl) (by first | omega | decide | assumption | rfl) (by first | omega | decide | assumption | rfl) (by first | omega | decide | assumption | rfl)) (cwS 2 hT (gS_in mw_1581 mw_1579 mw_1580 mw_12) rfl rfl rfl (by decide +kernel) ⟨(by dsimp only; omega), (by dsimp only; omega)⟩) (kStatX hK hP hD hN hXS hS hA [] rfl (by decide +kernel)) rfl rfl hl.1 rfl (lv_room (Nat.le_of_ble_eq_true rfl)) dX11_speaks_48 ⟨Nat.le_of_ble_eq_true rfl, Nat.le_of_ble_eq_true rfl⟩) hP hD hS hA [] [0, 1, 2] rfl rfl (by decide +kernel) (by decide +kernel) ?_
              clear hP hD hS
              intro r_146 u_148 H locs w_147 hP hD hS
              replace hP : va_P D vwCl [(k8, .inl (cI, 40, .inl c8)), (k, .inr (11, [.ref k0, .ref k1, .ref k2, .int c3, .ref k4, .ref k5, .ref k6, .ref k7, .ref k8, .int c9, .ref ka, .ref kb, .int cc, .int cd, .int ce, .int cf, .int cg, .int ch, .int ci, .int cj, .int ck, .ref kl, .int cm, .int cn, .ref ko])), (k0, .inl (cI, 1201, .inl c0))] H := hP
              replace hD : va_D A [(k8, .inl (cI, 40, .inl c8)), (k, .inr (11, [.ref k0, .ref k1, .ref k2, .int c3, .ref k4, .ref k5, .ref k6, .ref k7, .ref k8, .int c9, .ref ka, .ref kb, .int cc, .int cd, .int ce, .int cf, .int cg, .int ch, .int ci, .int cj, .int ck, .ref kl, .int cm, .int cn, .ref ko])), (k0, .inl (cI, 1201, .inl c0))] := hD
              rcases w_147 with ⟨hr_146, h_149, h_150, h_151⟩ | ⟨hr_146, h_152, h_153, h_154⟩ | ⟨hr_146, h_155, h_156, h_157⟩ | ⟨hr_146, h_158, h_159, h_160⟩ | ⟨hr_146, h_161, h_162, h_163⟩ | ⟨hr_146, h_164, h_165, h_166⟩ | ⟨hr_146, h_167, h_168, h_169⟩ | ⟨hr_146, h_170, h_171, h_172⟩ | ⟨hr_146, h_173, h_174, h_175⟩ | ⟨hr_146, h_176, h_177, h_178⟩ | ⟨hr_146, h_179, h_180, h_181⟩ | ⟨hr_146, h_182, h_183, h_184⟩ | ⟨hr_146, h_185, h_186, h_187⟩ | ⟨hr_146, h_188, h_189, h_190⟩ | ⟨hr_146, h_191, h_192⟩
              · exfalso; omega
              · have h_152 : l3_5.toInt = 0 := h_152
                have h_153 : a2.toInt = 1 := h_153
                have h_154 : (bKi l3_5 a2).toInt = 11 := h_154
                obtain rfl : r_146 = 11 := hr_146.trans (by decide +kernel)
                refine lv_istore (lv' := [(9, .int 11), (8, .int (-1)), (7, .int r_133), (6, .int r_127), (5, .int l3_5), (0, .ref k), (1, .int a0), (2, .int a1), (3, .int a2), (4, .int a3)]) hx hb dX11_speaks_51 hl (by decide +kernel) rfl ?_
                clear hl
                intro ls hl
                refine lv_aload_n hx hb dX11_speaks_53 rfl (lv_at hl 5 rfl) ?_
                refine lv_iload hx hb dX11_speaks_54 (lv_at hl 0 rfl) ?_
                refine kJv (wr := [(k0, .inl (cI, 1201, .inl c0))]) (va_runV (As := [.int 11]) (rest := []) ⟨hx, hb, hml, hown, hT⟩ (c_X11_ranG l D cI aK aV k k0 k1 k2 k4 k5 k6 k7 k8 ka kb kl ko H.size c3 c9 cc cd ce cf cg ch ci cj ck cm cn c8 11 (by first | omega | (simp only [zl_11]; first | done | omega) | decide | assumption | rfl) (by first | omega | (simp only [zl_11]; first | done | omega) | decide | assumption | rfl)) (cwV 1 hT (gV_in mw_1585 mw_1582 mw_1584 mw_p6_7 mw_12) rfl rfl rfl (by decide +kernel) ⟨(by dsimp only; omega), (by dsimp only; omega)⟩) (kRecvX (q0 := 1) (ci := 11) hK hP hD hN hXS hS hA rfl rfl [1, 0] rfl (by decide +kernel)) rfl rfl hl.1 rfl (lv_room (Nat.le_of_ble_eq_true rfl)) dX11_speaks_56 ⟨Nat.le_of_ble_eq_true rfl, Nat.le_of_ble_eq_true rfl⟩) hP hD hS hA [1, 0] [2] rfl rfl (by decide +kernel) (by decide +kernel) ?_
                clear hP hD hS
                intro u_197 H locs w_194 hP hD hS
                obtain ⟨sc9_195, sc8_196⟩ := u_197
                replace hP : va_P D vwCl [(k0, .inl (cI, 1201, .inl c0)), (k, .inr (11, [.ref k0, .ref k1, .ref k2, .int c3, .ref k4, .ref k5, .ref k6, .ref k7, .ref k8, .int sc9_195, .ref ka, .ref kb, .int cc, .int cd, .int ce, .int cf, .int cg, .int ch, .int ci, .int cj, .int ck, .ref kl, .int cm, .int cn, .ref ko])), (k8, .inl (cI, 40, .inl sc8_196))] H := hP
                replace hD : va_D A [(k0, .inl (cI, 1201, .inl c0)), (k, .inr (11, [.ref k0, .ref k1, .ref k2, .int c3, .ref k4, .ref k5, .ref k6, .ref k7, .ref k8, .int sc9_195, .ref ka, .ref kb, .int cc, .int cd, .int ce, .int cf, .int cg, .int ch, .int ci, .int cj, .int ck, .ref kl, .int cm, .int cn, .ref ko])), (k8, .inl (cI, 40, .inl sc8_196))] := hD
                have lo_sc9_195 := k_lo sc9_195
                have hi_sc9_195 := k_hi sc9_195
                obtain ⟨h_198, h_199⟩ := w_194
                try simp only [zl_11] at h_198
                have h_198 : 0 ≤ sc9_195.toInt := h_198
                try simp only [zl_11] at h_199
                have h_199 : sc9_195.toInt ≤ 40 := h_199
                refine lv_iload hx hb dX11_speaks_59 (lv_at hl 0 rfl) ?_
                refine lv_tableIn (off := 224) (tgt := 285) hx hb dX11_speaks_61 (by decide +kernel) (by decide +kernel) (by decide +kernel) (by decide +kernel) ?_
                refine lv_aload_n hx hb dX11_speaks_285 rfl (lv_at hl 5 rfl) ?_
                refine lv_iload_n hx hb dX11_speaks_286 rfl (lv_at hl 6 rfl) ?_
                refine lv_iload hx hb dX11_speaks_287 (lv_at hl 3 rfl) ?_
                refine lv_iconst (v := 0) hx hb dX11_speaks_289 (by decide +kernel) ?_
                refine lv_iload hx hb dX11_speaks_290 (lv_at hl 9 rfl) ?_
                refine kJi (wr := []) (va_runV (As := [.int a0, .int r_127, .int 0, .int a3]) (rest := []) ⟨hx, hb, hml, hown, hT⟩ (ih l D cI aK aV k k0 k1 k2 k4 k5 k6 k7 k8 ka kb kl ko H.size c3 sc9_195 cc cd ce cf cg ch ci cj ck cm cn c0 sc8_196 a0 r_127 0 a3 pre0 (by first | omega | (simp only [zl_0]; first | done | omega) | decide | assumption | rfl) (by first | omega | (simp only [zl_0]; first | done | omega) | decide | assumption | rfl) (by first | omega | (simp only [zl_0]; first | done | omega) | decide | assumption | rfl) (by first | omega | (simp only [zl_0]; first | done | omega) | decide | assumption | rfl) (by first | omega | (simp only [zl_0]; first | done | omega) | decide | assumption | rfl) (by first | omega | (simp only [zl_0]; first | done | omega) | decide | assumption | rfl) (by first | omega | (simp only [zl_0]; first | done | omega) | decide | assumption | rfl) (by first | omega | (simp only [zl_0]; first | done | omega) | decide | assumption | rfl) (by first | omega | (simp only [zl_0]; first | done | omega) | decide | assumption | rfl)) (cwV 4 hT (gV_in mw_1578 mw_1575 mw_1577 mw_p6_6 mw_12) rfl rfl rfl (by decide +kernel) ⟨(by dsimp only; omega), (by dsimp only; omega)⟩) (kRecvX (q0 := 1) (ci := 11) hK hP hD hN hXS hS hA rfl rfl [1, 0, 2] rfl (by decide +kernel)) rfl rfl hl.1 rfl (lv_room (Nat.le_of_ble_eq_true rfl)) dX11_speaks_292 ⟨Nat.le_of_ble_eq_true rfl, Nat.le_of_ble_eq_true rfl⟩) hP hD hS hA [1, 0, 2] [] rfl rfl (by decide +kernel) (by decide +kernel) ?_
                clear hP hD hS
                intro r_200 u_204 H locs w_201 hP hD hS
                obtain ⟨sc9_202, sc8_203⟩ := u_204
                replace hP : va_P D vwCl [(k, .inr (11, [.ref k0, .ref k1, .ref k2, .int c3, .ref k4, .ref k5, .ref k6, .ref k7, .ref k8, .int sc9_202, .ref ka, .ref kb, .int cc, .int cd, .int ce, .int cf, .int cg, .int ch, .int ci, .int cj, .int ck, .ref kl, .int cm, .int cn, .ref ko])), (k0, .inl (cI, 1201, .inl c0)), (k8, .inl (cI, 40, .inl sc8_203))] H := hP
                replace hD : va_D A [(k, .inr (11, [.ref k0, .ref k1, .ref k2, .int c3, .ref k4, .ref k5, .ref k6, .ref k7, .ref k8, .int sc9_202, .ref ka, .ref kb, .int cc, .int cd, .int ce, .int cf, .int cg, .int ch, .int ci, .int cj, .int ck, .ref kl, .int cm, .int cn, .ref ko])), (k0, .inl (cI, 1201, .inl c0)), (k8, .inl (cI, 40, .inl sc8_203))] := hD
                have lo_sc9_202 := k_lo sc9_202
                have hi_sc9_202 := k_hi sc9_202
                obtain ⟨h_205, h_206⟩ := w_201
                try simp only [zl_0] at h_205
                have h_205 : 0 ≤ sc9_202.toInt := h_205
                try simp only [zl_0] at h_206
                have h_206 : sc9_202.toInt ≤ 40 := h_206
                have lo_r_200 := k_lo r_200
                have hi_r_200 := k_hi r_200
                refine lv_iload hx hb dX11_speaks_295 (lv_at hl 2 rfl) ?_
                refine lv_iadd hx hb dX11_speaks_297 ?_
                refine lv_topi (fun v_207 ev_207 => ?_)
                have lo_v_207 := k_lo v_207
                have hi_v_207 := k_hi v_207
                exact hRet (sc9_202, sc8_203) [0, 1, 2] ⟨(by first | omega | decide | assumption | rfl | (dsimp only; first | omega)), (by first | omega | decide | assumption | rfl | (dsimp only; first | omega))⟩ hP hD (by decide +kernel) rfl hS rfl dX11_speaks_298
              · exfalso; omega
              · exfalso; omega
              · exfalso; omega
              · exfalso; omega
              · exfalso; omega
              · exfalso; omega
              · exfalso; omega
              · exfalso; omega
              · exfalso; omega
              · exfalso; omega
              · exfalso; omega
              · exfalso; omega
              · exfalso; omega
            · exfalso; omega
            · exfalso; omega
            · exfalso; omega
            · exfalso; omega
          · have h_13 : l3_5.toInt = 0 := h_13
            have h_14 : a2.toInt = 2 := h_14
            have h_15 : (bKi l3_5 a2).toInt = 12 := h_15
            obtain rfl : r_4 = 12 := hr_4.trans (by decide +kernel)
            refine b_if_ne hx hb zl_12 (tgt := 22) dX11_speaks_9 (by decide +kernel) (fun c_208 => ?_) (fun c_208 => by exfalso; omega)
            refine lv_aload_n hx hb dX11_speaks_22 rfl (lv_at hl 1 rfl) ?_
            refine lv_iload_n hx hb dX11_speaks_23 rfl (lv_at hl 2 rfl) ?_
            refine lv_iconst (v := 0) hx hb dX11_speaks_24 (by decide +kernel) ?_
            refine kJi (wr := [(k8, .inl (cI, 40, .inl c8))]) (va_runV (As := [.int a0, .int 0]) (rest := []) ⟨hx, hb, hml, hown, hT⟩ (c_X11_workG0 l D cI aK aV k k0 k1 k2 k4 k5 k6 k7 k8 ka kb kl ko H.size c3 c9 cc cd ce cf cg ch ci cj ck cm cn c0 a0 0 (by first | omega | (simp only [zl_0]; first | done | omega) | decide | assumption | rfl) (by first | omega | (simp only [zl_0]; first | done | omega) | decide | assumption | rfl) (by first | omega | (simp only [zl_0]; first | done | omega) | decide | assumption | rfl)) (cwV 2 hT (gV_in mw_1276 mw_1273 mw_1275 mw_p3_12 mw_12) rfl rfl rfl (by decide +kernel) ⟨(by dsimp only; omega), (by dsimp only; omega)⟩) (kRecvX (q0 := 0) (ci := 11) hK hP hD hN hXS hS hA rfl rfl [0, 1] rfl (by decide +kernel)) rfl rfl hl.1 rfl (lv_room (Nat.le_of_ble_eq_true rfl)) dX11_speaks_25 ⟨Nat.le_of_ble_eq_true rfl, Nat.le_of_ble_eq_true rfl⟩) hP hD hS hA [0, 1] [2] rfl rfl (by decide +kernel) (by decide +kernel) ?_
            clear hP hD hS
            intro r_209 u_211 H locs w_210 hP hD hS
            replace hP : va_P D vwCl [(k8, .inl (cI, 40, .inl c8)), (k, .inr (11, [.ref k0, .ref k1, .ref k2, .int c3, .ref k4, .ref k5, .ref k6, .ref k7, .ref k8, .int c9, .ref ka, .ref kb, .int cc, .int cd, .int ce, .int cf, .int cg, .int ch, .int ci, .int cj, .int ck, .ref kl, .int cm, .int cn, .ref ko])), (k0, .inl (cI, 1201, .inl c0))] H := hP
            replace hD : va_D A [(k8, .inl (cI, 40, .inl c8)), (k, .inr (11, [.ref k0, .ref k1, .ref k2, .int c3, .ref k4, .ref k5, .ref k6, .ref k7, .ref k8, .int c9, .ref ka, .ref kb, .int cc, .int cd, .int ce, .int cf, .int cg, .int ch, .int ci, .int cj, .int ck, .ref kl, .int cm, .int cn, .ref ko])), (k0, .inl (cI, 1201, .inl c0))] := hD
            have h_212 := w_210
            have h_212 : r_209 = wW c0 a0 0 := h_212
            have t_213 : r_209.toInt = (wW c0 a0 0).toInt := by rw [h_212]
            have b_214 : 0 ≤ r_209.toInt ∧ r_209.toInt ≤ 5 := by rw [h_212]; exact SB.w0 pre0 (by omega) (by omega)
            have lo_r_209 := k_lo r_209
            have hi_r_209 := k_hi r_209
            refine lv_istore (lv' := [(6, .int r_209), (5, .int l3_5), (0, .ref k), (1, .int a0), (2, .int a1), (3, .int a2), (4, .int a3)]) hx hb dX11_speaks_28 hl (by decide +kernel) rfl ?_
            clear hl
            intro ls hl
            refine lv_aload_n hx hb dX11_speaks_30 rfl (lv_at hl 2 rfl) ?_
            refine lv_iload_n hx hb dX11_speaks_31 rfl (lv_at hl 3 rfl) ?_
            refine lv_iconst (v := 2) hx hb dX11_speaks_32 (by decide +kernel) ?_
            refine kJi (wr := [(k8, .inl (cI, 40, .inl c8))]) (va_runV (As := [.int a0, .int 2]) (rest := []) ⟨hx, hb, hml, hown, hT⟩ (c_X11_workG2 l D cI aK aV k k0 k1 k2 k4 k5 k6 k7 k8 ka kb kl ko H.size c3 c9 cc cd ce cf cg ch ci cj ck cm cn c0 a0 2 (by first | omega | (simp only [zl_2]; first | done | omega) | decide | assumption | rfl) (by first | omega | (simp only [zl_2]; first | done | omega) | decide | assumption | rfl) (by first | omega | (simp only [zl_2]; first | done | omega) | decide | assumption | rfl)) (cwV 2 hT (gV_in mw_1276 mw_1273 mw_1275 mw_p3_12 mw_12) rfl rfl rfl (by decide +kernel) ⟨(by dsimp only; omega), (by dsimp only; omega)⟩) (kRecvX (q0 := 1) (ci := 11) hK hP hD hN hXS hS hA rfl rfl [1, 2] rfl (by decide +kernel)) rfl rfl hl.1 rfl (lv_room (Nat.le_of_ble_eq_true rfl)) dX11_speaks_33 ⟨Nat.le_of_ble_eq_true rfl, Nat.le_of_ble_eq_true rfl⟩) hP hD hS hA [1, 2] [0] rfl rfl (by decide +kernel) (by decide +kernel) ?_
            clear hP hD hS
            intro r_215 u_217 H locs w_216 hP hD hS
            replace hP : va_P D vwCl [(k8, .inl (cI, 40, .inl c8)), (k, .inr (11, [.ref k0, .ref k1, .ref k2, .int c3, .ref k4, .ref k5, .ref k6, .ref k7, .ref k8, .int c9, .ref ka, .ref kb, .int cc, .int cd, .int ce, .int cf, .int cg, .int ch, .int ci, .int cj, .int ck, .ref kl, .int cm, .int cn, .ref ko])), (k0, .inl (cI, 1201, .inl c0))] H := hP
            replace hD : va_D A [(k8, .inl (cI, 40, .inl c8)), (k, .inr (11, [.ref k0, .ref k1, .ref k2, .int c3, .ref k4, .ref k5, .ref k6, .ref k7, .ref k8, .int c9, .ref ka, .ref kb, .int cc, .int cd, .int ce, .int cf, .int cg, .int ch, .int ci, .int cj, .int ck, .ref kl, .int cm, .int cn, .ref ko])), (k0, .inl (cI, 1201, .inl c0))] := hD
            have h_218 := w_216
            have h_218 : r_215 = wW c0 a0 2 := h_218
            have t_219 : r_215.toInt = (wW c0 a0 2).toInt := by rw [h_218]
            have lo_r_215 := k_lo r_215
            have hi_r_215 := k_hi r_215
            refine lv_istore (lv' := [(7, .int r_215), (6, .int r_209), (5, .int l3_5), (0, .ref k), (1, .int a0), (2, .int a1), (3, .int a2), (4, .int a3)]) hx hb dX11_speaks_36 hl (by decide +kernel) rfl ?_
            clear hl
            intro ls hl
            refine lv_iload hx hb dX11_speaks_38 (lv_at hl 2 rfl) ?_
            refine kJi (wr := [(k8, .inl (cI, 40, .inl c8)), (k, .inr (11, [.ref k0, .ref k1, .ref k2, .int c3, .ref k4, .ref k5, .ref k6, .ref k7, .ref k8, .int c9, .ref ka, .ref kb, .int cc, .int cd, .int ce, .int cf, .int cg, .int ch, .int ci, .int cj, .int ck, .ref kl, .int cm, .int cn, .ref ko])), (k0, .inl (cI, 1201, .inl c0))]) (va_runS (As := [.int l3_5]) (rest := []) ⟨hx, hb, hml, hown, hT⟩ (c_X11_parentG l D cI aK aV H.size l3_5 (by first | omega | decide | assumption | rfl) (by first | omega | decide | assumption | rfl)) (cwS 1 hT (gS_in mw_1282 mw_1280 mw_1281 mw_12) rfl rfl rfl (by decide +kernel) ⟨(by dsimp only; omega), (by dsimp only; omega)⟩) (kStatX hK hP hD hN hXS hS hA [] rfl (by decide +kernel)) rfl rfl hl.1 rfl (lv_room (Nat.le_of_ble_eq_true rfl)) dX11_speaks_40 ⟨Nat.le_of_ble_eq_true rfl, Nat.le_of_ble_eq_true rfl⟩) hP hD hS hA [] [0, 1, 2] rfl rfl (by decide +kernel) (by decide +kernel) ?_
            clear hP hD hS
            intro r_220 u_222 H locs w_221 hP hD hS
            replace hP : va_P D vwCl [(k8, .inl (cI, 40, .inl c8)), (k, .inr (11, [.ref k0, .ref k1, .ref k2, .int c3, .ref k4, .ref k5, .ref k6, .ref k7, .ref k8, .int c9, .ref ka, .ref kb, .int cc, .int cd, .int ce, .int cf, .int cg, .int ch, .int ci, .int cj, .int ck, .ref kl, .int cm, .int cn, .ref ko])), (k0, .inl (cI, 1201, .inl c0))] H := hP
            replace hD : va_D A [(k8, .inl (cI, 40, .inl c8)), (k, .inr (11, [.ref k0, .ref k1, .ref k2, .int c3, .ref k4, .ref k5, .ref k6, .ref k7, .ref k8, .int c9, .ref ka, .ref kb, .int cc, .int cd, .int ce, .int cf, .int cg, .int ch, .int ci, .int cj, .int ck, .ref kl, .int cm, .int cn, .ref ko])), (k0, .inl (cI, 1201, .inl c0))] := hD
            rcases w_221 with ⟨hr_220, h_223⟩ | ⟨hr_220, h_224⟩ | ⟨hr_220, h_225⟩ | ⟨hr_220, h_226⟩ | ⟨hr_220, h_227⟩
            · have h_223 : l3_5.toInt = 0 := h_223
              obtain rfl : r_220 = (-1) := hr_220.trans (by decide +kernel)
              refine lv_istore (lv' := [(8, .int (-1)), (7, .int r_215), (6, .int r_209), (5, .int l3_5), (0, .ref k), (1, .int a0), (2, .int a1), (3, .int a2), (4, .int a3)]) hx hb dX11_speaks_43 hl (by decide +kernel) rfl ?_
              clear hl
              intro ls hl
              refine lv_iload hx hb dX11_speaks_45 (lv_at hl 3 rfl) ?_
              refine lv_iload_n hx hb dX11_speaks_47 rfl (lv_at hl 7 rfl) ?_
              refine kJi (wr := [(k8, .inl (cI, 40, .inl c8)), (k, .inr (11, [.ref k0, .ref k1, .ref k2, .int c3, .ref k4, .ref k5, .ref k6, .ref k7, .ref k8, .int c9, .ref ka, .ref kb, .int cc, .int cd, .int ce, .int cf, .int cg, .int ch, .int ci, .int cj, .int ck, .ref kl, .int cm, .int cn, .ref ko])), (k0, .inl (cI, 1201, .inl c0))]) (va_runS (As := [.int l3_5, .int a2]) (rest := []) ⟨hx, hb, hml, hown, hT⟩ (c_X11_bodyOfG l D cI aK aV H.size l3_5 a2 (by first | omega | decide | assumption | rfl) (by first | omega | decide | assumption | rfl) (by first | omega | decide | assumption | rfl) (by first | omega | decide | assumption | rfl)) (cwS 2 hT (gS_in mw_1581 mw_1579 mw_1580 mw_12) rfl rfl rfl (by decide +kernel) ⟨(by dsimp only; omega), (by dsimp only; omega)⟩) (kStatX hK hP hD hN hXS hS hA [] rfl (by decide +kernel)) rfl rfl hl.1 rfl (lv_room (Nat.le_of_ble_eq_true rfl)) dX11_speaks_48 ⟨Nat.le_of_ble_eq_true rfl, Nat.le_of_ble_eq_true rfl⟩) hP hD hS hA [] [0, 1, 2] rfl rfl (by decide +kernel) (by decide +kernel) ?_
              clear hP hD hS
              intro r_228 u_230 H locs w_229 hP hD hS
              replace hP : va_P D vwCl [(k8, .inl (cI, 40, .inl c8)), (k, .inr (11, [.ref k0, .ref k1, .ref k2, .int c3, .ref k4, .ref k5, .ref k6, .ref k7, .ref k8, .int c9, .ref ka, .ref kb, .int cc, .int cd, .int ce, .int cf, .int cg, .int ch, .int ci, .int cj, .int ck, .ref kl, .int cm, .int cn, .ref ko])), (k0, .inl (cI, 1201, .inl c0))] H := hP
              replace hD : va_D A [(k8, .inl (cI, 40, .inl c8)), (k, .inr (11, [.ref k0, .ref k1, .ref k2, .int c3, .ref k4, .ref k5, .ref k6, .ref k7, .ref k8, .int c9, .ref ka, .ref kb, .int cc, .int cd, .int ce, .int cf, .int cg, .int ch, .int ci, .int cj, .int ck, .ref kl, .int cm, .int cn, .ref ko])), (k0, .inl (cI, 1201, .inl c0))] := hD
              rcases w_229 with ⟨hr_228, h_231, h_232, h_233⟩ | ⟨hr_228, h_234, h_235, h_236⟩ | ⟨hr_228, h_237, h_238, h_239⟩ | ⟨hr_228, h_240, h_241, h_242⟩ | ⟨hr_228, h_243, h_244, h_245⟩ | ⟨hr_228, h_246, h_247, h_248⟩ | ⟨hr_228, h_249, h_250, h_251⟩ | ⟨hr_228, h_252, h_253, h_254⟩ | ⟨hr_228, h_255, h_256, h_257⟩ | ⟨hr_228, h_258, h_259, h_260⟩ | ⟨hr_228, h_261, h_262, h_263⟩ | ⟨hr_228, h_264, h_265, h_266⟩ | ⟨hr_228, h_267, h_268, h_269⟩ | ⟨hr_228, h_270, h_271, h_272⟩ | ⟨hr_228, h_273, h_274⟩
              · exfalso; omega
              · exfalso; omega
              · have h_237 : l3_5.toInt = 0 := h_237
                have h_238 : a2.toInt = 2 := h_238
                have h_239 : (bKi l3_5 a2).toInt = 12 := h_239
                obtain rfl : r_228 = 12 := hr_228.trans (by decide +kernel)
                refine lv_istore (lv' := [(9, .int 12), (8, .int (-1)), (7, .int r_215), (6, .int r_209), (5, .int l3_5), (0, .ref k), (1, .int a0), (2, .int a1), (3, .int a2), (4, .int a3)]) hx hb dX11_speaks_51 hl (by decide +kernel) rfl ?_
                clear hl
                intro ls hl
                refine lv_aload_n hx hb dX11_speaks_53 rfl (lv_at hl 5 rfl) ?_
                refine lv_iload hx hb dX11_speaks_54 (lv_at hl 0 rfl) ?_
                refine kJv (wr := [(k0, .inl (cI, 1201, .inl c0))]) (va_runV (As := [.int 12]) (rest := []) ⟨hx, hb, hml, hown, hT⟩ (c_X11_ranG l D cI aK aV k k0 k1 k2 k4 k5 k6 k7 k8 ka kb kl ko H.size c3 c9 cc cd ce cf cg ch ci cj ck cm cn c8 12 (by first | omega | (simp only [zl_12]; first | done | omega) | decide | assumption | rfl) (by first | omega | (simp only [zl_12]; first | done | omega) | decide | assumption | rfl)) (cwV 1 hT (gV_in mw_1585 mw_1582 mw_1584 mw_p6_7 mw_12) rfl rfl rfl (by decide +kernel) ⟨(by dsimp only; omega), (by dsimp only; omega)⟩) (kRecvX (q0 := 1) (ci := 11) hK hP hD hN hXS hS hA rfl rfl [1, 0] rfl (by decide +kernel)) rfl rfl hl.1 rfl (lv_room (Nat.le_of_ble_eq_true rfl)) dX11_speaks_56 ⟨Nat.le_of_ble_eq_true rfl, Nat.le_of_ble_eq_true rfl⟩) hP hD hS hA [1, 0] [2] rfl rfl (by decide +kernel) (by decide +kernel) ?_
                clear hP hD hS
                intro u_279 H locs w_276 hP hD hS
                obtain ⟨sc9_277, sc8_278⟩ := u_279
                replace hP : va_P D vwCl [(k0, .inl (cI, 1201, .inl c0)), (k, .inr (11, [.ref k0, .ref k1, .ref k2, .int c3, .ref k4, .ref k5, .ref k6, .ref k7, .ref k8, .int sc9_277, .ref ka, .ref kb, .int cc, .int cd, .int ce, .int cf, .int cg, .int ch, .int ci, .int cj, .int ck, .ref kl, .int cm, .int cn, .ref ko])), (k8, .inl (cI, 40, .inl sc8_278))] H := hP
                replace hD : va_D A [(k0, .inl (cI, 1201, .inl c0)), (k, .inr (11, [.ref k0, .ref k1, .ref k2, .int c3, .ref k4, .ref k5, .ref k6, .ref k7, .ref k8, .int sc9_277, .ref ka, .ref kb, .int cc, .int cd, .int ce, .int cf, .int cg, .int ch, .int ci, .int cj, .int ck, .ref kl, .int cm, .int cn, .ref ko])), (k8, .inl (cI, 40, .inl sc8_278))] := hD
                have lo_sc9_277 := k_lo sc9_277
                have hi_sc9_277 := k_hi sc9_277
                obtain ⟨h_280, h_281⟩ := w_276
                try simp only [zl_12] at h_280
                have h_280 : 0 ≤ sc9_277.toInt := h_280
                try simp only [zl_12] at h_281
                have h_281 : sc9_277.toInt ≤ 40 := h_281
                refine lv_iload hx hb dX11_speaks_59 (lv_at hl 0 rfl) ?_
                refine lv_tableIn (off := 238) (tgt := 299) hx hb dX11_speaks_61 (by decide +kernel) (by decide +kernel) (by decide +kernel) (by decide +kernel) ?_
                refine lv_aload_n hx hb dX11_speaks_299 rfl (lv_at hl 5 rfl) ?_
                refine lv_iload_n hx hb dX11_speaks_300 rfl (lv_at hl 6 rfl) ?_
                refine lv_iload hx hb dX11_speaks_301 (lv_at hl 3 rfl) ?_
                refine lv_iconst (v := 1) hx hb dX11_speaks_303 (by decide +kernel) ?_
                refine lv_iload hx hb dX11_speaks_304 (lv_at hl 9 rfl) ?_
                refine kJi (wr := []) (va_runV (As := [.int a0, .int r_209, .int 1, .int a3]) (rest := []) ⟨hx, hb, hml, hown, hT⟩ (ih l D cI aK aV k k0 k1 k2 k4 k5 k6 k7 k8 ka kb kl ko H.size c3 sc9_277 cc cd ce cf cg ch ci cj ck cm cn c0 sc8_278 a0 r_209 1 a3 pre0 (by first | omega | (simp only [zl_1]; first | done | omega) | decide | assumption | rfl) (by first | omega | (simp only [zl_1]; first | done | omega) | decide | assumption | rfl) (by first | omega | (simp only [zl_1]; first | done | omega) | decide | assumption | rfl) (by first | omega | (simp only [zl_1]; first | done | omega) | decide | assumption | rfl) (by first | omega | (simp only [zl_1]; first | done | omega) | decide | assumption | rfl) (by first | omega | (simp only [zl_1]; first | done | omega) | decide | assumption | rfl) (by first | omega | (simp only [zl_1]; first | done | omega) | decide | assumption | rfl) (by first | omega | (simp only [zl_1]; first | done | omega) | decide | assumption | rfl) (by first | omega | (simp only [zl_1]; first | done | omega) | decide | assumption | rfl)) (cwV 4 hT (gV_in mw_1578 mw_1575 mw_1577 mw_p6_6 mw_12) rfl rfl rfl (by decide +kernel) ⟨(by dsimp only; omega), (by dsimp only; omega)⟩) (kRecvX (q0 := 1) (ci := 11) hK hP hD hN hXS hS hA rfl rfl [1, 0, 2] rfl (by decide +kernel)) rfl rfl hl.1 rfl (lv_room (Nat.le_of_ble_eq_true rfl)) dX11_speaks_306 ⟨Nat.le_of_ble_eq_true rfl, Nat.le_of_ble_eq_true rfl⟩) hP hD hS hA [1, 0, 2] [] rfl rfl (by decide +kernel) (by decide +kernel) ?_
                clear hP hD hS
                intro r_282 u_286 H locs w_283 hP hD hS
                obtain ⟨sc9_284, sc8_285⟩ := u_286
                replace hP : va_P D vwCl [(k, .inr (11, [.ref k0, .ref k1, .ref k2, .int c3, .ref k4, .ref k5, .ref k6, .ref k7, .ref k8, .int sc9_284, .ref ka, .ref kb, .int cc, .int cd, .int ce, .int cf, .int cg, .int ch, .int ci, .int cj, .int ck, .ref kl, .int cm, .int cn, .ref ko])), (k0, .inl (cI, 1201, .inl c0)), (k8, .inl (cI, 40, .inl sc8_285))] H := hP
                replace hD : va_D A [(k, .inr (11, [.ref k0, .ref k1, .ref k2, .int c3, .ref k4, .ref k5, .ref k6, .ref k7, .ref k8, .int sc9_284, .ref ka, .ref kb, .int cc, .int cd, .int ce, .int cf, .int cg, .int ch, .int ci, .int cj, .int ck, .ref kl, .int cm, .int cn, .ref ko])), (k0, .inl (cI, 1201, .inl c0)), (k8, .inl (cI, 40, .inl sc8_285))] := hD
                have lo_sc9_284 := k_lo sc9_284
                have hi_sc9_284 := k_hi sc9_284
                obtain ⟨h_287, h_288⟩ := w_283
                try simp only [zl_1] at h_287
                have h_287 : 0 ≤ sc9_284.toInt := h_287
                try simp only [zl_1] at h_288
                have h_288 : sc9_284.toInt ≤ 40 := h_288
                have lo_r_282 := k_lo r_282
                have hi_r_282 := k_hi r_282
                refine lv_iconst (v := 2) hx hb dX11_speaks_309 (by decide +kernel) ?_
                refine lv_imul hx hb dX11_speaks_310 ?_
                refine lv_topi (fun v_289 ev_289 => ?_)
                have lo_v_289 := k_lo v_289
                have hi_v_289 := k_hi v_289
                exact hRet (sc9_284, sc8_285) [0, 1, 2] ⟨(by first | omega | decide | assumption | rfl | (dsimp only; first | omega)), (by first | omega | decide | assumption | rfl | (dsimp only; first | omega))⟩ hP hD (by decide +kernel) rfl hS rfl dX11_speaks_311
              · exfalso; omega
              · exfalso; omega
              · exfalso; omega
              · exfalso; omega
              · exfalso; omega
              · exfalso; omega
              · exfalso; omega
              · exfalso; omega
              · exfalso; omega
              · exfalso; omega
              · exfalso; omega
              · exfalso; omega
            · exfalso; omega
            · exfalso; omega
            · exfalso; omega
            · exfalso; omega
          · have h_16 : l3_5.toInt = 0 := h_16
            have h_17 : a2.toInt = 3 := h_17
            have h_18 : (bKi l3_5 a2).toInt = 13 := h_18
            obtain rfl : r_4 = 13 := hr_4.trans (by decide +kernel)
            refine b_if_ne hx hb zl_13 (tgt := 22) dX11_speaks_9 (by decide +kernel) (fun c_290 => ?_) (fun c_290 => by exfalso; omega)
            refine lv_aload_n hx hb dX11_speaks_22 rfl (lv_at hl 1 rfl) ?_
            refine lv_iload_n hx hb dX11_speaks_23 rfl (lv_at hl 2 rfl) ?_
            refine lv_iconst (v := 0) hx hb dX11_speaks_24 (by decide +kernel) ?_
            refine kJi (wr := [(k8, .inl (cI, 40, .inl c8))]) (va_runV (As := [.int a0, .int 0]) (rest := []) ⟨hx, hb, hml, hown, hT⟩ (c_X11_workG0 l D cI aK aV k k0 k1 k2 k4 k5 k6 k7 k8 ka kb kl ko H.size c3 c9 cc cd ce cf cg ch ci cj ck cm cn c0 a0 0 (by first | omega | (simp only [zl_0]; first | done | omega) | decide | assumption | rfl) (by first | omega | (simp only [zl_0]; first | done | omega) | decide | assumption | rfl) (by first | omega | (simp only [zl_0]; first | done | omega) | decide | assumption | rfl)) (cwV 2 hT (gV_in mw_1276 mw_1273 mw_1275 mw_p3_12 mw_12) rfl rfl rfl (by decide +kernel) ⟨(by dsimp only; omega), (by dsimp only; omega)⟩) (kRecvX (q0 := 0) (ci := 11) hK hP hD hN hXS hS hA rfl rfl [0, 1] rfl (by decide +kernel)) rfl rfl hl.1 rfl (lv_room (Nat.le_of_ble_eq_true rfl)) dX11_speaks_25 ⟨Nat.le_of_ble_eq_true rfl, Nat.le_of_ble_eq_true rfl⟩) hP hD hS hA [0, 1] [2] rfl rfl (by decide +kernel) (by decide +kernel) ?_
            clear hP hD hS
            intro r_291 u_293 H locs w_292 hP hD hS
            replace hP : va_P D vwCl [(k8, .inl (cI, 40, .inl c8)), (k, .inr (11, [.ref k0, .ref k1, .ref k2, .int c3, .ref k4, .ref k5, .ref k6, .ref k7, .ref k8, .int c9, .ref ka, .ref kb, .int cc, .int cd, .int ce, .int cf, .int cg, .int ch, .int ci, .int cj, .int ck, .ref kl, .int cm, .int cn, .ref ko])), (k0, .inl (cI, 1201, .inl c0))] H := hP
            replace hD : va_D A [(k8, .inl (cI, 40, .inl c8)), (k, .inr (11, [.ref k0, .ref k1, .ref k2, .int c3, .ref k4, .ref k5, .ref k6, .ref k7, .ref k8, .int c9, .ref ka, .ref kb, .int cc, .int cd, .int ce, .int cf, .int cg, .int ch, .int ci, .int cj, .int ck, .ref kl, .int cm, .int cn, .ref ko])), (k0, .inl (cI, 1201, .inl c0))] := hD
            have h_294 := w_292
            have h_294 : r_291 = wW c0 a0 0 := h_294
            have t_295 : r_291.toInt = (wW c0 a0 0).toInt := by rw [h_294]
            have b_296 : 0 ≤ r_291.toInt ∧ r_291.toInt ≤ 5 := by rw [h_294]; exact SB.w0 pre0 (by omega) (by omega)
            have lo_r_291 := k_lo r_291
            have hi_r_291 := k_hi r_291
            refine lv_istore (lv' := [(6, .int r_291), (5, .int l3_5), (0, .ref k), (1, .int a0), (2, .int a1), (3, .int a2), (4, .int a3)]) hx hb dX11_speaks_28 hl (by decide +kernel) rfl ?_
            clear hl
            intro ls hl
            refine lv_aload_n hx hb dX11_speaks_30 rfl (lv_at hl 2 rfl) ?_
            refine lv_iload_n hx hb dX11_speaks_31 rfl (lv_at hl 3 rfl) ?_
            refine lv_iconst (v := 2) hx hb dX11_speaks_32 (by decide +kernel) ?_
            refine kJi (wr := [(k8, .inl (cI, 40, .inl c8))]) (va_runV (As := [.int a0, .int 2]) (rest := []) ⟨hx, hb, hml, hown, hT⟩ (c_X11_workG2 l D cI aK aV k k0 k1 k2 k4 k5 k6 k7 k8 ka kb kl ko H.size c3 c9 cc cd ce cf cg ch ci cj ck cm cn c0 a0 2 (by first | omega | (simp only [zl_2]; first | done | omega) | decide | assumption | rfl) (by first | omega | (simp only [zl_2]; first | done | omega) | decide | assumption | rfl) (by first | omega | (simp only [zl_2]; first | done | omega) | decide | assumption | rfl)) (cwV 2 hT (gV_in mw_1276 mw_1273 mw_1275 mw_p3_12 mw_12) rfl rfl rfl (by decide +kernel) ⟨(by dsimp only; omega), (by dsimp only; omega)⟩) (kRecvX (q0 := 1) (ci := 11) hK hP hD hN hXS hS hA rfl rfl [1, 2] rfl (by decide +kernel)) rfl rfl hl.1 rfl (lv_room (Nat.le_of_ble_eq_true rfl)) dX11_speaks_33 ⟨Nat.le_of_ble_eq_true rfl, Nat.le_of_ble_eq_true rfl⟩) hP hD hS hA [1, 2] [0] rfl rfl (by decide +kernel) (by decide +kernel) ?_
            clear hP hD hS
            intro r_297 u_299 H locs w_298 hP hD hS
            replace hP : va_P D vwCl [(k8, .inl (cI, 40, .inl c8)), (k, .inr (11, [.ref k0, .ref k1, .ref k2, .int c3, .ref k4, .ref k5, .ref k6, .ref k7, .ref k8, .int c9, .ref ka, .ref kb, .int cc, .int cd, .int ce, .int cf, .int cg, .int ch, .int ci, .int cj, .int ck, .ref kl, .int cm, .int cn, .ref ko])), (k0, .inl (cI, 1201, .inl c0))] H := hP
            replace hD : va_D A [(k8, .inl (cI, 40, .inl c8)), (k, .inr (11, [.ref k0, .ref k1, .ref k2, .int c3, .ref k4, .ref k5, .ref k6, .ref k7, .ref k8, .int c9, .ref ka, .ref kb, .int cc, .int cd, .int ce, .int cf, .int cg, .int ch, .int ci, .int cj, .int ck, .ref kl, .int cm, .int cn, .ref ko])), (k0, .inl (cI, 1201, .inl c0))] := hD
            have h_300 := w_298
            have h_300 : r_297 = wW c0 a0 2 := h_300
            have t_301 : r_297.toInt = (wW c0 a0 2).toInt := by rw [h_300]
            have lo_r_297 := k_lo r_297
            have hi_r_297 := k_hi r_297
            refine lv_istore (lv' := [(7, .int r_297), (6, .int r_291), (5, .int l3_5), (0, .ref k), (1, .int a0), (2, .int a1), (3, .int a2), (4, .int a3)]) hx hb dX11_speaks_36 hl (by decide +kernel) rfl ?_
            clear hl
            intro ls hl
            refine lv_iload hx hb dX11_speaks_38 (lv_at hl 2 rfl) ?_
            refine kJi (wr := [(k8, .inl (cI, 40, .inl c8)), (k, .inr (11, [.ref k0, .ref k1, .ref k2, .int c3, .ref k4, .ref k5, .ref k6, .ref k7, .ref k8, .int c9, .ref ka, .ref kb, .int cc, .int cd, .int ce, .int cf, .int cg, .int ch, .int ci, .int cj, .int ck, .ref kl, .int cm, .int cn, .ref ko])), (k0, .inl (cI, 1201, .inl c0))]) (va_runS (As := [.int l3_5]) (rest := []) ⟨hx, hb, hml, hown, hT⟩ (c_X11_parentG l D cI aK aV H.size l3_5 (by first | omega | decide | assumption | rfl) (by first | omega | decide | assumption | rfl)) (cwS 1 hT (gS_in mw_1282 mw_1280 mw_1281 mw_12) rfl rfl rfl (by decide +kernel) ⟨(by dsimp only; omega), (by dsimp only; omega)⟩) (kStatX hK hP hD hN hXS hS hA [] rfl (by decide +kernel)) rfl rfl hl.1 rfl (lv_room (Nat.le_of_ble_eq_true rfl)) dX11_speaks_40 ⟨Nat.le_of_ble_eq_true rfl, Nat.le_of_ble_eq_true rfl⟩) hP hD hS hA [] [0, 1, 2] rfl rfl (by decide +kernel) (by decide +kernel) ?_
            clear hP hD hS
            intro r_302 u_304 H locs w_303 hP hD hS
            replace hP : va_P D vwCl [(k8, .inl (cI, 40, .inl c8)), (k, .inr (11, [.ref k0, .ref k1, .ref k2, .int c3, .ref k4, .ref k5, .ref k6, .ref k7, .ref k8, .int c9, .ref ka, .ref kb, .int cc, .int cd, .int ce, .int cf, .int cg, .int ch, .int ci, .int cj, .int ck, .ref kl, .int cm, .int cn, .ref ko])), (k0, .inl (cI, 1201, .inl c0))] H := hP
            replace hD : va_D A [(k8, .inl (cI, 40, .inl c8)), (k, .inr (11, [.ref k0, .ref k1, .ref k2, .int c3, .ref k4, .ref k5, .ref k6, .ref k7, .ref k8, .int c9, .ref ka, .ref kb, .int cc, .int cd, .int ce, .int cf, .int cg, .int ch, .int ci, .int cj, .int ck, .ref kl, .int cm, .int cn, .ref ko])), (k0, .inl (cI, 1201, .inl c0))] := hD
            rcases w_303 with ⟨hr_302, h_305⟩ | ⟨hr_302, h_306⟩ | ⟨hr_302, h_307⟩ | ⟨hr_302, h_308⟩ | ⟨hr_302, h_309⟩
            · have h_305 : l3_5.toInt = 0 := h_305
              obtain rfl : r_302 = (-1) := hr_302.trans (by decide +kernel)
              refine lv_istore (lv' := [(8, .int (-1)), (7, .int r_297), (6, .int r_291), (5, .int l3_5), (0, .ref k), (1, .int a0), (2, .int a1), (3, .int a2), (4, .int a3)]) hx hb dX11_speaks_43 hl (by decide +kernel) rfl ?_
              clear hl
              intro ls hl
              refine lv_iload hx hb dX11_speaks_45 (lv_at hl 3 rfl) ?_
              refine lv_iload_n hx hb dX11_speaks_47 rfl (lv_at hl 7 rfl) ?_
              refine kJi (wr := [(k8, .inl (cI, 40, .inl c8)), (k, .inr (11, [.ref k0, .ref k1, .ref k2, .int c3, .ref k4, .ref k5, .ref k6, .ref k7, .ref k8, .int c9, .ref ka, .ref kb, .int cc, .int cd, .int ce, .int cf, .int cg, .int ch, .int ci, .int cj, .int ck, .ref kl, .int cm, .int cn, .ref ko])), (k0, .inl (cI, 1201, .inl c0))]) (va_runS (As := [.int l3_5, .int a2]) (rest := []) ⟨hx, hb, hml, hown, hT⟩ (c_X11_bodyOfG l D cI aK aV H.size l3_5 a2 (by first | omega | decide | assumption | rfl) (by first | omega | decide | assumption | rfl) (by first | omega | decide | assumption | rfl) (by first | omega | decide | assumption | rfl)) (cwS 2 hT (gS_in mw_1581 mw_1579 mw_1580 mw_12) rfl rfl rfl (by decide +kernel) ⟨(by dsimp only; omega), (by dsimp only; omega)⟩) (kStatX hK hP hD hN hXS hS hA [] rfl (by decide +kernel)) rfl rfl hl.1 rfl (lv_room (Nat.le_of_ble_eq_true rfl)) dX11_speaks_48 ⟨Nat.le_of_ble_eq_true rfl, Nat.le_of_ble_eq_true rfl⟩) hP hD hS hA [] [0, 1, 2] rfl rfl (by decide +kernel) (by decide +kernel) ?_
              clear hP hD hS
              intro r_310 u_312 H locs w_311 hP hD hS
              replace hP : va_P D vwCl [(k8, .inl (cI, 40, .inl c8)), (k, .inr (11, [.ref k0, .ref k1, .ref k2, .int c3, .ref k4, .ref k5, .ref k6, .ref k7, .ref k8, .int c9, .ref ka, .ref kb, .int cc, .int cd, .int ce, .int cf, .int cg, .int ch, .int ci, .int cj, .int ck, .ref kl, .int cm, .int cn, .ref ko])), (k0, .inl (cI, 1201, .inl c0))] H := hP
              replace hD : va_D A [(k8, .inl (cI, 40, .inl c8)), (k, .inr (11, [.ref k0, .ref k1, .ref k2, .int c3, .ref k4, .ref k5, .ref k6, .ref k7, .ref k8, .int c9, .ref ka, .ref kb, .int cc, .int cd, .int ce, .int cf, .int cg, .int ch, .int ci, .int cj, .int ck, .ref kl, .int cm, .int cn, .ref ko])), (k0, .inl (cI, 1201, .inl c0))] := hD
              rcases w_311 with ⟨hr_310, h_313, h_314, h_315⟩ | ⟨hr_310, h_316, h_317, h_318⟩ | ⟨hr_310, h_319, h_320, h_321⟩ | ⟨hr_310, h_322, h_323, h_324⟩ | ⟨hr_310, h_325, h_326, h_327⟩ | ⟨hr_310, h_328, h_329, h_330⟩ | ⟨hr_310, h_331, h_332, h_333⟩ | ⟨hr_310, h_334, h_335, h_336⟩ | ⟨hr_310, h_337, h_338, h_339⟩ | ⟨hr_310, h_340, h_341, h_342⟩ | ⟨hr_310, h_343, h_344, h_345⟩ | ⟨hr_310, h_346, h_347, h_348⟩ | ⟨hr_310, h_349, h_350, h_351⟩ | ⟨hr_310, h_352, h_353, h_354⟩ | ⟨hr_310, h_355, h_356⟩
              · exfalso; omega
              · exfalso; omega
              · exfalso; omega
              · have h_322 : l3_5.toInt = 0 := h_322
                have h_323 : a2.toInt = 3 := h_323
                have h_324 : (bKi l3_5 a2).toInt = 13 := h_324
                obtain rfl : r_310 = 13 := hr_310.trans (by decide +kernel)
                refine lv_istore (lv' := [(9, .int 13), (8, .int (-1)), (7, .int r_297), (6, .int r_291), (5, .int l3_5), (0, .ref k), (1, .int a0), (2, .int a1), (3, .int a2), (4, .int a3)]) hx hb dX11_speaks_51 hl (by decide +kernel) rfl ?_
                clear hl
                intro ls hl
                refine lv_aload_n hx hb dX11_speaks_53 rfl (lv_at hl 5 rfl) ?_
                refine lv_iload hx hb dX11_speaks_54 (lv_at hl 0 rfl) ?_
                refine kJv (wr := [(k0, .inl (cI, 1201, .inl c0))]) (va_runV (As := [.int 13]) (rest := []) ⟨hx, hb, hml, hown, hT⟩ (c_X11_ranG l D cI aK aV k k0 k1 k2 k4 k5 k6 k7 k8 ka kb kl ko H.size c3 c9 cc cd ce cf cg ch ci cj ck cm cn c8 13 (by first | omega | (simp only [zl_13]; first | done | omega) | decide | assumption | rfl) (by first | omega | (simp only [zl_13]; first | done | omega) | decide | assumption | rfl)) (cwV 1 hT (gV_in mw_1585 mw_1582 mw_1584 mw_p6_7 mw_12) rfl rfl rfl (by decide +kernel) ⟨(by dsimp only; omega), (by dsimp only; omega)⟩) (kRecvX (q0 := 1) (ci := 11) hK hP hD hN hXS hS hA rfl rfl [1, 0] rfl (by decide +kernel)) rfl rfl hl.1 rfl (lv_room (Nat.le_of_ble_eq_true rfl)) dX11_speaks_56 ⟨Nat.le_of_ble_eq_true rfl, Nat.le_of_ble_eq_true rfl⟩) hP hD hS hA [1, 0] [2] rfl rfl (by decide +kernel) (by decide +kernel) ?_
                clear hP hD hS
                intro u_361 H locs w_358 hP hD hS
                obtain ⟨sc9_359, sc8_360⟩ := u_361
                replace hP : va_P D vwCl [(k0, .inl (cI, 1201, .inl c0)), (k, .inr (11, [.ref k0, .ref k1, .ref k2, .int c3, .ref k4, .ref k5, .ref k6, .ref k7, .ref k8, .int sc9_359, .ref ka, .ref kb, .int cc, .int cd, .int ce, .int cf, .int cg, .int ch, .int ci, .int cj, .int ck, .ref kl, .int cm, .int cn, .ref ko])), (k8, .inl (cI, 40, .inl sc8_360))] H := hP
                replace hD : va_D A [(k0, .inl (cI, 1201, .inl c0)), (k, .inr (11, [.ref k0, .ref k1, .ref k2, .int c3, .ref k4, .ref k5, .ref k6, .ref k7, .ref k8, .int sc9_359, .ref ka, .ref kb, .int cc, .int cd, .int ce, .int cf, .int cg, .int ch, .int ci, .int cj, .int ck, .ref kl, .int cm, .int cn, .ref ko])), (k8, .inl (cI, 40, .inl sc8_360))] := hD
                have lo_sc9_359 := k_lo sc9_359
                have hi_sc9_359 := k_hi sc9_359
                obtain ⟨h_362, h_363⟩ := w_358
                try simp only [zl_13] at h_362
                have h_362 : 0 ≤ sc9_359.toInt := h_362
                try simp only [zl_13] at h_363
                have h_363 : sc9_359.toInt ≤ 40 := h_363
                refine lv_iload hx hb dX11_speaks_59 (lv_at hl 0 rfl) ?_
                refine lv_tableIn (off := 251) (tgt := 312) hx hb dX11_speaks_61 (by decide +kernel) (by decide +kernel) (by decide +kernel) (by decide +kernel) ?_
                refine lv_aload_n hx hb dX11_speaks_312 rfl (lv_at hl 5 rfl) ?_
                refine lv_iload_n hx hb dX11_speaks_313 rfl (lv_at hl 6 rfl) ?_
                refine lv_iload hx hb dX11_speaks_314 (lv_at hl 3 rfl) ?_
                refine lv_iconst (v := 2) hx hb dX11_speaks_316 (by decide +kernel) ?_
                refine lv_iload hx hb dX11_speaks_317 (lv_at hl 9 rfl) ?_
                refine kJi (wr := []) (va_runV (As := [.int a0, .int r_291, .int 2, .int a3]) (rest := []) ⟨hx, hb, hml, hown, hT⟩ (ih l D cI aK aV k k0 k1 k2 k4 k5 k6 k7 k8 ka kb kl ko H.size c3 sc9_359 cc cd ce cf cg ch ci cj ck cm cn c0 sc8_360 a0 r_291 2 a3 pre0 (by first | omega | (simp only [zl_2]; first | done | omega) | decide | assumption | rfl) (by first | omega | (simp only [zl_2]; first | done | omega) | decide | assumption | rfl) (by first | omega | (simp only [zl_2]; first | done | omega) | decide | assumption | rfl) (by first | omega | (simp only [zl_2]; first | done | omega) | decide | assumption | rfl) (by first | omega | (simp only [zl_2]; first | done | omega) | decide | assumption | rfl) (by first | omega | (simp only [zl_2]; first | done | omega) | decide | assumption | rfl) (by first | omega | (simp only [zl_2]; first | done | omega) | decide | assumption | rfl) (by first | omega | (simp only [zl_2]; first | done | omega) | decide | assumption | rfl) (by first | omega | (simp only [zl_2]; first | done | omega) | decide | assumption | rfl)) (cwV 4 hT (gV_in mw_1578 mw_1575 mw_1577 mw_p6_6 mw_12) rfl rfl rfl (by decide +kernel) ⟨(by dsimp only; omega), (by dsimp only; omega)⟩) (kRecvX (q0 := 1) (ci := 11) hK hP hD hN hXS hS hA rfl rfl [1, 0, 2] rfl (by decide +kernel)) rfl rfl hl.1 rfl (lv_room (Nat.le_of_ble_eq_true rfl)) dX11_speaks_319 ⟨Nat.le_of_ble_eq_true rfl, Nat.le_of_ble_eq_true rfl⟩) hP hD hS hA [1, 0, 2] [] rfl rfl (by decide +kernel) (by decide +kernel) ?_
                clear hP hD hS
                intro r_364 u_368 H locs w_365 hP hD hS
                obtain ⟨sc9_366, sc8_367⟩ := u_368
                replace hP : va_P D vwCl [(k, .inr (11, [.ref k0, .ref k1, .ref k2, .int c3, .ref k4, .ref k5, .ref k6, .ref k7, .ref k8, .int sc9_366, .ref ka, .ref kb, .int cc, .int cd, .int ce, .int cf, .int cg, .int ch, .int ci, .int cj, .int ck, .ref kl, .int cm, .int cn, .ref ko])), (k0, .inl (cI, 1201, .inl c0)), (k8, .inl (cI, 40, .inl sc8_367))] H := hP
                replace hD : va_D A [(k, .inr (11, [.ref k0, .ref k1, .ref k2, .int c3, .ref k4, .ref k5, .ref k6, .ref k7, .ref k8, .int sc9_366, .ref ka, .ref kb, .int cc, .int cd, .int ce, .int cf, .int cg, .int ch, .int ci, .int cj, .int ck, .ref kl, .int cm, .int cn, .ref ko])), (k0, .inl (cI, 1201, .inl c0)), (k8, .inl (cI, 40, .inl sc8_367))] := hD
                have lo_sc9_366 := k_lo sc9_366
                have hi_sc9_366 := k_hi sc9_366
                obtain ⟨h_369, h_370⟩ := w_365
                try simp only [zl_2] at h_369
                have h_369 : 0 ≤ sc9_366.toInt := h_369
                try simp only [zl_2] at h_370
                have h_370 : sc9_366.toInt ≤ 40 := h_370
                have lo_r_364 := k_lo r_364
                have hi_r_364 := k_hi r_364
                refine lv_istore (lv' := [(10, .int r_364), (9, .int 13), (8, .int (-1)), (7, .int r_297), (6, .int r_291), (5, .int l3_5), (0, .ref k), (1, .int a0), (2, .int a1), (3, .int a2), (4, .int a3)]) hx hb dX11_speaks_322 hl (by decide +kernel) rfl ?_
                clear hl
                intro ls hl
                refine lv_iload hx hb dX11_speaks_324 (lv_at hl 0 rfl) ?_
                refine lv_aload_n hx hb dX11_speaks_326 rfl (lv_at hl 6 rfl) ?_
                refine lv_iload_n hx hb dX11_speaks_327 rfl (lv_at hl 7 rfl) ?_
                refine lv_iload hx hb dX11_speaks_328 (lv_at hl 4 rfl) ?_
                refine lv_iconst (v := 0) hx hb dX11_speaks_330 (by decide +kernel) ?_
                refine lv_iload hx hb dX11_speaks_331 (lv_at hl 10 rfl) ?_
                refine kJi (wr := []) (va_runV (As := [.int a0, .int r_291, .int 0, .int a3]) (rest := [.int r_364]) ⟨hx, hb, hml, hown, hT⟩ (ih l D cI aK aV k k0 k1 k2 k4 k5 k6 k7 k8 ka kb kl ko H.size c3 sc9_366 cc cd ce cf cg ch ci cj ck cm cn c0 sc8_367 a0 r_291 0 a3 pre0 (by first | omega | (simp only [zl_0]; first | done | omega) | decide | assumption | rfl) (by first | omega | (simp only [zl_0]; first | done | omega) | decide | assumption | rfl) (by first | omega | (simp only [zl_0]; first | done | omega) | decide | assumption | rfl) (by first | omega | (simp only [zl_0]; first | done | omega) | decide | assumption | rfl) (by first | omega | (simp only [zl_0]; first | done | omega) | decide | assumption | rfl) (by first | omega | (simp only [zl_0]; first | done | omega) | decide | assumption | rfl) (by first | omega | (simp only [zl_0]; first | done | omega) | decide | assumption | rfl) (by first | omega | (simp only [zl_0]; first | done | omega) | decide | assumption | rfl) (by first | omega | (simp only [zl_0]; first | done | omega) | decide | assumption | rfl)) (cwV 4 hT (gV_in mw_1578 mw_1575 mw_1577 mw_p6_6 mw_12) rfl rfl rfl (by decide +kernel) ⟨(by dsimp only; omega), (by dsimp only; omega)⟩) (kRecvX (q0 := 0) (ci := 11) hK hP hD hN hXS hS hA rfl rfl [0, 1, 2] rfl (by decide +kernel)) rfl rfl hl.1 rfl (lv_room (Nat.le_of_ble_eq_true rfl)) dX11_speaks_333 ⟨Nat.le_of_ble_eq_true rfl, Nat.le_of_ble_eq_true rfl⟩) hP hD hS hA [0, 1, 2] [] rfl rfl (by decide +kernel) (by decide +kernel) ?_
                clear hP hD hS
                intro r_371 u_375 H locs w_372 hP hD hS
                obtain ⟨sc9_373, sc8_374⟩ := u_375
                replace hP : va_P D vwCl [(k, .inr (11, [.ref k0, .ref k1, .ref k2, .int c3, .ref k4, .ref k5, .ref k6, .ref k7, .ref k8, .int sc9_373, .ref ka, .ref kb, .int cc, .int cd, .int ce, .int cf, .int cg, .int ch, .int ci, .int cj, .int ck, .ref kl, .int cm, .int cn, .ref ko])), (k0, .inl (cI, 1201, .inl c0)), (k8, .inl (cI, 40, .inl sc8_374))] H := hP
                replace hD : va_D A [(k, .inr (11, [.ref k0, .ref k1, .ref k2, .int c3, .ref k4, .ref k5, .ref k6, .ref k7, .ref k8, .int sc9_373, .ref ka, .ref kb, .int cc, .int cd, .int ce, .int cf, .int cg, .int ch, .int ci, .int cj, .int ck, .ref kl, .int cm, .int cn, .ref ko])), (k0, .inl (cI, 1201, .inl c0)), (k8, .inl (cI, 40, .inl sc8_374))] := hD
                have lo_sc9_373 := k_lo sc9_373
                have hi_sc9_373 := k_hi sc9_373
                obtain ⟨h_376, h_377⟩ := w_372
                try simp only [zl_0] at h_376
                have h_376 : 0 ≤ sc9_373.toInt := h_376
                try simp only [zl_0] at h_377
                have h_377 : sc9_373.toInt ≤ 40 := h_377
                have lo_r_371 := k_lo r_371
                have hi_r_371 := k_hi r_371
                refine lv_ixor hx hb dX11_speaks_336 ?_
                refine lv_topi (fun v_378 ev_378 => ?_)
                have lo_v_378 := k_lo v_378
                have hi_v_378 := k_hi v_378
                exact hRet (sc9_373, sc8_374) [0, 1, 2] ⟨(by first | omega | decide | assumption | rfl | (dsimp only; first | omega)), (by first | omega | decide | assumption | rfl | (dsimp only; first | omega))⟩ hP hD (by decide +kernel) rfl hS rfl dX11_speaks_337
              · exfalso; omega
              · exfalso; omega
              · exfalso; omega
              · exfalso; omega
              · exfalso; omega
              · exfalso; omega
              · exfalso; omega
              · exfalso; omega
              · exfalso; omega
              · exfalso; omega
              · exfalso; omega
            · exfalso; omega
            · exfalso; omega
            · exfalso; omega
            · exfalso; omega
          · have h_19 : l3_5.toInt = 1 := h_19
            have h_20 : a2.toInt = 1 := h_20
            have h_21 : (bKi l3_5 a2).toInt = 20 := h_21
            obtain rfl : r_4 = 20 := hr_4.trans (by decide +kernel)
            refine b_if_ne hx hb zl_20 (tgt := 22) dX11_speaks_9 (by decide +kernel) (fun c_379 => ?_) (fun c_379 => by exfalso; omega)
            refine lv_aload_n hx hb dX11_speaks_22 rfl (lv_at hl 1 rfl) ?_
            refine lv_iload_n hx hb dX11_speaks_23 rfl (lv_at hl 2 rfl) ?_
            refine lv_iconst (v := 0) hx hb dX11_speaks_24 (by decide +kernel) ?_
            refine kJi (wr := [(k8, .inl (cI, 40, .inl c8))]) (va_runV (As := [.int a0, .int 0]) (rest := []) ⟨hx, hb, hml, hown, hT⟩ (c_X11_workG0 l D cI aK aV k k0 k1 k2 k4 k5 k6 k7 k8 ka kb kl ko H.size c3 c9 cc cd ce cf cg ch ci cj ck cm cn c0 a0 0 (by first | omega | (simp only [zl_0]; first | done | omega) | decide | assumption | rfl) (by first | omega | (simp only [zl_0]; first | done | omega) | decide | assumption | rfl) (by first | omega | (simp only [zl_0]; first | done | omega) | decide | assumption | rfl)) (cwV 2 hT (gV_in mw_1276 mw_1273 mw_1275 mw_p3_12 mw_12) rfl rfl rfl (by decide +kernel) ⟨(by dsimp only; omega), (by dsimp only; omega)⟩) (kRecvX (q0 := 0) (ci := 11) hK hP hD hN hXS hS hA rfl rfl [0, 1] rfl (by decide +kernel)) rfl rfl hl.1 rfl (lv_room (Nat.le_of_ble_eq_true rfl)) dX11_speaks_25 ⟨Nat.le_of_ble_eq_true rfl, Nat.le_of_ble_eq_true rfl⟩) hP hD hS hA [0, 1] [2] rfl rfl (by decide +kernel) (by decide +kernel) ?_
            clear hP hD hS
            intro r_380 u_382 H locs w_381 hP hD hS
            replace hP : va_P D vwCl [(k8, .inl (cI, 40, .inl c8)), (k, .inr (11, [.ref k0, .ref k1, .ref k2, .int c3, .ref k4, .ref k5, .ref k6, .ref k7, .ref k8, .int c9, .ref ka, .ref kb, .int cc, .int cd, .int ce, .int cf, .int cg, .int ch, .int ci, .int cj, .int ck, .ref kl, .int cm, .int cn, .ref ko])), (k0, .inl (cI, 1201, .inl c0))] H := hP
            replace hD : va_D A [(k8, .inl (cI, 40, .inl c8)), (k, .inr (11, [.ref k0, .ref k1, .ref k2, .int c3, .ref k4, .ref k5, .ref k6, .ref k7, .ref k8, .int c9, .ref ka, .ref kb, .int cc, .int cd, .int ce, .int cf, .int cg, .int ch, .int ci, .int cj, .int ck, .ref kl, .int cm, .int cn, .ref ko])), (k0, .inl (cI, 1201, .inl c0))] := hD
            have h_383 := w_381
            have h_383 : r_380 = wW c0 a0 0 := h_383
            have t_384 : r_380.toInt = (wW c0 a0 0).toInt := by rw [h_383]
            have b_385 : 0 ≤ r_380.toInt ∧ r_380.toInt ≤ 5 := by rw [h_383]; exact SB.w0 pre0 (by omega) (by omega)
            have lo_r_380 := k_lo r_380
            have hi_r_380 := k_hi r_380
            refine lv_istore (lv' := [(6, .int r_380), (5, .int l3_5), (0, .ref k), (1, .int a0), (2, .int a1), (3, .int a2), (4, .int a3)]) hx hb dX11_speaks_28 hl (by decide +kernel) rfl ?_
            clear hl
            intro ls hl
            refine lv_aload_n hx hb dX11_speaks_30 rfl (lv_at hl 2 rfl) ?_
            refine lv_iload_n hx hb dX11_speaks_31 rfl (lv_at hl 3 rfl) ?_
            refine lv_iconst (v := 2) hx hb dX11_speaks_32 (by decide +kernel) ?_
            refine kJi (wr := [(k8, .inl (cI, 40, .inl c8))]) (va_runV (As := [.int a0, .int 2]) (rest := []) ⟨hx, hb, hml, hown, hT⟩ (c_X11_workG2 l D cI aK aV k k0 k1 k2 k4 k5 k6 k7 k8 ka kb kl ko H.size c3 c9 cc cd ce cf cg ch ci cj ck cm cn c0 a0 2 (by first | omega | (simp only [zl_2]; first | done | omega) | decide | assumption | rfl) (by first | omega | (simp only [zl_2]; first | done | omega) | decide | assumption | rfl) (by first | omega | (simp only [zl_2]; first | done | omega) | decide | assumption | rfl)) (cwV 2 hT (gV_in mw_1276 mw_1273 mw_1275 mw_p3_12 mw_12) rfl rfl rfl (by decide +kernel) ⟨(by dsimp only; omega), (by dsimp only; omega)⟩) (kRecvX (q0 := 1) (ci := 11) hK hP hD hN hXS hS hA rfl rfl [1, 2] rfl (by decide +kernel)) rfl rfl hl.1 rfl (lv_room (Nat.le_of_ble_eq_true rfl)) dX11_speaks_33 ⟨Nat.le_of_ble_eq_true rfl, Nat.le_of_ble_eq_true rfl⟩) hP hD hS hA [1, 2] [0] rfl rfl (by decide +kernel) (by decide +kernel) ?_
            clear hP hD hS
            intro r_386 u_388 H locs w_387 hP hD hS
            replace hP : va_P D vwCl [(k8, .inl (cI, 40, .inl c8)), (k, .inr (11, [.ref k0, .ref k1, .ref k2, .int c3, .ref k4, .ref k5, .ref k6, .ref k7, .ref k8, .int c9, .ref ka, .ref kb, .int cc, .int cd, .int ce, .int cf, .int cg, .int ch, .int ci, .int cj, .int ck, .ref kl, .int cm, .int cn, .ref ko])), (k0, .inl (cI, 1201, .inl c0))] H := hP
            replace hD : va_D A [(k8, .inl (cI, 40, .inl c8)), (k, .inr (11, [.ref k0, .ref k1, .ref k2, .int c3, .ref k4, .ref k5, .ref k6, .ref k7, .ref k8, .int c9, .ref ka, .ref kb, .int cc, .int cd, .int ce, .int cf, .int cg, .int ch, .int ci, .int cj, .int ck, .ref kl, .int cm, .int cn, .ref ko])), (k0, .inl (cI, 1201, .inl c0))] := hD
            have h_389 := w_387
            have h_389 : r_386 = wW c0 a0 2 := h_389
            have t_390 : r_386.toInt = (wW c0 a0 2).toInt := by rw [h_389]
            have lo_r_386 := k_lo r_386
            have hi_r_386 := k_hi r_386
            refine lv_istore (lv' := [(7, .int r_386), (6, .int r_380), (5, .int l3_5), (0, .ref k), (1, .int a0), (2, .int a1), (3, .int a2), (4, .int a3)]) hx hb dX11_speaks_36 hl (by decide +kernel) rfl ?_
            clear hl
            intro ls hl
            refine lv_iload hx hb dX11_speaks_38 (lv_at hl 2 rfl) ?_
            refine kJi (wr := [(k8, .inl (cI, 40, .inl c8)), (k, .inr (11, [.ref k0, .ref k1, .ref k2, .int c3, .ref k4, .ref k5, .ref k6, .ref k7, .ref k8, .int c9, .ref ka, .ref kb, .int cc, .int cd, .int ce, .int cf, .int cg, .int ch, .int ci, .int cj, .int ck, .ref kl, .int cm, .int cn, .ref ko])), (k0, .inl (cI, 1201, .inl c0))]) (va_runS (As := [.int l3_5]) (rest := []) ⟨hx, hb, hml, hown, hT⟩ (c_X11_parentG l D cI aK aV H.size l3_5 (by first | omega | decide | assumption | rfl) (by first | omega | decide | assumption | rfl)) (cwS 1 hT (gS_in mw_1282 mw_1280 mw_1281 mw_12) rfl rfl rfl (by decide +kernel) ⟨(by dsimp only; omega), (by dsimp only; omega)⟩) (kStatX hK hP hD hN hXS hS hA [] rfl (by decide +kernel)) rfl rfl hl.1 rfl (lv_room (Nat.le_of_ble_eq_true rfl)) dX11_speaks_40 ⟨Nat.le_of_ble_eq_true rfl, Nat.le_of_ble_eq_true rfl⟩) hP hD hS hA [] [0, 1, 2] rfl rfl (by decide +kernel) (by decide +kernel) ?_
            clear hP hD hS
            intro r_391 u_393 H locs w_392 hP hD hS
            replace hP : va_P D vwCl [(k8, .inl (cI, 40, .inl c8)), (k, .inr (11, [.ref k0, .ref k1, .ref k2, .int c3, .ref k4, .ref k5, .ref k6, .ref k7, .ref k8, .int c9, .ref ka, .ref kb, .int cc, .int cd, .int ce, .int cf, .int cg, .int ch, .int ci, .int cj, .int ck, .ref kl, .int cm, .int cn, .ref ko])), (k0, .inl (cI, 1201, .inl c0))] H := hP
            replace hD : va_D A [(k8, .inl (cI, 40, .inl c8)), (k, .inr (11, [.ref k0, .ref k1, .ref k2, .int c3, .ref k4, .ref k5, .ref k6, .ref k7, .ref k8, .int c9, .ref ka, .ref kb, .int cc, .int cd, .int ce, .int cf, .int cg, .int ch, .int ci, .int cj, .int ck, .ref kl, .int cm, .int cn, .ref ko])), (k0, .inl (cI, 1201, .inl c0))] := hD
            rcases w_392 with ⟨hr_391, h_394⟩ | ⟨hr_391, h_395⟩ | ⟨hr_391, h_396⟩ | ⟨hr_391, h_397⟩ | ⟨hr_391, h_398⟩
            · exfalso; omega
            · have h_395 : l3_5.toInt = 1 ∨ l3_5.toInt = 4 := h_395
              obtain rfl : r_391 = 0 := hr_391.trans (by decide +kernel)
              refine lv_istore (lv' := [(8, .int 0), (7, .int r_386), (6, .int r_380), (5, .int l3_5), (0, .ref k), (1, .int a0), (2, .int a1), (3, .int a2), (4, .int a3)]) hx hb dX11_speaks_43 hl (by decide +kernel) rfl ?_
              clear hl
              intro ls hl
              refine lv_iload hx hb dX11_speaks_45 (lv_at hl 3 rfl) ?_
              refine lv_iload_n hx hb dX11_speaks_47 rfl (lv_at hl 7 rfl) ?_
              refine kJi (wr := [(k8, .inl (cI, 40, .inl c8)), (k, .inr (11, [.ref k0, .ref k1, .ref k2, .int c3, .ref k4, .ref k5, .ref k6, .ref k7, .ref k8, .int c9, .ref ka, .ref kb, .int cc, .int cd, .int ce, .int cf, .int cg, .int ch, .int ci, .int cj, .int ck, .ref kl, .int cm, .int cn, .ref ko])), (k0, .inl (cI, 1201, .inl c0))]) (va_runS (As := [.int l3_5, .int a2]) (rest := []) ⟨hx, hb, hml, hown, hT⟩ (c_X11_bodyOfG l D cI aK aV H.size l3_5 a2 (by first | omega | decide | assumption | rfl) (by first | omega | decide | assumption | rfl) (by first | omega | decide | assumption | rfl) (by first | omega | decide | assumption | rfl)) (cwS 2 hT (gS_in mw_1581 mw_1579 mw_1580 mw_12) rfl rfl rfl (by decide +kernel) ⟨(by dsimp only; omega), (by dsimp only; omega)⟩) (kStatX hK hP hD hN hXS hS hA [] rfl (by decide +kernel)) rfl rfl hl.1 rfl (lv_room (Nat.le_of_ble_eq_true rfl)) dX11_speaks_48 ⟨Nat.le_of_ble_eq_true rfl, Nat.le_of_ble_eq_true rfl⟩) hP hD hS hA [] [0, 1, 2] rfl rfl (by decide +kernel) (by decide +kernel) ?_
              clear hP hD hS
              intro r_399 u_401 H locs w_400 hP hD hS
              replace hP : va_P D vwCl [(k8, .inl (cI, 40, .inl c8)), (k, .inr (11, [.ref k0, .ref k1, .ref k2, .int c3, .ref k4, .ref k5, .ref k6, .ref k7, .ref k8, .int c9, .ref ka, .ref kb, .int cc, .int cd, .int ce, .int cf, .int cg, .int ch, .int ci, .int cj, .int ck, .ref kl, .int cm, .int cn, .ref ko])), (k0, .inl (cI, 1201, .inl c0))] H := hP
              replace hD : va_D A [(k8, .inl (cI, 40, .inl c8)), (k, .inr (11, [.ref k0, .ref k1, .ref k2, .int c3, .ref k4, .ref k5, .ref k6, .ref k7, .ref k8, .int c9, .ref ka, .ref kb, .int cc, .int cd, .int ce, .int cf, .int cg, .int ch, .int ci, .int cj, .int ck, .ref kl, .int cm, .int cn, .ref ko])), (k0, .inl (cI, 1201, .inl c0))] := hD
              rcases w_400 with ⟨hr_399, h_402, h_403, h_404⟩ | ⟨hr_399, h_405, h_406, h_407⟩ | ⟨hr_399, h_408, h_409, h_410⟩ | ⟨hr_399, h_411, h_412, h_413⟩ | ⟨hr_399, h_414, h_415, h_416⟩ | ⟨hr_399, h_417, h_418, h_419⟩ | ⟨hr_399, h_420, h_421, h_422⟩ | ⟨hr_399, h_423, h_424, h_425⟩ | ⟨hr_399, h_426, h_427, h_428⟩ | ⟨hr_399, h_429, h_430, h_431⟩ | ⟨hr_399, h_432, h_433, h_434⟩ | ⟨hr_399, h_435, h_436, h_437⟩ | ⟨hr_399, h_438, h_439, h_440⟩ | ⟨hr_399, h_441, h_442, h_443⟩ | ⟨hr_399, h_444, h_445⟩
              · exfalso; omega
              · exfalso; omega
              · exfalso; omega
              · exfalso; omega
              · have h_414 : l3_5.toInt = 1 := h_414
                have h_415 : a2.toInt = 1 := h_415
                have h_416 : (bKi l3_5 a2).toInt = 20 := h_416
                obtain rfl : r_399 = 20 := hr_399.trans (by decide +kernel)
                refine lv_istore (lv' := [(9, .int 20), (8, .int 0), (7, .int r_386), (6, .int r_380), (5, .int l3_5), (0, .ref k), (1, .int a0), (2, .int a1), (3, .int a2), (4, .int a3)]) hx hb dX11_speaks_51 hl (by decide +kernel) rfl ?_
                clear hl
                intro ls hl
                refine lv_aload_n hx hb dX11_speaks_53 rfl (lv_at hl 5 rfl) ?_
                refine lv_iload hx hb dX11_speaks_54 (lv_at hl 0 rfl) ?_
                refine kJv (wr := [(k0, .inl (cI, 1201, .inl c0))]) (va_runV (As := [.int 20]) (rest := []) ⟨hx, hb, hml, hown, hT⟩ (c_X11_ranG l D cI aK aV k k0 k1 k2 k4 k5 k6 k7 k8 ka kb kl ko H.size c3 c9 cc cd ce cf cg ch ci cj ck cm cn c8 20 (by first | omega | (simp only [zl_20]; first | done | omega) | decide | assumption | rfl) (by first | omega | (simp only [zl_20]; first | done | omega) | decide | assumption | rfl)) (cwV 1 hT (gV_in mw_1585 mw_1582 mw_1584 mw_p6_7 mw_12) rfl rfl rfl (by decide +kernel) ⟨(by dsimp only; omega), (by dsimp only; omega)⟩) (kRecvX (q0 := 1) (ci := 11) hK hP hD hN hXS hS hA rfl rfl [1, 0] rfl (by decide +kernel)) rfl rfl hl.1 rfl (lv_room (Nat.le_of_ble_eq_true rfl)) dX11_speaks_56 ⟨Nat.le_of_ble_eq_true rfl, Nat.le_of_ble_eq_true rfl⟩) hP hD hS hA [1, 0] [2] rfl rfl (by decide +kernel) (by decide +kernel) ?_
                clear hP hD hS
                intro u_450 H locs w_447 hP hD hS
                obtain ⟨sc9_448, sc8_449⟩ := u_450
                replace hP : va_P D vwCl [(k0, .inl (cI, 1201, .inl c0)), (k, .inr (11, [.ref k0, .ref k1, .ref k2, .int c3, .ref k4, .ref k5, .ref k6, .ref k7, .ref k8, .int sc9_448, .ref ka, .ref kb, .int cc, .int cd, .int ce, .int cf, .int cg, .int ch, .int ci, .int cj, .int ck, .ref kl, .int cm, .int cn, .ref ko])), (k8, .inl (cI, 40, .inl sc8_449))] H := hP
                replace hD : va_D A [(k0, .inl (cI, 1201, .inl c0)), (k, .inr (11, [.ref k0, .ref k1, .ref k2, .int c3, .ref k4, .ref k5, .ref k6, .ref k7, .ref k8, .int sc9_448, .ref ka, .ref kb, .int cc, .int cd, .int ce, .int cf, .int cg, .int ch, .int ci, .int cj, .int ck, .ref kl, .int cm, .int cn, .ref ko])), (k8, .inl (cI, 40, .inl sc8_449))] := hD
                have lo_sc9_448 := k_lo sc9_448
                have hi_sc9_448 := k_hi sc9_448
                obtain ⟨h_451, h_452⟩ := w_447
                try simp only [zl_20] at h_451
                have h_451 : 0 ≤ sc9_448.toInt := h_451
                try simp only [zl_20] at h_452
                have h_452 : sc9_448.toInt ≤ 40 := h_452
                refine lv_iload hx hb dX11_speaks_59 (lv_at hl 0 rfl) ?_
                refine lv_tableIn (off := 277) (tgt := 338) hx hb dX11_speaks_61 (by decide +kernel) (by decide +kernel) (by decide +kernel) (by decide +kernel) ?_
                refine lv_aload_n hx hb dX11_speaks_338 rfl (lv_at hl 5 rfl) ?_
                refine lv_iload_n hx hb dX11_speaks_339 rfl (lv_at hl 6 rfl) ?_
                refine lv_iload hx hb dX11_speaks_340 (lv_at hl 1 rfl) ?_
                refine lv_iconst (v := 1) hx hb dX11_speaks_342 (by decide +kernel) ?_
                refine lv_iload hx hb dX11_speaks_343 (lv_at hl 9 rfl) ?_
                refine lv_iconst (v := 1) hx hb dX11_speaks_345 (by decide +kernel) ?_
                refine lv_iadd hx hb dX11_speaks_346 ?_
                refine lv_topi (fun v_453 ev_453 => ?_)
                have lo_v_453 := k_lo v_453
                have hi_v_453 := k_hi v_453
                refine kJi (wr := []) (va_runV (As := [.int a0, .int 0, .int 1, .int v_453]) (rest := []) ⟨hx, hb, hml, hown, hT⟩ (ih l D cI aK aV k k0 k1 k2 k4 k5 k6 k7 k8 ka kb kl ko H.size c3 sc9_448 cc cd ce cf cg ch ci cj ck cm cn c0 sc8_449 a0 0 1 v_453 pre0 (by first | omega | (simp only [zl_0, zl_1]; first | done | omega) | decide | assumption | rfl) (by first | omega | (simp only [zl_0, zl_1]; first | done | omega) | decide | assumption | rfl) (by first | omega | (simp only [zl_0, zl_1]; first | done | omega) | decide | assumption | rfl) (by first | omega | (simp only [zl_0, zl_1]; first | done | omega) | decide | assumption | rfl) (by first | omega | (simp only [zl_0, zl_1]; first | done | omega) | decide | assumption | rfl) (by first | omega | (simp only [zl_0, zl_1]; first | done | omega) | decide | assumption | rfl) (by first | omega | (simp only [zl_0, zl_1]; first | done | omega) | decide | assumption | rfl) (by first | omega | (simp only [zl_0, zl_1]; first | done | omega) | decide | assumption | rfl) (by first | omega | (simp only [zl_0, zl_1]; first | done | omega) | decide | assumption | rfl)) (cwV 4 hT (gV_in mw_1578 mw_1575 mw_1577 mw_p6_6 mw_12) rfl rfl rfl (by decide +kernel) ⟨(by dsimp only; omega), (by dsimp only; omega)⟩) (kRecvX (q0 := 1) (ci := 11) hK hP hD hN hXS hS hA rfl rfl [1, 0, 2] rfl (by decide +kernel)) rfl rfl hl.1 rfl (lv_room (Nat.le_of_ble_eq_true rfl)) dX11_speaks_347 ⟨Nat.le_of_ble_eq_true rfl, Nat.le_of_ble_eq_true rfl⟩) hP hD hS hA [1, 0, 2] [] rfl rfl (by decide +kernel) (by decide +kernel) ?_
                clear hP hD hS
                intro r_454 u_458 H locs w_455 hP hD hS
                obtain ⟨sc9_456, sc8_457⟩ := u_458
                replace hP : va_P D vwCl [(k, .inr (11, [.ref k0, .ref k1, .ref k2, .int c3, .ref k4, .ref k5, .ref k6, .ref k7, .ref k8, .int sc9_456, .ref ka, .ref kb, .int cc, .int cd, .int ce, .int cf, .int cg, .int ch, .int ci, .int cj, .int ck, .ref kl, .int cm, .int cn, .ref ko])), (k0, .inl (cI, 1201, .inl c0)), (k8, .inl (cI, 40, .inl sc8_457))] H := hP
                replace hD : va_D A [(k, .inr (11, [.ref k0, .ref k1, .ref k2, .int c3, .ref k4, .ref k5, .ref k6, .ref k7, .ref k8, .int sc9_456, .ref ka, .ref kb, .int cc, .int cd, .int ce, .int cf, .int cg, .int ch, .int ci, .int cj, .int ck, .ref kl, .int cm, .int cn, .ref ko])), (k0, .inl (cI, 1201, .inl c0)), (k8, .inl (cI, 40, .inl sc8_457))] := hD
                have lo_sc9_456 := k_lo sc9_456
                have hi_sc9_456 := k_hi sc9_456
                obtain ⟨h_459, h_460⟩ := w_455
                try simp only [zl_0, zl_1] at h_459
                have h_459 : 0 ≤ sc9_456.toInt := h_459
                try simp only [zl_0, zl_1] at h_460
                have h_460 : sc9_456.toInt ≤ 40 := h_460
                have lo_r_454 := k_lo r_454
                have hi_r_454 := k_hi r_454
                exact hRet (sc9_456, sc8_457) [0, 1, 2] ⟨(by first | omega | decide | assumption | rfl | (dsimp only; first | omega)), (by first | omega | decide | assumption | rfl | (dsimp only; first | omega))⟩ hP hD (by decide +kernel) rfl hS rfl dX11_speaks_350
              · exfalso; omega
              · exfalso; omega
              · exfalso; omega
              · exfalso; omega
              · exfalso; omega
              · exfalso; omega
              · exfalso; omega
              · exfalso; omega
              · exfalso; omega
              · exfalso; omega
            · exfalso; omega
            · exfalso; omega
            · exfalso; omega
          · have h_22 : l3_5.toInt = 1 := h_22
            have h_23 : a2.toInt = 3 := h_23
            have h_24 : (bKi l3_5 a2).toInt = 21 := h_24
            obtain rfl : r_4 = 21 := hr_4.trans (by decide +kernel)
            refine b_if_ne hx hb zl_21 (tgt := 22) dX11_speaks_9 (by decide +kernel) (fun c_461 => ?_) (fun c_461 => by exfalso; omega)
            refine lv_aload_n hx hb dX11_speaks_22 rfl (lv_at hl 1 rfl) ?_
            refine lv_iload_n hx hb dX11_speaks_23 rfl (lv_at hl 2 rfl) ?_
            refine lv_iconst (v := 0) hx hb dX11_speaks_24 (by decide +kernel) ?_
            refine kJi (wr := [(k8, .inl (cI, 40, .inl c8))]) (va_runV (As := [.int a0, .int 0]) (rest := []) ⟨hx, hb, hml, hown, hT⟩ (c_X11_workG0 l D cI aK aV k k0 k1 k2 k4 k5 k6 k7 k8 ka kb kl ko H.size c3 c9 cc cd ce cf cg ch ci cj ck cm cn c0 a0 0 (by first | omega | (simp only [zl_0]; first | done | omega) | decide | assumption | rfl) (by first | omega | (simp only [zl_0]; first | done | omega) | decide | assumption | rfl) (by first | omega | (simp only [zl_0]; first | done | omega) | decide | assumption | rfl)) (cwV 2 hT (gV_in mw_1276 mw_1273 mw_1275 mw_p3_12 mw_12) rfl rfl rfl (by decide +kernel) ⟨(by dsimp only; omega), (by dsimp only; omega)⟩) (kRecvX (q0 := 0) (ci := 11) hK hP hD hN hXS hS hA rfl rfl [0, 1] rfl (by decide +kernel)) rfl rfl hl.1 rfl (lv_room (Nat.le_of_ble_eq_true rfl)) dX11_speaks_25 ⟨Nat.le_of_ble_eq_true rfl, Nat.le_of_ble_eq_true rfl⟩) hP hD hS hA [0, 1] [2] rfl rfl (by decide +kernel) (by decide +kernel) ?_
            clear hP hD hS
            intro r_462 u_464 H locs w_463 hP hD hS
            replace hP : va_P D vwCl [(k8, .inl (cI, 40, .inl c8)), (k, .inr (11, [.ref k0, .ref k1, .ref k2, .int c3, .ref k4, .ref k5, .ref k6, .ref k7, .ref k8, .int c9, .ref ka, .ref kb, .int cc, .int cd, .int ce, .int cf, .int cg, .int ch, .int ci, .int cj, .int ck, .ref kl, .int cm, .int cn, .ref ko])), (k0, .inl (cI, 1201, .inl c0))] H := hP
            replace hD : va_D A [(k8, .inl (cI, 40, .inl c8)), (k, .inr (11, [.ref k0, .ref k1, .ref k2, .int c3, .ref k4, .ref k5, .ref k6, .ref k7, .ref k8, .int c9, .ref ka, .ref kb, .int cc, .int cd, .int ce, .int cf, .int cg, .int ch, .int ci, .int cj, .int ck, .ref kl, .int cm, .int cn, .ref ko])), (k0, .inl (cI, 1201, .inl c0))] := hD
            have h_465 := w_463
            have h_465 : r_462 = wW c0 a0 0 := h_465
            have t_466 : r_462.toInt = (wW c0 a0 0).toInt := by rw [h_465]
            have b_467 : 0 ≤ r_462.toInt ∧ r_462.toInt ≤ 5 := by rw [h_465]; exact SB.w0 pre0 (by omega) (by omega)
            have lo_r_462 := k_lo r_462
            have hi_r_462 := k_hi r_462
            refine lv_istore (lv' := [(6, .int r_462), (5, .int l3_5), (0, .ref k), (1, .int a0), (2, .int a1), (3, .int a2), (4, .int a3)]) hx hb dX11_speaks_28 hl (by decide +kernel) rfl ?_
            clear hl
            intro ls hl
            refine lv_aload_n hx hb dX11_speaks_30 rfl (lv_at hl 2 rfl) ?_
            refine lv_iload_n hx hb dX11_speaks_31 rfl (lv_at hl 3 rfl) ?_
            refine lv_iconst (v := 2) hx hb dX11_speaks_32 (by decide +kernel) ?_
            refine kJi (wr := [(k8, .inl (cI, 40, .inl c8))]) (va_runV (As := [.int a0, .int 2]) (rest := []) ⟨hx, hb, hml, hown, hT⟩ (c_X11_workG2 l D cI aK aV k k0 k1 k2 k4 k5 k6 k7 k8 ka kb kl ko H.size c3 c9 cc cd ce cf cg ch ci cj ck cm cn c0 a0 2 (by first | omega | (simp only [zl_2]; first | done | omega) | decide | assumption | rfl) (by first | omega | (simp only [zl_2]; first | done | omega) | decide | assumption | rfl) (by first | omega | (simp only [zl_2]; first | done | omega) | decide | assumption | rfl)) (cwV 2 hT (gV_in mw_1276 mw_1273 mw_1275 mw_p3_12 mw_12) rfl rfl rfl (by decide +kernel) ⟨(by dsimp only; omega), (by dsimp only; omega)⟩) (kRecvX (q0 := 1) (ci := 11) hK hP hD hN hXS hS hA rfl rfl [1, 2] rfl (by decide +kernel)) rfl rfl hl.1 rfl (lv_room (Nat.le_of_ble_eq_true rfl)) dX11_speaks_33 ⟨Nat.le_of_ble_eq_true rfl, Nat.le_of_ble_eq_true rfl⟩) hP hD hS hA [1, 2] [0] rfl rfl (by decide +kernel) (by decide +kernel) ?_
            clear hP hD hS
            intro r_468 u_470 H locs w_469 hP hD hS
            replace hP : va_P D vwCl [(k8, .inl (cI, 40, .inl c8)), (k, .inr (11, [.ref k0, .ref k1, .ref k2, .int c3, .ref k4, .ref k5, .ref k6, .ref k7, .ref k8, .int c9, .ref ka, .ref kb, .int cc, .int cd, .int ce, .int cf, .int cg, .int ch, .int ci, .int cj, .int ck, .ref kl, .int cm, .int cn, .ref ko])), (k0, .inl (cI, 1201, .inl c0))] H := hP
            replace hD : va_D A [(k8, .inl (cI, 40, .inl c8)), (k, .inr (11, [.ref k0, .ref k1, .ref k2, .int c3, .ref k4, .ref k5, .ref k6, .ref k7, .ref k8, .int c9, .ref ka, .ref kb, .int cc, .int cd, .int ce, .int cf, .int cg, .int ch, .int ci, .int cj, .int ck, .ref kl, .int cm, .int cn, .ref ko])), (k0, .inl (cI, 1201, .inl c0))] := hD
            have h_471 := w_469
            have h_471 : r_468 = wW c0 a0 2 := h_471
            have t_472 : r_468.toInt = (wW c0 a0 2).toInt := by rw [h_471]
            have lo_r_468 := k_lo r_468
            have hi_r_468 := k_hi r_468
            refine lv_istore (lv' := [(7, .int r_468), (6, .int r_462), (5, .int l3_5), (0, .ref k), (1, .int a0), (2, .int a1), (3, .int a2), (4, .int a3)]) hx hb dX11_speaks_36 hl (by decide +kernel) rfl ?_
            clear hl
            intro ls hl
            refine lv_iload hx hb dX11_speaks_38 (lv_at hl 2 rfl) ?_
            refine kJi (wr := [(k8, .inl (cI, 40, .inl c8)), (k, .inr (11, [.ref k0, .ref k1, .ref k2, .int c3, .ref k4, .ref k5, .ref k6, .ref k7, .ref k8, .int c9, .ref ka, .ref kb, .int cc, .int cd, .int ce, .int cf, .int cg, .int ch, .int ci, .int cj, .int ck, .ref kl, .int cm, .int cn, .ref ko])), (k0, .inl (cI, 1201, .inl c0))]) (va_runS (As := [.int l3_5]) (rest := []) ⟨hx, hb, hml, hown, hT⟩ (c_X11_parentG l D cI aK aV H.size l3_5 (by first | omega | decide | assumption | rfl) (by first | omega | decide | assumption | rfl)) (cwS 1 hT (gS_in mw_1282 mw_1280 mw_1281 mw_12) rfl rfl rfl (by decide +kernel) ⟨(by dsimp only; omega), (by dsimp only; omega)⟩) (kStatX hK hP hD hN hXS hS hA [] rfl (by decide +kernel)) rfl rfl hl.1 rfl (lv_room (Nat.le_of_ble_eq_true rfl)) dX11_speaks_40 ⟨Nat.le_of_ble_eq_true rfl, Nat.le_of_ble_eq_true rfl⟩) hP hD hS hA [] [0, 1, 2] rfl rfl (by decide +kernel) (by decide +kernel) ?_
            clear hP hD hS
            intro r_473 u_475 H locs w_474 hP hD hS
            replace hP : va_P D vwCl [(k8, .inl (cI, 40, .inl c8)), (k, .inr (11, [.ref k0, .ref k1, .ref k2, .int c3, .ref k4, .ref k5, .ref k6, .ref k7, .ref k8, .int c9, .ref ka, .ref kb, .int cc, .int cd, .int ce, .int cf, .int cg, .int ch, .int ci, .int cj, .int ck, .ref kl, .int cm, .int cn, .ref ko])), (k0, .inl (cI, 1201, .inl c0))] H := hP
            replace hD : va_D A [(k8, .inl (cI, 40, .inl c8)), (k, .inr (11, [.ref k0, .ref k1, .ref k2, .int c3, .ref k4, .ref k5, .ref k6, .ref k7, .ref k8, .int c9, .ref ka, .ref kb, .int cc, .int cd, .int ce, .int cf, .int cg, .int ch, .int ci, .int cj, .int ck, .ref kl, .int cm, .int cn, .ref ko])), (k0, .inl (cI, 1201, .inl c0))] := hD
            rcases w_474 with ⟨hr_473, h_476⟩ | ⟨hr_473, h_477⟩ | ⟨hr_473, h_478⟩ | ⟨hr_473, h_479⟩ | ⟨hr_473, h_480⟩
            · exfalso; omega
            · have h_477 : l3_5.toInt = 1 ∨ l3_5.toInt = 4 := h_477
              obtain rfl : r_473 = 0 := hr_473.trans (by decide +kernel)
              refine lv_istore (lv' := [(8, .int 0), (7, .int r_468), (6, .int r_462), (5, .int l3_5), (0, .ref k), (1, .int a0), (2, .int a1), (3, .int a2), (4, .int a3)]) hx hb dX11_speaks_43 hl (by decide +kernel) rfl ?_
              clear hl
              intro ls hl
              refine lv_iload hx hb dX11_speaks_45 (lv_at hl 3 rfl) ?_
              refine lv_iload_n hx hb dX11_speaks_47 rfl (lv_at hl 7 rfl) ?_
              refine kJi (wr := [(k8, .inl (cI, 40, .inl c8)), (k, .inr (11, [.ref k0, .ref k1, .ref k2, .int c3, .ref k4, .ref k5, .ref k6, .ref k7, .ref k8, .int c9, .ref ka, .ref kb, .int cc, .int cd, .int ce, .int cf, .int cg, .int ch, .int ci, .int cj, .int ck, .ref kl, .int cm, .int cn, .ref ko])), (k0, .inl (cI, 1201, .inl c0))]) (va_runS (As := [.int l3_5, .int a2]) (rest := []) ⟨hx, hb, hml, hown, hT⟩ (c_X11_bodyOfG l D cI aK aV H.size l3_5 a2 (by first | omega | decide | assumption | rfl) (by first | omega | decide | assumption | rfl) (by first | omega | decide | assumption | rfl) (by first | omega | decide | assumption | rfl)) (cwS 2 hT (gS_in mw_1581 mw_1579 mw_1580 mw_12) rfl rfl rfl (by decide +kernel) ⟨(by dsimp only; omega), (by dsimp only; omega)⟩) (kStatX hK hP hD hN hXS hS hA [] rfl (by decide +kernel)) rfl rfl hl.1 rfl (lv_room (Nat.le_of_ble_eq_true rfl)) dX11_speaks_48 ⟨Nat.le_of_ble_eq_true rfl, Nat.le_of_ble_eq_true rfl⟩) hP hD hS hA [] [0, 1, 2] rfl rfl (by decide +kernel) (by decide +kernel) ?_
              clear hP hD hS
              intro r_481 u_483 H locs w_482 hP hD hS
              replace hP : va_P D vwCl [(k8, .inl (cI, 40, .inl c8)), (k, .inr (11, [.ref k0, .ref k1, .ref k2, .int c3, .ref k4, .ref k5, .ref k6, .ref k7, .ref k8, .int c9, .ref ka, .ref kb, .int cc, .int cd, .int ce, .int cf, .int cg, .int ch, .int ci, .int cj, .int ck, .ref kl, .int cm, .int cn, .ref ko])), (k0, .inl (cI, 1201, .inl c0))] H := hP
              replace hD : va_D A [(k8, .inl (cI, 40, .inl c8)), (k, .inr (11, [.ref k0, .ref k1, .ref k2, .int c3, .ref k4, .ref k5, .ref k6, .ref k7, .ref k8, .int c9, .ref ka, .ref kb, .int cc, .int cd, .int ce, .int cf, .int cg, .int ch, .int ci, .int cj, .int ck, .ref kl, .int cm, .int cn, .ref ko])), (k0, .inl (cI, 1201, .inl c0))] := hD
              rcases w_482 with ⟨hr_481, h_484, h_485, h_486⟩ | ⟨hr_481, h_487, h_488, h_489⟩ | ⟨hr_481, h_490, h_491, h_492⟩ | ⟨hr_481, h_493, h_494, h_495⟩ | ⟨hr_481, h_496, h_497, h_498⟩ | ⟨hr_481, h_499, h_500, h_501⟩ | ⟨hr_481, h_502, h_503, h_504⟩ | ⟨hr_481, h_505, h_506, h_507⟩ | ⟨hr_481, h_508, h_509, h_510⟩ | ⟨hr_481, h_511, h_512, h_513⟩ | ⟨hr_481, h_514, h_515, h_516⟩ | ⟨hr_481, h_517, h_518, h_519⟩ | ⟨hr_481, h_520, h_521, h_522⟩ | ⟨hr_481, h_523, h_524, h_525⟩ | ⟨hr_481, h_526, h_527⟩
              · exfalso; omega
              · exfalso; omega
              · exfalso; omega
              · exfalso; omega
              · exfalso; omega
              · have h_499 : l3_5.toInt = 1 := h_499
                have h_500 : a2.toInt = 3 := h_500
                have h_501 : (bKi l3_5 a2).toInt = 21 := h_501
                obtain rfl : r_481 = 21 := hr_481.trans (by decide +kernel)
                refine lv_istore (lv' := [(9, .int 21), (8, .int 0), (7, .int r_468), (6, .int r_462), (5, .int l3_5), (0, .ref k), (1, .int a0), (2, .int a1), (3, .int a2), (4, .int a3)]) hx hb dX11_speaks_51 hl (by decide +kernel) rfl ?_
                clear hl
                intro ls hl
                refine lv_aload_n hx hb dX11_speaks_53 rfl (lv_at hl 5 rfl) ?_
                refine lv_iload hx hb dX11_speaks_54 (lv_at hl 0 rfl) ?_
                refine kJv (wr := [(k0, .inl (cI, 1201, .inl c0))]) (va_runV (As := [.int 21]) (rest := []) ⟨hx, hb, hml, hown, hT⟩ (c_X11_ranG l D cI aK aV k k0 k1 k2 k4 k5 k6 k7 k8 ka kb kl ko H.size c3 c9 cc cd ce cf cg ch ci cj ck cm cn c8 21 (by first | omega | (simp only [zl_21]; first | done | omega) | decide | assumption | rfl) (by first | omega | (simp only [zl_21]; first | done | omega) | decide | assumption | rfl)) (cwV 1 hT (gV_in mw_1585 mw_1582 mw_1584 mw_p6_7 mw_12) rfl rfl rfl (by decide +kernel) ⟨(by dsimp only; omega), (by dsimp only; omega)⟩) (kRecvX (q0 := 1) (ci := 11) hK hP hD hN hXS hS hA rfl rfl [1, 0] rfl (by decide +kernel)) rfl rfl hl.1 rfl (lv_room (Nat.le_of_ble_eq_true rfl)) dX11_speaks_56 ⟨Nat.le_of_ble_eq_true rfl, Nat.le_of_ble_eq_true rfl⟩) hP hD hS hA [1, 0] [2] rfl rfl (by decide +kernel) (by decide +kernel) ?_
                clear hP hD hS
                intro u_532 H locs w_529 hP hD hS
                obtain ⟨sc9_530, sc8_531⟩ := u_532
                replace hP : va_P D vwCl [(k0, .inl (cI, 1201, .inl c0)), (k, .inr (11, [.ref k0, .ref k1, .ref k2, .int c3, .ref k4, .ref k5, .ref k6, .ref k7, .ref k8, .int sc9_530, .ref ka, .ref kb, .int cc, .int cd, .int ce, .int cf, .int cg, .int ch, .int ci, .int cj, .int ck, .ref kl, .int cm, .int cn, .ref ko])), (k8, .inl (cI, 40, .inl sc8_531))] H := hP
                replace hD : va_D A [(k0, .inl (cI, 1201, .inl c0)), (k, .inr (11, [.ref k0, .ref k1, .ref k2, .int c3, .ref k4, .ref k5, .ref k6, .ref k7, .ref k8, .int sc9_530, .ref ka, .ref kb, .int cc, .int cd, .int ce, .int cf, .int cg, .int ch, .int ci, .int cj, .int ck, .ref kl, .int cm, .int cn, .ref ko])), (k8, .inl (cI, 40, .inl sc8_531))] := hD
                have lo_sc9_530 := k_lo sc9_530
                have hi_sc9_530 := k_hi sc9_530
                obtain ⟨h_533, h_534⟩ := w_529
                try simp only [zl_21] at h_533
                have h_533 : 0 ≤ sc9_530.toInt := h_533
                try simp only [zl_21] at h_534
                have h_534 : sc9_530.toInt ≤ 40 := h_534
                refine lv_iload hx hb dX11_speaks_59 (lv_at hl 0 rfl) ?_
                refine lv_tableIn (off := 290) (tgt := 351) hx hb dX11_speaks_61 (by decide +kernel) (by decide +kernel) (by decide +kernel) (by decide +kernel) ?_
                refine lv_aload_n hx hb dX11_speaks_351 rfl (lv_at hl 5 rfl) ?_
                refine lv_iload_n hx hb dX11_speaks_352 rfl (lv_at hl 6 rfl) ?_
                refine lv_iload hx hb dX11_speaks_353 (lv_at hl 1 rfl) ?_
                refine lv_iconst (v := 3) hx hb dX11_speaks_355 (by decide +kernel) ?_
                refine lv_iload hx hb dX11_speaks_356 (lv_at hl 9 rfl) ?_
                refine kJi (wr := []) (va_runV (As := [.int a0, .int 0, .int 3, .int a3]) (rest := []) ⟨hx, hb, hml, hown, hT⟩ (ih l D cI aK aV k k0 k1 k2 k4 k5 k6 k7 k8 ka kb kl ko H.size c3 sc9_530 cc cd ce cf cg ch ci cj ck cm cn c0 sc8_531 a0 0 3 a3 pre0 (by first | omega | (simp only [zl_0, zl_3]; first | done | omega) | decide | assumption | rfl) (by first | omega | (simp only [zl_0, zl_3]; first | done | omega) | decide | assumption | rfl) (by first | omega | (simp only [zl_0, zl_3]; first | done | omega) | decide | assumption | rfl) (by first | omega | (simp only [zl_0, zl_3]; first | done | omega) | decide | assumption | rfl) (by first | omega | (simp only [zl_0, zl_3]; first | done | omega) | decide | assumption | rfl) (by first | omega | (simp only [zl_0, zl_3]; first | done | omega) | decide | assumption | rfl) (by first | omega | (simp only [zl_0, zl_3]; first | done | omega) | decide | assumption | rfl) (by first | omega | (simp only [zl_0, zl_3]; first | done | omega) | decide | assumption | rfl) (by first | omega | (simp only [zl_0, zl_3]; first | done | omega) | decide | assumption | rfl)) (cwV 4 hT (gV_in mw_1578 mw_1575 mw_1577 mw_p6_6 mw_12) rfl rfl rfl (by decide +kernel) ⟨(by dsimp only; omega), (by dsimp only; omega)⟩) (kRecvX (q0 := 1) (ci := 11) hK hP hD hN hXS hS hA rfl rfl [1, 0, 2] rfl (by decide +kernel)) rfl rfl hl.1 rfl (lv_room (Nat.le_of_ble_eq_true rfl)) dX11_speaks_358 ⟨Nat.le_of_ble_eq_true rfl, Nat.le_of_ble_eq_true rfl⟩) hP hD hS hA [1, 0, 2] [] rfl rfl (by decide +kernel) (by decide +kernel) ?_
                clear hP hD hS
                intro r_535 u_539 H locs w_536 hP hD hS
                obtain ⟨sc9_537, sc8_538⟩ := u_539
                replace hP : va_P D vwCl [(k, .inr (11, [.ref k0, .ref k1, .ref k2, .int c3, .ref k4, .ref k5, .ref k6, .ref k7, .ref k8, .int sc9_537, .ref ka, .ref kb, .int cc, .int cd, .int ce, .int cf, .int cg, .int ch, .int ci, .int cj, .int ck, .ref kl, .int cm, .int cn, .ref ko])), (k0, .inl (cI, 1201, .inl c0)), (k8, .inl (cI, 40, .inl sc8_538))] H := hP
                replace hD : va_D A [(k, .inr (11, [.ref k0, .ref k1, .ref k2, .int c3, .ref k4, .ref k5, .ref k6, .ref k7, .ref k8, .int sc9_537, .ref ka, .ref kb, .int cc, .int cd, .int ce, .int cf, .int cg, .int ch, .int ci, .int cj, .int ck, .ref kl, .int cm, .int cn, .ref ko])), (k0, .inl (cI, 1201, .inl c0)), (k8, .inl (cI, 40, .inl sc8_538))] := hD
                have lo_sc9_537 := k_lo sc9_537
                have hi_sc9_537 := k_hi sc9_537
                obtain ⟨h_540, h_541⟩ := w_536
                try simp only [zl_0, zl_3] at h_540
                have h_540 : 0 ≤ sc9_537.toInt := h_540
                try simp only [zl_0, zl_3] at h_541
                have h_541 : sc9_537.toInt ≤ 40 := h_541
                have lo_r_535 := k_lo r_535
                have hi_r_535 := k_hi r_535
                refine lv_iload_n hx hb dX11_speaks_361 rfl (lv_at hl 6 rfl) ?_
                refine lv_isub hx hb dX11_speaks_362 ?_
                refine lv_topi (fun v_542 ev_542 => ?_)
                have lo_v_542 := k_lo v_542
                have hi_v_542 := k_hi v_542
                exact hRet (sc9_537, sc8_538) [0, 1, 2] ⟨(by first | omega | decide | assumption | rfl | (dsimp only; first | omega)), (by first | omega | decide | assumption | rfl | (dsimp only; first | omega))⟩ hP hD (by decide +kernel) rfl hS rfl dX11_speaks_363
              · exfalso; omega
              · exfalso; omega
              · exfalso; omega
              · exfalso; omega
              · exfalso; omega
              · exfalso; omega
              · exfalso; omega
              · exfalso; omega
              · exfalso; omega
            · exfalso; omega
            · exfalso; omega
            · exfalso; omega
          · have h_25 : l3_5.toInt = 2 := h_25
            have h_26 : a2.toInt = 0 := h_26
            have h_27 : (bKi l3_5 a2).toInt = 30 := h_27
            obtain rfl : r_4 = 30 := hr_4.trans (by decide +kernel)
            refine b_if_ne hx hb zl_30 (tgt := 22) dX11_speaks_9 (by decide +kernel) (fun c_543 => ?_) (fun c_543 => by exfalso; omega)
            refine lv_aload_n hx hb dX11_speaks_22 rfl (lv_at hl 1 rfl) ?_
            refine lv_iload_n hx hb dX11_speaks_23 rfl (lv_at hl 2 rfl) ?_
            refine lv_iconst (v := 0) hx hb dX11_speaks_24 (by decide +kernel) ?_
            refine kJi (wr := [(k8, .inl (cI, 40, .inl c8))]) (va_runV (As := [.int a0, .int 0]) (rest := []) ⟨hx, hb, hml, hown, hT⟩ (c_X11_workG0 l D cI aK aV k k0 k1 k2 k4 k5 k6 k7 k8 ka kb kl ko H.size c3 c9 cc cd ce cf cg ch ci cj ck cm cn c0 a0 0 (by first | omega | (simp only [zl_0]; first | done | omega) | decide | assumption | rfl) (by first | omega | (simp only [zl_0]; first | done | omega) | decide | assumption | rfl) (by first | omega | (simp only [zl_0]; first | done | omega) | decide | assumption | rfl)) (cwV 2 hT (gV_in mw_1276 mw_1273 mw_1275 mw_p3_12 mw_12) rfl rfl rfl (by decide +kernel) ⟨(by dsimp only; omega), (by dsimp only; omega)⟩) (kRecvX (q0 := 0) (ci := 11) hK hP hD hN hXS hS hA rfl rfl [0, 1] rfl (by decide +kernel)) rfl rfl hl.1 rfl (lv_room (Nat.le_of_ble_eq_true rfl)) dX11_speaks_25 ⟨Nat.le_of_ble_eq_true rfl, Nat.le_of_ble_eq_true rfl⟩) hP hD hS hA [0, 1] [2] rfl rfl (by decide +kernel) (by decide +kernel) ?_
            clear hP hD hS
            intro r_544 u_546 H locs w_545 hP hD hS
            replace hP : va_P D vwCl [(k8, .inl (cI, 40, .inl c8)), (k, .inr (11, [.ref k0, .ref k1, .ref k2, .int c3, .ref k4, .ref k5, .ref k6, .ref k7, .ref k8, .int c9, .ref ka, .ref kb, .int cc, .int cd, .int ce, .int cf, .int cg, .int ch, .int ci, .int cj, .int ck, .ref kl, .int cm, .int cn, .ref ko])), (k0, .inl (cI, 1201, .inl c0))] H := hP
            replace hD : va_D A [(k8, .inl (cI, 40, .inl c8)), (k, .inr (11, [.ref k0, .ref k1, .ref k2, .int c3, .ref k4, .ref k5, .ref k6, .ref k7, .ref k8, .int c9, .ref ka, .ref kb, .int cc, .int cd, .int ce, .int cf, .int cg, .int ch, .int ci, .int cj, .int ck, .ref kl, .int cm, .int cn, .ref ko])), (k0, .inl (cI, 1201, .inl c0))] := hD
            have h_547 := w_545
            have h_547 : r_544 = wW c0 a0 0 := h_547
            have t_548 : r_544.toInt = (wW c0 a0 0).toInt := by rw [h_547]
            have b_549 : 0 ≤ r_544.toInt ∧ r_544.toInt ≤ 5 := by rw [h_547]; exact SB.w0 pre0 (by omega) (by omega)
            have lo_r_544 := k_lo r_544
            have hi_r_544 := k_hi r_544
            refine lv_istore (lv' := [(6, .int r_544), (5, .int l3_5), (0, .ref k), (1, .int a0), (2, .int a1), (3, .int a2), (4, .int a3)]) hx hb dX11_speaks_28 hl (by decide +kernel) rfl ?_
            clear hl
            intro ls hl
            refine lv_aload_n hx hb dX11_speaks_30 rfl (lv_at hl 2 rfl) ?_
            refine lv_iload_n hx hb dX11_speaks_31 rfl (lv_at hl 3 rfl) ?_
            refine lv_iconst (v := 2) hx hb dX11_speaks_32 (by decide +kernel) ?_
            refine kJi (wr := [(k8, .inl (cI, 40, .inl c8))]) (va_runV (As := [.int a0, .int 2]) (rest := []) ⟨hx, hb, hml, hown, hT⟩ (c_X11_workG2 l D cI aK aV k k0 k1 k2 k4 k5 k6 k7 k8 ka kb kl ko H.size c3 c9 cc cd ce cf cg ch ci cj ck cm cn c0 a0 2 (by first | omega | (simp only [zl_2]; first | done | omega) | decide | assumption | rfl) (by first | omega | (simp only [zl_2]; first | done | omega) | decide | assumption | rfl) (by first | omega | (simp only [zl_2]; first | done | omega) | decide | assumption | rfl)) (cwV 2 hT (gV_in mw_1276 mw_1273 mw_1275 mw_p3_12 mw_12) rfl rfl rfl (by decide +kernel) ⟨(by dsimp only; omega), (by dsimp only; omega)⟩) (kRecvX (q0 := 1) (ci := 11) hK hP hD hN hXS hS hA rfl rfl [1, 2] rfl (by decide +kernel)) rfl rfl hl.1 rfl (lv_room (Nat.le_of_ble_eq_true rfl)) dX11_speaks_33 ⟨Nat.le_of_ble_eq_true rfl, Nat.le_of_ble_eq_true rfl⟩) hP hD hS hA [1, 2] [0] rfl rfl (by decide +kernel) (by decide +kernel) ?_
            clear hP hD hS
            intro r_550 u_552 H locs w_551 hP hD hS
            replace hP : va_P D vwCl [(k8, .inl (cI, 40, .inl c8)), (k, .inr (11, [.ref k0, .ref k1, .ref k2, .int c3, .ref k4, .ref k5, .ref k6, .ref k7, .ref k8, .int c9, .ref ka, .ref kb, .int cc, .int cd, .int ce, .int cf, .int cg, .int ch, .int ci, .int cj, .int ck, .ref kl, .int cm, .int cn, .ref ko])), (k0, .inl (cI, 1201, .inl c0))] H := hP
            replace hD : va_D A [(k8, .inl (cI, 40, .inl c8)), (k, .inr (11, [.ref k0, .ref k1, .ref k2, .int c3, .ref k4, .ref k5, .ref k6, .ref k7, .ref k8, .int c9, .ref ka, .ref kb, .int cc, .int cd, .int ce, .int cf, .int cg, .int ch, .int ci, .int cj, .int ck, .ref kl, .int cm, .int cn, .ref ko])), (k0, .inl (cI, 1201, .inl c0))] := hD
            have h_553 := w_551
            have h_553 : r_550 = wW c0 a0 2 := h_553
            have t_554 : r_550.toInt = (wW c0 a0 2).toInt := by rw [h_553]
            have lo_r_550 := k_lo r_550
            have hi_r_550 := k_hi r_550
            refine lv_istore (lv' := [(7, .int r_550), (6, .int r_544), (5, .int l3_5), (0, .ref k), (1, .int a0), (2, .int a1), (3, .int a2), (4, .int a3)]) hx hb dX11_speaks_36 hl (by decide +kernel) rfl ?_
            clear hl
            intro ls hl
            refine lv_iload hx hb dX11_speaks_38 (lv_at hl 2 rfl) ?_
            refine kJi (wr := [(k8, .inl (cI, 40, .inl c8)), (k, .inr (11, [.ref k0, .ref k1, .ref k2, .int c3, .ref k4, .ref k5, .ref k6, .ref k7, .ref k8, .int c9, .ref ka, .ref kb, .int cc, .int cd, .int ce, .int cf, .int cg, .int ch, .int ci, .int cj, .int ck, .ref kl, .int cm, .int cn, .ref ko])), (k0, .inl (cI, 1201, .inl c0))]) (va_runS (As := [.int l3_5]) (rest := []) ⟨hx, hb, hml, hown, hT⟩ (c_X11_parentG l D cI aK aV H.size l3_5 (by first | omega | decide | assumption | rfl) (by first | omega | decide | assumption | rfl)) (cwS 1 hT (gS_in mw_1282 mw_1280 mw_1281 mw_12) rfl rfl rfl (by decide +kernel) ⟨(by dsimp only; omega), (by dsimp only; omega)⟩) (kStatX hK hP hD hN hXS hS hA [] rfl (by decide +kernel)) rfl rfl hl.1 rfl (lv_room (Nat.le_of_ble_eq_true rfl)) dX11_speaks_40 ⟨Nat.le_of_ble_eq_true rfl, Nat.le_of_ble_eq_true rfl⟩) hP hD hS hA [] [0, 1, 2] rfl rfl (by decide +kernel) (by decide +kernel) ?_
            clear hP hD hS
            intro r_555 u_557 H locs w_556 hP hD hS
            replace hP : va_P D vwCl [(k8, .inl (cI, 40, .inl c8)), (k, .inr (11, [.ref k0, .ref k1, .ref k2, .int c3, .ref k4, .ref k5, .ref k6, .ref k7, .ref k8, .int c9, .ref ka, .ref kb, .int cc, .int cd, .int ce, .int cf, .int cg, .int ch, .int ci, .int cj, .int ck, .ref kl, .int cm, .int cn, .ref ko])), (k0, .inl (cI, 1201, .inl c0))] H := hP
            replace hD : va_D A [(k8, .inl (cI, 40, .inl c8)), (k, .inr (11, [.ref k0, .ref k1, .ref k2, .int c3, .ref k4, .ref k5, .ref k6, .ref k7, .ref k8, .int c9, .ref ka, .ref kb, .int cc, .int cd, .int ce, .int cf, .int cg, .int ch, .int ci, .int cj, .int ck, .ref kl, .int cm, .int cn, .ref ko])), (k0, .inl (cI, 1201, .inl c0))] := hD
            rcases w_556 with ⟨hr_555, h_558⟩ | ⟨hr_555, h_559⟩ | ⟨hr_555, h_560⟩ | ⟨hr_555, h_561⟩ | ⟨hr_555, h_562⟩
            · exfalso; omega
            · exfalso; omega
            · have h_560 : l3_5.toInt = 2 := h_560
              obtain rfl : r_555 = 1 := hr_555.trans (by decide +kernel)
              refine lv_istore (lv' := [(8, .int 1), (7, .int r_550), (6, .int r_544), (5, .int l3_5), (0, .ref k), (1, .int a0), (2, .int a1), (3, .int a2), (4, .int a3)]) hx hb dX11_speaks_43 hl (by decide +kernel) rfl ?_
              clear hl
              intro ls hl
              refine lv_iload hx hb dX11_speaks_45 (lv_at hl 3 rfl) ?_
              refine lv_iload_n hx hb dX11_speaks_47 rfl (lv_at hl 7 rfl) ?_
              refine kJi (wr := [(k8, .inl (cI, 40, .inl c8)), (k, .inr (11, [.ref k0, .ref k1, .ref k2, .int c3, .ref k4, .ref k5, .ref k6, .ref k7, .ref k8, .int c9, .ref ka, .ref kb, .int cc, .int cd, .int ce, .int cf, .int cg, .int ch, .int ci, .int cj, .int ck, .ref kl, .int cm, .int cn, .ref ko])), (k0, .inl (cI, 1201, .inl c0))]) (va_runS (As := [.int l3_5, .int a2]) (rest := []) ⟨hx, hb, hml, hown, hT⟩ (c_X11_bodyOfG l D cI aK aV H.size l3_5 a2 (by first | omega | decide | assumption | rfl) (by first | omega | decide | assumption | rfl) (by first | omega | decide | assumption | rfl) (by first | omega | decide | assumption | rfl)) (cwS 2 hT (gS_in mw_1581 mw_1579 mw_1580 mw_12) rfl rfl rfl (by decide +kernel) ⟨(by dsimp only; omega), (by dsimp only; omega)⟩) (kStatX hK hP hD hN hXS hS hA [] rfl (by decide +kernel)) rfl rfl hl.1 rfl (lv_room (Nat.le_of_ble_eq_true rfl)) dX11_speaks_48 ⟨Nat.le_of_ble_eq_true rfl, Nat.le_of_ble_eq_true rfl⟩) hP hD hS hA [] [0, 1, 2] rfl rfl (by decide +kernel) (by decide +kernel) ?_
              clear hP hD hS
              intro r_563 u_565 H locs w_564 hP hD hS
              replace hP : va_P D vwCl [(k8, .inl (cI, 40, .inl c8)), (k, .inr (11, [.ref k0, .ref k1, .ref k2, .int c3, .ref k4, .ref k5, .ref k6, .ref k7, .ref k8, .int c9, .ref ka, .ref kb, .int cc, .int cd, .int ce, .int cf, .int cg, .int ch, .int ci, .int cj, .int ck, .ref kl, .int cm, .int cn, .ref ko])), (k0, .inl (cI, 1201, .inl c0))] H := hP
              replace hD : va_D A [(k8, .inl (cI, 40, .inl c8)), (k, .inr (11, [.ref k0, .ref k1, .ref k2, .int c3, .ref k4, .ref k5, .ref k6, .ref k7, .ref k8, .int c9, .ref ka, .ref kb, .int cc, .int cd, .int ce, .int cf, .int cg, .int ch, .int ci, .int cj, .int ck, .ref kl, .int cm, .int cn, .ref ko])), (k0, .inl (cI, 1201, .inl c0))] := hD
              rcases w_564 with ⟨hr_563, h_566, h_567, h_568⟩ | ⟨hr_563, h_569, h_570, h_571⟩ | ⟨hr_563, h_572, h_573, h_574⟩ | ⟨hr_563, h_575, h_576, h_577⟩ | ⟨hr_563, h_578, h_579, h_580⟩ | ⟨hr_563, h_581, h_582, h_583⟩ | ⟨hr_563, h_584, h_585, h_586⟩ | ⟨hr_563, h_587, h_588, h_589⟩ | ⟨hr_563, h_590, h_591, h_592⟩ | ⟨hr_563, h_593, h_594, h_595⟩ | ⟨hr_563, h_596, h_597, h_598⟩ | ⟨hr_563, h_599, h_600, h_601⟩ | ⟨hr_563, h_602, h_603, h_604⟩ | ⟨hr_563, h_605, h_606, h_607⟩ | ⟨hr_563, h_608, h_609⟩
              · exfalso; omega
              · exfalso; omega
              · exfalso; omega
              · exfalso; omega
              · exfalso; omega
              · exfalso; omega
              · have h_584 : l3_5.toInt = 2 := h_584
                have h_585 : a2.toInt = 0 := h_585
                have h_586 : (bKi l3_5 a2).toInt = 30 := h_586
                obtain rfl : r_563 = 30 := hr_563.trans (by decide +kernel)
                refine lv_istore (lv' := [(9, .int 30), (8, .int 1), (7, .int r_550), (6, .int r_544), (5, .int l3_5), (0, .ref k), (1, .int a0), (2, .int a1), (3, .int a2), (4, .int a3)]) hx hb dX11_speaks_51 hl (by decide +kernel) rfl ?_
                clear hl
                intro ls hl
                refine lv_aload_n hx hb dX11_speaks_53 rfl (lv_at hl 5 rfl) ?_
                refine lv_iload hx hb dX11_speaks_54 (lv_at hl 0 rfl) ?_
                refine kJv (wr := [(k0, .inl (cI, 1201, .inl c0))]) (va_runV (As := [.int 30]) (rest := []) ⟨hx, hb, hml, hown, hT⟩ (c_X11_ranG l D cI aK aV k k0 k1 k2 k4 k5 k6 k7 k8 ka kb kl ko H.size c3 c9 cc cd ce cf cg ch ci cj ck cm cn c8 30 (by first | omega | (simp only [zl_30]; first | done | omega) | decide | assumption | rfl) (by first | omega | (simp only [zl_30]; first | done | omega) | decide | assumption | rfl)) (cwV 1 hT (gV_in mw_1585 mw_1582 mw_1584 mw_p6_7 mw_12) rfl rfl rfl (by decide +kernel) ⟨(by dsimp only; omega), (by dsimp only; omega)⟩) (kRecvX (q0 := 1) (ci := 11) hK hP hD hN hXS hS hA rfl rfl [1, 0] rfl (by decide +kernel)) rfl rfl hl.1 rfl (lv_room (Nat.le_of_ble_eq_true rfl)) dX11_speaks_56 ⟨Nat.le_of_ble_eq_true rfl, Nat.le_of_ble_eq_true rfl⟩) hP hD hS hA [1, 0] [2] rfl rfl (by decide +kernel) (by decide +kernel) ?_
                clear hP hD hS
                intro u_614 H locs w_611 hP hD hS
                obtain ⟨sc9_612, sc8_613⟩ := u_614
                replace hP : va_P D vwCl [(k0, .inl (cI, 1201, .inl c0)), (k, .inr (11, [.ref k0, .ref k1, .ref k2, .int c3, .ref k4, .ref k5, .ref k6, .ref k7, .ref k8, .int sc9_612, .ref ka, .ref kb, .int cc, .int cd, .int ce, .int cf, .int cg, .int ch, .int ci, .int cj, .int ck, .ref kl, .int cm, .int cn, .ref ko])), (k8, .inl (cI, 40, .inl sc8_613))] H := hP
                replace hD : va_D A [(k0, .inl (cI, 1201, .inl c0)), (k, .inr (11, [.ref k0, .ref k1, .ref k2, .int c3, .ref k4, .ref k5, .ref k6, .ref k7, .ref k8, .int sc9_612, .ref ka, .ref kb, .int cc, .int cd, .int ce, .int cf, .int cg, .int ch, .int ci, .int cj, .int ck, .ref kl, .int cm, .int cn, .ref ko])), (k8, .inl (cI, 40, .inl sc8_613))] := hD
                have lo_sc9_612 := k_lo sc9_612
                have hi_sc9_612 := k_hi sc9_612
                obtain ⟨h_615, h_616⟩ := w_611
                try simp only [zl_30] at h_615
                have h_615 : 0 ≤ sc9_612.toInt := h_615
                try simp only [zl_30] at h_616
                have h_616 : sc9_612.toInt ≤ 40 := h_616
                refine lv_iload hx hb dX11_speaks_59 (lv_at hl 0 rfl) ?_
                refine lv_tableIn (off := 303) (tgt := 364) hx hb dX11_speaks_61 (by decide +kernel) (by decide +kernel) (by decide +kernel) (by decide +kernel) ?_
                refine lv_aload_n hx hb dX11_speaks_364 rfl (lv_at hl 5 rfl) ?_
                refine lv_iload_n hx hb dX11_speaks_365 rfl (lv_at hl 6 rfl) ?_
                refine lv_iload hx hb dX11_speaks_366 (lv_at hl 1 rfl) ?_
                refine lv_iconst (v := 0) hx hb dX11_speaks_368 (by decide +kernel) ?_
                refine lv_iload hx hb dX11_speaks_369 (lv_at hl 9 rfl) ?_
                refine kJi (wr := []) (va_runV (As := [.int a0, .int 1, .int 0, .int a3]) (rest := []) ⟨hx, hb, hml, hown, hT⟩ (ih l D cI aK aV k k0 k1 k2 k4 k5 k6 k7 k8 ka kb kl ko H.size c3 sc9_612 cc cd ce cf cg ch ci cj ck cm cn c0 sc8_613 a0 1 0 a3 pre0 (by first | omega | (simp only [zl_0, zl_1]; first | done | omega) | decide | assumption | rfl) (by first | omega | (simp only [zl_0, zl_1]; first | done | omega) | decide | assumption | rfl) (by first | omega | (simp only [zl_0, zl_1]; first | done | omega) | decide | assumption | rfl) (by first | omega | (simp only [zl_0, zl_1]; first | done | omega) | decide | assumption | rfl) (by first | omega | (simp only [zl_0, zl_1]; first | done | omega) | decide | assumption | rfl) (by first | omega | (simp only [zl_0, zl_1]; first | done | omega) | decide | assumption | rfl) (by first | omega | (simp only [zl_0, zl_1]; first | done | omega) | decide | assumption | rfl) (by first | omega | (simp only [zl_0, zl_1]; first | done | omega) | decide | assumption | rfl) (by first | omega | (simp only [zl_0, zl_1]; first | done | omega) | decide | assumption | rfl)) (cwV 4 hT (gV_in mw_1578 mw_1575 mw_1577 mw_p6_6 mw_12) rfl rfl rfl (by decide +kernel) ⟨(by dsimp only; omega), (by dsimp only; omega)⟩) (kRecvX (q0 := 1) (ci := 11) hK hP hD hN hXS hS hA rfl rfl [1, 0, 2] rfl (by decide +kernel)) rfl rfl hl.1 rfl (lv_room (Nat.le_of_ble_eq_true rfl)) dX11_speaks_371 ⟨Nat.le_of_ble_eq_true rfl, Nat.le_of_ble_eq_true rfl⟩) hP hD hS hA [1, 0, 2] [] rfl rfl (by decide +kernel) (by decide +kernel) ?_
                clear hP hD hS
                intro r_617 u_621 H locs w_618 hP hD hS
                obtain ⟨sc9_619, sc8_620⟩ := u_621
                replace hP : va_P D vwCl [(k, .inr (11, [.ref k0, .ref k1, .ref k2, .int c3, .ref k4, .ref k5, .ref k6, .ref k7, .ref k8, .int sc9_619, .ref ka, .ref kb, .int cc, .int cd, .int ce, .int cf, .int cg, .int ch, .int ci, .int cj, .int ck, .ref kl, .int cm, .int cn, .ref ko])), (k0, .inl (cI, 1201, .inl c0)), (k8, .inl (cI, 40, .inl sc8_620))] H := hP
                replace hD : va_D A [(k, .inr (11, [.ref k0, .ref k1, .ref k2, .int c3, .ref k4, .ref k5, .ref k6, .ref k7, .ref k8, .int sc9_619, .ref ka, .ref kb, .int cc, .int cd, .int ce, .int cf, .int cg, .int ch, .int ci, .int cj, .int ck, .ref kl, .int cm, .int cn, .ref ko])), (k0, .inl (cI, 1201, .inl c0)), (k8, .inl (cI, 40, .inl sc8_620))] := hD
                have lo_sc9_619 := k_lo sc9_619
                have hi_sc9_619 := k_hi sc9_619
                obtain ⟨h_622, h_623⟩ := w_618
                try simp only [zl_0, zl_1] at h_622
                have h_622 : 0 ≤ sc9_619.toInt := h_622
                try simp only [zl_0, zl_1] at h_623
                have h_623 : sc9_619.toInt ≤ 40 := h_623
                have lo_r_617 := k_lo r_617
                have hi_r_617 := k_hi r_617
                refine lv_iconst (v := 3) hx hb dX11_speaks_374 (by decide +kernel) ?_
                refine lv_imul hx hb dX11_speaks_375 ?_
                refine lv_topi (fun v_624 ev_624 => ?_)
                have lo_v_624 := k_lo v_624
                have hi_v_624 := k_hi v_624
                exact hRet (sc9_619, sc8_620) [0, 1, 2] ⟨(by first | omega | decide | assumption | rfl | (dsimp only; first | omega)), (by first | omega | decide | assumption | rfl | (dsimp only; first | omega))⟩ hP hD (by decide +kernel) rfl hS rfl dX11_speaks_376
              · exfalso; omega
              · exfalso; omega
              · exfalso; omega
              · exfalso; omega
              · exfalso; omega
              · exfalso; omega
              · exfalso; omega
              · exfalso; omega
            · exfalso; omega
            · exfalso; omega
          · have h_28 : l3_5.toInt = 2 := h_28
            have h_29 : a2.toInt = 2 := h_29
            have h_30 : (bKi l3_5 a2).toInt = 31 := h_30
            obtain rfl : r_4 = 31 := hr_4.trans (by decide +kernel)
            refine b_if_ne hx hb zl_31 (tgt := 22) dX11_speaks_9 (by decide +kernel) (fun c_625 => ?_) (fun c_625 => by exfalso; omega)
            refine lv_aload_n hx hb dX11_speaks_22 rfl (lv_at hl 1 rfl) ?_
            refine lv_iload_n hx hb dX11_speaks_23 rfl (lv_at hl 2 rfl) ?_
            refine lv_iconst (v := 0) hx hb dX11_speaks_24 (by decide +kernel) ?_
            refine kJi (wr := [(k8, .inl (cI, 40, .inl c8))]) (va_runV (As := [.int a0, .int 0]) (rest := []) ⟨hx, hb, hml, hown, hT⟩ (c_X11_workG0 l D cI aK aV k k0 k1 k2 k4 k5 k6 k7 k8 ka kb kl ko H.size c3 c9 cc cd ce cf cg ch ci cj ck cm cn c0 a0 0 (by first | omega | (simp only [zl_0]; first | done | omega) | decide | assumption | rfl) (by first | omega | (simp only [zl_0]; first | done | omega) | decide | assumption | rfl) (by first | omega | (simp only [zl_0]; first | done | omega) | decide | assumption | rfl)) (cwV 2 hT (gV_in mw_1276 mw_1273 mw_1275 mw_p3_12 mw_12) rfl rfl rfl (by decide +kernel) ⟨(by dsimp only; omega), (by dsimp only; omega)⟩) (kRecvX (q0 := 0) (ci := 11) hK hP hD hN hXS hS hA rfl rfl [0, 1] rfl (by decide +kernel)) rfl rfl hl.1 rfl (lv_room (Nat.le_of_ble_eq_true rfl)) dX11_speaks_25 ⟨Nat.le_of_ble_eq_true rfl, Nat.le_of_ble_eq_true rfl⟩) hP hD hS hA [0, 1] [2] rfl rfl (by decide +kernel) (by decide +kernel) ?_
            clear hP hD hS
            intro r_626 u_628 H locs w_627 hP hD hS
            replace hP : va_P D vwCl [(k8, .inl (cI, 40, .inl c8)), (k, .inr (11, [.ref k0, .ref k1, .ref k2, .int c3, .ref k4, .ref k5, .ref k6, .ref k7, .ref k8, .int c9, .ref ka, .ref kb, .int cc, .int cd, .int ce, .int cf, .int cg, .int ch, .int ci, .int cj, .int ck, .ref kl, .int cm, .int cn, .ref ko])), (k0, .inl (cI, 1201, .inl c0))] H := hP
            replace hD : va_D A [(k8, .inl (cI, 40, .inl c8)), (k, .inr (11, [.ref k0, .ref k1, .ref k2, .int c3, .ref k4, .ref k5, .ref k6, .ref k7, .ref k8, .int c9, .ref ka, .ref kb, .int cc, .int cd, .int ce, .int cf, .int cg, .int ch, .int ci, .int cj, .int ck, .ref kl, .int cm, .int cn, .ref ko])), (k0, .inl (cI, 1201, .inl c0))] := hD
            have h_629 := w_627
            have h_629 : r_626 = wW c0 a0 0 := h_629
            have t_630 : r_626.toInt = (wW c0 a0 0).toInt := by rw [h_629]
            have b_631 : 0 ≤ r_626.toInt ∧ r_626.toInt ≤ 5 := by rw [h_629]; exact SB.w0 pre0 (by omega) (by omega)
            have lo_r_626 := k_lo r_626
            have hi_r_626 := k_hi r_626
            refine lv_istore (lv' := [(6, .int r_626), (5, .int l3_5), (0, .ref k), (1, .int a0), (2, .int a1), (3, .int a2), (4, .int a3)]) hx hb dX11_speaks_28 hl (by decide +kernel) rfl ?_
            clear hl
            intro ls hl
            refine lv_aload_n hx hb dX11_speaks_30 rfl (lv_at hl 2 rfl) ?_
            refine lv_iload_n hx hb dX11_speaks_31 rfl (lv_at hl 3 rfl) ?_
            refine lv_iconst (v := 2) hx hb dX11_speaks_32 (by decide +kernel) ?_
            refine kJi (wr := [(k8, .inl (cI, 40, .inl c8))]) (va_runV (As := [.int a0, .int 2]) (rest := []) ⟨hx, hb, hml, hown, hT⟩ (c_X11_workG2 l D cI aK aV k k0 k1 k2 k4 k5 k6 k7 k8 ka kb kl ko H.size c3 c9 cc cd ce cf cg ch ci cj ck cm cn c0 a0 2 (by first | omega | (simp only [zl_2]; first | done | omega) | decide | assumption | rfl) (by first | omega | (simp only [zl_2]; first | done | omega) | decide | assumption | rfl) (by first | omega | (simp only [zl_2]; first | done | omega) | decide | assumption | rfl)) (cwV 2 hT (gV_in mw_1276 mw_1273 mw_1275 mw_p3_12 mw_12) rfl rfl rfl (by decide +kernel) ⟨(by dsimp only; omega), (by dsimp only; omega)⟩) (kRecvX (q0 := 1) (ci := 11) hK hP hD hN hXS hS hA rfl rfl [1, 2] rfl (by decide +kernel)) rfl rfl hl.1 rfl (lv_room (Nat.le_of_ble_eq_true rfl)) dX11_speaks_33 ⟨Nat.le_of_ble_eq_true rfl, Nat.le_of_ble_eq_true rfl⟩) hP hD hS hA [1, 2] [0] rfl rfl (by decide +kernel) (by decide +kernel) ?_
            clear hP hD hS
            intro r_632 u_634 H locs w_633 hP hD hS
            replace hP : va_P D vwCl [(k8, .inl (cI, 40, .inl c8)), (k, .inr (11, [.ref k0, .ref k1, .ref k2, .int c3, .ref k4, .ref k5, .ref k6, .ref k7, .ref k8, .int c9, .ref ka, .ref kb, .int cc, .int cd, .int ce, .int cf, .int cg, .int ch, .int ci, .int cj, .int ck, .ref kl, .int cm, .int cn, .ref ko])), (k0, .inl (cI, 1201, .inl c0))] H := hP
            replace hD : va_D A [(k8, .inl (cI, 40, .inl c8)), (k, .inr (11, [.ref k0, .ref k1, .ref k2, .int c3, .ref k4, .ref k5, .ref k6, .ref k7, .ref k8, .int c9, .ref ka, .ref kb, .int cc, .int cd, .int ce, .int cf, .int cg, .int ch, .int ci, .int cj, .int ck, .ref kl, .int cm, .int cn, .ref ko])), (k0, .inl (cI, 1201, .inl c0))] := hD
            have h_635 := w_633
            have h_635 : r_632 = wW c0 a0 2 := h_635
            have t_636 : r_632.toInt = (wW c0 a0 2).toInt := by rw [h_635]
            have lo_r_632 := k_lo r_632
            have hi_r_632 := k_hi r_632
            refine lv_istore (lv' := [(7, .int r_632), (6, .int r_626), (5, .int l3_5), (0, .ref k), (1, .int a0), (2, .int a1), (3, .int a2), (4, .int a3)]) hx hb dX11_speaks_36 hl (by decide +kernel) rfl ?_
            clear hl
            intro ls hl
            refine lv_iload hx hb dX11_speaks_38 (lv_at hl 2 rfl) ?_
            refine kJi (wr := [(k8, .inl (cI, 40, .inl c8)), (k, .inr (11, [.ref k0, .ref k1, .ref k2, .int c3, .ref k4, .ref k5, .ref k6, .ref k7, .ref k8, .int c9, .ref ka, .ref kb, .int cc, .int cd, .int ce, .int cf, .int cg, .int ch, .int ci, .int cj, .int ck, .ref kl, .int cm, .int cn, .ref ko])), (k0, .inl (cI, 1201, .inl c0))]) (va_runS (As := [.int l3_5]) (rest := []) ⟨hx, hb, hml, hown, hT⟩ (c_X11_parentG l D cI aK aV H.size l3_5 (by first | omega | decide | assumption | rfl) (by first | omega | decide | assumption | rfl)) (cwS 1 hT (gS_in mw_1282 mw_1280 mw_1281 mw_12) rfl rfl rfl (by decide +kernel) ⟨(by dsimp only; omega), (by dsimp only; omega)⟩) (kStatX hK hP hD hN hXS hS hA [] rfl (by decide +kernel)) rfl rfl hl.1 rfl (lv_room (Nat.le_of_ble_eq_true rfl)) dX11_speaks_40 ⟨Nat.le_of_ble_eq_true rfl, Nat.le_of_ble_eq_true rfl⟩) hP hD hS hA [] [0, 1, 2] rfl rfl (by decide +kernel) (by decide +kernel) ?_
            clear hP hD hS
            intro r_637 u_639 H locs w_638 hP hD hS
            replace hP : va_P D vwCl [(k8, .inl (cI, 40, .inl c8)), (k, .inr (11, [.ref k0, .ref k1, .ref k2, .int c3, .ref k4, .ref k5, .ref k6, .ref k7, .ref k8, .int c9, .ref ka, .ref kb, .int cc, .int cd, .int ce, .int cf, .int cg, .int ch, .int ci, .int cj, .int ck, .ref kl, .int cm, .int cn, .ref ko])), (k0, .inl (cI, 1201, .inl c0))] H := hP
            replace hD : va_D A [(k8, .inl (cI, 40, .inl c8)), (k, .inr (11, [.ref k0, .ref k1, .ref k2, .int c3, .ref k4, .ref k5, .ref k6, .ref k7, .ref k8, .int c9, .ref ka, .ref kb, .int cc, .int cd, .int ce, .int cf, .int cg, .int ch, .int ci, .int cj, .int ck, .ref kl, .int cm, .int cn, .ref ko])), (k0, .inl (cI, 1201, .inl c0))] := hD
            rcases w_638 with ⟨hr_637, h_640⟩ | ⟨hr_637, h_641⟩ | ⟨hr_637, h_642⟩ | ⟨hr_637, h_643⟩ | ⟨hr_637, h_644⟩
            · exfalso; omega
            · exfalso; omega
            · have h_642 : l3_5.toInt = 2 := h_642
              obtain rfl : r_637 = 1 := hr_637.trans (by decide +kernel)
              refine lv_istore (lv' := [(8, .int 1), (7, .int r_632), (6, .int r_626), (5, .int l3_5), (0, .ref k), (1, .int a0), (2, .int a1), (3, .int a2), (4, .int a3)]) hx hb dX11_speaks_43 hl (by decide +kernel) rfl ?_
              clear hl
              intro ls hl
              refine lv_iload hx hb dX11_speaks_45 (lv_at hl 3 rfl) ?_
              refine lv_iload_n hx hb dX11_speaks_47 rfl (lv_at hl 7 rfl) ?_
              refine kJi (wr := [(k8, .inl (cI, 40, .inl c8)), (k, .inr (11, [.ref k0, .ref k1, .ref k2, .int c3, .ref k4, .ref k5, .ref k6, .ref k7, .ref k8, .int c9, .ref ka, .ref kb, .int cc, .int cd, .int ce, .int cf, .int cg, .int ch, .int ci, .int cj, .int ck, .ref kl, .int cm, .int cn, .ref ko])), (k0, .inl (cI, 1201, .inl c0))]) (va_runS (As := [.int l3_5, .int a2]) (rest := []) ⟨hx, hb, hml, hown, hT⟩ (c_X11_bodyOfG l D cI aK aV H.size l3_5 a2 (by first | omega | decide | assumption | rfl) (by first | omega | decide | assumption | rfl) (by first | omega | decide | assumption | rfl) (by first | omega | decide | assumption | rfl)) (cwS 2 hT (gS_in mw_1581 mw_1579 mw_1580 mw_12) rfl rfl rfl (by decide +kernel) ⟨(by dsimp only; omega), (by dsimp only; omega)⟩) (kStatX hK hP hD hN hXS hS hA [] rfl (by decide +kernel)) rfl rfl hl.1 rfl (lv_room (Nat.le_of_ble_eq_true rfl)) dX11_speaks_48 ⟨Nat.le_of_ble_eq_true rfl, Nat.le_of_ble_eq_true rfl⟩) hP hD hS hA [] [0, 1, 2] rfl rfl (by decide +kernel) (by decide +kernel) ?_
              clear hP hD hS
              intro r_645 u_647 H locs w_646 hP hD hS
              replace hP : va_P D vwCl [(k8, .inl (cI, 40, .inl c8)), (k, .inr (11, [.ref k0, .ref k1, .ref k2, .int c3, .ref k4, .ref k5, .ref k6, .ref k7, .ref k8, .int c9, .ref ka, .ref kb, .int cc, .int cd, .int ce, .int cf, .int cg, .int ch, .int ci, .int cj, .int ck, .ref kl, .int cm, .int cn, .ref ko])), (k0, .inl (cI, 1201, .inl c0))] H := hP
              replace hD : va_D A [(k8, .inl (cI, 40, .inl c8)), (k, .inr (11, [.ref k0, .ref k1, .ref k2, .int c3, .ref k4, .ref k5, .ref k6, .ref k7, .ref k8, .int c9, .ref ka, .ref kb, .int cc, .int cd, .int ce, .int cf, .int cg, .int ch, .int ci, .int cj, .int ck, .ref kl, .int cm, .int cn, .ref ko])), (k0, .inl (cI, 1201, .inl c0))] := hD
              rcases w_646 with ⟨hr_645, h_648, h_649, h_650⟩ | ⟨hr_645, h_651, h_652, h_653⟩ | ⟨hr_645, h_654, h_655, h_656⟩ | ⟨hr_645, h_657, h_658, h_659⟩ | ⟨hr_645, h_660, h_661, h_662⟩ | ⟨hr_645, h_663, h_664, h_665⟩ | ⟨hr_645, h_666, h_667, h_668⟩ | ⟨hr_645, h_669, h_670, h_671⟩ | ⟨hr_645, h_672, h_673, h_674⟩ | ⟨hr_645, h_675, h_676, h_677⟩ | ⟨hr_645, h_678, h_679, h_680⟩ | ⟨hr_645, h_681, h_682, h_683⟩ | ⟨hr_645, h_684, h_685, h_686⟩ | ⟨hr_645, h_687, h_688, h_689⟩ | ⟨hr_645, h_690, h_691⟩
              · exfalso; omega
              · exfalso; omega
              · exfalso; omega
              · exfalso; omega
              · exfalso; omega
              · exfalso; omega
              · exfalso; omega
              · have h_669 : l3_5.toInt = 2 := h_669
                have h_670 : a2.toInt = 2 := h_670
                have h_671 : (bKi l3_5 a2).toInt = 31 := h_671
                obtain rfl : r_645 = 31 := hr_645.trans (by decide +kernel)
                refine lv_istore (lv' := [(9, .int 31), (8, .int 1), (7, .int r_632), (6, .int r_626), (5, .int l3_5), (0, .ref k), (1, .int a0), (2, .int a1), (3, .int a2), (4, .int a3)]) hx hb dX11_speaks_51 hl (by decide +kernel) rfl ?_
                clear hl
                intro ls hl
                refine lv_aload_n hx hb dX11_speaks_53 rfl (lv_at hl 5 rfl) ?_
                refine lv_iload hx hb dX11_speaks_54 (lv_at hl 0 rfl) ?_
                refine kJv (wr := [(k0, .inl (cI, 1201, .inl c0))]) (va_runV (As := [.int 31]) (rest := []) ⟨hx, hb, hml, hown, hT⟩ (c_X11_ranG l D cI aK aV k k0 k1 k2 k4 k5 k6 k7 k8 ka kb kl ko H.size c3 c9 cc cd ce cf cg ch ci cj ck cm cn c8 31 (by first | omega | (simp only [zl_31]; first | done | omega) | decide | assumption | rfl) (by first | omega | (simp only [zl_31]; first | done | omega) | decide | assumption | rfl)) (cwV 1 hT (gV_in mw_1585 mw_1582 mw_1584 mw_p6_7 mw_12) rfl rfl rfl (by decide +kernel) ⟨(by dsimp only; omega), (by dsimp only; omega)⟩) (kRecvX (q0 := 1) (ci := 11) hK hP hD hN hXS hS hA rfl rfl [1, 0] rfl (by decide +kernel)) rfl rfl hl.1 rfl (lv_room (Nat.le_of_ble_eq_true rfl)) dX11_speaks_56 ⟨Nat.le_of_ble_eq_true rfl, Nat.le_of_ble_eq_true rfl⟩) hP hD hS hA [1, 0] [2] rfl rfl (by decide +kernel) (by decide +kernel) ?_
                clear hP hD hS
                intro u_696 H locs w_693 hP hD hS
                obtain ⟨sc9_694, sc8_695⟩ := u_696
                replace hP : va_P D vwCl [(k0, .inl (cI, 1201, .inl c0)), (k, .inr (11, [.ref k0, .ref k1, .ref k2, .int c3, .ref k4, .ref k5, .ref k6, .ref k7, .ref k8, .int sc9_694, .ref ka, .ref kb, .int cc, .int cd, .int ce, .int cf, .int cg, .int ch, .int ci, .int cj, .int ck, .ref kl, .int cm, .int cn, .ref ko])), (k8, .inl (cI, 40, .inl sc8_695))] H := hP
                replace hD : va_D A [(k0, .inl (cI, 1201, .inl c0)), (k, .inr (11, [.ref k0, .ref k1, .ref k2, .int c3, .ref k4, .ref k5, .ref k6, .ref k7, .ref k8, .int sc9_694, .ref ka, .ref kb, .int cc, .int cd, .int ce, .int cf, .int cg, .int ch, .int ci, .int cj, .int ck, .ref kl, .int cm, .int cn, .ref ko])), (k8, .inl (cI, 40, .inl sc8_695))] := hD
                have lo_sc9_694 := k_lo sc9_694
                have hi_sc9_694 := k_hi sc9_694
                obtain ⟨h_697, h_698⟩ := w_693
                try simp only [zl_31] at h_697
                have h_697 : 0 ≤ sc9_694.toInt := h_697
                try simp only [zl_31] at h_698
                have h_698 : sc9_694.toInt ≤ 40 := h_698
                refine lv_iload hx hb dX11_speaks_59 (lv_at hl 0 rfl) ?_
                refine lv_tableIn (off := 316) (tgt := 377) hx hb dX11_speaks_61 (by decide +kernel) (by decide +kernel) (by decide +kernel) (by decide +kernel) ?_
                refine lv_aload_n hx hb dX11_speaks_377 rfl (lv_at hl 5 rfl) ?_
                refine lv_iload_n hx hb dX11_speaks_378 rfl (lv_at hl 6 rfl) ?_
                refine lv_iload hx hb dX11_speaks_379 (lv_at hl 1 rfl) ?_
                refine lv_iconst (v := 2) hx hb dX11_speaks_381 (by decide +kernel) ?_
                refine lv_iload hx hb dX11_speaks_382 (lv_at hl 9 rfl) ?_
                refine kJi (wr := []) (va_runV (As := [.int a0, .int 1, .int 2, .int a3]) (rest := []) ⟨hx, hb, hml, hown, hT⟩ (ih l D cI aK aV k k0 k1 k2 k4 k5 k6 k7 k8 ka kb kl ko H.size c3 sc9_694 cc cd ce cf cg ch ci cj ck cm cn c0 sc8_695 a0 1 2 a3 pre0 (by first | omega | (simp only [zl_1, zl_2]; first | done | omega) | decide | assumption | rfl) (by first | omega | (simp only [zl_1, zl_2]; first | done | omega) | decide | assumption | rfl) (by first | omega | (simp only [zl_1, zl_2]; first | done | omega) | decide | assumption | rfl) (by first | omega | (simp only [zl_1, zl_2]; first | done | omega) | decide | assumption | rfl) (by first | omega | (simp only [zl_1, zl_2]; first | done | omega) | decide | assumption | rfl) (by first | omega | (simp only [zl_1, zl_2]; first | done | omega) | decide | assumption | rfl) (by first | omega | (simp only [zl_1, zl_2]; first | done | omega) | decide | assumption | rfl) (by first | omega | (simp only [zl_1, zl_2]; first | done | omega) | decide | assumption | rfl) (by first | omega | (simp only [zl_1, zl_2]; first | done | omega) | decide | assumption | rfl)) (cwV 4 hT (gV_in mw_1578 mw_1575 mw_1577 mw_p6_6 mw_12) rfl rfl rfl (by decide +kernel) ⟨(by dsimp only; omega), (by dsimp only; omega)⟩) (kRecvX (q0 := 1) (ci := 11) hK hP hD hN hXS hS hA rfl rfl [1, 0, 2] rfl (by decide +kernel)) rfl rfl hl.1 rfl (lv_room (Nat.le_of_ble_eq_true rfl)) dX11_speaks_384 ⟨Nat.le_of_ble_eq_true rfl, Nat.le_of_ble_eq_true rfl⟩) hP hD hS hA [1, 0, 2] [] rfl rfl (by decide +kernel) (by decide +kernel) ?_
                clear hP hD hS
                intro r_699 u_703 H locs w_700 hP hD hS
                obtain ⟨sc9_701, sc8_702⟩ := u_703
                replace hP : va_P D vwCl [(k, .inr (11, [.ref k0, .ref k1, .ref k2, .int c3, .ref k4, .ref k5, .ref k6, .ref k7, .ref k8, .int sc9_701, .ref ka, .ref kb, .int cc, .int cd, .int ce, .int cf, .int cg, .int ch, .int ci, .int cj, .int ck, .ref kl, .int cm, .int cn, .ref ko])), (k0, .inl (cI, 1201, .inl c0)), (k8, .inl (cI, 40, .inl sc8_702))] H := hP
                replace hD : va_D A [(k, .inr (11, [.ref k0, .ref k1, .ref k2, .int c3, .ref k4, .ref k5, .ref k6, .ref k7, .ref k8, .int sc9_701, .ref ka, .ref kb, .int cc, .int cd, .int ce, .int cf, .int cg, .int ch, .int ci, .int cj, .int ck, .ref kl, .int cm, .int cn, .ref ko])), (k0, .inl (cI, 1201, .inl c0)), (k8, .inl (cI, 40, .inl sc8_702))] := hD
                have lo_sc9_701 := k_lo sc9_701
                have hi_sc9_701 := k_hi sc9_701
                obtain ⟨h_704, h_705⟩ := w_700
                try simp only [zl_1, zl_2] at h_704
                have h_704 : 0 ≤ sc9_701.toInt := h_704
                try simp only [zl_1, zl_2] at h_705
                have h_705 : sc9_701.toInt ≤ 40 := h_705
                have lo_r_699 := k_lo r_699
                have hi_r_699 := k_hi r_699
                refine lv_ineg hx hb dX11_speaks_387 ?_
                refine lv_topi (fun v_706 ev_706 => ?_)
                have lo_v_706 := k_lo v_706
                have hi_v_706 := k_hi v_706
                exact hRet (sc9_701, sc8_702) [0, 1, 2] ⟨(by first | omega | decide | assumption | rfl | (dsimp only; first | omega)), (by first | omega | decide | assumption | rfl | (dsimp only; first | omega))⟩ hP hD (by decide +kernel) rfl hS rfl dX11_speaks_388
              · exfalso; omega
              · exfalso; omega
              · exfalso; omega
              · exfalso; omega
              · exfalso; omega
              · exfalso; omega
              · exfalso; omega
            · exfalso; omega
            · exfalso; omega
          · have h_31 : l3_5.toInt = 3 := h_31
            have h_32 : a2.toInt = 2 := h_32
            have h_33 : (bKi l3_5 a2).toInt = 40 := h_33
            obtain rfl : r_4 = 40 := hr_4.trans (by decide +kernel)
            refine b_if_ne hx hb zl_40 (tgt := 22) dX11_speaks_9 (by decide +kernel) (fun c_707 => ?_) (fun c_707 => by exfalso; omega)
            refine lv_aload_n hx hb dX11_speaks_22 rfl (lv_at hl 1 rfl) ?_
            refine lv_iload_n hx hb dX11_speaks_23 rfl (lv_at hl 2 rfl) ?_
            refine lv_iconst (v := 0) hx hb dX11_speaks_24 (by decide +kernel) ?_
            refine kJi (wr := [(k8, .inl (cI, 40, .inl c8))]) (va_runV (As := [.int a0, .int 0]) (rest := []) ⟨hx, hb, hml, hown, hT⟩ (c_X11_workG0 l D cI aK aV k k0 k1 k2 k4 k5 k6 k7 k8 ka kb kl ko H.size c3 c9 cc cd ce cf cg ch ci cj ck cm cn c0 a0 0 (by first | omega | (simp only [zl_0]; first | done | omega) | decide | assumption | rfl) (by first | omega | (simp only [zl_0]; first | done | omega) | decide | assumption | rfl) (by first | omega | (simp only [zl_0]; first | done | omega) | decide | assumption | rfl)) (cwV 2 hT (gV_in mw_1276 mw_1273 mw_1275 mw_p3_12 mw_12) rfl rfl rfl (by decide +kernel) ⟨(by dsimp only; omega), (by dsimp only; omega)⟩) (kRecvX (q0 := 0) (ci := 11) hK hP hD hN hXS hS hA rfl rfl [0, 1] rfl (by decide +kernel)) rfl rfl hl.1 rfl (lv_room (Nat.le_of_ble_eq_true rfl)) dX11_speaks_25 ⟨Nat.le_of_ble_eq_true rfl, Nat.le_of_ble_eq_true rfl⟩) hP hD hS hA [0, 1] [2] rfl rfl (by decide +kernel) (by decide +kernel) ?_
            clear hP hD hS
            intro r_708 u_710 H locs w_709 hP hD hS
            replace hP : va_P D vwCl [(k8, .inl (cI, 40, .inl c8)), (k, .inr (11, [.ref k0, .ref k1, .ref k2, .int c3, .ref k4, .ref k5, .ref k6, .ref k7, .ref k8, .int c9, .ref ka, .ref kb, .int cc, .int cd, .int ce, .int cf, .int cg, .int ch, .int ci, .int cj, .int ck, .ref kl, .int cm, .int cn, .ref ko])), (k0, .inl (cI, 1201, .inl c0))] H := hP
            replace hD : va_D A [(k8, .inl (cI, 40, .inl c8)), (k, .inr (11, [.ref k0, .ref k1, .ref k2, .int c3, .ref k4, .ref k5, .ref k6, .ref k7, .ref k8, .int c9, .ref ka, .ref kb, .int cc, .int cd, .int ce, .int cf, .int cg, .int ch, .int ci, .int cj, .int ck, .ref kl, .int cm, .int cn, .ref ko])), (k0, .inl (cI, 1201, .inl c0))] := hD
            have h_711 := w_709
            have h_711 : r_708 = wW c0 a0 0 := h_711
            have t_712 : r_708.toInt = (wW c0 a0 0).toInt := by rw [h_711]
            have b_713 : 0 ≤ r_708.toInt ∧ r_708.toInt ≤ 5 := by rw [h_711]; exact SB.w0 pre0 (by omega) (by omega)
            have lo_r_708 := k_lo r_708
            have hi_r_708 := k_hi r_708
            refine lv_istore (lv' := [(6, .int r_708), (5, .int l3_5), (0, .ref k), (1, .int a0), (2, .int a1), (3, .int a2), (4, .int a3)]) hx hb dX11_speaks_28 hl (by decide +kernel) rfl ?_
            clear hl
            intro ls hl
            refine lv_aload_n hx hb dX11_speaks_30 rfl (lv_at hl 2 rfl) ?_
            refine lv_iload_n hx hb dX11_speaks_31 rfl (lv_at hl 3 rfl) ?_
            refine lv_iconst (v := 2) hx hb dX11_speaks_32 (by decide +kernel) ?_
            refine kJi (wr := [(k8, .inl (cI, 40, .inl c8))]) (va_runV (As := [.int a0, .int 2]) (rest := []) ⟨hx, hb, hml, hown, hT⟩ (c_X11_workG2 l D cI aK aV k k0 k1 k2 k4 k5 k6 k7 k8 ka kb kl ko H.size c3 c9 cc cd ce cf cg ch ci cj ck cm cn c0 a0 2 (by first | omega | (simp only [zl_2]; first | done | omega) | decide | assumption | rfl) (by first | omega | (simp only [zl_2]; first | done | omega) | decide | assumption | rfl) (by first | omega | (simp only [zl_2]; first | done | omega) | decide | assumption | rfl)) (cwV 2 hT (gV_in mw_1276 mw_1273 mw_1275 mw_p3_12 mw_12) rfl rfl rfl (by decide +kernel) ⟨(by dsimp only; omega), (by dsimp only; omega)⟩) (kRecvX (q0 := 1) (ci := 11) hK hP hD hN hXS hS hA rfl rfl [1, 2] rfl (by decide +kernel)) rfl rfl hl.1 rfl (lv_room (Nat.le_of_ble_eq_true rfl)) dX11_speaks_33 ⟨Nat.le_of_ble_eq_true rfl, Nat.le_of_ble_eq_true rfl⟩) hP hD hS hA [1, 2] [0] rfl rfl (by decide +kernel) (by decide +kernel) ?_
            clear hP hD hS
            intro r_714 u_716 H locs w_715 hP hD hS
            replace hP : va_P D vwCl [(k8, .inl (cI, 40, .inl c8)), (k, .inr (11, [.ref k0, .ref k1, .ref k2, .int c3, .ref k4, .ref k5, .ref k6, .ref k7, .ref k8, .int c9, .ref ka, .ref kb, .int cc, .int cd, .int ce, .int cf, .int cg, .int ch, .int ci, .int cj, .int ck, .ref kl, .int cm, .int cn, .ref ko])), (k0, .inl (cI, 1201, .inl c0))] H := hP
            replace hD : va_D A [(k8, .inl (cI, 40, .inl c8)), (k, .inr (11, [.ref k0, .ref k1, .ref k2, .int c3, .ref k4, .ref k5, .ref k6, .ref k7, .ref k8, .int c9, .ref ka, .ref kb, .int cc, .int cd, .int ce, .int cf, .int cg, .int ch, .int ci, .int cj, .int ck, .ref kl, .int cm, .int cn, .ref ko])), (k0, .inl (cI, 1201, .inl c0))] := hD
            have h_717 := w_715
            have h_717 : r_714 = wW c0 a0 2 := h_717
            have t_718 : r_714.toInt = (wW c0 a0 2).toInt := by rw [h_717]
            have lo_r_714 := k_lo r_714
            have hi_r_714 := k_hi r_714
            refine lv_istore (lv' := [(7, .int r_714), (6, .int r_708), (5, .int l3_5), (0, .ref k), (1, .int a0), (2, .int a1), (3, .int a2), (4, .int a3)]) hx hb dX11_speaks_36 hl (by decide +kernel) rfl ?_
            clear hl
            intro ls hl
            refine lv_iload hx hb dX11_speaks_38 (lv_at hl 2 rfl) ?_
            refine kJi (wr := [(k8, .inl (cI, 40, .inl c8)), (k, .inr (11, [.ref k0, .ref k1, .ref k2, .int c3, .ref k4, .ref k5, .ref k6, .ref k7, .ref k8, .int c9, .ref ka, .ref kb, .int cc, .int cd, .int ce, .int cf, .int cg, .int ch, .int ci, .int cj, .int ck, .ref kl, .int cm, .int cn, .ref ko])), (k0, .inl (cI, 1201, .inl c0))]) (va_runS (As := [.int l3_5]) (rest := []) ⟨hx, hb, hml, hown, hT⟩ (c_X11_parentG l D cI aK aV H.size l3_5 (by first | omega | decide | assumption | rfl) (by first | omega | decide | assumption | rfl)) (cwS 1 hT (gS_in mw_1282 mw_1280 mw_1281 mw_12) rfl rfl rfl (by decide +kernel) ⟨(by dsimp only; omega), (by dsimp only; omega)⟩) (kStatX hK hP hD hN hXS hS hA [] rfl (by decide +kernel)) rfl rfl hl.1 rfl (lv_room (Nat.le_of_ble_eq_true rfl)) dX11_speaks_40 ⟨Nat.le_of_ble_eq_true rfl, Nat.le_of_ble_eq_true rfl⟩) hP hD hS hA [] [0, 1, 2] rfl rfl (by decide +kernel) (by decide +kernel) ?_
            clear hP hD hS
            intro r_719 u_721 H locs w_720 hP hD hS
            replace hP : va_P D vwCl [(k8, .inl (cI, 40, .inl c8)), (k, .inr (11, [.ref k0, .ref k1, .ref k2, .int c3, .ref k4, .ref k5, .ref k6, .ref k7, .ref k8, .int c9, .ref ka, .ref kb, .int cc, .int cd, .int ce, .int cf, .int cg, .int ch, .int ci, .int cj, .int ck, .ref kl, .int cm, .int cn, .ref ko])), (k0, .inl (cI, 1201, .inl c0))] H := hP
            replace hD : va_D A [(k8, .inl (cI, 40, .inl c8)), (k, .inr (11, [.ref k0, .ref k1, .ref k2, .int c3, .ref k4, .ref k5, .ref k6, .ref k7, .ref k8, .int c9, .ref ka, .ref kb, .int cc, .int cd, .int ce, .int cf, .int cg, .int ch, .int ci, .int cj, .int ck, .ref kl, .int cm, .int cn, .ref ko])), (k0, .inl (cI, 1201, .inl c0))] := hD
            rcases w_720 with ⟨hr_719, h_722⟩ | ⟨hr_719, h_723⟩ | ⟨hr_719, h_724⟩ | ⟨hr_719, h_725⟩ | ⟨hr_719, h_726⟩
            · exfalso; omega
            · exfalso; omega
            · exfalso; omega
            · have h_725 : l3_5.toInt = 3 := h_725
              obtain rfl : r_719 = 2 := hr_719.trans (by decide +kernel)
              refine lv_istore (lv' := [(8, .int 2), (7, .int r_714), (6, .int r_708), (5, .int l3_5), (0, .ref k), (1, .int a0), (2, .int a1), (3, .int a2), (4, .int a3)]) hx hb dX11_speaks_43 hl (by decide +kernel) rfl ?_
              clear hl
              intro ls hl
              refine lv_iload hx hb dX11_speaks_45 (lv_at hl 3 rfl) ?_
              refine lv_iload_n hx hb dX11_speaks_47 rfl (lv_at hl 7 rfl) ?_
              refine kJi (wr := [(k8, .inl (cI, 40, .inl c8)), (k, .inr (11, [.ref k0, .ref k1, .ref k2, .int c3, .ref k4, .ref k5, .ref k6, .ref k7, .ref k8, .int c9, .ref ka, .ref kb, .int cc, .int cd, .int ce, .int cf, .int cg, .int ch, .int ci, .int cj, .int ck, .ref kl, .int cm, .int cn, .ref ko])), (k0, .inl (cI, 1201, .inl c0))]) (va_runS (As := [.int l3_5, .int a2]) (rest := []) ⟨hx, hb, hml, hown, hT⟩ (c_X11_bodyOfG l D cI aK aV H.size l3_5 a2 (by first | omega | decide | assumption | rfl) (by first | omega | decide | assumption | rfl) (by first | omega | decide | assumption | rfl) (by first | omega | decide | assumption | rfl)) (cwS 2 hT (gS_in mw_1581 mw_1579 mw_1580 mw_12) rfl rfl rfl (by decide +kernel) ⟨(by dsimp only; omega), (by dsimp only; omega)⟩) (kStatX hK hP hD hN hXS hS hA [] rfl (by decide +kernel)) rfl rfl hl.1 rfl (lv_room (Nat.le_of_ble_eq_true rfl)) dX11_speaks_48 ⟨Nat.le_of_ble_eq_true rfl, Nat.le_of_ble_eq_true rfl⟩) hP hD hS hA [] [0, 1, 2] rfl rfl (by decide +kernel) (by decide +kernel) ?_
              clear hP hD hS
              intro r_727 u_729 H locs w_728 hP hD hS
              replace hP : va_P D vwCl [(k8, .inl (cI, 40, .inl c8)), (k, .inr (11, [.ref k0, .ref k1, .ref k2, .int c3, .ref k4, .ref k5, .ref k6, .ref k7, .ref k8, .int c9, .ref ka, .ref kb, .int cc, .int cd, .int ce, .int cf, .int cg, .int ch, .int ci, .int cj, .int ck, .ref kl, .int cm, .int cn, .ref ko])), (k0, .inl (cI, 1201, .inl c0))] H := hP
              replace hD : va_D A [(k8, .inl (cI, 40, .inl c8)), (k, .inr (11, [.ref k0, .ref k1, .ref k2, .int c3, .ref k4, .ref k5, .ref k6, .ref k7, .ref k8, .int c9, .ref ka, .ref kb, .int cc, .int cd, .int ce, .int cf, .int cg, .int ch, .int ci, .int cj, .int ck, .ref kl, .int cm, .int cn, .ref ko])), (k0, .inl (cI, 1201, .inl c0))] := hD
              rcases w_728 with ⟨hr_727, h_730, h_731, h_732⟩ | ⟨hr_727, h_733, h_734, h_735⟩ | ⟨hr_727, h_736, h_737, h_738⟩ | ⟨hr_727, h_739, h_740, h_741⟩ | ⟨hr_727, h_742, h_743, h_744⟩ | ⟨hr_727, h_745, h_746, h_747⟩ | ⟨hr_727, h_748, h_749, h_750⟩ | ⟨hr_727, h_751, h_752, h_753⟩ | ⟨hr_727, h_754, h_755, h_756⟩ | ⟨hr_727, h_757, h_758, h_759⟩ | ⟨hr_727, h_760, h_761, h_762⟩ | ⟨hr_727, h_763, h_764, h_765⟩ | ⟨hr_727, h_766, h_767, h_768⟩ | ⟨hr_727, h_769, h_770, h_771⟩ | ⟨hr_727, h_772, h_773⟩
              · exfalso; omega
              · exfalso; omega
              · exfalso; omega
              · exfalso; omega
              · exfalso; omega
              · exfalso; omega
              · exfalso; omega
              · exfalso; omega
              · have h_754 : l3_5.toInt = 3 := h_754
                have h_755 : a2.toInt = 2 := h_755
                have h_756 : (bKi l3_5 a2).toInt = 40 := h_756
                obtain rfl : r_727 = 40 := hr_727.trans (by decide +kernel)
                refine lv_istore (lv' := [(9, .int 40), (8, .int 2), (7, .int r_714), (6, .int r_708), (5, .int l3_5), (0, .ref k), (1, .int a0), (2, .int a1), (3, .int a2), (4, .int a3)]) hx hb dX11_speaks_51 hl (by decide +kernel) rfl ?_
                clear hl
                intro ls hl
                refine lv_aload_n hx hb dX11_speaks_53 rfl (lv_at hl 5 rfl) ?_
                refine lv_iload hx hb dX11_speaks_54 (lv_at hl 0 rfl) ?_
                refine kJv (wr := [(k0, .inl (cI, 1201, .inl c0))]) (va_runV (As := [.int 40]) (rest := []) ⟨hx, hb, hml, hown, hT⟩ (c_X11_ranG l D cI aK aV k k0 k1 k2 k4 k5 k6 k7 k8 ka kb kl ko H.size c3 c9 cc cd ce cf cg ch ci cj ck cm cn c8 40 (by first | omega | (simp only [zl_40]; first | done | omega) | decide | assumption | rfl) (by first | omega | (simp only [zl_40]; first | done | omega) | decide | assumption | rfl)) (cwV 1 hT (gV_in mw_1585 mw_1582 mw_1584 mw_p6_7 mw_12) rfl rfl rfl (by decide +kernel) ⟨(by dsimp only; omega), (by dsimp only; omega)⟩) (kRecvX (q0 := 1) (ci := 11) hK hP hD hN hXS hS hA rfl rfl [1, 0] rfl (by decide +kernel)) rfl rfl hl.1 rfl (lv_room (Nat.le_of_ble_eq_true rfl)) dX11_speaks_56 ⟨Nat.le_of_ble_eq_true rfl, Nat.le_of_ble_eq_true rfl⟩) hP hD hS hA [1, 0] [2] rfl rfl (by decide +kernel) (by decide +kernel) ?_
                clear hP hD hS
                intro u_778 H locs w_775 hP hD hS
                obtain ⟨sc9_776, sc8_777⟩ := u_778
                replace hP : va_P D vwCl [(k0, .inl (cI, 1201, .inl c0)), (k, .inr (11, [.ref k0, .ref k1, .ref k2, .int c3, .ref k4, .ref k5, .ref k6, .ref k7, .ref k8, .int sc9_776, .ref ka, .ref kb, .int cc, .int cd, .int ce, .int cf, .int cg, .int ch, .int ci, .int cj, .int ck, .ref kl, .int cm, .int cn, .ref ko])), (k8, .inl (cI, 40, .inl sc8_777))] H := hP
                replace hD : va_D A [(k0, .inl (cI, 1201, .inl c0)), (k, .inr (11, [.ref k0, .ref k1, .ref k2, .int c3, .ref k4, .ref k5, .ref k6, .ref k7, .ref k8, .int sc9_776, .ref ka, .ref kb, .int cc, .int cd, .int ce, .int cf, .int cg, .int ch, .int ci, .int cj, .int ck, .ref kl, .int cm, .int cn, .ref ko])), (k8, .inl (cI, 40, .inl sc8_777))] := hD
                have lo_sc9_776 := k_lo sc9_776
                have hi_sc9_776 := k_hi sc9_776
                obtain ⟨h_779, h_780⟩ := w_775
                try simp only [zl_40] at h_779
                have h_779 : 0 ≤ sc9_776.toInt := h_779
                try simp only [zl_40] at h_780
                have h_780 : sc9_776.toInt ≤ 40 := h_780
                refine lv_iload hx hb dX11_speaks_59 (lv_at hl 0 rfl) ?_
                refine lv_tableIn (off := 328) (tgt := 389) hx hb dX11_speaks_61 (by decide +kernel) (by decide +kernel) (by decide +kernel) (by decide +kernel) ?_
                refine lv_aload_n hx hb dX11_speaks_389 rfl (lv_at hl 5 rfl) ?_
                refine lv_iload_n hx hb dX11_speaks_390 rfl (lv_at hl 6 rfl) ?_
                refine lv_iload hx hb dX11_speaks_391 (lv_at hl 1 rfl) ?_
                refine lv_iconst (v := 2) hx hb dX11_speaks_393 (by decide +kernel) ?_
                refine lv_iload hx hb dX11_speaks_394 (lv_at hl 9 rfl) ?_
                refine kJi (wr := []) (va_runV (As := [.int a0, .int 2, .int 2, .int a3]) (rest := []) ⟨hx, hb, hml, hown, hT⟩ (ih l D cI aK aV k k0 k1 k2 k4 k5 k6 k7 k8 ka kb kl ko H.size c3 sc9_776 cc cd ce cf cg ch ci cj ck cm cn c0 sc8_777 a0 2 2 a3 pre0 (by first | omega | (simp only [zl_2]; first | done | omega) | decide | assumption | rfl) (by first | omega | (simp only [zl_2]; first | done | omega) | decide | assumption | rfl) (by first | omega | (simp only [zl_2]; first | done | omega) | decide | assumption | rfl) (by first | omega | (simp only [zl_2]; first | done | omega) | decide | assumption | rfl) (by first | omega | (simp only [zl_2]; first | done | omega) | decide | assumption | rfl) (by first | omega | (simp only [zl_2]; first | done | omega) | decide | assumption | rfl) (by first | omega | (simp only [zl_2]; first | done | omega) | decide | assumption | rfl) (by first | omega | (simp only [zl_2]; first | done | omega) | decide | assumption | rfl) (by first | omega | (simp only [zl_2]; first | done | omega) | decide | assumption | rfl)) (cwV 4 hT (gV_in mw_1578 mw_1575 mw_1577 mw_p6_6 mw_12) rfl rfl rfl (by decide +kernel) ⟨(by dsimp only; omega), (by dsimp only; omega)⟩) (kRecvX (q0 := 1) (ci := 11) hK hP hD hN hXS hS hA rfl rfl [1, 0, 2] rfl (by decide +kernel)) rfl rfl hl.1 rfl (lv_room (Nat.le_of_ble_eq_true rfl)) dX11_speaks_396 ⟨Nat.le_of_ble_eq_true rfl, Nat.le_of_ble_eq_true rfl⟩) hP hD hS hA [1, 0, 2] [] rfl rfl (by decide +kernel) (by decide +kernel) ?_
                clear hP hD hS
                intro r_781 u_785 H locs w_782 hP hD hS
                obtain ⟨sc9_783, sc8_784⟩ := u_785
                replace hP : va_P D vwCl [(k, .inr (11, [.ref k0, .ref k1, .ref k2, .int c3, .ref k4, .ref k5, .ref k6, .ref k7, .ref k8, .int sc9_783, .ref ka, .ref kb, .int cc, .int cd, .int ce, .int cf, .int cg, .int ch, .int ci, .int cj, .int ck, .ref kl, .int cm, .int cn, .ref ko])), (k0, .inl (cI, 1201, .inl c0)), (k8, .inl (cI, 40, .inl sc8_784))] H := hP
                replace hD : va_D A [(k, .inr (11, [.ref k0, .ref k1, .ref k2, .int c3, .ref k4, .ref k5, .ref k6, .ref k7, .ref k8, .int sc9_783, .ref ka, .ref kb, .int cc, .int cd, .int ce, .int cf, .int cg, .int ch, .int ci, .int cj, .int ck, .ref kl, .int cm, .int cn, .ref ko])), (k0, .inl (cI, 1201, .inl c0)), (k8, .inl (cI, 40, .inl sc8_784))] := hD
                have lo_sc9_783 := k_lo sc9_783
                have hi_sc9_783 := k_hi sc9_783
                obtain ⟨h_786, h_787⟩ := w_782
                try simp only [zl_2] at h_786
                have h_786 : 0 ≤ sc9_783.toInt := h_786
                try simp only [zl_2] at h_787
                have h_787 : sc9_783.toInt ≤ 40 := h_787
                have lo_r_781 := k_lo r_781
                have hi_r_781 := k_hi r_781
                refine lv_istore (lv' := [(10, .int r_781), (9, .int 40), (8, .int 2), (7, .int r_714), (6, .int r_708), (5, .int l3_5), (0, .ref k), (1, .int a0), (2, .int a1), (3, .int a2), (4, .int a3)]) hx hb dX11_speaks_399 hl (by decide +kernel) rfl ?_
                clear hl
                intro ls hl
                refine lv_iload hx hb dX11_speaks_401 (lv_at hl 0 rfl) ?_
                refine lv_aload_n hx hb dX11_speaks_403 rfl (lv_at hl 6 rfl) ?_
                refine lv_iload_n hx hb dX11_speaks_404 rfl (lv_at hl 7 rfl) ?_
                refine lv_iload hx hb dX11_speaks_405 (lv_at hl 4 rfl) ?_
                refine lv_iconst (v := 0) hx hb dX11_speaks_407 (by decide +kernel) ?_
                refine lv_iload hx hb dX11_speaks_408 (lv_at hl 3 rfl) ?_
                refine kJi (wr := []) (va_runV (As := [.int a0, .int r_708, .int 0, .int r_714]) (rest := [.int r_781]) ⟨hx, hb, hml, hown, hT⟩ (ih l D cI aK aV k k0 k1 k2 k4 k5 k6 k7 k8 ka kb kl ko H.size c3 sc9_783 cc cd ce cf cg ch ci cj ck cm cn c0 sc8_784 a0 r_708 0 r_714 pre0 (by first | omega | (simp only [zl_0]; first | done | omega) | decide | assumption | rfl) (by first | omega | (simp only [zl_0]; first | done | omega) | decide | assumption | rfl) (by first | omega | (simp only [zl_0]; first | done | omega) | decide | assumption | rfl) (by first | omega | (simp only [zl_0]; first | done | omega) | decide | assumption | rfl) (by first | omega | (simp only [zl_0]; first | done | omega) | decide | assumption | rfl) (by first | omega | (simp only [zl_0]; first | done | omega) | decide | assumption | rfl) (by first | omega | (simp only [zl_0]; first | done | omega) | decide | assumption | rfl) (by first | omega | (simp only [zl_0]; first | done | omega) | decide | assumption | rfl) (by first | omega | (simp only [zl_0]; first | done | omega) | decide | assumption | rfl)) (cwV 4 hT (gV_in mw_1578 mw_1575 mw_1577 mw_p6_6 mw_12) rfl rfl rfl (by decide +kernel) ⟨(by dsimp only; omega), (by dsimp only; omega)⟩) (kRecvX (q0 := 0) (ci := 11) hK hP hD hN hXS hS hA rfl rfl [0, 1, 2] rfl (by decide +kernel)) rfl rfl hl.1 rfl (lv_room (Nat.le_of_ble_eq_true rfl)) dX11_speaks_410 ⟨Nat.le_of_ble_eq_true rfl, Nat.le_of_ble_eq_true rfl⟩) hP hD hS hA [0, 1, 2] [] rfl rfl (by decide +kernel) (by decide +kernel) ?_
                clear hP hD hS
                intro r_788 u_792 H locs w_789 hP hD hS
                obtain ⟨sc9_790, sc8_791⟩ := u_792
                replace hP : va_P D vwCl [(k, .inr (11, [.ref k0, .ref k1, .ref k2, .int c3, .ref k4, .ref k5, .ref k6, .ref k7, .ref k8, .int sc9_790, .ref ka, .ref kb, .int cc, .int cd, .int ce, .int cf, .int cg, .int ch, .int ci, .int cj, .int ck, .ref kl, .int cm, .int cn, .ref ko])), (k0, .inl (cI, 1201, .inl c0)), (k8, .inl (cI, 40, .inl sc8_791))] H := hP
                replace hD : va_D A [(k, .inr (11, [.ref k0, .ref k1, .ref k2, .int c3, .ref k4, .ref k5, .ref k6, .ref k7, .ref k8, .int sc9_790, .ref ka, .ref kb, .int cc, .int cd, .int ce, .int cf, .int cg, .int ch, .int ci, .int cj, .int ck, .ref kl, .int cm, .int cn, .ref ko])), (k0, .inl (cI, 1201, .inl c0)), (k8, .inl (cI, 40, .inl sc8_791))] := hD
                have lo_sc9_790 := k_lo sc9_790
                have hi_sc9_790 := k_hi sc9_790
                obtain ⟨h_793, h_794⟩ := w_789
                try simp only [zl_0] at h_793
                have h_793 : 0 ≤ sc9_790.toInt := h_793
                try simp only [zl_0] at h_794
                have h_794 : sc9_790.toInt ≤ 40 := h_794
                have lo_r_788 := k_lo r_788
                have hi_r_788 := k_hi r_788
                refine lv_iadd hx hb dX11_speaks_413 ?_
                refine lv_topi (fun v_795 ev_795 => ?_)
                have lo_v_795 := k_lo v_795
                have hi_v_795 := k_hi v_795
                exact hRet (sc9_790, sc8_791) [0, 1, 2] ⟨(by first | omega | decide | assumption | rfl | (dsimp only; first | omega)), (by first | omega | decide | assumption | rfl | (dsimp only; first | omega))⟩ hP hD (by decide +kernel) rfl hS rfl dX11_speaks_414
              · exfalso; omega
              · exfalso; omega
              · exfalso; omega
              · exfalso; omega
              · exfalso; omega
              · exfalso; omega
            · exfalso; omega
          · have h_34 : l3_5.toInt = 3 := h_34
            have h_35 : a2.toInt = 3 := h_35
            have h_36 : (bKi l3_5 a2).toInt = 41 := h_36
            obtain rfl : r_4 = 41 := hr_4.trans (by decide +kernel)
            refine b_if_ne hx hb zl_41 (tgt := 22) dX11_speaks_9 (by decide +kernel) (fun c_796 => ?_) (fun c_796 => by exfalso; omega)
            refine lv_aload_n hx hb dX11_speaks_22 rfl (lv_at hl 1 rfl) ?_
            refine lv_iload_n hx hb dX11_speaks_23 rfl (lv_at hl 2 rfl) ?_
            refine lv_iconst (v := 0) hx hb dX11_speaks_24 (by decide +kernel) ?_
            refine kJi (wr := [(k8, .inl (cI, 40, .inl c8))]) (va_runV (As := [.int a0, .int 0]) (rest := []) ⟨hx, hb, hml, hown, hT⟩ (c_X11_workG0 l D cI aK aV k k0 k1 k2 k4 k5 k6 k7 k8 ka kb kl ko H.size c3 c9 cc cd ce cf cg ch ci cj ck cm cn c0 a0 0 (by first | omega | (simp only [zl_0]; first | done | omega) | decide | assumption | rfl) (by first | omega | (simp only [zl_0]; first | done | omega) | decide | assumption | rfl) (by first | omega | (simp only [zl_0]; first | done | omega) | decide | assumption | rfl)) (cwV 2 hT (gV_in mw_1276 mw_1273 mw_1275 mw_p3_12 mw_12) rfl rfl rfl (by decide +kernel) ⟨(by dsimp only; omega), (by dsimp only; omega)⟩) (kRecvX (q0 := 0) (ci := 11) hK hP hD hN hXS hS hA rfl rfl [0, 1] rfl (by decide +kernel)) rfl rfl hl.1 rfl (lv_room (Nat.le_of_ble_eq_true rfl)) dX11_speaks_25 ⟨Nat.le_of_ble_eq_true rfl, Nat.le_of_ble_eq_true rfl⟩) hP hD hS hA [0, 1] [2] rfl rfl (by decide +kernel) (by decide +kernel) ?_
            clear hP hD hS
            intro r_797 u_799 H locs w_798 hP hD hS
            replace hP : va_P D vwCl [(k8, .inl (cI, 40, .inl c8)), (k, .inr (11, [.ref k0, .ref k1, .ref k2, .int c3, .ref k4, .ref k5, .ref k6, .ref k7, .ref k8, .int c9, .ref ka, .ref kb, .int cc, .int cd, .int ce, .int cf, .int cg, .int ch, .int ci, .int cj, .int ck, .ref kl, .int cm, .int cn, .ref ko])), (k0, .inl (cI, 1201, .inl c0))] H := hP
            replace hD : va_D A [(k8, .inl (cI, 40, .inl c8)), (k, .inr (11, [.ref k0, .ref k1, .ref k2, .int c3, .ref k4, .ref k5, .ref k6, .ref k7, .ref k8, .int c9, .ref ka, .ref kb, .int cc, .int cd, .int ce, .int cf, .int cg, .int ch, .int ci, .int cj, .int ck, .ref kl, .int cm, .int cn, .ref ko])), (k0, .inl (cI, 1201, .inl c0))] := hD
            have h_800 := w_798
            have h_800 : r_797 = wW c0 a0 0 := h_800
            have t_801 : r_797.toInt = (wW c0 a0 0).toInt := by rw [h_800]
            have b_802 : 0 ≤ r_797.toInt ∧ r_797.toInt ≤ 5 := by rw [h_800]; exact SB.w0 pre0 (by omega) (by omega)
            have lo_r_797 := k_lo r_797
            have hi_r_797 := k_hi r_797
            refine lv_istore (lv' := [(6, .int r_797), (5, .int l3_5), (0, .ref k), (1, .int a0), (2, .int a1), (3, .int a2), (4, .int a3)]) hx hb dX11_speaks_28 hl (by decide +kernel) rfl ?_
            clear hl
            intro ls hl
            refine lv_aload_n hx hb dX11_speaks_30 rfl (lv_at hl 2 rfl) ?_
            refine lv_iload_n hx hb dX11_speaks_31 rfl (lv_at hl 3 rfl) ?_
            refine lv_iconst (v := 2) hx hb dX11_speaks_32 (by decide +kernel) ?_
            refine kJi (wr := [(k8, .inl (cI, 40, .inl c8))]) (va_runV (As := [.int a0, .int 2]) (rest := []) ⟨hx, hb, hml, hown, hT⟩ (c_X11_workG2 l D cI aK aV k k0 k1 k2 k4 k5 k6 k7 k8 ka kb kl ko H.size c3 c9 cc cd ce cf cg ch ci cj ck cm cn c0 a0 2 (by first | omega | (simp only [zl_2]; first | done | omega) | decide | assumption | rfl) (by first | omega | (simp only [zl_2]; first | done | omega) | decide | assumption | rfl) (by first | omega | (simp only [zl_2]; first | done | omega) | decide | assumption | rfl)) (cwV 2 hT (gV_in mw_1276 mw_1273 mw_1275 mw_p3_12 mw_12) rfl rfl rfl (by decide +kernel) ⟨(by dsimp only; omega), (by dsimp only; omega)⟩) (kRecvX (q0 := 1) (ci := 11) hK hP hD hN hXS hS hA rfl rfl [1, 2] rfl (by decide +kernel)) rfl rfl hl.1 rfl (lv_room (Nat.le_of_ble_eq_true rfl)) dX11_speaks_33 ⟨Nat.le_of_ble_eq_true rfl, Nat.le_of_ble_eq_true rfl⟩) hP hD hS hA [1, 2] [0] rfl rfl (by decide +kernel) (by decide +kernel) ?_
            clear hP hD hS
            intro r_803 u_805 H locs w_804 hP hD hS
            replace hP : va_P D vwCl [(k8, .inl (cI, 40, .inl c8)), (k, .inr (11, [.ref k0, .ref k1, .ref k2, .int c3, .ref k4, .ref k5, .ref k6, .ref k7, .ref k8, .int c9, .ref ka, .ref kb, .int cc, .int cd, .int ce, .int cf, .int cg, .int ch, .int ci, .int cj, .int ck, .ref kl, .int cm, .int cn, .ref ko])), (k0, .inl (cI, 1201, .inl c0))] H := hP
            replace hD : va_D A [(k8, .inl (cI, 40, .inl c8)), (k, .inr (11, [.ref k0, .ref k1, .ref k2, .int c3, .ref k4, .ref k5, .ref k6, .ref k7, .ref k8, .int c9, .ref ka, .ref kb, .int cc, .int cd, .int ce, .int cf, .int cg, .int ch, .int ci, .int cj, .int ck, .ref kl, .int cm, .int cn, .ref ko])), (k0, .inl (cI, 1201, .inl c0))] := hD
            have h_806 := w_804
            have h_806 : r_803 = wW c0 a0 2 := h_806
            have t_807 : r_803.toInt = (wW c0 a0 2).toInt := by rw [h_806]
            have lo_r_803 := k_lo r_803
            have hi_r_803 := k_hi r_803
            refine lv_istore (lv' := [(7, .int r_803), (6, .int r_797), (5, .int l3_5), (0, .ref k), (1, .int a0), (2, .int a1), (3, .int a2), (4, .int a3)]) hx hb dX11_speaks_36 hl (by decide +kernel) rfl ?_
            clear hl
            intro ls hl
            refine lv_iload hx hb dX11_speaks_38 (lv_at hl 2 rfl) ?_
            refine kJi (wr := [(k8, .inl (cI, 40, .inl c8)), (k, .inr (11, [.ref k0, .ref k1, .ref k2, .int c3, .ref k4, .ref k5, .ref k6, .ref k7, .ref k8, .int c9, .ref ka, .ref kb, .int cc, .int cd, .int ce, .int cf, .int cg, .int ch, .int ci, .int cj, .int ck, .ref kl, .int cm, .int cn, .ref ko])), (k0, .inl (cI, 1201, .inl c0))]) (va_runS (As := [.int l3_5]) (rest := []) ⟨hx, hb, hml, hown, hT⟩ (c_X11_parentG l D cI aK aV H.size l3_5 (by first | omega | decide | assumption | rfl) (by first | omega | decide | assumption | rfl)) (cwS 1 hT (gS_in mw_1282 mw_1280 mw_1281 mw_12) rfl rfl rfl (by decide +kernel) ⟨(by dsimp only; omega), (by dsimp only; omega)⟩) (kStatX hK hP hD hN hXS hS hA [] rfl (by decide +kernel)) rfl rfl hl.1 rfl (lv_room (Nat.le_of_ble_eq_true rfl)) dX11_speaks_40 ⟨Nat.le_of_ble_eq_true rfl, Nat.le_of_ble_eq_true rfl⟩) hP hD hS hA [] [0, 1, 2] rfl rfl (by decide +kernel) (by decide +kernel) ?_
            clear hP hD hS
            intro r_808 u_810 H locs w_809 hP hD hS
            replace hP : va_P D vwCl [(k8, .inl (cI, 40, .inl c8)), (k, .inr (11, [.ref k0, .ref k1, .ref k2, .int c3, .ref k4, .ref k5, .ref k6, .ref k7, .ref k8, .int c9, .ref ka, .ref kb, .int cc, .int cd, .int ce, .int cf, .int cg, .int ch, .int ci, .int cj, .int ck, .ref kl, .int cm, .int cn, .ref ko])), (k0, .inl (cI, 1201, .inl c0))] H := hP
            replace hD : va_D A [(k8, .inl (cI, 40, .inl c8)), (k, .inr (11, [.ref k0, .ref k1, .ref k2, .int c3, .ref k4, .ref k5, .ref k6, .ref k7, .ref k8, .int c9, .ref ka, .ref kb, .int cc, .int cd, .int ce, .int cf, .int cg, .int ch, .int ci, .int cj, .int ck, .ref kl, .int cm, .int cn, .ref ko])), (k0, .inl (cI, 1201, .inl c0))] := hD
            rcases w_809 with ⟨hr_808, h_811⟩ | ⟨hr_808, h_812⟩ | ⟨hr_808, h_813⟩ | ⟨hr_808, h_814⟩ | ⟨hr_808, h_815⟩
            · exfalso; omega
            · exfalso; omega
            · exfalso; omega
            · have h_814 : l3_5.toInt = 3 := h_814
              obtain rfl : r_808 = 2 := hr_808.trans (by decide +kernel)
              refine lv_istore (lv' := [(8, .int 2), (7, .int r_803), (6, .int r_797), (5, .int l3_5), (0, .ref k), (1, .int a0), (2, .int a1), (3, .int a2), (4, .int a3)]) hx hb dX11_speaks_43 hl (by decide +kernel) rfl ?_
              clear hl
              intro ls hl
              refine lv_iload hx hb dX11_speaks_45 (lv_at hl 3 rfl) ?_
              refine lv_iload_n hx hb dX11_speaks_47 rfl (lv_at hl 7 rfl) ?_
              refine kJi (wr := [(k8, .inl (cI, 40, .inl c8)), (k, .inr (11, [.ref k0, .ref k1, .ref k2, .int c3, .ref k4, .ref k5, .ref k6, .ref k7, .ref k8, .int c9, .ref ka, .ref kb, .int cc, .int cd, .int ce, .int cf, .int cg, .int ch, .int ci, .int cj, .int ck, .ref kl, .int cm, .int cn, .ref ko])), (k0, .inl (cI, 1201, .inl c0))]) (va_runS (As := [.int l3_5, .int a2]) (rest := []) ⟨hx, hb, hml, hown, hT⟩ (c_X11_bodyOfG l D cI aK aV H.size l3_5 a2 (by first | omega | decide | assumption | rfl) (by first | omega | decide | assumption | rfl) (by first | omega | decide | assumption | rfl) (by first | omega | decide | assumption | rfl)) (cwS 2 hT (gS_in mw_1581 mw_1579 mw_1580 mw_12) rfl rfl rfl (by decide +kernel) ⟨(by dsimp only; omega), (by dsimp only; omega)⟩) (kStatX hK hP hD hN hXS hS hA [] rfl (by decide +kernel)) rfl rfl hl.1 rfl (lv_room (Nat.le_of_ble_eq_true rfl)) dX11_speaks_48 ⟨Nat.le_of_ble_eq_true rfl, Nat.le_of_ble_eq_true rfl⟩) hP hD hS hA [] [0, 1, 2] rfl rfl (by decide +kernel) (by decide +kernel) ?_
              clear hP hD hS
              intro r_816 u_818 H locs w_817 hP hD hS
              replace hP : va_P D vwCl [(k8, .inl (cI, 40, .inl c8)), (k, .inr (11, [.ref k0, .ref k1, .ref k2, .int c3, .ref k4, .ref k5, .ref k6, .ref k7, .ref k8, .int c9, .ref ka, .ref kb, .int cc, .int cd, .int ce, .int cf, .int cg, .int ch, .int ci, .int cj, .int ck, .ref kl, .int cm, .int cn, .ref ko])), (k0, .inl (cI, 1201, .inl c0))] H := hP
              replace hD : va_D A [(k8, .inl (cI, 40, .inl c8)), (k, .inr (11, [.ref k0, .ref k1, .ref k2, .int c3, .ref k4, .ref k5, .ref k6, .ref k7, .ref k8, .int c9, .ref ka, .ref kb, .int cc, .int cd, .int ce, .int cf, .int cg, .int ch, .int ci, .int cj, .int ck, .ref kl, .int cm, .int cn, .ref ko])), (k0, .inl (cI, 1201, .inl c0))] := hD
              rcases w_817 with ⟨hr_816, h_819, h_820, h_821⟩ | ⟨hr_816, h_822, h_823, h_824⟩ | ⟨hr_816, h_825, h_826, h_827⟩ | ⟨hr_816, h_828, h_829, h_830⟩ | ⟨hr_816, h_831, h_832, h_833⟩ | ⟨hr_816, h_834, h_835, h_836⟩ | ⟨hr_816, h_837, h_838, h_839⟩ | ⟨hr_816, h_840, h_841, h_842⟩ | ⟨hr_816, h_843, h_844, h_845⟩ | ⟨hr_816, h_846, h_847, h_848⟩ | ⟨hr_816, h_849, h_850, h_851⟩ | ⟨hr_816, h_852, h_853, h_854⟩ | ⟨hr_816, h_855, h_856, h_857⟩ | ⟨hr_816, h_858, h_859, h_860⟩ | ⟨hr_816, h_861, h_862⟩
              · exfalso; omega
              · exfalso; omega
              · exfalso; omega
              · exfalso; omega
              · exfalso; omega
              · exfalso; omega
              · exfalso; omega
              · exfalso; omega
              · exfalso; omega
              · have h_846 : l3_5.toInt = 3 := h_846
                have h_847 : a2.toInt = 3 := h_847
                have h_848 : (bKi l3_5 a2).toInt = 41 := h_848
                obtain rfl : r_816 = 41 := hr_816.trans (by decide +kernel)
                refine lv_istore (lv' := [(9, .int 41), (8, .int 2), (7, .int r_803), (6, .int r_797), (5, .int l3_5), (0, .ref k), (1, .int a0), (2, .int a1), (3, .int a2), (4, .int a3)]) hx hb dX11_speaks_51 hl (by decide +kernel) rfl ?_
                clear hl
                intro ls hl
                refine lv_aload_n hx hb dX11_speaks_53 rfl (lv_at hl 5 rfl) ?_
                refine lv_iload hx hb dX11_speaks_54 (lv_at hl 0 rfl) ?_
                refine kJv (wr := [(k0, .inl (cI, 1201, .inl c0))]) (va_runV (As := [.int 41]) (rest := []) ⟨hx, hb, hml, hown, hT⟩ (c_X11_ranG l D cI aK aV k k0 k1 k2 k4 k5 k6 k7 k8 ka kb kl ko H.size c3 c9 cc cd ce cf cg ch ci cj ck cm cn c8 41 (by first | omega | (simp only [zl_41]; first | done | omega) | decide | assumption | rfl) (by first | omega | (simp only [zl_41]; first | done | omega) | decide | assumption | rfl)) (cwV 1 hT (gV_in mw_1585 mw_1582 mw_1584 mw_p6_7 mw_12) rfl rfl rfl (by decide +kernel) ⟨(by dsimp only; omega), (by dsimp only; omega)⟩) (kRecvX (q0 := 1) (ci := 11) hK hP hD hN hXS hS hA rfl rfl [1, 0] rfl (by decide +kernel)) rfl rfl hl.1 rfl (lv_room (Nat.le_of_ble_eq_true rfl)) dX11_speaks_56 ⟨Nat.le_of_ble_eq_true rfl, Nat.le_of_ble_eq_true rfl⟩) hP hD hS hA [1, 0] [2] rfl rfl (by decide +kernel) (by decide +kernel) ?_
                clear hP hD hS
                intro u_867 H locs w_864 hP hD hS
                obtain ⟨sc9_865, sc8_866⟩ := u_867
                replace hP : va_P D vwCl [(k0, .inl (cI, 1201, .inl c0)), (k, .inr (11, [.ref k0, .ref k1, .ref k2, .int c3, .ref k4, .ref k5, .ref k6, .ref k7, .ref k8, .int sc9_865, .ref ka, .ref kb, .int cc, .int cd, .int ce, .int cf, .int cg, .int ch, .int ci, .int cj, .int ck, .ref kl, .int cm, .int cn, .ref ko])), (k8, .inl (cI, 40, .inl sc8_866))] H := hP
                replace hD : va_D A [(k0, .inl (cI, 1201, .inl c0)), (k, .inr (11, [.ref k0, .ref k1, .ref k2, .int c3, .ref k4, .ref k5, .ref k6, .ref k7, .ref k8, .int sc9_865, .ref ka, .ref kb, .int cc, .int cd, .int ce, .int cf, .int cg, .int ch, .int ci, .int cj, .int ck, .ref kl, .int cm, .int cn, .ref ko])), (k8, .inl (cI, 40, .inl sc8_866))] := hD
                have lo_sc9_865 := k_lo sc9_865
                have hi_sc9_865 := k_hi sc9_865
                obtain ⟨h_868, h_869⟩ := w_864
                try simp only [zl_41] at h_868
                have h_868 : 0 ≤ sc9_865.toInt := h_868
                try simp only [zl_41] at h_869
                have h_869 : sc9_865.toInt ≤ 40 := h_869
                refine lv_iload hx hb dX11_speaks_59 (lv_at hl 0 rfl) ?_
                refine lv_tableIn (off := 354) (tgt := 415) hx hb dX11_speaks_61 (by decide +kernel) (by decide +kernel) (by decide +kernel) (by decide +kernel) ?_
                refine lv_aload_n hx hb dX11_speaks_415 rfl (lv_at hl 5 rfl) ?_
                refine lv_iload_n hx hb dX11_speaks_416 rfl (lv_at hl 6 rfl) ?_
                refine lv_iload hx hb dX11_speaks_417 (lv_at hl 1 rfl) ?_
                refine lv_iconst (v := 3) hx hb dX11_speaks_419 (by decide +kernel) ?_
                refine lv_iload hx hb dX11_speaks_420 (lv_at hl 9 rfl) ?_
                refine kJi (wr := []) (va_runV (As := [.int a0, .int 2, .int 3, .int a3]) (rest := []) ⟨hx, hb, hml, hown, hT⟩ (ih l D cI aK aV k k0 k1 k2 k4 k5 k6 k7 k8 ka kb kl ko H.size c3 sc9_865 cc cd ce cf cg ch ci cj ck cm cn c0 sc8_866 a0 2 3 a3 pre0 (by first | omega | (simp only [zl_2, zl_3]; first | done | omega) | decide | assumption | rfl) (by first | omega | (simp only [zl_2, zl_3]; first | done | omega) | decide | assumption | rfl) (by first | omega | (simp only [zl_2, zl_3]; first | done | omega) | decide | assumption | rfl) (by first | omega | (simp only [zl_2, zl_3]; first | done | omega) | decide | assumption | rfl) (by first | omega | (simp only [zl_2, zl_3]; first | done | omega) | decide | assumption | rfl) (by first | omega | (simp only [zl_2, zl_3]; first | done | omega) | decide | assumption | rfl) (by first | omega | (simp only [zl_2, zl_3]; first | done | omega) | decide | assumption | rfl) (by first | omega | (simp only [zl_2, zl_3]; first | done | omega) | decide | assumption | rfl) (by first | omega | (simp only [zl_2, zl_3]; first | done | omega) | decide | assumption | rfl)) (cwV 4 hT (gV_in mw_1578 mw_1575 mw_1577 mw_p6_6 mw_12) rfl rfl rfl (by decide +kernel) ⟨(by dsimp only; omega), (by dsimp only; omega)⟩) (kRecvX (q0 := 1) (ci := 11) hK hP hD hN hXS hS hA rfl rfl [1, 0, 2] rfl (by decide +kernel)) rfl rfl hl.1 rfl (lv_room (Nat.le_of_ble_eq_true rfl)) dX11_speaks_422 ⟨Nat.le_of_ble_eq_true rfl, Nat.le_of_ble_eq_true rfl⟩) hP hD hS hA [1, 0, 2] [] rfl rfl (by decide +kernel) (by decide +kernel) ?_
                clear hP hD hS
                intro r_870 u_874 H locs w_871 hP hD hS
                obtain ⟨sc9_872, sc8_873⟩ := u_874
                replace hP : va_P D vwCl [(k, .inr (11, [.ref k0, .ref k1, .ref k2, .int c3, .ref k4, .ref k5, .ref k6, .ref k7, .ref k8, .int sc9_872, .ref ka, .ref kb, .int cc, .int cd, .int ce, .int cf, .int cg, .int ch, .int ci, .int cj, .int ck, .ref kl, .int cm, .int cn, .ref ko])), (k0, .inl (cI, 1201, .inl c0)), (k8, .inl (cI, 40, .inl sc8_873))] H := hP
                replace hD : va_D A [(k, .inr (11, [.ref k0, .ref k1, .ref k2, .int c3, .ref k4, .ref k5, .ref k6, .ref k7, .ref k8, .int sc9_872, .ref ka, .ref kb, .int cc, .int cd, .int ce, .int cf, .int cg, .int ch, .int ci, .int cj, .int ck, .ref kl, .int cm, .int cn, .ref ko])), (k0, .inl (cI, 1201, .inl c0)), (k8, .inl (cI, 40, .inl sc8_873))] := hD
                have lo_sc9_872 := k_lo sc9_872
                have hi_sc9_872 := k_hi sc9_872
                obtain ⟨h_875, h_876⟩ := w_871
                try simp only [zl_2, zl_3] at h_875
                have h_875 : 0 ≤ sc9_872.toInt := h_875
                try simp only [zl_2, zl_3] at h_876
                have h_876 : sc9_872.toInt ≤ 40 := h_876
                have lo_r_870 := k_lo r_870
                have hi_r_870 := k_hi r_870
                refine lv_istore (lv' := [(10, .int r_870), (9, .int 41), (8, .int 2), (7, .int r_803), (6, .int r_797), (5, .int l3_5), (0, .ref k), (1, .int a0), (2, .int a1), (3, .int a2), (4, .int a3)]) hx hb dX11_speaks_425 hl (by decide +kernel) rfl ?_
                clear hl
                intro ls hl
                refine lv_iload hx hb dX11_speaks_427 (lv_at hl 0 rfl) ?_
                refine lv_aload_n hx hb dX11_speaks_429 rfl (lv_at hl 6 rfl) ?_
                refine lv_iload_n hx hb dX11_speaks_430 rfl (lv_at hl 7 rfl) ?_
                refine lv_iload hx hb dX11_speaks_431 (lv_at hl 4 rfl) ?_
                refine lv_iconst (v := 1) hx hb dX11_speaks_433 (by decide +kernel) ?_
                refine lv_iload_n hx hb dX11_speaks_434 rfl (lv_at hl 7 rfl) ?_
                refine kJi (wr := []) (va_runV (As := [.int a0, .int r_797, .int 1, .int a0]) (rest := [.int r_870]) ⟨hx, hb, hml, hown, hT⟩ (ih l D cI aK aV k k0 k1 k2 k4 k5 k6 k7 k8 ka kb kl ko H.size c3 sc9_872 cc cd ce cf cg ch ci cj ck cm cn c0 sc8_873 a0 r_797 1 a0 pre0 (by first | omega | (simp only [zl_1]; first | done | omega) | decide | assumption | rfl) (by first | omega | (simp only [zl_1]; first | done | omega) | decide | assumption | rfl) (by first | omega | (simp only [zl_1]; first | done | omega) | decide | assumption | rfl) (by first | omega | (simp only [zl_1]; first | done | omega) | decide | assumption | rfl) (by first | omega | (simp only [zl_1]; first | done | omega) | decide | assumption | rfl) (by first | omega | (simp only [zl_1]; first | done | omega) | decide | assumption | rfl) (by first | omega | (simp only [zl_1]; first | done | omega) | decide | assumption | rfl) (by first | omega | (simp only [zl_1]; first | done | omega) | decide | assumption | rfl) (by first | omega | (simp only [zl_1]; first | done | omega) | decide | assumption | rfl)) (cwV 4 hT (gV_in mw_1578 mw_1575 mw_1577 mw_p6_6 mw_12) rfl rfl rfl (by decide +kernel) ⟨(by dsimp only; omega), (by dsimp only; omega)⟩) (kRecvX (q0 := 0) (ci := 11) hK hP hD hN hXS hS hA rfl rfl [0, 1, 2] rfl (by decide +kernel)) rfl rfl hl.1 rfl (lv_room (Nat.le_of_ble_eq_true rfl)) dX11_speaks_435 ⟨Nat.le_of_ble_eq_true rfl, Nat.le_of_ble_eq_true rfl⟩) hP hD hS hA [0, 1, 2] [] rfl rfl (by decide +kernel) (by decide +kernel) ?_
                clear hP hD hS
                intro r_877 u_881 H locs w_878 hP hD hS
                obtain ⟨sc9_879, sc8_880⟩ := u_881
                replace hP : va_P D vwCl [(k, .inr (11, [.ref k0, .ref k1, .ref k2, .int c3, .ref k4, .ref k5, .ref k6, .ref k7, .ref k8, .int sc9_879, .ref ka, .ref kb, .int cc, .int cd, .int ce, .int cf, .int cg, .int ch, .int ci, .int cj, .int ck, .ref kl, .int cm, .int cn, .ref ko])), (k0, .inl (cI, 1201, .inl c0)), (k8, .inl (cI, 40, .inl sc8_880))] H := hP
                replace hD : va_D A [(k, .inr (11, [.ref k0, .ref k1, .ref k2, .int c3, .ref k4, .ref k5, .ref k6, .ref k7, .ref k8, .int sc9_879, .ref ka, .ref kb, .int cc, .int cd, .int ce, .int cf, .int cg, .int ch, .int ci, .int cj, .int ck, .ref kl, .int cm, .int cn, .ref ko])), (k0, .inl (cI, 1201, .inl c0)), (k8, .inl (cI, 40, .inl sc8_880))] := hD
                have lo_sc9_879 := k_lo sc9_879
                have hi_sc9_879 := k_hi sc9_879
                obtain ⟨h_882, h_883⟩ := w_878
                try simp only [zl_1] at h_882
                have h_882 : 0 ≤ sc9_879.toInt := h_882
                try simp only [zl_1] at h_883
                have h_883 : sc9_879.toInt ≤ 40 := h_883
                have lo_r_877 := k_lo r_877
                have hi_r_877 := k_hi r_877
                refine lv_ixor hx hb dX11_speaks_438 ?_
                refine lv_topi (fun v_884 ev_884 => ?_)
                have lo_v_884 := k_lo v_884
                have hi_v_884 := k_hi v_884
                exact hRet (sc9_879, sc8_880) [0, 1, 2] ⟨(by first | omega | decide | assumption | rfl | (dsimp only; first | omega)), (by first | omega | decide | assumption | rfl | (dsimp only; first | omega))⟩ hP hD (by decide +kernel) rfl hS rfl dX11_speaks_439
              · exfalso; omega
              · exfalso; omega
              · exfalso; omega
              · exfalso; omega
              · exfalso; omega
            · exfalso; omega
          · have h_37 : l3_5.toInt = 4 := h_37
            have h_38 : a2.toInt = 0 := h_38
            have h_39 : (bKi l3_5 a2).toInt = 50 := h_39
            obtain rfl : r_4 = 50 := hr_4.trans (by decide +kernel)
            refine b_if_ne hx hb zl_50 (tgt := 22) dX11_speaks_9 (by decide +kernel) (fun c_885 => ?_) (fun c_885 => by exfalso; omega)
            refine lv_aload_n hx hb dX11_speaks_22 rfl (lv_at hl 1 rfl) ?_
            refine lv_iload_n hx hb dX11_speaks_23 rfl (lv_at hl 2 rfl) ?_
            refine lv_iconst (v := 0) hx hb dX11_speaks_24 (by decide +kernel) ?_
            refine kJi (wr := [(k8, .inl (cI, 40, .inl c8))]) (va_runV (As := [.int a0, .int 0]) (rest := []) ⟨hx, hb, hml, hown, hT⟩ (c_X11_workG0 l D cI aK aV k k0 k1 k2 k4 k5 k6 k7 k8 ka kb kl ko H.size c3 c9 cc cd ce cf cg ch ci cj ck cm cn c0 a0 0 (by first | omega | (simp only [zl_0]; first | done | omega) | decide | assumption | rfl) (by first | omega | (simp only [zl_0]; first | done | omega) | decide | assumption | rfl) (by first | omega | (simp only [zl_0]; first | done | omega) | decide | assumption | rfl)) (cwV 2 hT (gV_in mw_1276 mw_1273 mw_1275 mw_p3_12 mw_12) rfl rfl rfl (by decide +kernel) ⟨(by dsimp only; omega), (by dsimp only; omega)⟩) (kRecvX (q0 := 0) (ci := 11) hK hP hD hN hXS hS hA rfl rfl [0, 1] rfl (by decide +kernel)) rfl rfl hl.1 rfl (lv_room (Nat.le_of_ble_eq_true rfl)) dX11_speaks_25 ⟨Nat.le_of_ble_eq_true rfl, Nat.le_of_ble_eq_true rfl⟩) hP hD hS hA [0, 1] [2] rfl rfl (by decide +kernel) (by decide +kernel) ?_
            clear hP hD hS
            intro r_886 u_888 H locs w_887 hP hD hS
            replace hP : va_P D vwCl [(k8, .inl (cI, 40, .inl c8)), (k, .inr (11, [.ref k0, .ref k1, .ref k2, .int c3, .ref k4, .ref k5, .ref k6, .ref k7, .ref k8, .int c9, .ref ka, .ref kb, .int cc, .int cd, .int ce, .int cf, .int cg, .int ch, .int ci, .int cj, .int ck, .ref kl, .int cm, .int cn, .ref ko])), (k0, .inl (cI, 1201, .inl c0))] H := hP
            replace hD : va_D A [(k8, .inl (cI, 40, .inl c8)), (k, .inr (11, [.ref k0, .ref k1, .ref k2, .int c3, .ref k4, .ref k5, .ref k6, .ref k7, .ref k8, .int c9, .ref ka, .ref kb, .int cc, .int cd, .int ce, .int cf, .int cg, .int ch, .int ci, .int cj, .int ck, .ref kl, .int cm, .int cn, .ref ko])), (k0, .inl (cI, 1201, .inl c0))] := hD
            have h_889 := w_887
            have h_889 : r_886 = wW c0 a0 0 := h_889
            have t_890 : r_886.toInt = (wW c0 a0 0).toInt := by rw [h_889]
            have b_891 : 0 ≤ r_886.toInt ∧ r_886.toInt ≤ 5 := by rw [h_889]; exact SB.w0 pre0 (by omega) (by omega)
            have lo_r_886 := k_lo r_886
            have hi_r_886 := k_hi r_886
            refine lv_istore (lv' := [(6, .int r_886), (5, .int l3_5), (0, .ref k), (1, .int a0), (2, .int a1), (3, .int a2), (4, .int a3)]) hx hb dX11_speaks_28 hl (by decide +kernel) rfl ?_
            clear hl
            intro ls hl
            refine lv_aload_n hx hb dX11_speaks_30 rfl (lv_at hl 2 rfl) ?_
            refine lv_iload_n hx hb dX11_speaks_31 rfl (lv_at hl 3 rfl) ?_
            refine lv_iconst (v := 2) hx hb dX11_speaks_32 (by decide +kernel) ?_
            refine kJi (wr := [(k8, .inl (cI, 40, .inl c8))]) (va_runV (As := [.int a0, .int 2]) (rest := []) ⟨hx, hb, hml, hown, hT⟩ (c_X11_workG2 l D cI aK aV k k0 k1 k2 k4 k5 k6 k7 k8 ka kb kl ko H.size c3 c9 cc cd ce cf cg ch ci cj ck cm cn c0 a0 2 (by first | omega | (simp only [zl_2]; first | done | omega) | decide | assumption | rfl) (by first | omega | (simp only [zl_2]; first | done | omega) | decide | assumption | rfl) (by first | omega | (simp only [zl_2]; first | done | omega) | decide | assumption | rfl)) (cwV 2 hT (gV_in mw_1276 mw_1273 mw_1275 mw_p3_12 mw_12) rfl rfl rfl (by decide +kernel) ⟨(by dsimp only; omega), (by dsimp only; omega)⟩) (kRecvX (q0 := 1) (ci := 11) hK hP hD hN hXS hS hA rfl rfl [1, 2] rfl (by decide +kernel)) rfl rfl hl.1 rfl (lv_room (Nat.le_of_ble_eq_true rfl)) dX11_speaks_33 ⟨Nat.le_of_ble_eq_true rfl, Nat.le_of_ble_eq_true rfl⟩) hP hD hS hA [1, 2] [0] rfl rfl (by decide +kernel) (by decide +kernel) ?_
            clear hP hD hS
            intro r_892 u_894 H locs w_893 hP hD hS
            replace hP : va_P D vwCl [(k8, .inl (cI, 40, .inl c8)), (k, .inr (11, [.ref k0, .ref k1, .ref k2, .int c3, .ref k4, .ref k5, .ref k6, .ref k7, .ref k8, .int c9, .ref ka, .ref kb, .int cc, .int cd, .int ce, .int cf, .int cg, .int ch, .int ci, .int cj, .int ck, .ref kl, .int cm, .int cn, .ref ko])), (k0, .inl (cI, 1201, .inl c0))] H := hP
            replace hD : va_D A [(k8, .inl (cI, 40, .inl c8)), (k, .inr (11, [.ref k0, .ref k1, .ref k2, .int c3, .ref k4, .ref k5, .ref k6, .ref k7, .ref k8, .int c9, .ref ka, .ref kb, .int cc, .int cd, .int ce, .int cf, .int cg, .int ch, .int ci, .int cj, .int ck, .ref kl, .int cm, .int cn, .ref ko])), (k0, .inl (cI, 1201, .inl c0))] := hD
            have h_895 := w_893
            have h_895 : r_892 = wW c0 a0 2 := h_895
            have t_896 : r_892.toInt = (wW c0 a0 2).toInt := by rw [h_895]
            have lo_r_892 := k_lo r_892
            have hi_r_892 := k_hi r_892
            refine lv_istore (lv' := [(7, .int r_892), (6, .int r_886), (5, .int l3_5), (0, .ref k), (1, .int a0), (2, .int a1), (3, .int a2), (4, .int a3)]) hx hb dX11_speaks_36 hl (by decide +kernel) rfl ?_
            clear hl
            intro ls hl
            refine lv_iload hx hb dX11_speaks_38 (lv_at hl 2 rfl) ?_
            refine kJi (wr := [(k8, .inl (cI, 40, .inl c8)), (k, .inr (11, [.ref k0, .ref k1, .ref k2, .int c3, .ref k4, .ref k5, .ref k6, .ref k7, .ref k8, .int c9, .ref ka, .ref kb, .int cc, .int cd, .int ce, .int cf, .int cg, .int ch, .int ci, .int cj, .int ck, .ref kl, .int cm, .int cn, .ref ko])), (k0, .inl (cI, 1201, .inl c0))]) (va_runS (As := [.int l3_5]) (rest := []) ⟨hx, hb, hml, hown, hT⟩ (c_X11_parentG l D cI aK aV H.size l3_5 (by first | omega | decide | assumption | rfl) (by first | omega | decide | assumption | rfl)) (cwS 1 hT (gS_in mw_1282 mw_1280 mw_1281 mw_12) rfl rfl rfl (by decide +kernel) ⟨(by dsimp only; omega), (by dsimp only; omega)⟩) (kStatX hK hP hD hN hXS hS hA [] rfl (by decide +kernel)) rfl rfl hl.1 rfl (lv_room (Nat.le_of_ble_eq_true rfl)) dX11_speaks_40 ⟨Nat.le_of_ble_eq_true rfl, Nat.le_of_ble_eq_true rfl⟩) hP hD hS hA [] [0, 1, 2] rfl rfl (by decide +kernel) (by decide +kernel) ?_
            clear hP hD hS
            intro r_897 u_899 H locs w_898 hP hD hS
            replace hP : va_P D vwCl [(k8, .inl (cI, 40, .inl c8)), (k, .inr (11, [.ref k0, .ref k1, .ref k2, .int c3, .ref k4, .ref k5, .ref k6, .ref k7, .ref k8, .int c9, .ref ka, .ref kb, .int cc, .int cd, .int ce, .int cf, .int cg, .int ch, .int ci, .int cj, .int ck, .ref kl, .int cm, .int cn, .ref ko])), (k0, .inl (cI, 1201, .inl c0))] H := hP
            replace hD : va_D A [(k8, .inl (cI, 40, .inl c8)), (k, .inr (11, [.ref k0, .ref k1, .ref k2, .int c3, .ref k4, .ref k5, .ref k6, .ref k7, .ref k8, .int c9, .ref ka, .ref kb, .int cc, .int cd, .int ce, .int cf, .int cg, .int ch, .int ci, .int cj, .int ck, .ref kl, .int cm, .int cn, .ref ko])), (k0, .inl (cI, 1201, .inl c0))] := hD
            rcases w_898 with ⟨hr_897, h_900⟩ | ⟨hr_897, h_901⟩ | ⟨hr_897, h_902⟩ | ⟨hr_897, h_903⟩ | ⟨hr_897, h_904⟩
            · exfalso; omega
            · have h_901 : l3_5.toInt = 1 ∨ l3_5.toInt = 4 := h_901
              obtain rfl : r_897 = 0 := hr_897.trans (by decide +kernel)
              refine lv_istore (lv' := [(8, .int 0), (7, .int r_892), (6, .int r_886), (5, .int l3_5), (0, .ref k), (1, .int a0), (2, .int a1), (3, .int a2), (4, .int a3)]) hx hb dX11_speaks_43 hl (by decide +kernel) rfl ?_
              clear hl
              intro ls hl
              refine lv_iload hx hb dX11_speaks_45 (lv_at hl 3 rfl) ?_
              refine lv_iload_n hx hb dX11_speaks_47 rfl (lv_at hl 7 rfl) ?_
              refine kJi (wr := [(k8, .inl (cI, 40, .inl c8)), (k, .inr (11, [.ref k0, .ref k1, .ref k2, .int c3, .ref k4, .ref k5, .ref k6, .ref k7, .ref k8, .int c9, .ref ka, .ref kb, .int cc, .int cd, .int ce, .int cf, .int cg, .int ch, .int ci, .int cj, .int ck, .ref kl, .int cm, .int cn, .ref ko])), (k0, .inl (cI, 1201, .inl c0))]) (va_runS (As := [.int l3_5, .int a2]) (rest := []) ⟨hx, hb, hml, hown, hT⟩ (c_X11_bodyOfG l D cI aK aV H.size l3_5 a2 (by first | omega | decide | assumption | rfl) (by first | omega | decide | assumption | rfl) (by first | omega | decide | assumption | rfl) (by first | omega | decide | assumption | rfl)) (cwS 2 hT (gS_in mw_1581 mw_1579 mw_1580 mw_12) rfl rfl rfl (by decide +kernel) ⟨(by dsimp only; omega), (by dsimp only; omega)⟩) (kStatX hK hP hD hN hXS hS hA [] rfl (by decide +kernel)) rfl rfl hl.1 rfl (lv_room (Nat.le_of_ble_eq_true rfl)) dX11_speaks_48 ⟨Nat.le_of_ble_eq_true rfl, Nat.le_of_ble_eq_true rfl⟩) hP hD hS hA [] [0, 1, 2] rfl rfl (by decide +kernel) (by decide +kernel) ?_
              clear hP hD hS
              intro r_905 u_907 H locs w_906 hP hD hS
              replace hP : va_P D vwCl [(k8, .inl (cI, 40, .inl c8)), (k, .inr (11, [.ref k0, .ref k1, .ref k2, .int c3, .ref k4, .ref k5, .ref k6, .ref k7, .ref k8, .int c9, .ref ka, .ref kb, .int cc, .int cd, .int ce, .int cf, .int cg, .int ch, .int ci, .int cj, .int ck, .ref kl, .int cm, .int cn, .ref ko])), (k0, .inl (cI, 1201, .inl c0))] H := hP
              replace hD : va_D A [(k8, .inl (cI, 40, .inl c8)), (k, .inr (11, [.ref k0, .ref k1, .ref k2, .int c3, .ref k4, .ref k5, .ref k6, .ref k7, .ref k8, .int c9, .ref ka, .ref kb, .int cc, .int cd, .int ce, .int cf, .int cg, .int ch, .int ci, .int cj, .int ck, .ref kl, .int cm, .int cn, .ref ko])), (k0, .inl (cI, 1201, .inl c0))] := hD
              rcases w_906 with ⟨hr_905, h_908, h_909, h_910⟩ | ⟨hr_905, h_911, h_912, h_913⟩ | ⟨hr_905, h_914, h_915, h_916⟩ | ⟨hr_905, h_917, h_918, h_919⟩ | ⟨hr_905, h_920, h_921, h_922⟩ | ⟨hr_905, h_923, h_924, h_925⟩ | ⟨hr_905, h_926, h_927, h_928⟩ | ⟨hr_905, h_929, h_930, h_931⟩ | ⟨hr_905, h_932, h_933, h_934⟩ | ⟨hr_905, h_935, h_936, h_937⟩ | ⟨hr_905, h_938, h_939, h_940⟩ | ⟨hr_905, h_941, h_942, h_943⟩ | ⟨hr_905, h_944, h_945, h_946⟩ | ⟨hr_905, h_947, h_948, h_949⟩ | ⟨hr_905, h_950, h_951⟩
              · exfalso; omega
              · exfalso; omega
              · exfalso; omega
              · exfalso; omega
              · exfalso; omega
              · exfalso; omega
              · exfalso; omega
              · exfalso; omega
              · exfalso; omega
              · exfalso; omega
              · have h_938 : l3_5.toInt = 4 := h_938
                have h_939 : a2.toInt = 0 := h_939
                have h_940 : (bKi l3_5 a2).toInt = 50 := h_940
                obtain rfl : r_905 = 50 := hr_905.trans (by decide +kernel)
                refine lv_istore (lv' := [(9, .int 50), (8, .int 0), (7, .int r_892), (6, .int r_886), (5, .int l3_5), (0, .ref k), (1, .int a0), (2, .int a1), (3, .int a2), (4, .int a3)]) hx hb dX11_speaks_51 hl (by decide +kernel) rfl ?_
                clear hl
                intro ls hl
                refine lv_aload_n hx hb dX11_speaks_53 rfl (lv_at hl 5 rfl) ?_
                refine lv_iload hx hb dX11_speaks_54 (lv_at hl 0 rfl) ?_
                refine kJv (wr := [(k0, .inl (cI, 1201, .inl c0))]) (va_runV (As := [.int 50]) (rest := []) ⟨hx, hb, hml, hown, hT⟩ (c_X11_ranG l D cI aK aV k k0 k1 k2 k4 k5 k6 k7 k8 ka kb kl ko H.size c3 c9 cc cd ce cf cg ch ci cj ck cm cn c8 50 (by first | omega | (simp only [zl_50]; first | done | omega) | decide | assumption | rfl) (by first | omega | (simp only [zl_50]; first | done | omega) | decide | assumption | rfl)) (cwV 1 hT (gV_in mw_1585 mw_1582 mw_1584 mw_p6_7 mw_12) rfl rfl rfl (by decide +kernel) ⟨(by dsimp only; omega), (by dsimp only; omega)⟩) (kRecvX (q0 := 1) (ci := 11) hK hP hD hN hXS hS hA rfl rfl [1, 0] rfl (by decide +kernel)) rfl rfl hl.1 rfl (lv_room (Nat.le_of_ble_eq_true rfl)) dX11_speaks_56 ⟨Nat.le_of_ble_eq_true rfl, Nat.le_of_ble_eq_true rfl⟩) hP hD hS hA [1, 0] [2] rfl rfl (by decide +kernel) (by decide +kernel) ?_
                clear hP hD hS
                intro u_956 H locs w_953 hP hD hS
                obtain ⟨sc9_954, sc8_955⟩ := u_956
                replace hP : va_P D vwCl [(k0, .inl (cI, 1201, .inl c0)), (k, .inr (11, [.ref k0, .ref k1, .ref k2, .int c3, .ref k4, .ref k5, .ref k6, .ref k7, .ref k8, .int sc9_954, .ref ka, .ref kb, .int cc, .int cd, .int ce, .int cf, .int cg, .int ch, .int ci, .int cj, .int ck, .ref kl, .int cm, .int cn, .ref ko])), (k8, .inl (cI, 40, .inl sc8_955))] H := hP
                replace hD : va_D A [(k0, .inl (cI, 1201, .inl c0)), (k, .inr (11, [.ref k0, .ref k1, .ref k2, .int c3, .ref k4, .ref k5, .ref k6, .ref k7, .ref k8, .int sc9_954, .ref ka, .ref kb, .int cc, .int cd, .int ce, .int cf, .int cg, .int ch, .int ci, .int cj, .int ck, .ref kl, .int cm, .int cn, .ref ko])), (k8, .inl (cI, 40, .inl sc8_955))] := hD
                have lo_sc9_954 := k_lo sc9_954
                have hi_sc9_954 := k_hi sc9_954
                obtain ⟨h_957, h_958⟩ := w_953
                try simp only [zl_50] at h_957
                have h_957 : 0 ≤ sc9_954.toInt := h_957
                try simp only [zl_50] at h_958
                have h_958 : sc9_954.toInt ≤ 40 := h_958
                refine lv_iload hx hb dX11_speaks_59 (lv_at hl 0 rfl) ?_
                refine lv_tableIn (off := 379) (tgt := 440) hx hb dX11_speaks_61 (by decide +kernel) (by decide +kernel) (by decide +kernel) (by decide +kernel) ?_
                refine lv_aload_n hx hb dX11_speaks_440 rfl (lv_at hl 5 rfl) ?_
                refine lv_iload_n hx hb dX11_speaks_441 rfl (lv_at hl 6 rfl) ?_
                refine lv_iload hx hb dX11_speaks_442 (lv_at hl 1 rfl) ?_
                refine lv_iconst (v := 0) hx hb dX11_speaks_444 (by decide +kernel) ?_
                refine lv_iload hx hb dX11_speaks_445 (lv_at hl 9 rfl) ?_
                refine kJi (wr := []) (va_runV (As := [.int a0, .int 0, .int 0, .int a3]) (rest := []) ⟨hx, hb, hml, hown, hT⟩ (ih l D cI aK aV k k0 k1 k2 k4 k5 k6 k7 k8 ka kb kl ko H.size c3 sc9_954 cc cd ce cf cg ch ci cj ck cm cn c0 sc8_955 a0 0 0 a3 pre0 (by first | omega | (simp only [zl_0]; first | done | omega) | decide | assumption | rfl) (by first | omega | (simp only [zl_0]; first | done | omega) | decide | assumption | rfl) (by first | omega | (simp only [zl_0]; first | done | omega) | decide | assumption | rfl) (by first | omega | (simp only [zl_0]; first | done | omega) | decide | assumption | rfl) (by first | omega | (simp only [zl_0]; first | done | omega) | decide | assumption | rfl) (by first | omega | (simp only [zl_0]; first | done | omega) | decide | assumption | rfl) (by first | omega | (simp only [zl_0]; first | done | omega) | decide | assumption | rfl) (by first | omega | (simp only [zl_0]; first | done | omega) | decide | assumption | rfl) (by first | omega | (simp only [zl_0]; first | done | omega) | decide | assumption | rfl)) (cwV 4 hT (gV_in mw_1578 mw_1575 mw_1577 mw_p6_6 mw_12) rfl rfl rfl (by decide +kernel) ⟨(by dsimp only; omega), (by dsimp only; omega)⟩) (kRecvX (q0 := 1) (ci := 11) hK hP hD hN hXS hS hA rfl rfl [1, 0, 2] rfl (by decide +kernel)) rfl rfl hl.1 rfl (lv_room (Nat.le_of_ble_eq_true rfl)) dX11_speaks_447 ⟨Nat.le_of_ble_eq_true rfl, Nat.le_of_ble_eq_true rfl⟩) hP hD hS hA [1, 0, 2] [] rfl rfl (by decide +kernel) (by decide +kernel) ?_
                clear hP hD hS
                intro r_959 u_963 H locs w_960 hP hD hS
                obtain ⟨sc9_961, sc8_962⟩ := u_963
                replace hP : va_P D vwCl [(k, .inr (11, [.ref k0, .ref k1, .ref k2, .int c3, .ref k4, .ref k5, .ref k6, .ref k7, .ref k8, .int sc9_961, .ref ka, .ref kb, .int cc, .int cd, .int ce, .int cf, .int cg, .int ch, .int ci, .int cj, .int ck, .ref kl, .int cm, .int cn, .ref ko])), (k0, .inl (cI, 1201, .inl c0)), (k8, .inl (cI, 40, .inl sc8_962))] H := hP
                replace hD : va_D A [(k, .inr (11, [.ref k0, .ref k1, .ref k2, .int c3, .ref k4, .ref k5, .ref k6, .ref k7, .ref k8, .int sc9_961, .ref ka, .ref kb, .int cc, .int cd, .int ce, .int cf, .int cg, .int ch, .int ci, .int cj, .int ck, .ref kl, .int cm, .int cn, .ref ko])), (k0, .inl (cI, 1201, .inl c0)), (k8, .inl (cI, 40, .inl sc8_962))] := hD
                have lo_sc9_961 := k_lo sc9_961
                have hi_sc9_961 := k_hi sc9_961
                obtain ⟨h_964, h_965⟩ := w_960
                try simp only [zl_0] at h_964
                have h_964 : 0 ≤ sc9_961.toInt := h_964
                try simp only [zl_0] at h_965
                have h_965 : sc9_961.toInt ≤ 40 := h_965
                have lo_r_959 := k_lo r_959
                have hi_r_959 := k_hi r_959
                refine lv_iload hx hb dX11_speaks_450 (lv_at hl 2 rfl) ?_
                refine lv_iadd hx hb dX11_speaks_452 ?_
                refine lv_topi (fun v_966 ev_966 => ?_)
                have lo_v_966 := k_lo v_966
                have hi_v_966 := k_hi v_966
                exact hRet (sc9_961, sc8_962) [0, 1, 2] ⟨(by first | omega | decide | assumption | rfl | (dsimp only; first | omega)), (by first | omega | decide | assumption | rfl | (dsimp only; first | omega))⟩ hP hD (by decide +kernel) rfl hS rfl dX11_speaks_453
              · exfalso; omega
              · exfalso; omega
              · exfalso; omega
              · exfalso; omega
            · exfalso; omega
            · exfalso; omega
            · exfalso; omega
          · have h_40 : l3_5.toInt = 4 := h_40
            have h_41 : a2.toInt = 2 := h_41
            have h_42 : (bKi l3_5 a2).toInt = 51 := h_42
            obtain rfl : r_4 = 51 := hr_4.trans (by decide +kernel)
            refine b_if_ne hx hb zl_51 (tgt := 22) dX11_speaks_9 (by decide +kernel) (fun c_967 => ?_) (fun c_967 => by exfalso; omega)
            refine lv_aload_n hx hb dX11_speaks_22 rfl (lv_at hl 1 rfl) ?_
            refine lv_iload_n hx hb dX11_speaks_23 rfl (lv_at hl 2 rfl) ?_
            refine lv_iconst (v := 0) hx hb dX11_speaks_24 (by decide +kernel) ?_
            refine kJi (wr := [(k8, .inl (cI, 40, .inl c8))]) (va_runV (As := [.int a0, .int 0]) (rest := []) ⟨hx, hb, hml, hown, hT⟩ (c_X11_workG0 l D cI aK aV k k0 k1 k2 k4 k5 k6 k7 k8 ka kb kl ko H.size c3 c9 cc cd ce cf cg ch ci cj ck cm cn c0 a0 0 (by first | omega | (simp only [zl_0]; first | done | omega) | decide | assumption | rfl) (by first | omega | (simp only [zl_0]; first | done | omega) | decide | assumption | rfl) (by first | omega | (simp only [zl_0]; first | done | omega) | decide | assumption | rfl)) (cwV 2 hT (gV_in mw_1276 mw_1273 mw_1275 mw_p3_12 mw_12) rfl rfl rfl (by decide +kernel) ⟨(by dsimp only; omega), (by dsimp only; omega)⟩) (kRecvX (q0 := 0) (ci := 11) hK hP hD hN hXS hS hA rfl rfl [0, 1] rfl (by decide +kernel)) rfl rfl hl.1 rfl (lv_room (Nat.le_of_ble_eq_true rfl)) dX11_speaks_25 ⟨Nat.le_of_ble_eq_true rfl, Nat.le_of_ble_eq_true rfl⟩) hP hD hS hA [0, 1] [2] rfl rfl (by decide +kernel) (by decide +kernel) ?_
            clear hP hD hS
            intro r_968 u_970 H locs w_969 hP hD hS
            replace hP : va_P D vwCl [(k8, .inl (cI, 40, .inl c8)), (k, .inr (11, [.ref k0, .ref k1, .ref k2, .int c3, .ref k4, .ref k5, .ref k6, .ref k7, .ref k8, .int c9, .ref ka, .ref kb, .int cc, .int cd, .int ce, .int cf, .int cg, .int ch, .int ci, .int cj, .int ck, .ref kl, .int cm, .int cn, .ref ko])), (k0, .inl (cI, 1201, .inl c0))] H := hP
            replace hD : va_D A [(k8, .inl (cI, 40, .inl c8)), (k, .inr (11, [.ref k0, .ref k1, .ref k2, .int c3, .ref k4, .ref k5, .ref k6, .ref k7, .ref k8, .int c9, .ref ka, .ref kb, .int cc, .int cd, .int ce, .int cf, .int cg, .int ch, .int ci, .int cj, .int ck, .ref kl, .int cm, .int cn, .ref ko])), (k0, .inl (cI, 1201, .inl c0))] := hD
            have h_971 := w_969
            have h_971 : r_968 = wW c0 a0 0 := h_971
            have t_972 : r_968.toInt = (wW c0 a0 0).toInt := by rw [h_971]
            have b_973 : 0 ≤ r_968.toInt ∧ r_968.toInt ≤ 5 := by rw [h_971]; exact SB.w0 pre0 (by omega) (by omega)
            have lo_r_968 := k_lo r_968
            have hi_r_968 := k_hi r_968
            refine lv_istore (lv' := [(6, .int r_968), (5, .int l3_5), (0, .ref k), (1, .int a0), (2, .int a1), (3, .int a2), (4, .int a3)]) hx hb dX11_speaks_28 hl (by decide +kernel) rfl ?_
            clear hl
            intro ls hl
            refine lv_aload_n hx hb dX11_speaks_30 rfl (lv_at hl 2 rfl) ?_
            refine lv_iload_n hx hb dX11_speaks_31 rfl (lv_at hl 3 rfl) ?_
            refine lv_iconst (v := 2) hx hb dX11_speaks_32 (by decide +kernel) ?_
            refine kJi (wr := [(k8, .inl (cI, 40, .inl c8))]) (va_runV (As := [.int a0, .int 2]) (rest := []) ⟨hx, hb, hml, hown, hT⟩ (c_X11_workG2 l D cI aK aV k k0 k1 k2 k4 k5 k6 k7 k8 ka kb kl ko H.size c3 c9 cc cd ce cf cg ch ci cj ck cm cn c0 a0 2 (by first | omega | (simp only [zl_2]; first | done | omega) | decide | assumption | rfl) (by first | omega | (simp only [zl_2]; first | done | omega) | decide | assumption | rfl) (by first | omega | (simp only [zl_2]; first | done | omega) | decide | assumption | rfl)) (cwV 2 hT (gV_in mw_1276 mw_1273 mw_1275 mw_p3_12 mw_12) rfl rfl rfl (by decide +kernel) ⟨(by dsimp only; omega), (by dsimp only; omega)⟩) (kRecvX (q0 := 1) (ci := 11) hK hP hD hN hXS hS hA rfl rfl [1, 2] rfl (by decide +kernel)) rfl rfl hl.1 rfl (lv_room (Nat.le_of_ble_eq_true rfl)) dX11_speaks_33 ⟨Nat.le_of_ble_eq_true rfl, Nat.le_of_ble_eq_true rfl⟩) hP hD hS hA [1, 2] [0] rfl rfl (by decide +kernel) (by decide +kernel) ?_
            clear hP hD hS
            intro r_974 u_976 H locs w_975 hP hD hS
            replace hP : va_P D vwCl [(k8, .inl (cI, 40, .inl c8)), (k, .inr (11, [.ref k0, .ref k1, .ref k2, .int c3, .ref k4, .ref k5, .ref k6, .ref k7, .ref k8, .int c9, .ref ka, .ref kb, .int cc, .int cd, .int ce, .int cf, .int cg, .int ch, .int ci, .int cj, .int ck, .ref kl, .int cm, .int cn, .ref ko])), (k0, .inl (cI, 1201, .inl c0))] H := hP
            replace hD : va_D A [(k8, .inl (cI, 40, .inl c8)), (k, .inr (11, [.ref k0, .ref k1, .ref k2, .int c3, .ref k4, .ref k5, .ref k6, .ref k7, .ref k8, .int c9, .ref ka, .ref kb, .int cc, .int cd, .int ce, .int cf, .int cg, .int ch, .int ci, .int cj, .int ck, .ref kl, .int cm, .int cn, .ref ko])), (k0, .inl (cI, 1201, .inl c0))] := hD
            have h_977 := w_975
            have h_977 : r_974 = wW c0 a0 2 := h_977
            have t_978 : r_974.toInt = (wW c0 a0 2).toInt := by rw [h_977]
            have lo_r_974 := k_lo r_974
            have hi_r_974 := k_hi r_974
            refine lv_istore (lv' := [(7, .int r_974), (6, .int r_968), (5, .int l3_5), (0, .ref k), (1, .int a0), (2, .int a1), (3, .int a2), (4, .int a3)]) hx hb dX11_speaks_36 hl (by decide +kernel) rfl ?_
            clear hl
            intro ls hl
            refine lv_iload hx hb dX11_speaks_38 (lv_at hl 2 rfl) ?_
            refine kJi (wr := [(k8, .inl (cI, 40, .inl c8)), (k, .inr (11, [.ref k0, .ref k1, .ref k2, .int c3, .ref k4, .ref k5, .ref k6, .ref k7, .ref k8, .int c9, .ref ka, .ref kb, .int cc, .int cd, .int ce, .int cf, .int cg, .int ch, .int ci, .int cj, .int ck, .ref kl, .int cm, .int cn, .ref ko])), (k0, .inl (cI, 1201, .inl c0))]) (va_runS (As := [.int l3_5]) (rest := []) ⟨hx, hb, hml, hown, hT⟩ (c_X11_parentG l D cI aK aV H.size l3_5 (by first | omega | decide | assumption | rfl) (by first | omega | decide | assumption | rfl)) (cwS 1 hT (gS_in mw_1282 mw_1280 mw_1281 mw_12) rfl rfl rfl (by decide +kernel) ⟨(by dsimp only; omega), (by dsimp only; omega)⟩) (kStatX hK hP hD hN hXS hS hA [] rfl (by decide +kernel)) rfl rfl hl.1 rfl (lv_room (Nat.le_of_ble_eq_true rfl)) dX11_speaks_40 ⟨Nat.le_of_ble_eq_true rfl, Nat.le_of_ble_eq_true rfl⟩) hP hD hS hA [] [0, 1, 2] rfl rfl (by decide +kernel) (by decide +kernel) ?_
            clear hP hD hS
            intro r_979 u_981 H locs w_980 hP hD hS
            replace hP : va_P D vwCl [(k8, .inl (cI, 40, .inl c8)), (k, .inr (11, [.ref k0, .ref k1, .ref k2, .int c3, .ref k4, .ref k5, .ref k6, .ref k7, .ref k8, .int c9, .ref ka, .ref kb, .int cc, .int cd, .int ce, .int cf, .int cg, .int ch, .int ci, .int cj, .int ck, .ref kl, .int cm, .int cn, .ref ko])), (k0, .inl (cI, 1201, .inl c0))] H := hP
            replace hD : va_D A [(k8, .inl (cI, 40, .inl c8)), (k, .inr (11, [.ref k0, .ref k1, .ref k2, .int c3, .ref k4, .ref k5, .ref k6, .ref k7, .ref k8, .int c9, .ref ka, .ref kb, .int cc, .int cd, .int ce, .int cf, .int cg, .int ch, .int ci, .int cj, .int ck, .ref kl, .int cm, .int cn, .ref ko])), (k0, .inl (cI, 1201, .inl c0))] := hD
            rcases w_980 with ⟨hr_979, h_982⟩ | ⟨hr_979, h_983⟩ | ⟨hr_979, h_984⟩ | ⟨hr_979, h_985⟩ | ⟨hr_979, h_986⟩
            · exfalso; omega
            · have h_983 : l3_5.toInt = 1 ∨ l3_5.toInt = 4 := h_983
              obtain rfl : r_979 = 0 := hr_979.trans (by decide +kernel)
              refine lv_istore (lv' := [(8, .int 0), (7, .int r_974), (6, .int r_968), (5, .int l3_5), (0, .ref k), (1, .int a0), (2, .int a1), (3, .int a2), (4, .int a3)]) hx hb dX11_speaks_43 hl (by decide +kernel) rfl ?_
              clear hl
              intro ls hl
              refine lv_iload hx hb dX11_speaks_45 (lv_at hl 3 rfl) ?_
              refine lv_iload_n hx hb dX11_speaks_47 rfl (lv_at hl 7 rfl) ?_
              refine kJi (wr := [(k8, .inl (cI, 40, .inl c8)), (k, .inr (11, [.ref k0, .ref k1, .ref k2, .int c3, .ref k4, .ref k5, .ref k6, .ref k7, .ref k8, .int c9, .ref ka, .ref kb, .int cc, .int cd, .int ce, .int cf, .int cg, .int ch, .int ci, .int cj, .int ck, .ref kl, .int cm, .int cn, .ref ko])), (k0, .inl (cI, 1201, .inl c0))]) (va_runS (As := [.int l3_5, .int a2]) (rest := []) ⟨hx, hb, hml, hown, hT⟩ (c_X11_bodyOfG l D cI aK aV H.size l3_5 a2 (by first | omega | decide | assumption | rfl) (by first | omega | decide | assumption | rfl) (by first | omega | decide | assumption | rfl) (by first | omega | decide | assumption | rfl)) (cwS 2 hT (gS_in mw_1581 mw_1579 mw_1580 mw_12) rfl rfl rfl (by decide +kernel) ⟨(by dsimp only; omega), (by dsimp only; omega)⟩) (kStatX hK hP hD hN hXS hS hA [] rfl (by decide +kernel)) rfl rfl hl.1 rfl (lv_room (Nat.le_of_ble_eq_true rfl)) dX11_speaks_48 ⟨Nat.le_of_ble_eq_true rfl, Nat.le_of_ble_eq_true rfl⟩) hP hD hS hA [] [0, 1, 2] rfl rfl (by decide +kernel) (by decide +kernel) ?_
              clear hP hD hS
              intro r_987 u_989 H locs w_988 hP hD hS
              replace hP : va_P D vwCl [(k8, .inl (cI, 40, .inl c8)), (k, .inr (11, [.ref k0, .ref k1, .ref k2, .int c3, .ref k4, .ref k5, .ref k6, .ref k7, .ref k8, .int c9, .ref ka, .ref kb, .int cc, .int cd, .int ce, .int cf, .int cg, .int ch, .int ci, .int cj, .int ck, .ref kl, .int cm, .int cn, .ref ko])), (k0, .inl (cI, 1201, .inl c0))] H := hP
              replace hD : va_D A [(k8, .inl (cI, 40, .inl c8)), (k, .inr (11, [.ref k0, .ref k1, .ref k2, .int c3, .ref k4, .ref k5, .ref k6, .ref k7, .ref k8, .int c9, .ref ka, .ref kb, .int cc, .int cd, .int ce, .int cf, .int cg, .int ch, .int ci, .int cj, .int ck, .ref kl, .int cm, .int cn, .ref ko])), (k0, .inl (cI, 1201, .inl c0))] := hD
              rcases w_988 with ⟨hr_987, h_990, h_991, h_992⟩ | ⟨hr_987, h_993, h_994, h_995⟩ | ⟨hr_987, h_996, h_997, h_998⟩ | ⟨hr_987, h_999, h_1000, h_1001⟩ | ⟨hr_987, h_1002, h_1003, h_1004⟩ | ⟨hr_987, h_1005, h_1006, h_1007⟩ | ⟨hr_987, h_1008, h_1009, h_1010⟩ | ⟨hr_987, h_1011, h_1012, h_1013⟩ | ⟨hr_987, h_1014, h_1015, h_1016⟩ | ⟨hr_987, h_1017, h_1018, h_1019⟩ | ⟨hr_987, h_1020, h_1021, h_1022⟩ | ⟨hr_987, h_1023, h_1024, h_1025⟩ | ⟨hr_987, h_1026, h_1027, h_1028⟩ | ⟨hr_987, h_1029, h_1030, h_1031⟩ | ⟨hr_987, h_1032, h_1033⟩
              · exfalso; omega
              · exfalso; omega
              · exfalso; omega
              · exfalso; omega
              · exfalso; omega
              · exfalso; omega
              · exfalso; omega
              · exfalso; omega
              · exfalso; omega
              · exfalso; omega
              · exfalso; omega
              · have h_1023 : l3_5.toInt = 4 := h_1023
                have h_1024 : a2.toInt = 2 := h_1024
                have h_1025 : (bKi l3_5 a2).toInt = 51 := h_1025
                obtain rfl : r_987 = 51 := hr_987.trans (by decide +kernel)
                refine lv_istore (lv' := [(9, .int 51), (8, .int 0), (7, .int r_974), (6, .int r_968), (5, .int l3_5), (0, .ref k), (1, .int a0), (2, .int a1), (3, .int a2), (4, .int a3)]) hx hb dX11_speaks_51 hl (by decide +kernel) rfl ?_
                clear hl
                intro ls hl
                refine lv_aload_n hx hb dX11_speaks_53 rfl (lv_at hl 5 rfl) ?_
                refine lv_iload hx hb dX11_speaks_54 (lv_at hl 0 rfl) ?_
                refine kJv (wr := [(k0, .inl (cI, 1201, .inl c0))]) (va_runV (As := [.int 51]) (rest := []) ⟨hx, hb, hml, hown, hT⟩ (c_X11_ranG l D cI aK aV k k0 k1 k2 k4 k5 k6 k7 k8 ka kb kl ko H.size c3 c9 cc cd ce cf cg ch ci cj ck cm cn c8 51 (by first | omega | (simp only [zl_51]; first | done | omega) | decide | assumption | rfl) (by first | omega | (simp only [zl_51]; first | done | omega) | decide | assumption | rfl)) (cwV 1 hT (gV_in mw_1585 mw_1582 mw_1584 mw_p6_7 mw_12) rfl rfl rfl (by decide +kernel) ⟨(by dsimp only; omega), (by dsimp only; omega)⟩) (kRecvX (q0 := 1) (ci := 11) hK hP hD hN hXS hS hA rfl rfl [1, 0] rfl (by decide +kernel)) rfl rfl hl.1 rfl (lv_room (Nat.le_of_ble_eq_true rfl)) dX11_speaks_56 ⟨Nat.le_of_ble_eq_true rfl, Nat.le_of_ble_eq_true rfl⟩) hP hD hS hA [1, 0] [2] rfl rfl (by decide +kernel) (by decide +kernel) ?_
                clear hP hD hS
                intro u_1038 H locs w_1035 hP hD hS
                obtain ⟨sc9_1036, sc8_1037⟩ := u_1038
                replace hP : va_P D vwCl [(k0, .inl (cI, 1201, .inl c0)), (k, .inr (11, [.ref k0, .ref k1, .ref k2, .int c3, .ref k4, .ref k5, .ref k6, .ref k7, .ref k8, .int sc9_1036, .ref ka, .ref kb, .int cc, .int cd, .int ce, .int cf, .int cg, .int ch, .int ci, .int cj, .int ck, .ref kl, .int cm, .int cn, .ref ko])), (k8, .inl (cI, 40, .inl sc8_1037))] H := hP
                replace hD : va_D A [(k0, .inl (cI, 1201, .inl c0)), (k, .inr (11, [.ref k0, .ref k1, .ref k2, .int c3, .ref k4, .ref k5, .ref k6, .ref k7, .ref k8, .int sc9_1036, .ref ka, .ref kb, .int cc, .int cd, .int ce, .int cf, .int cg, .int ch, .int ci, .int cj, .int ck, .ref kl, .int cm, .int cn, .ref ko])), (k8, .inl (cI, 40, .inl sc8_1037))] := hD
                have lo_sc9_1036 := k_lo sc9_1036
                have hi_sc9_1036 := k_hi sc9_1036
                obtain ⟨h_1039, h_1040⟩ := w_1035
                try simp only [zl_51] at h_1039
                have h_1039 : 0 ≤ sc9_1036.toInt := h_1039
                try simp only [zl_51] at h_1040
                have h_1040 : sc9_1036.toInt ≤ 40 := h_1040
                refine lv_iload hx hb dX11_speaks_59 (lv_at hl 0 rfl) ?_
                refine lv_tableIn (off := 393) (tgt := 454) hx hb dX11_speaks_61 (by decide +kernel) (by decide +kernel) (by decide +kernel) (by decide +kernel) ?_
                refine lv_aload_n hx hb dX11_speaks_454 rfl (lv_at hl 5 rfl) ?_
                refine lv_iload_n hx hb dX11_speaks_455 rfl (lv_at hl 6 rfl) ?_
                refine lv_iload hx hb dX11_speaks_456 (lv_at hl 1 rfl) ?_
                refine lv_iconst (v := 2) hx hb dX11_speaks_458 (by decide +kernel) ?_
                refine lv_iload hx hb dX11_speaks_459 (lv_at hl 9 rfl) ?_
                refine kJi (wr := []) (va_runV (As := [.int a0, .int 0, .int 2, .int a3]) (rest := []) ⟨hx, hb, hml, hown, hT⟩ (ih l D cI aK aV k k0 k1 k2 k4 k5 k6 k7 k8 ka kb kl ko H.size c3 sc9_1036 cc cd ce cf cg ch ci cj ck cm cn c0 sc8_1037 a0 0 2 a3 pre0 (by first | omega | (simp only [zl_0, zl_2]; first | done | omega) | decide | assumption | rfl) (by first | omega | (simp only [zl_0, zl_2]; first | done | omega) | decide | assumption | rfl) (by first | omega | (simp only [zl_0, zl_2]; first | done | omega) | decide | assumption | rfl) (by first | omega | (simp only [zl_0, zl_2]; first | done | omega) | decide | assumption | rfl) (by first | omega | (simp only [zl_0, zl_2]; first | done | omega) | decide | assumption | rfl) (by first | omega | (simp only [zl_0, zl_2]; first | done | omega) | decide | assumption | rfl) (by first | omega | (simp only [zl_0, zl_2]; first | done | omega) | decide | assumption | rfl) (by first | omega | (simp only [zl_0, zl_2]; first | done | omega) | decide | assumption | rfl) (by first | omega | (simp only [zl_0, zl_2]; first | done | omega) | decide | assumption | rfl)) (cwV 4 hT (gV_in mw_1578 mw_1575 mw_1577 mw_p6_6 mw_12) rfl rfl rfl (by decide +kernel) ⟨(by dsimp only; omega), (by dsimp only; omega)⟩) (kRecvX (q0 := 1) (ci := 11) hK hP hD hN hXS hS hA rfl rfl [1, 0, 2] rfl (by decide +kernel)) rfl rfl hl.1 rfl (lv_room (Nat.le_of_ble_eq_true rfl)) dX11_speaks_461 ⟨Nat.le_of_ble_eq_true rfl, Nat.le_of_ble_eq_true rfl⟩) hP hD hS hA [1, 0, 2] [] rfl rfl (by decide +kernel) (by decide +kernel) ?_
                clear hP hD hS
                intro r_1041 u_1045 H locs w_1042 hP hD hS
                obtain ⟨sc9_1043, sc8_1044⟩ := u_1045
                replace hP : va_P D vwCl [(k, .inr (11, [.ref k0, .ref k1, .ref k2, .int c3, .ref k4, .ref k5, .ref k6, .ref k7, .ref k8, .int sc9_1043, .ref ka, .ref kb, .int cc, .int cd, .int ce, .int cf, .int cg, .int ch, .int ci, .int cj, .int ck, .ref kl, .int cm, .int cn, .ref ko])), (k0, .inl (cI, 1201, .inl c0)), (k8, .inl (cI, 40, .inl sc8_1044))] H := hP
                replace hD : va_D A [(k, .inr (11, [.ref k0, .ref k1, .ref k2, .int c3, .ref k4, .ref k5, .ref k6, .ref k7, .ref k8, .int sc9_1043, .ref ka, .ref kb, .int cc, .int cd, .int ce, .int cf, .int cg, .int ch, .int ci, .int cj, .int ck, .ref kl, .int cm, .int cn, .ref ko])), (k0, .inl (cI, 1201, .inl c0)), (k8, .inl (cI, 40, .inl sc8_1044))] := hD
                have lo_sc9_1043 := k_lo sc9_1043
                have hi_sc9_1043 := k_hi sc9_1043
                obtain ⟨h_1046, h_1047⟩ := w_1042
                try simp only [zl_0, zl_2] at h_1046
                have h_1046 : 0 ≤ sc9_1043.toInt := h_1046
                try simp only [zl_0, zl_2] at h_1047
                have h_1047 : sc9_1043.toInt ≤ 40 := h_1047
                have lo_r_1041 := k_lo r_1041
                have hi_r_1041 := k_hi r_1041
                refine lv_istore (lv' := [(10, .int r_1041), (9, .int 51), (8, .int 0), (7, .int r_974), (6, .int r_968), (5, .int l3_5), (0, .ref k), (1, .int a0), (2, .int a1), (3, .int a2), (4, .int a3)]) hx hb dX11_speaks_464 hl (by decide +kernel) rfl ?_
                clear hl
                intro ls hl
                refine lv_iload hx hb dX11_speaks_466 (lv_at hl 0 rfl) ?_
                refine lv_aload_n hx hb dX11_speaks_468 rfl (lv_at hl 6 rfl) ?_
                refine lv_iload_n hx hb dX11_speaks_469 rfl (lv_at hl 7 rfl) ?_
                refine lv_iload hx hb dX11_speaks_470 (lv_at hl 4 rfl) ?_
                refine lv_iconst (v := 0) hx hb dX11_speaks_472 (by decide +kernel) ?_
                refine lv_iconst (v := 1) hx hb dX11_speaks_473 (by decide +kernel) ?_
                refine kJi (wr := []) (va_runV (As := [.int a0, .int r_968, .int 0, .int 1]) (rest := [.int r_1041]) ⟨hx, hb, hml, hown, hT⟩ (ih l D cI aK aV k k0 k1 k2 k4 k5 k6 k7 k8 ka kb kl ko H.size c3 sc9_1043 cc cd ce cf cg ch ci cj ck cm cn c0 sc8_1044 a0 r_968 0 1 pre0 (by first | omega | (simp only [zl_0, zl_1]; first | done | omega) | decide | assumption | rfl) (by first | omega | (simp only [zl_0, zl_1]; first | done | omega) | decide | assumption | rfl) (by first | omega | (simp only [zl_0, zl_1]; first | done | omega) | decide | assumption | rfl) (by first | omega | (simp only [zl_0, zl_1]; first | done | omega) | decide | assumption | rfl) (by first | omega | (simp only [zl_0, zl_1]; first | done | omega) | decide | assumption | rfl) (by first | omega | (simp only [zl_0, zl_1]; first | done | omega) | decide | assumption | rfl) (by first | omega | (simp only [zl_0, zl_1]; first | done | omega) | decide | assumption | rfl) (by first | omega | (simp only [zl_0, zl_1]; first | done | omega) | decide | assumption | rfl) (by first | omega | (simp only [zl_0, zl_1]; first | done | omega) | decide | assumption | rfl)) (cwV 4 hT (gV_in mw_1578 mw_1575 mw_1577 mw_p6_6 mw_12) rfl rfl rfl (by decide +kernel) ⟨(by dsimp only; omega), (by dsimp only; omega)⟩) (kRecvX (q0 := 0) (ci := 11) hK hP hD hN hXS hS hA rfl rfl [0, 1, 2] rfl (by decide +kernel)) rfl rfl hl.1 rfl (lv_room (Nat.le_of_ble_eq_true rfl)) dX11_speaks_474 ⟨Nat.le_of_ble_eq_true rfl, Nat.le_of_ble_eq_true rfl⟩) hP hD hS hA [0, 1, 2] [] rfl rfl (by decide +kernel) (by decide +kernel) ?_
                clear hP hD hS
                intro r_1048 u_1052 H locs w_1049 hP hD hS
                obtain ⟨sc9_1050, sc8_1051⟩ := u_1052
                replace hP : va_P D vwCl [(k, .inr (11, [.ref k0, .ref k1, .ref k2, .int c3, .ref k4, .ref k5, .ref k6, .ref k7, .ref k8, .int sc9_1050, .ref ka, .ref kb, .int cc, .int cd, .int ce, .int cf, .int cg, .int ch, .int ci, .int cj, .int ck, .ref kl, .int cm, .int cn, .ref ko])), (k0, .inl (cI, 1201, .inl c0)), (k8, .inl (cI, 40, .inl sc8_1051))] H := hP
                replace hD : va_D A [(k, .inr (11, [.ref k0, .ref k1, .ref k2, .int c3, .ref k4, .ref k5, .ref k6, .ref k7, .ref k8, .int sc9_1050, .ref ka, .ref kb, .int cc, .int cd, .int ce, .int cf, .int cg, .int ch, .int ci, .int cj, .int ck, .ref kl, .int cm, .int cn, .ref ko])), (k0, .inl (cI, 1201, .inl c0)), (k8, .inl (cI, 40, .inl sc8_1051))] := hD
                have lo_sc9_1050 := k_lo sc9_1050
                have hi_sc9_1050 := k_hi sc9_1050
                obtain ⟨h_1053, h_1054⟩ := w_1049
                try simp only [zl_0, zl_1] at h_1053
                have h_1053 : 0 ≤ sc9_1050.toInt := h_1053
                try simp only [zl_0, zl_1] at h_1054
                have h_1054 : sc9_1050.toInt ≤ 40 := h_1054
                have lo_r_1048 := k_lo r_1048
                have hi_r_1048 := k_hi r_1048
                refine lv_isub hx hb dX11_speaks_477 ?_
                refine lv_topi (fun v_1055 ev_1055 => ?_)
                have lo_v_1055 := k_lo v_1055
                have hi_v_1055 := k_hi v_1055
                exact hRet (sc9_1050, sc8_1051) [0, 1, 2] ⟨(by first | omega | decide | assumption | rfl | (dsimp only; first | omega)), (by first | omega | decide | assumption | rfl | (dsimp only; first | omega))⟩ hP hD (by decide +kernel) rfl hS rfl dX11_speaks_478
              · exfalso; omega
              · exfalso; omega
              · exfalso; omega
            · exfalso; omega
            · exfalso; omega
            · exfalso; omega
          · have h_43 : l3_5.toInt = 5 := h_43
            have h_44 : a2.toInt = 1 := h_44
            have h_45 : (bKi l3_5 a2).toInt = 60 := h_45
            obtain rfl : r_4 = 60 := hr_4.trans (by decide +kernel)
            refine b_if_ne hx hb zl_60 (tgt := 22) dX11_speaks_9 (by decide +kernel) (fun c_1056 => ?_) (fun c_1056 => by exfalso; omega)
            refine lv_aload_n hx hb dX11_speaks_22 rfl (lv_at hl 1 rfl) ?_
            refine lv_iload_n hx hb dX11_speaks_23 rfl (lv_at hl 2 rfl) ?_
            refine lv_iconst (v := 0) hx hb dX11_speaks_24 (by decide +kernel) ?_
            refine kJi (wr := [(k8, .inl (cI, 40, .inl c8))]) (va_runV (As := [.int a0, .int 0]) (rest := []) ⟨hx, hb, hml, hown, hT⟩ (c_X11_workG0 l D cI aK aV k k0 k1 k2 k4 k5 k6 k7 k8 ka kb kl ko H.size c3 c9 cc cd ce cf cg ch ci cj ck cm cn c0 a0 0 (by first | omega | (simp only [zl_0]; first | done | omega) | decide | assumption | rfl) (by first | omega | (simp only [zl_0]; first | done | omega) | decide | assumption | rfl) (by first | omega | (simp only [zl_0]; first | done | omega) | decide | assumption | rfl)) (cwV 2 hT (gV_in mw_1276 mw_1273 mw_1275 mw_p3_12 mw_12) rfl rfl rfl (by decide +kernel) ⟨(by dsimp only; omega), (by dsimp only; omega)⟩) (kRecvX (q0 := 0) (ci := 11) hK hP hD hN hXS hS hA rfl rfl [0, 1] rfl (by decide +kernel)) rfl rfl hl.1 rfl (lv_room (Nat.le_of_ble_eq_true rfl)) dX11_speaks_25 ⟨Nat.le_of_ble_eq_true rfl, Nat.le_of_ble_eq_true rfl⟩) hP hD hS hA [0, 1] [2] rfl rfl (by decide +kernel) (by decide +kernel) ?_
            clear hP hD hS
            intro r_1057 u_1059 H locs w_1058 hP hD hS
            replace hP : va_P D vwCl [(k8, .inl (cI, 40, .inl c8)), (k, .inr (11, [.ref k0, .ref k1, .ref k2, .int c3, .ref k4, .ref k5, .ref k6, .ref k7, .ref k8, .int c9, .ref ka, .ref kb, .int cc, .int cd, .int ce, .int cf, .int cg, .int ch, .int ci, .int cj, .int ck, .ref kl, .int cm, .int cn, .ref ko])), (k0, .inl (cI, 1201, .inl c0))] H := hP
            replace hD : va_D A [(k8, .inl (cI, 40, .inl c8)), (k, .inr (11, [.ref k0, .ref k1, .ref k2, .int c3, .ref k4, .ref k5, .ref k6, .ref k7, .ref k8, .int c9, .ref ka, .ref kb, .int cc, .int cd, .int ce, .int cf, .int cg, .int ch, .int ci, .int cj, .int ck, .ref kl, .int cm, .int cn, .ref ko])), (k0, .inl (cI, 1201, .inl c0))] := hD
            have h_1060 := w_1058
            have h_1060 : r_1057 = wW c0 a0 0 := h_1060
            have t_1061 : r_1057.toInt = (wW c0 a0 0).toInt := by rw [h_1060]
            have b_1062 : 0 ≤ r_1057.toInt ∧ r_1057.toInt ≤ 5 := by rw [h_1060]; exact SB.w0 pre0 (by omega) (by omega)
            have lo_r_1057 := k_lo r_1057
            have hi_r_1057 := k_hi r_1057
            refine lv_istore (lv' := [(6, .int r_1057), (5, .int l3_5), (0, .ref k), (1, .int a0), (2, .int a1), (3, .int a2), (4, .int a3)]) hx hb dX11_speaks_28 hl (by decide +kernel) rfl ?_
            clear hl
            intro ls hl
            refine lv_aload_n hx hb dX11_speaks_30 rfl (lv_at hl 2 rfl) ?_
            refine lv_iload_n hx hb dX11_speaks_31 rfl (lv_at hl 3 rfl) ?_
            refine lv_iconst (v := 2) hx hb dX11_speaks_32 (by decide +kernel) ?_
            refine kJi (wr := [(k8, .inl (cI, 40, .inl c8))]) (va_runV (As := [.int a0, .int 2]) (rest := []) ⟨hx, hb, hml, hown, hT⟩ (c_X11_workG2 l D cI aK aV k k0 k1 k2 k4 k5 k6 k7 k8 ka kb kl ko H.size c3 c9 cc cd ce cf cg ch ci cj ck cm cn c0 a0 2 (by first | omega | (simp only [zl_2]; first | done | omega) | decide | assumption | rfl) (by first | omega | (simp only [zl_2]; first | done | omega) | decide | assumption | rfl) (by first | omega | (simp only [zl_2]; first | done | omega) | decide | assumption | rfl)) (cwV 2 hT (gV_in mw_1276 mw_1273 mw_1275 mw_p3_12 mw_12) rfl rfl rfl (by decide +kernel) ⟨(by dsimp only; omega), (by dsimp only; omega)⟩) (kRecvX (q0 := 1) (ci := 11) hK hP hD hN hXS hS hA rfl rfl [1, 2] rfl (by decide +kernel)) rfl rfl hl.1 rfl (lv_room (Nat.le_of_ble_eq_true rfl)) dX11_speaks_33 ⟨Nat.le_of_ble_eq_true rfl, Nat.le_of_ble_eq_true rfl⟩) hP hD hS hA [1, 2] [0] rfl rfl (by decide +kernel) (by decide +kernel) ?_
            clear hP hD hS
            intro r_1063 u_1065 H locs w_1064 hP hD hS
            replace hP : va_P D vwCl [(k8, .inl (cI, 40, .inl c8)), (k, .inr (11, [.ref k0, .ref k1, .ref k2, .int c3, .ref k4, .ref k5, .ref k6, .ref k7, .ref k8, .int c9, .ref ka, .ref kb, .int cc, .int cd, .int ce, .int cf, .int cg, .int ch, .int ci, .int cj, .int ck, .ref kl, .int cm, .int cn, .ref ko])), (k0, .inl (cI, 1201, .inl c0))] H := hP
            replace hD : va_D A [(k8, .inl (cI, 40, .inl c8)), (k, .inr (11, [.ref k0, .ref k1, .ref k2, .int c3, .ref k4, .ref k5, .ref k6, .ref k7, .ref k8, .int c9, .ref ka, .ref kb, .int cc, .int cd, .int ce, .int cf, .int cg, .int ch, .int ci, .int cj, .int ck, .ref kl, .int cm, .int cn, .ref ko])), (k0, .inl (cI, 1201, .inl c0))] := hD
            have h_1066 := w_1064
            have h_1066 : r_1063 = wW c0 a0 2 := h_1066
            have t_1067 : r_1063.toInt = (wW c0 a0 2).toInt := by rw [h_1066]
            have lo_r_1063 := k_lo r_1063
            have hi_r_1063 := k_hi r_1063
            refine lv_istore (lv' := [(7, .int r_1063), (6, .int r_1057), (5, .int l3_5), (0, .ref k), (1, .int a0), (2, .int a1), (3, .int a2), (4, .int a3)]) hx hb dX11_speaks_36 hl (by decide +kernel) rfl ?_
            clear hl
            intro ls hl
            refine lv_iload hx hb dX11_speaks_38 (lv_at hl 2 rfl) ?_
            refine kJi (wr := [(k8, .inl (cI, 40, .inl c8)), (k, .inr (11, [.ref k0, .ref k1, .ref k2, .int c3, .ref k4, .ref k5, .ref k6, .ref k7, .ref k8, .int c9, .ref ka, .ref kb, .int cc, .int cd, .int ce, .int cf, .int cg, .int ch, .int ci, .int cj, .int ck, .ref kl, .int cm, .int cn, .ref ko])), (k0, .inl (cI, 1201, .inl c0))]) (va_runS (As := [.int l3_5]) (rest := []) ⟨hx, hb, hml, hown, hT⟩ (c_X11_parentG l D cI aK aV H.size l3_5 (by first | omega | decide | assumption | rfl) (by first | omega | decide | assumption | rfl)) (cwS 1 hT (gS_in mw_1282 mw_1280 mw_1281 mw_12) rfl rfl rfl (by decide +kernel) ⟨(by dsimp only; omega), (by dsimp only; omega)⟩) (kStatX hK hP hD hN hXS hS hA [] rfl (by decide +kernel)) rfl rfl hl.1 rfl (lv_room (Nat.le_of_ble_eq_true rfl)) dX11_speaks_40 ⟨Nat.le_of_ble_eq_true rfl, Nat.le_of_ble_eq_true rfl⟩) hP hD hS hA [] [0, 1, 2] rfl rfl (by decide +kernel) (by decide +kernel) ?_
            clear hP hD hS
            intro r_1068 u_1070 H locs w_1069 hP hD hS
            replace hP : va_P D vwCl [(k8, .inl (cI, 40, .inl c8)), (k, .inr (11, [.ref k0, .ref k1, .ref k2, .int c3, .ref k4, .ref k5, .ref k6, .ref k7, .ref k8, .int c9, .ref ka, .ref kb, .int cc, .int cd, .int ce, .int cf, .int cg, .int ch, .int ci, .int cj, .int ck, .ref kl, .int cm, .int cn, .ref ko])), (k0, .inl (cI, 1201, .inl c0))] H := hP
            replace hD : va_D A [(k8, .inl (cI, 40, .inl c8)), (k, .inr (11, [.ref k0, .ref k1, .ref k2, .int c3, .ref k4, .ref k5, .ref k6, .ref k7, .ref k8, .int c9, .ref ka, .ref kb, .int cc, .int cd, .int ce, .int cf, .int cg, .int ch, .int ci, .int cj, .int ck, .ref kl, .int cm, .int cn, .ref ko])), (k0, .inl (cI, 1201, .inl c0))] := hD
            rcases w_1069 with ⟨hr_1068, h_1071⟩ | ⟨hr_1068, h_1072⟩ | ⟨hr_1068, h_1073⟩ | ⟨hr_1068, h_1074⟩ | ⟨hr_1068, h_1075⟩
            · exfalso; omega
            · exfalso; omega
            · exfalso; omega
            · exfalso; omega
            · have h_1075 : l3_5.toInt = 5 := h_1075
              obtain rfl : r_1068 = 4 := hr_1068.trans (by decide +kernel)
              refine lv_istore (lv' := [(8, .int 4), (7, .int r_1063), (6, .int r_1057), (5, .int l3_5), (0, .ref k), (1, .int a0), (2, .int a1), (3, .int a2), (4, .int a3)]) hx hb dX11_speaks_43 hl (by decide +kernel) rfl ?_
              clear hl
              intro ls hl
              refine lv_iload hx hb dX11_speaks_45 (lv_at hl 3 rfl) ?_
              refine lv_iload_n hx hb dX11_speaks_47 rfl (lv_at hl 7 rfl) ?_
              refine kJi (wr := [(k8, .inl (cI, 40, .inl c8)), (k, .inr (11, [.ref k0, .ref k1, .ref k2, .int c3, .ref k4, .ref k5, .ref k6, .ref k7, .ref k8, .int c9, .ref ka, .ref kb, .int cc, .int cd, .int ce, .int cf, .int cg, .int ch, .int ci, .int cj, .int ck, .ref kl, .int cm, .int cn, .ref ko])), (k0, .inl (cI, 1201, .inl c0))]) (va_runS (As := [.int l3_5, .int a2]) (rest := []) ⟨hx, hb, hml, hown, hT⟩ (c_X11_bodyOfG l D cI aK aV H.size l3_5 a2 (by first | omega | decide | assumption | rfl) (by first | omega | decide | assumption | rfl) (by first | omega | decide | assumption | rfl) (by first | omega | decide | assumption | rfl)) (cwS 2 hT (gS_in mw_1581 mw_1579 mw_1580 mw_12) rfl rfl rfl (by decide +kernel) ⟨(by dsimp only; omega), (by dsimp only; omega)⟩) (kStatX hK hP hD hN hXS hS hA [] rfl (by decide +kernel)) rfl rfl hl.1 rfl (lv_room (Nat.le_of_ble_eq_true rfl)) dX11_speaks_48 ⟨Nat.le_of_ble_eq_true rfl, Nat.le_of_ble_eq_true rfl⟩) hP hD hS hA [] [0, 1, 2] rfl rfl (by decide +kernel) (by decide +kernel) ?_
              clear hP hD hS
              intro r_1076 u_1078 H locs w_1077 hP hD hS
              replace hP : va_P D vwCl [(k8, .inl (cI, 40, .inl c8)), (k, .inr (11, [.ref k0, .ref k1, .ref k2, .int c3, .ref k4, .ref k5, .ref k6, .ref k7, .ref k8, .int c9, .ref ka, .ref kb, .int cc, .int cd, .int ce, .int cf, .int cg, .int ch, .int ci, .int cj, .int ck, .ref kl, .int cm, .int cn, .ref ko])), (k0, .inl (cI, 1201, .inl c0))] H := hP
              replace hD : va_D A [(k8, .inl (cI, 40, .inl c8)), (k, .inr (11, [.ref k0, .ref k1, .ref k2, .int c3, .ref k4, .ref k5, .ref k6, .ref k7, .ref k8, .int c9, .ref ka, .ref kb, .int cc, .int cd, .int ce, .int cf, .int cg, .int ch, .int ci, .int cj, .int ck, .ref kl, .int cm, .int cn, .ref ko])), (k0, .inl (cI, 1201, .inl c0))] := hD
              rcases w_1077 with ⟨hr_1076, h_1079, h_1080, h_1081⟩ | ⟨hr_1076, h_1082, h_1083, h_1084⟩ | ⟨hr_1076, h_1085, h_1086, h_1087⟩ | ⟨hr_1076, h_1088, h_1089, h_1090⟩ | ⟨hr_1076, h_1091, h_1092, h_1093⟩ | ⟨hr_1076, h_1094, h_1095, h_1096⟩ | ⟨hr_1076, h_1097, h_1098, h_1099⟩ | ⟨hr_1076, h_1100, h_1101, h_1102⟩ | ⟨hr_1076, h_1103, h_1104, h_1105⟩ | ⟨hr_1076, h_1106, h_1107, h_1108⟩ | ⟨hr_1076, h_1109, h_1110, h_1111⟩ | ⟨hr_1076, h_1112, h_1113, h_1114⟩ | ⟨hr_1076, h_1115, h_1116, h_1117⟩ | ⟨hr_1076, h_1118, h_1119, h_1120⟩ | ⟨hr_1076, h_1121, h_1122⟩
              · exfalso; omega
              · exfalso; omega
              · exfalso; omega
              · exfalso; omega
              · exfalso; omega
              · exfalso; omega
              · exfalso; omega
              · exfalso; omega
              · exfalso; omega
              · exfalso; omega
              · exfalso; omega
              · exfalso; omega
              · have h_1115 : l3_5.toInt = 5 := h_1115
                have h_1116 : a2.toInt = 1 := h_1116
                have h_1117 : (bKi l3_5 a2).toInt = 60 := h_1117
                obtain rfl : r_1076 = 60 := hr_1076.trans (by decide +kernel)
                refine lv_istore (lv' := [(9, .int 60), (8, .int 4), (7, .int r_1063), (6, .int r_1057), (5, .int l3_5), (0, .ref k), (1, .int a0), (2, .int a1), (3, .int a2), (4, .int a3)]) hx hb dX11_speaks_51 hl (by decide +kernel) rfl ?_
                clear hl
                intro ls hl
                refine lv_aload_n hx hb dX11_speaks_53 rfl (lv_at hl 5 rfl) ?_
                refine lv_iload hx hb dX11_speaks_54 (lv_at hl 0 rfl) ?_
                refine kJv (wr := [(k0, .inl (cI, 1201, .inl c0))]) (va_runV (As := [.int 60]) (rest := []) ⟨hx, hb, hml, hown, hT⟩ (c_X11_ranG l D cI aK aV k k0 k1 k2 k4 k5 k6 k7 k8 ka kb kl ko H.size c3 c9 cc cd ce cf cg ch ci cj ck cm cn c8 60 (by first | omega | (simp only [zl_60]; first | done | omega) | decide | assumption | rfl) (by first | omega | (simp only [zl_60]; first | done | omega) | decide | assumption | rfl)) (cwV 1 hT (gV_in mw_1585 mw_1582 mw_1584 mw_p6_7 mw_12) rfl rfl rfl (by decide +kernel) ⟨(by dsimp only; omega), (by dsimp only; omega)⟩) (kRecvX (q0 := 1) (ci := 11) hK hP hD hN hXS hS hA rfl rfl [1, 0] rfl (by decide +kernel)) rfl rfl hl.1 rfl (lv_room (Nat.le_of_ble_eq_true rfl)) dX11_speaks_56 ⟨Nat.le_of_ble_eq_true rfl, Nat.le_of_ble_eq_true rfl⟩) hP hD hS hA [1, 0] [2] rfl rfl (by decide +kernel) (by decide +kernel) ?_
                clear hP hD hS
                intro u_1127 H locs w_1124 hP hD hS
                obtain ⟨sc9_1125, sc8_1126⟩ := u_1127
                replace hP : va_P D vwCl [(k0, .inl (cI, 1201, .inl c0)), (k, .inr (11, [.ref k0, .ref k1, .ref k2, .int c3, .ref k4, .ref k5, .ref k6, .ref k7, .ref k8, .int sc9_1125, .ref ka, .ref kb, .int cc, .int cd, .int ce, .int cf, .int cg, .int ch, .int ci, .int cj, .int ck, .ref kl, .int cm, .int cn, .ref ko])), (k8, .inl (cI, 40, .inl sc8_1126))] H := hP
                replace hD : va_D A [(k0, .inl (cI, 1201, .inl c0)), (k, .inr (11, [.ref k0, .ref k1, .ref k2, .int c3, .ref k4, .ref k5, .ref k6, .ref k7, .ref k8, .int sc9_1125, .ref ka, .ref kb, .int cc, .int cd, .int ce, .int cf, .int cg, .int ch, .int ci, .int cj, .int ck, .ref kl, .int cm, .int cn, .ref ko])), (k8, .inl (cI, 40, .inl sc8_1126))] := hD
                have lo_sc9_1125 := k_lo sc9_1125
                have hi_sc9_1125 := k_hi sc9_1125
                obtain ⟨h_1128, h_1129⟩ := w_1124
                try simp only [zl_60] at h_1128
                have h_1128 : 0 ≤ sc9_1125.toInt := h_1128
                try simp only [zl_60] at h_1129
                have h_1129 : sc9_1125.toInt ≤ 40 := h_1129
                refine lv_iload hx hb dX11_speaks_59 (lv_at hl 0 rfl) ?_
                refine lv_tableIn (off := 418) (tgt := 479) hx hb dX11_speaks_61 (by decide +kernel) (by decide +kernel) (by decide +kernel) (by decide +kernel) ?_
                refine lv_aload_n hx hb dX11_speaks_479 rfl (lv_at hl 5 rfl) ?_
                refine lv_iload_n hx hb dX11_speaks_480 rfl (lv_at hl 6 rfl) ?_
                refine lv_iload hx hb dX11_speaks_481 (lv_at hl 1 rfl) ?_
                refine lv_iconst (v := 1) hx hb dX11_speaks_483 (by decide +kernel) ?_
                refine lv_iload hx hb dX11_speaks_484 (lv_at hl 9 rfl) ?_
                refine kJi (wr := []) (va_runV (As := [.int a0, .int 4, .int 1, .int a3]) (rest := []) ⟨hx, hb, hml, hown, hT⟩ (ih l D cI aK aV k k0 k1 k2 k4 k5 k6 k7 k8 ka kb kl ko H.size c3 sc9_1125 cc cd ce cf cg ch ci cj ck cm cn c0 sc8_1126 a0 4 1 a3 pre0 (by first | omega | (simp only [zl_1, zl_4]; first | done | omega) | decide | assumption | rfl) (by first | omega | (simp only [zl_1, zl_4]; first | done | omega) | decide | assumption | rfl) (by first | omega | (simp only [zl_1, zl_4]; first | done | omega) | decide | assumption | rfl) (by first | omega | (simp only [zl_1, zl_4]; first | done | omega) | decide | assumption | rfl) (by first | omega | (simp only [zl_1, zl_4]; first | done | omega) | decide | assumption | rfl) (by first | omega | (simp only [zl_1, zl_4]; first | done | omega) | decide | assumption | rfl) (by first | omega | (simp only [zl_1, zl_4]; first | done | omega) | decide | assumption | rfl) (by first | omega | (simp only [zl_1, zl_4]; first | done | omega) | decide | assumption | rfl) (by first | omega | (simp only [zl_1, zl_4]; first | done | omega) | decide | assumption | rfl)) (cwV 4 hT (gV_in mw_1578 mw_1575 mw_1577 mw_p6_6 mw_12) rfl rfl rfl (by decide +kernel) ⟨(by dsimp only; omega), (by dsimp only; omega)⟩) (kRecvX (q0 := 1) (ci := 11) hK hP hD hN hXS hS hA rfl rfl [1, 0, 2] rfl (by decide +kernel)) rfl rfl hl.1 rfl (lv_room (Nat.le_of_ble_eq_true rfl)) dX11_speaks_486 ⟨Nat.le_of_ble_eq_true rfl, Nat.le_of_ble_eq_true rfl⟩) hP hD hS hA [1, 0, 2] [] rfl rfl (by decide +kernel) (by decide +kernel) ?_
                clear hP hD hS
                intro r_1130 u_1134 H locs w_1131 hP hD hS
                obtain ⟨sc9_1132, sc8_1133⟩ := u_1134
                replace hP : va_P D vwCl [(k, .inr (11, [.ref k0, .ref k1, .ref k2, .int c3, .ref k4, .ref k5, .ref k6, .ref k7, .ref k8, .int sc9_1132, .ref ka, .ref kb, .int cc, .int cd, .int ce, .int cf, .int cg, .int ch, .int ci, .int cj, .int ck, .ref kl, .int cm, .int cn, .ref ko])), (k0, .inl (cI, 1201, .inl c0)), (k8, .inl (cI, 40, .inl sc8_1133))] H := hP
                replace hD : va_D A [(k, .inr (11, [.ref k0, .ref k1, .ref k2, .int c3, .ref k4, .ref k5, .ref k6, .ref k7, .ref k8, .int sc9_1132, .ref ka, .ref kb, .int cc, .int cd, .int ce, .int cf, .int cg, .int ch, .int ci, .int cj, .int ck, .ref kl, .int cm, .int cn, .ref ko])), (k0, .inl (cI, 1201, .inl c0)), (k8, .inl (cI, 40, .inl sc8_1133))] := hD
                have lo_sc9_1132 := k_lo sc9_1132
                have hi_sc9_1132 := k_hi sc9_1132
                obtain ⟨h_1135, h_1136⟩ := w_1131
                try simp only [zl_1, zl_4] at h_1135
                have h_1135 : 0 ≤ sc9_1132.toInt := h_1135
                try simp only [zl_1, zl_4] at h_1136
                have h_1136 : sc9_1132.toInt ≤ 40 := h_1136
                have lo_r_1130 := k_lo r_1130
                have hi_r_1130 := k_hi r_1130
                refine lv_iload hx hb dX11_speaks_489 (lv_at hl 2 rfl) ?_
                refine lv_imul hx hb dX11_speaks_491 ?_
                refine lv_topi (fun v_1137 ev_1137 => ?_)
                have lo_v_1137 := k_lo v_1137
                have hi_v_1137 := k_hi v_1137
                exact hRet (sc9_1132, sc8_1133) [0, 1, 2] ⟨(by first | omega | decide | assumption | rfl | (dsimp only; first | omega)), (by first | omega | decide | assumption | rfl | (dsimp only; first | omega))⟩ hP hD (by decide +kernel) rfl hS rfl dX11_speaks_492
              · exfalso; omega
              · exfalso; omega
          · have h_46 : l3_5.toInt = 5 := h_46
            have h_47 : a2.toInt = 3 := h_47
            have h_48 : (bKi l3_5 a2).toInt = 61 := h_48
            obtain rfl : r_4 = 61 := hr_4.trans (by decide +kernel)
            refine b_if_ne hx hb zl_61 (tgt := 22) dX11_speaks_9 (by decide +kernel) (fun c_1138 => ?_) (fun c_1138 => by exfalso; omega)
            refine lv_aload_n hx hb dX11_speaks_22 rfl (lv_at hl 1 rfl) ?_
            refine lv_iload_n hx hb dX11_speaks_23 rfl (lv_at hl 2 rfl) ?_
            refine lv_iconst (v := 0) hx hb dX11_speaks_24 (by decide +kernel) ?_
            refine kJi (wr := [(k8, .inl (cI, 40, .inl c8))]) (va_runV (As := [.int a0, .int 0]) (rest := []) ⟨hx, hb, hml, hown, hT⟩ (c_X11_workG0 l D cI aK aV k k0 k1 k2 k4 k5 k6 k7 k8 ka kb kl ko H.size c3 c9 cc cd ce cf cg ch ci cj ck cm cn c0 a0 0 (by first | omega | (simp only [zl_0]; first | done | omega) | decide | assumption | rfl) (by first | omega | (simp only [zl_0]; first | done | omega) | decide | assumption | rfl) (by first | omega | (simp only [zl_0]; first | done | omega) | decide | assumption | rfl)) (cwV 2 hT (gV_in mw_1276 mw_1273 mw_1275 mw_p3_12 mw_12) rfl rfl rfl (by decide +kernel) ⟨(by dsimp only; omega), (by dsimp only; omega)⟩) (kRecvX (q0 := 0) (ci := 11) hK hP hD hN hXS hS hA rfl rfl [0, 1] rfl (by decide +kernel)) rfl rfl hl.1 rfl (lv_room (Nat.le_of_ble_eq_true rfl)) dX11_speaks_25 ⟨Nat.le_of_ble_eq_true rfl, Nat.le_of_ble_eq_true rfl⟩) hP hD hS hA [0, 1] [2] rfl rfl (by decide +kernel) (by decide +kernel) ?_
            clear hP hD hS
            intro r_1139 u_1141 H locs w_1140 hP hD hS
            replace hP : va_P D vwCl [(k8, .inl (cI, 40, .inl c8)), (k, .inr (11, [.ref k0, .ref k1, .ref k2, .int c3, .ref k4, .ref k5, .ref k6, .ref k7, .ref k8, .int c9, .ref ka, .ref kb, .int cc, .int cd, .int ce, .int cf, .int cg, .int ch, .int ci, .int cj, .int ck, .ref kl, .int cm, .int cn, .ref ko])), (k0, .inl (cI, 1201, .inl c0))] H := hP
            replace hD : va_D A [(k8, .inl (cI, 40, .inl c8)), (k, .inr (11, [.ref k0, .ref k1, .ref k2, .int c3, .ref k4, .ref k5, .ref k6, .ref k7, .ref k8, .int c9, .ref ka, .ref kb, .int cc, .int cd, .int ce, .int cf, .int cg, .int ch, .int ci, .int cj, .int ck, .ref kl, .int cm, .int cn, .ref ko])), (k0, .inl (cI, 1201, .inl c0))] := hD
            have h_1142 := w_1140
            have h_1142 : r_1139 = wW c0 a0 0 := h_1142
            have t_1143 : r_1139.toInt = (wW c0 a0 0).toInt := by rw [h_1142]
            have b_1144 : 0 ≤ r_1139.toInt ∧ r_1139.toInt ≤ 5 := by rw [h_1142]; exact SB.w0 pre0 (by omega) (by omega)
            have lo_r_1139 := k_lo r_1139
            have hi_r_1139 := k_hi r_1139
            refine lv_istore (lv' := [(6, .int r_1139), (5, .int l3_5), (0, .ref k), (1, .int a0), (2, .int a1), (3, .int a2), (4, .int a3)]) hx hb dX11_speaks_28 hl (by decide +kernel) rfl ?_
            clear hl
            intro ls hl
            refine lv_aload_n hx hb dX11_speaks_30 rfl (lv_at hl 2 rfl) ?_
            refine lv_iload_n hx hb dX11_speaks_31 rfl (lv_at hl 3 rfl) ?_
            refine lv_iconst (v := 2) hx hb dX11_speaks_32 (by decide +kernel) ?_
            refine kJi (wr := [(k8, .inl (cI, 40, .inl c8))]) (va_runV (As := [.int a0, .int 2]) (rest := []) ⟨hx, hb, hml, hown, hT⟩ (c_X11_workG2 l D cI aK aV k k0 k1 k2 k4 k5 k6 k7 k8 ka kb kl ko H.size c3 c9 cc cd ce cf cg ch ci cj ck cm cn c0 a0 2 (by first | omega | (simp only [zl_2]; first | done | omega) | decide | assumption | rfl) (by first | omega | (simp only [zl_2]; first | done | omega) | decide | assumption | rfl) (by first | omega | (simp only [zl_2]; first | done | omega) | decide | assumption | rfl)) (cwV 2 hT (gV_in mw_1276 mw_1273 mw_1275 mw_p3_12 mw_12) rfl rfl rfl (by decide +kernel) ⟨(by dsimp only; omega), (by dsimp only; omega)⟩) (kRecvX (q0 := 1) (ci := 11) hK hP hD hN hXS hS hA rfl rfl [1, 2] rfl (by decide +kernel)) rfl rfl hl.1 rfl (lv_room (Nat.le_of_ble_eq_true rfl)) dX11_speaks_33 ⟨Nat.le_of_ble_eq_true rfl, Nat.le_of_ble_eq_true rfl⟩) hP hD hS hA [1, 2] [0] rfl rfl (by decide +kernel) (by decide +kernel) ?_
            clear hP hD hS
            intro r_1145 u_1147 H locs w_1146 hP hD hS
            replace hP : va_P D vwCl [(k8, .inl (cI, 40, .inl c8)), (k, .inr (11, [.ref k0, .ref k1, .ref k2, .int c3, .ref k4, .ref k5, .ref k6, .ref k7, .ref k8, .int c9, .ref ka, .ref kb, .int cc, .int cd, .int ce, .int cf, .int cg, .int ch, .int ci, .int cj, .int ck, .ref kl, .int cm, .int cn, .ref ko])), (k0, .inl (cI, 1201, .inl c0))] H := hP
            replace hD : va_D A [(k8, .inl (cI, 40, .inl c8)), (k, .inr (11, [.ref k0, .ref k1, .ref k2, .int c3, .ref k4, .ref k5, .ref k6, .ref k7, .ref k8, .int c9, .ref ka, .ref kb, .int cc, .int cd, .int ce, .int cf, .int cg, .int ch, .int ci, .int cj, .int ck, .ref kl, .int cm, .int cn, .ref ko])), (k0, .inl (cI, 1201, .inl c0))] := hD
            have h_1148 := w_1146
            have h_1148 : r_1145 = wW c0 a0 2 := h_1148
            have t_1149 : r_1145.toInt = (wW c0 a0 2).toInt := by rw [h_1148]
            have lo_r_1145 := k_lo r_1145
            have hi_r_1145 := k_hi r_1145
            refine lv_istore (lv' := [(7, .int r_1145), (6, .int r_1139), (5, .int l3_5), (0, .ref k), (1, .int a0), (2, .int a1), (3, .int a2), (4, .int a3)]) hx hb dX11_speaks_36 hl (by decide +kernel) rfl ?_
            clear hl
            intro ls hl
            refine lv_iload hx hb dX11_speaks_38 (lv_at hl 2 rfl) ?_
            refine kJi (wr := [(k8, .inl (cI, 40, .inl c8)), (k, .inr (11, [.ref k0, .ref k1, .ref k2, .int c3, .ref k4, .ref k5, .ref k6, .ref k7, .ref k8, .int c9, .ref ka, .ref kb, .int cc, .int cd, .int ce, .int cf, .int cg, .int ch, .int ci, .int cj, .int ck, .ref kl, .int cm, .int cn, .ref ko])), (k0, .inl (cI, 1201, .inl c0))]) (va_runS (As := [.int l3_5]) (rest := []) ⟨hx, hb, hml, hown, hT⟩ (c_X11_parentG l D cI aK aV H.size l3_5 (by first | omega | decide | assumption | rfl) (by first | omega | decide | assumption | rfl)) (cwS 1 hT (gS_in mw_1282 mw_1280 mw_1281 mw_12) rfl rfl rfl (by decide +kernel) ⟨(by dsimp only; omega), (by dsimp only; omega)⟩) (kStatX hK hP hD hN hXS hS hA [] rfl (by decide +kernel)) rfl rfl hl.1 rfl (lv_room (Nat.le_of_ble_eq_true rfl)) dX11_speaks_40 ⟨Nat.le_of_ble_eq_true rfl, Nat.le_of_ble_eq_true rfl⟩) hP hD hS hA [] [0, 1, 2] rfl rfl (by decide +kernel) (by decide +kernel) ?_
            clear hP hD hS
            intro r_1150 u_1152 H locs w_1151 hP hD hS
            replace hP : va_P D vwCl [(k8, .inl (cI, 40, .inl c8)), (k, .inr (11, [.ref k0, .ref k1, .ref k2, .int c3, .ref k4, .ref k5, .ref k6, .ref k7, .ref k8, .int c9, .ref ka, .ref kb, .int cc, .int cd, .int ce, .int cf, .int cg, .int ch, .int ci, .int cj, .int ck, .ref kl, .int cm, .int cn, .ref ko])), (k0, .inl (cI, 1201, .inl c0))] H := hP
            replace hD : va_D A [(k8, .inl (cI, 40, .inl c8)), (k, .inr (11, [.ref k0, .ref k1, .ref k2, .int c3, .ref k4, .ref k5, .ref k6, .ref k7, .ref k8, .int c9, .ref ka, .ref kb, .int cc, .int cd, .int ce, .int cf, .int cg, .int ch, .int ci, .int cj, .int ck, .ref kl, .int cm, .int cn, .ref ko])), (k0, .inl (cI, 1201, .inl c0))] := hD
            rcases w_1151 with ⟨hr_1150, h_1153⟩ | ⟨hr_1150, h_1154⟩ | ⟨hr_1150, h_1155⟩ | ⟨hr_1150, h_1156⟩ | ⟨hr_1150, h_1157⟩
            · exfalso; omega
            · exfalso; omega
            · exfalso; omega
            · exfalso; omega
            · have h_1157 : l3_5.toInt = 5 := h_1157
              obtain rfl : r_1150 = 4 := hr_1150.trans (by decide +kernel)
              refine lv_istore (lv' := [(8, .int 4), (7, .int r_1145), (6, .int r_1139), (5, .int l3_5), (0, .ref k), (1, .int a0), (2, .int a1), (3, .int a2), (4, .int a3)]) hx hb dX11_speaks_43 hl (by decide +kernel) rfl ?_
              clear hl
              intro ls hl
              refine lv_iload hx hb dX11_speaks_45 (lv_at hl 3 rfl) ?_
              refine lv_iload_n hx hb dX11_speaks_47 rfl (lv_at hl 7 rfl) ?_
              refine kJi (wr := [(k8, .inl (cI, 40, .inl c8)), (k, .inr (11, [.ref k0, .ref k1, .ref k2, .int c3, .ref k4, .ref k5, .ref k6, .ref k7, .ref k8, .int c9, .ref ka, .ref kb, .int cc, .int cd, .int ce, .int cf, .int cg, .int ch, .int ci, .int cj, .int ck, .ref kl, .int cm, .int cn, .ref ko])), (k0, .inl (cI, 1201, .inl c0))]) (va_runS (As := [.int l3_5, .int a2]) (rest := []) ⟨hx, hb, hml, hown, hT⟩ (c_X11_bodyOfG l D cI aK aV H.size l3_5 a2 (by first | omega | decide | assumption | rfl) (by first | omega | decide | assumption | rfl) (by first | omega | decide | assumption | rfl) (by first | omega | decide | assumption | rfl)) (cwS 2 hT (gS_in mw_1581 mw_1579 mw_1580 mw_12) rfl rfl rfl (by decide +kernel) ⟨(by dsimp only; omega), (by dsimp only; omega)⟩) (kStatX hK hP hD hN hXS hS hA [] rfl (by decide +kernel)) rfl rfl hl.1 rfl (lv_room (Nat.le_of_ble_eq_true rfl)) dX11_speaks_48 ⟨Nat.le_of_ble_eq_true rfl, Nat.le_of_ble_eq_true rfl⟩) hP hD hS hA [] [0, 1, 2] rfl rfl (by decide +kernel) (by decide +kernel) ?_
              clear hP hD hS
              intro r_1158 u_1160 H locs w_1159 hP hD hS
              replace hP : va_P D vwCl [(k8, .inl (cI, 40, .inl c8)), (k, .inr (11, [.ref k0, .ref k1, .ref k2, .int c3, .ref k4, .ref k5, .ref k6, .ref k7, .ref k8, .int c9, .ref ka, .ref kb, .int cc, .int cd, .int ce, .int cf, .int cg, .int ch, .int ci, .int cj, .int ck, .ref kl, .int cm, .int cn, .ref ko])), (k0, .inl (cI, 1201, .inl c0))] H := hP
              replace hD : va_D A [(k8, .inl (cI, 40, .inl c8)), (k, .inr (11, [.ref k0, .ref k1, .ref k2, .int c3, .ref k4, .ref k5, .ref k6, .ref k7, .ref k8, .int c9, .ref ka, .ref kb, .int cc, .int cd, .int ce, .int cf, .int cg, .int ch, .int ci, .int cj, .int ck, .ref kl, .int cm, .int cn, .ref ko])), (k0, .inl (cI, 1201, .inl c0))] := hD
              rcases w_1159 with ⟨hr_1158, h_1161, h_1162, h_1163⟩ | ⟨hr_1158, h_1164, h_1165, h_1166⟩ | ⟨hr_1158, h_1167, h_1168, h_1169⟩ | ⟨hr_1158, h_1170, h_1171, h_1172⟩ | ⟨hr_1158, h_1173, h_1174, h_1175⟩ | ⟨hr_1158, h_1176, h_1177, h_1178⟩ | ⟨hr_1158, h_1179, h_1180, h_1181⟩ | ⟨hr_1158, h_1182, h_1183, h_1184⟩ | ⟨hr_1158, h_1185, h_1186, h_1187⟩ | ⟨hr_1158, h_1188, h_1189, h_1190⟩ | ⟨hr_1158, h_1191, h_1192, h_1193⟩ | ⟨hr_1158, h_1194, h_1195, h_1196⟩ | ⟨hr_1158, h_1197, h_1198, h_1199⟩ | ⟨hr_1158, h_1200, h_1201, h_1202⟩ | ⟨hr_1158, h_1203, h_1204⟩
              · exfalso; omega
              · exfalso; omega
              · exfalso; omega
              · exfalso; omega
              · exfalso; omega
              · exfalso; omega
              · exfalso; omega
              · exfalso; omega
              · exfalso; omega
              · exfalso; omega
              · exfalso; omega
              · exfalso; omega
              · exfalso; omega
              · have h_1200 : l3_5.toInt = 5 := h_1200
                have h_1201 : a2.toInt = 3 := h_1201
                have h_1202 : (bKi l3_5 a2).toInt = 61 := h_1202
                obtain rfl : r_1158 = 61 := hr_1158.trans (by decide +kernel)
                refine lv_istore (lv' := [(9, .int 61), (8, .int 4), (7, .int r_1145), (6, .int r_1139), (5, .int l3_5), (0, .ref k), (1, .int a0), (2, .int a1), (3, .int a2), (4, .int a3)]) hx hb dX11_speaks_51 hl (by decide +kernel) rfl ?_
                clear hl
                intro ls hl
                refine lv_aload_n hx hb dX11_speaks_53 rfl (lv_at hl 5 rfl) ?_
                refine lv_iload hx hb dX11_speaks_54 (lv_at hl 0 rfl) ?_
                refine kJv (wr := [(k0, .inl (cI, 1201, .inl c0))]) (va_runV (As := [.int 61]) (rest := []) ⟨hx, hb, hml, hown, hT⟩ (c_X11_ranG l D cI aK aV k k0 k1 k2 k4 k5 k6 k7 k8 ka kb kl ko H.size c3 c9 cc cd ce cf cg ch ci cj ck cm cn c8 61 (by first | omega | (simp only [zl_61]; first | done | omega) | decide | assumption | rfl) (by first | omega | (simp only [zl_61]; first | done | omega) | decide | assumption | rfl)) (cwV 1 hT (gV_in mw_1585 mw_1582 mw_1584 mw_p6_7 mw_12) rfl rfl rfl (by decide +kernel) ⟨(by dsimp only; omega), (by dsimp only; omega)⟩) (kRecvX (q0 := 1) (ci := 11) hK hP hD hN hXS hS hA rfl rfl [1, 0] rfl (by decide +kernel)) rfl rfl hl.1 rfl (lv_room (Nat.le_of_ble_eq_true rfl)) dX11_speaks_56 ⟨Nat.le_of_ble_eq_true rfl, Nat.le_of_ble_eq_true rfl⟩) hP hD hS hA [1, 0] [2] rfl rfl (by decide +kernel) (by decide +kernel) ?_
                clear hP hD hS
                intro u_1209 H locs w_1206 hP hD hS
                obtain ⟨sc9_1207, sc8_1208⟩ := u_1209
                replace hP : va_P D vwCl [(k0, .inl (cI, 1201, .inl c0)), (k, .inr (11, [.ref k0, .ref k1, .ref k2, .int c3, .ref k4, .ref k5, .ref k6, .ref k7, .ref k8, .int sc9_1207, .ref ka, .ref kb, .int cc, .int cd, .int ce, .int cf, .int cg, .int ch, .int ci, .int cj, .int ck, .ref kl, .int cm, .int cn, .ref ko])), (k8, .inl (cI, 40, .inl sc8_1208))] H := hP
                replace hD : va_D A [(k0, .inl (cI, 1201, .inl c0)), (k, .inr (11, [.ref k0, .ref k1, .ref k2, .int c3, .ref k4, .ref k5, .ref k6, .ref k7, .ref k8, .int sc9_1207, .ref ka, .ref kb, .int cc, .int cd, .int ce, .int cf, .int cg, .int ch, .int ci, .int cj, .int ck, .ref kl, .int cm, .int cn, .ref ko])), (k8, .inl (cI, 40, .inl sc8_1208))] := hD
                have lo_sc9_1207 := k_lo sc9_1207
                have hi_sc9_1207 := k_hi sc9_1207
                obtain ⟨h_1210, h_1211⟩ := w_1206
                try simp only [zl_61] at h_1210
                have h_1210 : 0 ≤ sc9_1207.toInt := h_1210
                try simp only [zl_61] at h_1211
                have h_1211 : sc9_1207.toInt ≤ 40 := h_1211
                refine lv_iload hx hb dX11_speaks_59 (lv_at hl 0 rfl) ?_
                refine lv_tableOut (tgt := 493) hx hb dX11_speaks_61 (by decide +kernel) (by decide +kernel) ?_
                refine lv_aload_n hx hb dX11_speaks_493 rfl (lv_at hl 5 rfl) ?_
                refine lv_iload_n hx hb dX11_speaks_494 rfl (lv_at hl 6 rfl) ?_
                refine lv_iload hx hb dX11_speaks_495 (lv_at hl 1 rfl) ?_
                refine lv_iconst (v := 3) hx hb dX11_speaks_497 (by decide +kernel) ?_
                refine lv_iload hx hb dX11_speaks_498 (lv_at hl 9 rfl) ?_
                refine kJi (wr := []) (va_runV (As := [.int a0, .int 4, .int 3, .int a3]) (rest := []) ⟨hx, hb, hml, hown, hT⟩ (ih l D cI aK aV k k0 k1 k2 k4 k5 k6 k7 k8 ka kb kl ko H.size c3 sc9_1207 cc cd ce cf cg ch ci cj ck cm cn c0 sc8_1208 a0 4 3 a3 pre0 (by first | omega | (simp only [zl_3, zl_4]; first | done | omega) | decide | assumption | rfl) (by first | omega | (simp only [zl_3, zl_4]; first | done | omega) | decide | assumption | rfl) (by first | omega | (simp only [zl_3, zl_4]; first | done | omega) | decide | assumption | rfl) (by first | omega | (simp only [zl_3, zl_4]; first | done | omega) | decide | assumption | rfl) (by first | omega | (simp only [zl_3, zl_4]; first | done | omega) | decide | assumption | rfl) (by first | omega | (simp only [zl_3, zl_4]; first | done | omega) | decide | assumption | rfl) (by first | omega | (simp only [zl_3, zl_4]; first | done | omega) | decide | assumption | rfl) (by first | omega | (simp only [zl_3, zl_4]; first | done | omega) | decide | assumption | rfl) (by first | omega | (simp only [zl_3, zl_4]; first | done | omega) | decide | assumption | rfl)) (cwV 4 hT (gV_in mw_1578 mw_1575 mw_1577 mw_p6_6 mw_12) rfl rfl rfl (by decide +kernel) ⟨(by dsimp only; omega), (by dsimp only; omega)⟩) (kRecvX (q0 := 1) (ci := 11) hK hP hD hN hXS hS hA rfl rfl [1, 0, 2] rfl (by decide +kernel)) rfl rfl hl.1 rfl (lv_room (Nat.le_of_ble_eq_true rfl)) dX11_speaks_500 ⟨Nat.le_of_ble_eq_true rfl, Nat.le_of_ble_eq_true rfl⟩) hP hD hS hA [1, 0, 2] [] rfl rfl (by decide +kernel) (by decide +kernel) ?_
                clear hP hD hS
                intro r_1212 u_1216 H locs w_1213 hP hD hS
                obtain ⟨sc9_1214, sc8_1215⟩ := u_1216
                replace hP : va_P D vwCl [(k, .inr (11, [.ref k0, .ref k1, .ref k2, .int c3, .ref k4, .ref k5, .ref k6, .ref k7, .ref k8, .int sc9_1214, .ref ka, .ref kb, .int cc, .int cd, .int ce, .int cf, .int cg, .int ch, .int ci, .int cj, .int ck, .ref kl, .int cm, .int cn, .ref ko])), (k0, .inl (cI, 1201, .inl c0)), (k8, .inl (cI, 40, .inl sc8_1215))] H := hP
                replace hD : va_D A [(k, .inr (11, [.ref k0, .ref k1, .ref k2, .int c3, .ref k4, .ref k5, .ref k6, .ref k7, .ref k8, .int sc9_1214, .ref ka, .ref kb, .int cc, .int cd, .int ce, .int cf, .int cg, .int ch, .int ci, .int cj, .int ck, .ref kl, .int cm, .int cn, .ref ko])), (k0, .inl (cI, 1201, .inl c0)), (k8, .inl (cI, 40, .inl sc8_1215))] := hD
                have lo_sc9_1214 := k_lo sc9_1214
                have hi_sc9_1214 := k_hi sc9_1214
                obtain ⟨h_1217, h_1218⟩ := w_1213
                try simp only [zl_3, zl_4] at h_1217
                have h_1217 : 0 ≤ sc9_1214.toInt := h_1217
                try simp only [zl_3, zl_4] at h_1218
                have h_1218 : sc9_1214.toInt ≤ 40 := h_1218
                have lo_r_1212 := k_lo r_1212
                have hi_r_1212 := k_hi r_1212
                refine lv_ineg hx hb dX11_speaks_503 ?_
                refine lv_topi (fun v_1219 ev_1219 => ?_)
                have lo_v_1219 := k_lo v_1219
                have hi_v_1219 := k_hi v_1219
                exact hRet (sc9_1214, sc8_1215) [0, 1, 2] ⟨(by first | omega | decide | assumption | rfl | (dsimp only; first | omega)), (by first | omega | decide | assumption | rfl | (dsimp only; first | omega))⟩ hP hD (by decide +kernel) rfl hS rfl dX11_speaks_504
              · exfalso; omega
          · have h_49 : 1 ≤ l3_5.toInt := h_49
            have h_50 : (bKi l3_5 a2).toInt = 0 := h_50
            obtain rfl : r_4 = 0 := hr_4.trans (by decide +kernel)
            refine b_if_ne hx hb zl_0 (tgt := 22) dX11_speaks_9 (by decide +kernel) (fun c_1220 => by exfalso; omega) (fun c_1220 => ?_)
            refine lv_iload hx hb dX11_speaks_12 (lv_at hl 0 rfl) ?_
            refine kJi (wr := [(k, .inr (11, [.ref k0, .ref k1, .ref k2, .int c3, .ref k4, .ref k5, .ref k6, .ref k7, .ref k8, .int c9, .ref ka, .ref kb, .int cc, .int cd, .int ce, .int cf, .int cg, .int ch, .int ci, .int cj, .int ck, .ref kl, .int cm, .int cn, .ref ko])), (k0, .inl (cI, 1201, .inl c0)), (k8, .inl (cI, 40, .inl c8))]) (va_runS (As := [.int l3_5]) (rest := []) ⟨hx, hb, hml, hown, hT⟩ (c_X11_parentG l D cI aK aV H.size l3_5 (by first | omega | decide | assumption | rfl) (by first | omega | decide | assumption | rfl)) (cwS 1 hT (gS_in mw_1282 mw_1280 mw_1281 mw_12) rfl rfl rfl (by decide +kernel) ⟨(by dsimp only; omega), (by dsimp only; omega)⟩) (kStatX hK hP hD hN hXS hS hA [] rfl (by decide +kernel)) rfl rfl hl.1 rfl (lv_room (Nat.le_of_ble_eq_true rfl)) dX11_speaks_14 ⟨Nat.le_of_ble_eq_true rfl, Nat.le_of_ble_eq_true rfl⟩) hP hD hS hA [] [0, 1, 2] rfl rfl (by decide +kernel) (by decide +kernel) ?_
            clear hP hD hS
            intro r_1221 u_1223 H locs w_1222 hP hD hS
            replace hP : va_P D vwCl [(k, .inr (11, [.ref k0, .ref k1, .ref k2, .int c3, .ref k4, .ref k5, .ref k6, .ref k7, .ref k8, .int c9, .ref ka, .ref kb, .int cc, .int cd, .int ce, .int cf, .int cg, .int ch, .int ci, .int cj, .int ck, .ref kl, .int cm, .int cn, .ref ko])), (k0, .inl (cI, 1201, .inl c0)), (k8, .inl (cI, 40, .inl c8))] H := hP
            replace hD : va_D A [(k, .inr (11, [.ref k0, .ref k1, .ref k2, .int c3, .ref k4, .ref k5, .ref k6, .ref k7, .ref k8, .int c9, .ref ka, .ref kb, .int cc, .int cd, .int ce, .int cf, .int cg, .int ch, .int ci, .int cj, .int ck, .ref kl, .int cm, .int cn, .ref ko])), (k0, .inl (cI, 1201, .inl c0)), (k8, .inl (cI, 40, .inl c8))] := hD
            rcases w_1222 with ⟨hr_1221, h_1224⟩ | ⟨hr_1221, h_1225⟩ | ⟨hr_1221, h_1226⟩ | ⟨hr_1221, h_1227⟩ | ⟨hr_1221, h_1228⟩
            · exfalso; omega
            · have h_1225 : l3_5.toInt = 1 ∨ l3_5.toInt = 4 := h_1225
              obtain rfl : r_1221 = 0 := hr_1221.trans (by decide +kernel)
              refine lv_istore (lv' := [(5, .int 0), (0, .ref k), (1, .int a0), (2, .int a1), (3, .int a2), (4, .int a3)]) hx hb dX11_speaks_17 hl (by decide +kernel) rfl ?_
              clear hl
              intro ls hl
              refine lv_goto (tgt := 3) hx hb dX11_speaks_19 (by decide +kernel) ?_
              exact ih3 0 (by first | omega | (simp only [zl_0]; first | done | omega) | decide | assumption | rfl) (by first | omega | (simp only [zl_0]; first | done | omega) | decide | assumption | rfl) (by first | omega | (simp only [zl_0]; first | done | omega) | decide | assumption | rfl) (by first | omega | (simp only [zl_0]; omega)) ls _ _ (lv_sub hl [0, 1, 2, 3, 4, 5] rfl) (hP.sub [0, 1, 2] rfl) (hD.sub [0, 1, 2] (by decide +kernel) rfl) hS
            · have h_1226 : l3_5.toInt = 2 := h_1226
              obtain rfl : r_1221 = 1 := hr_1221.trans (by decide +kernel)
              refine lv_istore (lv' := [(5, .int 1), (0, .ref k), (1, .int a0), (2, .int a1), (3, .int a2), (4, .int a3)]) hx hb dX11_speaks_17 hl (by decide +kernel) rfl ?_
              clear hl
              intro ls hl
              refine lv_goto (tgt := 3) hx hb dX11_speaks_19 (by decide +kernel) ?_
              exact ih3 1 (by first | omega | (simp only [zl_1]; first | done | omega) | decide | assumption | rfl) (by first | omega | (simp only [zl_1]; first | done | omega) | decide | assumption | rfl) (by first | omega | (simp only [zl_1]; first | done | omega) | decide | assumption | rfl) (by first | omega | (simp only [zl_1]; omega)) ls _ _ (lv_sub hl [0, 1, 2, 3, 4, 5] rfl) (hP.sub [0, 1, 2] rfl) (hD.sub [0, 1, 2] (by decide +kernel) rfl) hS
            · have h_1227 : l3_5.toInt = 3 := h_1227
              obtain rfl : r_1221 = 2 := hr_1221.trans (by decide +kernel)
              refine lv_istore (lv' := [(5, .int 2), (0, .ref k), (1, .int a0), (2, .int a1), (3, .int a2), (4, .int a3)]) hx hb dX11_speaks_17 hl (by decide +kernel) rfl ?_
              clear hl
              intro ls hl
              refine lv_goto (tgt := 3) hx hb dX11_speaks_19 (by decide +kernel) ?_
              exact ih3 2 (by first | omega | (simp only [zl_2]; first | done | omega) | decide | assumption | rfl) (by first | omega | (simp only [zl_2]; first | done | omega) | decide | assumption | rfl) (by first | omega | (simp only [zl_2]; first | done | omega) | decide | assumption | rfl) (by first | omega | (simp only [zl_2]; omega)) ls _ _ (lv_sub hl [0, 1, 2, 3, 4, 5] rfl) (hP.sub [0, 1, 2] rfl) (hD.sub [0, 1, 2] (by decide +kernel) rfl) hS
            · have h_1228 : l3_5.toInt = 5 := h_1228
              obtain rfl : r_1221 = 4 := hr_1221.trans (by decide +kernel)
              refine lv_istore (lv' := [(5, .int 4), (0, .ref k), (1, .int a0), (2, .int a1), (3, .int a2), (4, .int a3)]) hx hb dX11_speaks_17 hl (by decide +kernel) rfl ?_
              clear hl
              intro ls hl
              refine lv_goto (tgt := 3) hx hb dX11_speaks_19 (by decide +kernel) ?_
              exact ih3 4 (by first | omega | (simp only [zl_4]; first | done | omega) | decide | assumption | rfl) (by first | omega | (simp only [zl_4]; first | done | omega) | decide | assumption | rfl) (by first | omega | (simp only [zl_4]; first | done | omega) | decide | assumption | rfl) (by first | omega | (simp only [zl_4]; omega)) ls _ _ (lv_sub hl [0, 1, 2, 3, 4, 5] rfl) (hP.sub [0, 1, 2] rfl) (hD.sub [0, 1, 2] (by decide +kernel) rfl) hS
    exact hloop_3 _ a1 (by first | omega | decide | assumption | rfl) (by first | omega | decide | assumption | rfl) (by first | omega | decide | assumption | rfl) (Nat.lt_succ_self _) ls _ _ (lv_sub hl [0, 1, 2, 3, 4, 5] rfl) hP hD hS
theorem bn_cX11_voice_0 : BN cX11_voice 0 0x2b42a025b8783a3800adc081c15870560c012d8082b5690402b72004c560b00a6c60015c81c081d06805345100adc382b := by
  unfold BN; decide +kernel
theorem dX11_voice_0 : decode cX11_voice 0 = .ok (.aload_n 0, 1) := dR0 (k := 0) (i := 0) bn_cX11_voice_0 dop_42 (by decide +kernel)
theorem dX11_voice_1 : decode cX11_voice 1 = .ok (.iload_n 1, 1) := dR0 (k := 0) (i := 1) bn_cX11_voice_0 dop_27 (by decide +kernel)
theorem dX11_voice_2 : decode cX11_voice 2 = .ok (.invokevirtual 80, 3) := dR2 (f := Instr.invokevirtual) (k := 0) (i := 2) bn_cX11_voice_0 dop_182 80 (by decide +kernel)
theorem dX11_voice_5 : decode cX11_voice 5 = .ok (.ifCond .eq 12, 3) := dR2s (f := Instr.ifCond .eq) (k := 0) (i := 5) bn_cX11_voice_0 dop_153 12 12 (by decide +kernel)
theorem dX11_voice_8 : decode cX11_voice 8 = .ok (.iload_n 2, 1) := dR0 (k := 0) (i := 8) bn_cX11_voice_0 dop_28 (by decide +kernel)
theorem dX11_voice_9 : decode cX11_voice 9 = .ok (.iconst 0, 1) := dR0 (k := 0) (i := 9) bn_cX11_voice_0 dop_3 (by decide +kernel)
theorem dX11_voice_10 : decode cX11_voice 10 = .ok (.iconst 3, 1) := dR0 (k := 0) (i := 10) bn_cX11_voice_0 dop_6 (by decide +kernel)
theorem dX11_voice_11 : decode cX11_voice 11 = .ok (.invokestatic 47, 3) := dR2 (f := Instr.invokestatic) (k := 0) (i := 11) bn_cX11_voice_0 dop_184 47 (by decide +kernel)
theorem dX11_voice_14 : decode cX11_voice 14 = .ok (.ifCond .ne 10, 3) := dR2s (f := Instr.ifCond .ne) (k := 0) (i := 14) bn_cX11_voice_0 dop_154 10 10 (by decide +kernel)
theorem dX11_voice_17 : decode cX11_voice 17 = .ok (.aload_n 0, 1) := dR0 (k := 0) (i := 17) bn_cX11_voice_0 dop_42 (by decide +kernel)
theorem dX11_voice_18 : decode cX11_voice 18 = .ok (.ldc 63, 2) := dR1 (f := Instr.ldc) (k := 0) (i := 18) bn_cX11_voice_0 dop_18 63 (by decide +kernel)
theorem dX11_voice_20 : decode cX11_voice 20 = .ok (.invokevirtual 64, 3) := dR2 (f := Instr.invokevirtual) (k := 0) (i := 20) bn_cX11_voice_0 dop_182 64 (by decide +kernel)
theorem dX11_voice_23 : decode cX11_voice 23 = .ok (.ireturn, 1) := dR0 (k := 0) (i := 23) bn_cX11_voice_0 dop_172 (by decide +kernel)
theorem dX11_voice_24 : decode cX11_voice 24 = .ok (.aload_n 0, 1) := dR0 (k := 0) (i := 24) bn_cX11_voice_0 dop_42 (by decide +kernel)
theorem dX11_voice_25 : decode cX11_voice 25 = .ok (.iconst 0, 1) := dR0 (k := 0) (i := 25) bn_cX11_voice_0 dop_3 (by decide +kernel)
theorem dX11_voice_26 : decode cX11_voice 26 = .ok (.putfield 267, 3) := dR2 (f := Instr.putfield) (k := 0) (i := 26) bn_cX11_voice_0 dop_181 267 (by decide +kernel)
theorem dX11_voice_29 : decode cX11_voice 29 = .ok (.aload_n 0, 1) := dR0 (k := 0) (i := 29) bn_cX11_voice_0 dop_42 (by decide +kernel)
theorem dX11_voice_30 : decode cX11_voice 30 = .ok (.iload_n 1, 1) := dR0 (k := 0) (i := 30) bn_cX11_voice_0 dop_27 (by decide +kernel)
theorem dX11_voice_31 : decode cX11_voice 31 = .ok (.aload_n 0, 1) := dR0 (k := 0) (i := 31) bn_cX11_voice_0 dop_42 (by decide +kernel)
theorem dX11_voice_32 : decode cX11_voice 32 = .ok (.iload_n 1, 1) := dR0 (k := 0) (i := 32) bn_cX11_voice_0 dop_27 (by decide +kernel)
theorem dX11_voice_33 : decode cX11_voice 33 = .ok (.iconst 0, 1) := dR0 (k := 0) (i := 33) bn_cX11_voice_0 dop_3 (by decide +kernel)
theorem dX11_voice_34 : decode cX11_voice 34 = .ok (.invokevirtual 55, 3) := dR2 (f := Instr.invokevirtual) (k := 0) (i := 34) bn_cX11_voice_0 dop_182 55 (by decide +kernel)
theorem dX11_voice_37 : decode cX11_voice 37 = .ok (.iload_n 2, 1) := dR0 (k := 0) (i := 37) bn_cX11_voice_0 dop_28 (by decide +kernel)
theorem dX11_voice_38 : decode cX11_voice 38 = .ok (.iload_n 3, 1) := dR0 (k := 0) (i := 38) bn_cX11_voice_0 dop_29 (by decide +kernel)
theorem dX11_voice_39 : decode cX11_voice 39 = .ok (.invokevirtual 276, 3) := dR2 (f := Instr.invokevirtual) (k := 0) (i := 39) bn_cX11_voice_0 dop_182 276 (by decide +kernel)
theorem dX11_voice_42 : decode cX11_voice 42 = .ok (.ireturn, 1) := dR0 (k := 0) (i := 42) bn_cX11_voice_0 dop_172 (by decide +kernel)
set_option maxHeartbeats 4000000 in
set_option maxRecDepth 100000 in
theorem c_X11_voiceG (l : Launch) (D : va_G) (cI : ClassId) (aK aV : Nat → Nat) (k k0 k1 k2 k4 k5 k6 k7 k8 ka kb kl ko : Nat) (sz : Nat) (c3 : Int32) (c9 : Int32) (cc : Int32) (cd : Int32) (ce : Int32) (cf : Int32) (cg : Int32) (ch : Int32) (ci : Int32) (cj : Int32) (ck : Int32) (cm : Int32) (cn : Int32) (c0 : Nat → Int32) (c4 : Nat → Int32) (c8 : Nat → Int32) (a0 : Int32) (a1 : Int32) (a2 : Int32) (pre0 : SB c0) (pre1 : 0 ≤ c9.toInt) (pre2 : c9.toInt ≤ 40) : Met l yX11_voice (gW yX11_voice cX11_voice 4 (some .int)) ({ frames := 97, cells := 0, slots := 0, locals := 3102 } : Room) (kPreX D cI aK aV [.ref k, .int a0, .int a1, .int a2] [(k, .inr (11, [.ref k0, .ref k1, .ref k2, .int c3, .ref k4, .ref k5, .ref k6, .ref k7, .ref k8, .int c9, .ref ka, .ref kb, .int cc, .int cd, .int ce, .int cf, .int cg, .int ch, .int ci, .int cj, .int ck, .ref kl, .int cm, .int cn, .ref ko])), (k0, .inl (cI, 1201, .inl c0)), (k4, .inl (cI, 6, .inl c4)), (k8, .inl (cI, 40, .inl c8))] sz) (va_Qi (fun (r : Int32) (u : Int32 × (Nat → Int32) × (Nat → Int32)) => 0 ≤ u.1.toInt ∧ u.1.toInt ≤ 40) (fun u t => kWd D cI (va_A [(k, .inr (11, [.ref k0, .ref k1, .ref k2, .int c3, .ref k4, .ref k5, .ref k6, .ref k7, .ref k8, .int c9, .ref ka, .ref kb, .int cc, .int cd, .int ce, .int cf, .int cg, .int ch, .int ci, .int cj, .int ck, .ref kl, .int cm, .int cn, .ref ko])), (k0, .inl (cI, 1201, .inl c0)), (k4, .inl (cI, 6, .inl c4)), (k8, .inl (cI, 40, .inl c8))] sz) [(k, .inr (11, [.ref k0, .ref k1, .ref k2, .int c3, .ref k4, .ref k5, .ref k6, .ref k7, .ref k8, .int u.1, .ref ka, .ref kb, .int cc, .int cd, .int ce, .int cf, .int cg, .int ch, .int ci, .int cj, .int ck, .ref kl, .int cm, .int cn, .ref ko])), (k0, .inl (cI, 1201, .inl c0)), (k4, .inl (cI, 6, .inl u.2.1)), (k8, .inl (cI, 40, .inl u.2.2))] t) (va_A [(k, .inr (11, [.ref k0, .ref k1, .ref k2, .int c3, .ref k4, .ref k5, .ref k6, .ref k7, .ref k8, .int c9, .ref ka, .ref kb, .int cc, .int cd, .int ce, .int cf, .int cg, .int ch, .int ci, .int cj, .int ck, .ref kl, .int cm, .int cn, .ref ko])), (k0, .inl (cI, 1201, .inl c0)), (k4, .inl (cI, 6, .inl c4)), (k8, .inl (cI, 40, .inl c8))] sz)) 0 0 (va_A [(k, .inr (11, [.ref k0, .ref k1, .ref k2, .int c3, .ref k4, .ref k5, .ref k6, .ref k7, .ref k8, .int c9, .ref ka, .ref kb, .int cc, .int cd, .int ce, .int cf, .int cg, .int ch, .int ci, .int cj, .int ck, .ref kl, .int cm, .int cn, .ref ko])), (k0, .inl (cI, 1201, .inl c0)), (k4, .inl (cI, 6, .inl c4)), (k8, .inl (cI, 40, .inl c8))] sz) := by
  refine kMetIX (own := RX11) (by decide +kernel) rfl (Nat.le_of_ble_eq_true rfl) ?_
  intro p e s m args below meth c hx hb hT hown hname hml A Q hK hP hD hS hA hN hXS hRet ls hl
  have hl : lv_has ls 4 [(0, .ref k), (1, .int a0), (2, .int a1), (3, .int a2)] := hl
  have lo_a0 := k_lo a0
  have hi_a0 := k_hi a0
  have lo_a1 := k_lo a1
  have hi_a1 := k_hi a1
  have lo_a2 := k_lo a2
  have hi_a2 := k_hi a2
  have lo_ci := k_lo ci
  have hi_ci := k_hi ci
  have pre0 : SB c0 := pre0
  have nb_1 : 0 ≤ (c0 0).toInt ∧ (c0 0).toInt ≤ 2000 := SB.n0 pre0
  have nb_2 : 0 ≤ (c0 1).toInt ∧ (c0 1).toInt ≤ 60 := SB.n1 pre0
  have nb_3 : 0 ≤ (c0 2).toInt ∧ (c0 2).toInt ≤ 4 := SB.n2 pre0
  refine lv_aload_n hx hb dX11_voice_0 rfl (lv_at hl 0 rfl) ?_
  refine lv_iload_n hx hb dX11_voice_1 rfl (lv_at hl 1 rfl) ?_
  refine kJi (wr := [(k4, .inl (cI, 6, .inl c4)), (k8, .inl (cI, 40, .inl c8))]) (va_runV (As := [.int a0]) (rest := []) ⟨hx, hb, hml, hown, hT⟩ (c_X11_isWorkG l D cI aK aV k k0 k1 k2 k4 k5 k6 k7 k8 ka kb kl ko s.heap.size c3 c9 cc cd ce cf cg ch ci cj ck cm cn c0 a0 pre0) (cwV 1 hT (gV_in mw_1272 mw_1269 mw_1271 mw_p3_11 mw_12) rfl rfl rfl (by decide +kernel) ⟨Nat.le_of_ble_eq_true rfl, Nat.le_of_ble_eq_true rfl⟩) (kRecvX (q0 := 0) (ci := 11) hK hP hD hN hXS hS hA rfl rfl [0, 1] rfl (by decide +kernel)) rfl rfl hl.1 rfl (lv_room (Nat.le_of_ble_eq_true rfl)) dX11_voice_2 ⟨Nat.le_of_ble_eq_true rfl, Nat.le_of_ble_eq_true rfl⟩) hP hD hS hA [0, 1] [2, 3] rfl rfl (by decide +kernel) (by decide +kernel) ?_
  clear hP hD hS
  intro r_4 u_6 H locs w_5 hP hD hS
  replace hP : va_P D vwCl [(k4, .inl (cI, 6, .inl c4)), (k8, .inl (cI, 40, .inl c8)), (k, .inr (11, [.ref k0, .ref k1, .ref k2, .int c3, .ref k4, .ref k5, .ref k6, .ref k7, .ref k8, .int c9, .ref ka, .ref kb, .int cc, .int cd, .int ce, .int cf, .int cg, .int ch, .int ci, .int cj, .int ck, .ref kl, .int cm, .int cn, .ref ko])), (k0, .inl (cI, 1201, .inl c0))] H := hP
  replace hD : va_D A [(k4, .inl (cI, 6, .inl c4)), (k8, .inl (cI, 40, .inl c8)), (k, .inr (11, [.ref k0, .ref k1, .ref k2, .int c3, .ref k4, .ref k5, .ref k6, .ref k7, .ref k8, .int c9, .ref ka, .ref kb, .int cc, .int cd, .int ce, .int cf, .int cg, .int ch, .int ci, .int cj, .int ck, .ref kl, .int cm, .int cn, .ref ko])), (k0, .inl (cI, 1201, .inl c0))] := hD
  rcases w_5 with ⟨hr_4, h_7, h_8⟩ | ⟨hr_4, h_9⟩
  · have h_7 : 0 ≤ a0.toInt := h_7
    have h_8 : a0.toInt < (c0 1).toInt := h_8
    obtain rfl : r_4 = 1 := hr_4.trans (by decide +kernel)
    refine b_if_eq hx hb zl_1 (tgt := 17) dX11_voice_5 (by decide +kernel) (fun c_10 => by exfalso; omega) (fun c_10 => ?_)
    refine lv_iload_n hx hb dX11_voice_8 rfl (lv_at hl 2 rfl) ?_
    refine lv_iconst (v := 0) hx hb dX11_voice_9 (by decide +kernel) ?_
    refine lv_iconst (v := 3) hx hb dX11_voice_10 (by decide +kernel) ?_
    refine kJi (wr := [(k4, .inl (cI, 6, .inl c4)), (k8, .inl (cI, 40, .inl c8)), (k, .inr (11, [.ref k0, .ref k1, .ref k2, .int c3, .ref k4, .ref k5, .ref k6, .ref k7, .ref k8, .int c9, .ref ka, .ref kb, .int cc, .int cd, .int ce, .int cf, .int cg, .int ch, .int ci, .int cj, .int ck, .ref kl, .int cm, .int cn, .ref ko])), (k0, .inl (cI, 1201, .inl c0))]) (va_runS (As := [.int a1, .int 0, .int 3]) (rest := []) ⟨hx, hb, hml, hown, hT⟩ (c_X11_inG l D cI aK aV H.size a1 0 3) (cwS 3 hT (gS_in mw_1238 mw_1236 mw_1237 mw_12) rfl rfl rfl (by decide +kernel) ⟨Nat.le_of_ble_eq_true rfl, Nat.le_of_ble_eq_true rfl⟩) (kStatX hK hP hD hN hXS hS hA [] rfl (by decide +kernel)) rfl rfl hl.1 rfl (lv_room (Nat.le_of_ble_eq_true rfl)) dX11_voice_11 ⟨Nat.le_of_ble_eq_true rfl, Nat.le_of_ble_eq_true rfl⟩) hP hD hS hA [] [0, 1, 2, 3] rfl rfl (by decide +kernel) (by decide +kernel) ?_
    clear hP hD hS
    intro r_11 u_13 H locs w_12 hP hD hS
    replace hP : va_P D vwCl [(k4, .inl (cI, 6, .inl c4)), (k8, .inl (cI, 40, .inl c8)), (k, .inr (11, [.ref k0, .ref k1, .ref k2, .int c3, .ref k4, .ref k5, .ref k6, .ref k7, .ref k8, .int c9, .ref ka, .ref kb, .int cc, .int cd, .int ce, .int cf, .int cg, .int ch, .int ci, .int cj, .int ck, .ref kl, .int cm, .int cn, .ref ko])), (k0, .inl (cI, 1201, .inl c0))] H := hP
    replace hD : va_D A [(k4, .inl (cI, 6, .inl c4)), (k8, .inl (cI, 40, .inl c8)), (k, .inr (11, [.ref k0, .ref k1, .ref k2, .int c3, .ref k4, .ref k5, .ref k6, .ref k7, .ref k8, .int c9, .ref ka, .ref kb, .int cc, .int cd, .int ce, .int cf, .int cg, .int ch, .int ci, .int cj, .int ck, .ref kl, .int cm, .int cn, .ref ko])), (k0, .inl (cI, 1201, .inl c0))] := hD
    rcases w_12 with ⟨hr_11, h_14, h_15⟩ | ⟨hr_11, h_16⟩
    · try simp only [zl_0, zl_3] at h_14
      have h_14 : 0 ≤ a1.toInt := h_14
      try simp only [zl_0, zl_3] at h_15
      have h_15 : a1.toInt ≤ 3 := h_15
      obtain rfl : r_11 = 1 := hr_11.trans (by decide +kernel)
      refine b_if_ne hx hb zl_1 (tgt := 24) dX11_voice_14 (by decide +kernel) (fun c_17 => ?_) (fun c_17 => by exfalso; omega)
      refine lv_aload_n hx hb dX11_voice_24 rfl (lv_at hl 0 rfl) ?_
      refine lv_iconst (v := 0) hx hb dX11_voice_25 (by decide +kernel) ?_
      refine va_put (D := D) (ci := 11) (v := .int 0) (ty := .int) (C := RX11) (T := TX11) (N := 25) hx hb hT giX11 tyX11 tyX11_ok nmX11 hown hK hP hD hS 2 rfl rfl 9 (by decide +kernel) (hT (Cond.fieldLink RX11 267 "DesertWireModel" "traces" "I") mw_1165) (fun _ h9 => h9) rfl (by decide +kernel) rfl rfl (Nat.le_of_ble_eq_true rfl) dX11_voice_26 ?_
      clear hP hD hS
      intro H locs hP hD hS
      replace hP : va_P D vwCl [(k4, .inl (cI, 6, .inl c4)), (k8, .inl (cI, 40, .inl c8)), (k, .inr (11, [.ref k0, .ref k1, .ref k2, .int c3, .ref k4, .ref k5, .ref k6, .ref k7, .ref k8, .int 0, .ref ka, .ref kb, .int cc, .int cd, .int ce, .int cf, .int cg, .int ch, .int ci, .int cj, .int ck, .ref kl, .int cm, .int cn, .ref ko])), (k0, .inl (cI, 1201, .inl c0))] H := hP
      replace hD : va_D A [(k4, .inl (cI, 6, .inl c4)), (k8, .inl (cI, 40, .inl c8)), (k, .inr (11, [.ref k0, .ref k1, .ref k2, .int c3, .ref k4, .ref k5, .ref k6, .ref k7, .ref k8, .int 0, .ref ka, .ref kb, .int cc, .int cd, .int ce, .int cf, .int cg, .int ch, .int ci, .int cj, .int ck, .ref kl, .int cm, .int cn, .ref ko])), (k0, .inl (cI, 1201, .inl c0))] := hD
      refine lv_aload_n hx hb dX11_voice_29 rfl (lv_at hl 0 rfl) ?_
      refine lv_iload_n hx hb dX11_voice_30 rfl (lv_at hl 1 rfl) ?_
      refine lv_aload_n hx hb dX11_voice_31 rfl (lv_at hl 0 rfl) ?_
      refine lv_iload_n hx hb dX11_voice_32 rfl (lv_at hl 1 rfl) ?_
      refine lv_iconst (v := 0) hx hb dX11_voice_33 (by decide +kernel) ?_
      refine kJi (wr := [(k4, .inl (cI, 6, .inl c4)), (k8, .inl (cI, 40, .inl c8))]) (va_runV (As := [.int a0, .int 0]) (rest := [.int a0, .ref k]) ⟨hx, hb, hml, hown, hT⟩ (c_X11_workG0 l D cI aK aV k k0 k1 k2 k4 k5 k6 k7 k8 ka kb kl ko H.size c3 0 cc cd ce cf cg ch ci cj ck cm cn c0 a0 0 (by first | omega | (simp only [zl_0]; first | done | omega) | decide | assumption | rfl) (by first | omega | (simp only [zl_0]; first | done | omega) | decide | assumption | rfl) (by first | omega | (simp only [zl_0]; first | done | omega) | decide | assumption | rfl)) (cwV 2 hT (gV_in mw_1276 mw_1273 mw_1275 mw_p3_12 mw_12) rfl rfl rfl (by decide +kernel) ⟨Nat.le_of_ble_eq_true rfl, Nat.le_of_ble_eq_true rfl⟩) (kRecvX (q0 := 2) (ci := 11) hK hP hD hN hXS hS hA rfl rfl [2, 3] rfl (by decide +kernel)) rfl rfl hl.1 rfl (lv_room (Nat.le_of_ble_eq_true rfl)) dX11_voice_34 ⟨Nat.le_of_ble_eq_true rfl, Nat.le_of_ble_eq_true rfl⟩) hP hD hS hA [2, 3] [0, 1] rfl rfl (by decide +kernel) (by decide +kernel) ?_
      clear hP hD hS
      intro r_18 u_20 H locs w_19 hP hD hS
      replace hP : va_P D vwCl [(k4, .inl (cI, 6, .inl c4)), (k8, .inl (cI, 40, .inl c8)), (k, .inr (11, [.ref k0, .ref k1, .ref k2, .int c3, .ref k4, .ref k5, .ref k6, .ref k7, .ref k8, .int 0, .ref ka, .ref kb, .int cc, .int cd, .int ce, .int cf, .int cg, .int ch, .int ci, .int cj, .int ck, .ref kl, .int cm, .int cn, .ref ko])), (k0, .inl (cI, 1201, .inl c0))] H := hP
      replace hD : va_D A [(k4, .inl (cI, 6, .inl c4)), (k8, .inl (cI, 40, .inl c8)), (k, .inr (11, [.ref k0, .ref k1, .ref k2, .int c3, .ref k4, .ref k5, .ref k6, .ref k7, .ref k8, .int 0, .ref ka, .ref kb, .int cc, .int cd, .int ce, .int cf, .int cg, .int ch, .int ci, .int cj, .int ck, .ref kl, .int cm, .int cn, .ref ko])), (k0, .inl (cI, 1201, .inl c0))] := hD
      have h_21 := w_19
      have h_21 : r_18 = wW c0 a0 0 := h_21
      have t_22 : r_18.toInt = (wW c0 a0 0).toInt := by rw [h_21]
      have b_23 : 0 ≤ r_18.toInt ∧ r_18.toInt ≤ 5 := by rw [h_21]; exact SB.w0 pre0 (by omega) (by omega)
      have lo_r_18 := k_lo r_18
      have hi_r_18 := k_hi r_18
      refine lv_iload_n hx hb dX11_voice_37 rfl (lv_at hl 2 rfl) ?_
      refine lv_iload_n hx hb dX11_voice_38 rfl (lv_at hl 3 rfl) ?_
      refine kJi (wr := [(k4, .inl (cI, 6, .inl c4))]) (va_runV (As := [.int a0, .int r_18, .int a1, .int a2]) (rest := []) ⟨hx, hb, hml, hown, hT⟩ (c_X11_speaksR 24 l D cI aK aV k k0 k1 k2 k4 k5 k6 k7 k8 ka kb kl ko H.size c3 0 cc cd ce cf cg ch ci cj ck cm cn c0 c8 a0 r_18 a1 a2 pre0 (by first | omega | (simp only [zl_0]; first | done | omega) | decide | assumption | rfl) (by first | omega | (simp only [zl_0]; first | done | omega) | decide | assumption | rfl) (by first | omega | (simp only [zl_0]; first | done | omega) | decide | assumption | rfl) (by first | omega | (simp only [zl_0]; first | done | omega) | decide | assumption | rfl) (by first | omega | (simp only [zl_0]; first | done | omega) | decide | assumption | rfl) (by first | omega | (simp only [zl_0]; first | done | omega) | decide | assumption | rfl) (by first | omega | (simp only [zl_0]; first | done | omega) | decide | assumption | rfl) (by first | omega | (simp only [zl_0]; first | done | omega) | decide | assumption | rfl) (by first | omega | (simp only [zl_0]; first | done | omega) | decide | assumption | rfl)) (cwV 4 hT (gV_in mw_1578 mw_1575 mw_1577 mw_p6_6 mw_12) rfl rfl rfl (by decide +kernel) ⟨Nat.le_of_ble_eq_true rfl, Nat.le_of_ble_eq_true rfl⟩) (kRecvX (q0 := 2) (ci := 11) hK hP hD hN hXS hS hA rfl rfl [2, 3, 1] rfl (by decide +kernel)) rfl rfl hl.1 rfl (lv_room (Nat.le_of_ble_eq_true rfl)) dX11_voice_39 ⟨Nat.le_of_ble_eq_true rfl, Nat.le_of_ble_eq_true rfl⟩) hP hD hS hA [2, 3, 1] [0] rfl rfl (by decide +kernel) (by decide +kernel) ?_
      clear hP hD hS
      intro r_24 u_28 H locs w_25 hP hD hS
      obtain ⟨sc9_26, sc8_27⟩ := u_28
      replace hP : va_P D vwCl [(k4, .inl (cI, 6, .inl c4)), (k, .inr (11, [.ref k0, .ref k1, .ref k2, .int c3, .ref k4, .ref k5, .ref k6, .ref k7, .ref k8, .int sc9_26, .ref ka, .ref kb, .int cc, .int cd, .int ce, .int cf, .int cg, .int ch, .int ci, .int cj, .int ck, .ref kl, .int cm, .int cn, .ref ko])), (k0, .inl (cI, 1201, .inl c0)), (k8, .inl (cI, 40, .inl sc8_27))] H := hP
      replace hD : va_D A [(k4, .inl (cI, 6, .inl c4)), (k, .inr (11, [.ref k0, .ref k1, .ref k2, .int c3, .ref k4, .ref k5, .ref k6, .ref k7, .ref k8, .int sc9_26, .ref ka, .ref kb, .int cc, .int cd, .int ce, .int cf, .int cg, .int ch, .int ci, .int cj, .int ck, .ref kl, .int cm, .int cn, .ref ko])), (k0, .inl (cI, 1201, .inl c0)), (k8, .inl (cI, 40, .inl sc8_27))] := hD
      have lo_sc9_26 := k_lo sc9_26
      have hi_sc9_26 := k_hi sc9_26
      obtain ⟨h_29, h_30⟩ := w_25
      try simp only [zl_0] at h_29
      have h_29 : 0 ≤ sc9_26.toInt := h_29
      try simp only [zl_0] at h_30
      have h_30 : sc9_26.toInt ≤ 40 := h_30
      have lo_r_24 := k_lo r_24
      have hi_r_24 := k_hi r_24
      exact hRet (sc9_26, c4, sc8_27) [1, 2, 0, 3] ⟨(by first | omega | decide | assumption | rfl | (dsimp only; first | omega)), (by first | omega | decide | assumption | rfl | (dsimp only; first | omega))⟩ hP hD (by decide +kernel) rfl hS rfl dX11_voice_42
    · try simp only [zl_0, zl_3] at h_16
      have h_16 : a1.toInt < 0 ∨ 3 < a1.toInt := h_16
      obtain rfl : r_11 = 0 := hr_11.trans (by decide +kernel)
      refine b_if_ne hx hb zl_0 (tgt := 24) dX11_voice_14 (by decide +kernel) (fun c_31 => by exfalso; omega) (fun c_31 => ?_)
      refine lv_aload_n hx hb dX11_voice_17 rfl (lv_at hl 0 rfl) ?_
      refine lv_ldc (v := (-1000001)) hx hb hown (hT _ mw_1239) dX11_voice_18 ?_
      refine kJi (wr := [(k8, .inl (cI, 40, .inl c8)), (k0, .inl (cI, 1201, .inl c0))]) (va_runV (As := [.int (-1000001)]) (rest := []) ⟨hx, hb, hml, hown, hT⟩ (c_X11_findingG l D cI aK aV k k0 k1 k2 k4 k5 k6 k7 k8 ka kb kl ko H.size c3 c9 cc cd ce cf cg ch ci cj ck cm cn c4 (-1000001) (by first | omega | (simp only [zl_m1000001]; first | done | omega) | decide | assumption | rfl) (by first | omega | (simp only [zl_m1000001]; first | done | omega) | decide | assumption | rfl)) (cwV 1 hT (gV_in mw_1243 mw_1240 mw_1242 mw_p3_8 mw_12) rfl rfl rfl (by decide +kernel) ⟨Nat.le_of_ble_eq_true rfl, Nat.le_of_ble_eq_true rfl⟩) (kRecvX (q0 := 2) (ci := 11) hK hP hD hN hXS hS hA rfl rfl [2, 0] rfl (by decide +kernel)) rfl rfl hl.1 rfl (lv_room (Nat.le_of_ble_eq_true rfl)) dX11_voice_20 ⟨Nat.le_of_ble_eq_true rfl, Nat.le_of_ble_eq_true rfl⟩) hP hD hS hA [2, 0] [1, 3] rfl rfl (by decide +kernel) (by decide +kernel) ?_
      clear hP hD hS
      intro r_32 sc4_34 H locs w_33 hP hD hS
      replace hP : va_P D vwCl [(k8, .inl (cI, 40, .inl c8)), (k0, .inl (cI, 1201, .inl c0)), (k, .inr (11, [.ref k0, .ref k1, .ref k2, .int c3, .ref k4, .ref k5, .ref k6, .ref k7, .ref k8, .int c9, .ref ka, .ref kb, .int cc, .int cd, .int ce, .int cf, .int cg, .int ch, .int ci, .int cj, .int ck, .ref kl, .int cm, .int cn, .ref ko])), (k4, .inl (cI, 6, .inl sc4_34))] H := hP
      replace hD : va_D A [(k8, .inl (cI, 40, .inl c8)), (k0, .inl (cI, 1201, .inl c0)), (k, .inr (11, [.ref k0, .ref k1, .ref k2, .int c3, .ref k4, .ref k5, .ref k6, .ref k7, .ref k8, .int c9, .ref ka, .ref kb, .int cc, .int cd, .int ce, .int cf, .int cg, .int ch, .int ci, .int cj, .int ck, .ref kl, .int cm, .int cn, .ref ko])), (k4, .inl (cI, 6, .inl sc4_34))] := hD
      have hr_32 := w_33
      obtain rfl : r_32 = (-1000001) := hr_32.trans (by decide +kernel)
      exact hRet (c9, sc4_34, c8) [2, 1, 3, 0] ⟨(by first | omega | (simp only [zl_m1000001]; first | done | omega) | decide | assumption | rfl | (dsimp only; first | omega | (simp only [zl_m1000001]; first | done | omega))), (by first | omega | (simp only [zl_m1000001]; first | done | omega) | decide | assumption | rfl | (dsimp only; first | omega | (simp only [zl_m1000001]; first | done | omega)))⟩ hP hD (by decide +kernel) rfl hS rfl dX11_voice_23
  · have h_9 : a0.toInt < 0 ∨ (c0 1).toInt ≤ a0.toInt := h_9
    obtain rfl : r_4 = 0 := hr_4.trans (by decide +kernel)
    refine b_if_eq hx hb zl_0 (tgt := 17) dX11_voice_5 (by decide +kernel) (fun c_35 => ?_) (fun c_35 => by exfalso; omega)
    refine lv_aload_n hx hb dX11_voice_17 rfl (lv_at hl 0 rfl) ?_
    refine lv_ldc (v := (-1000001)) hx hb hown (hT _ mw_1239) dX11_voice_18 ?_
    refine kJi (wr := [(k8, .inl (cI, 40, .inl c8)), (k0, .inl (cI, 1201, .inl c0))]) (va_runV (As := [.int (-1000001)]) (rest := []) ⟨hx, hb, hml, hown, hT⟩ (c_X11_findingG l D cI aK aV k k0 k1 k2 k4 k5 k6 k7 k8 ka kb kl ko H.size c3 c9 cc cd ce cf cg ch ci cj ck cm cn c4 (-1000001) (by first | omega | (simp only [zl_m1000001]; first | done | omega) | decide | assumption | rfl) (by first | omega | (simp only [zl_m1000001]; first | done | omega) | decide | assumption | rfl)) (cwV 1 hT (gV_in mw_1243 mw_1240 mw_1242 mw_p3_8 mw_12) rfl rfl rfl (by decide +kernel) ⟨Nat.le_of_ble_eq_true rfl, Nat.le_of_ble_eq_true rfl⟩) (kRecvX (q0 := 2) (ci := 11) hK hP hD hN hXS hS hA rfl rfl [2, 0] rfl (by decide +kernel)) rfl rfl hl.1 rfl (lv_room (Nat.le_of_ble_eq_true rfl)) dX11_voice_20 ⟨Nat.le_of_ble_eq_true rfl, Nat.le_of_ble_eq_true rfl⟩) hP hD hS hA [2, 0] [1, 3] rfl rfl (by decide +kernel) (by decide +kernel) ?_
    clear hP hD hS
    intro r_36 sc4_38 H locs w_37 hP hD hS
    replace hP : va_P D vwCl [(k8, .inl (cI, 40, .inl c8)), (k0, .inl (cI, 1201, .inl c0)), (k, .inr (11, [.ref k0, .ref k1, .ref k2, .int c3, .ref k4, .ref k5, .ref k6, .ref k7, .ref k8, .int c9, .ref ka, .ref kb, .int cc, .int cd, .int ce, .int cf, .int cg, .int ch, .int ci, .int cj, .int ck, .ref kl, .int cm, .int cn, .ref ko])), (k4, .inl (cI, 6, .inl sc4_38))] H := hP
    replace hD : va_D A [(k8, .inl (cI, 40, .inl c8)), (k0, .inl (cI, 1201, .inl c0)), (k, .inr (11, [.ref k0, .ref k1, .ref k2, .int c3, .ref k4, .ref k5, .ref k6, .ref k7, .ref k8, .int c9, .ref ka, .ref kb, .int cc, .int cd, .int ce, .int cf, .int cg, .int ch, .int ci, .int cj, .int ck, .ref kl, .int cm, .int cn, .ref ko])), (k4, .inl (cI, 6, .inl sc4_38))] := hD
    have hr_36 := w_37
    obtain rfl : r_36 = (-1000001) := hr_36.trans (by decide +kernel)
    exact hRet (c9, sc4_38, c8) [2, 1, 3, 0] ⟨(by first | omega | (simp only [zl_m1000001]; first | done | omega) | decide | assumption | rfl | (dsimp only; first | omega | (simp only [zl_m1000001]; first | done | omega))), (by first | omega | (simp only [zl_m1000001]; first | done | omega) | decide | assumption | rfl | (dsimp only; first | omega | (simp only [zl_m1000001]; first | done | omega)))⟩ hP hD (by decide +kernel) rfl hS rfl dX11_voice_23
