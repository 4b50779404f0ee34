theorem bn_cX11_fell_0 : BN cX11_fell 0 0xad0292002b702820382b5690402b72f84c560b00a840a3800adc101c15ab482015b900262b05805365100adc382b := by
  unfold BN; decide +kernel
theorem dX11_fell_0 : decode cX11_fell 0 = .ok (.aload_n 0, 1) := dR0 (k := 0) (i := 0) bn_cX11_fell_0 dop_42 (by decide +kernel)
theorem dX11_fell_1 : decode cX11_fell 1 = .ok (.iload_n 1, 1) := dR0 (k := 0) (i := 1) bn_cX11_fell_0 dop_27 (by decide +kernel)
theorem dX11_fell_2 : decode cX11_fell 2 = .ok (.invokevirtual 80, 3) := dR2 (f := Instr.invokevirtual) (k := 0) (i := 2) bn_cX11_fell_0 dop_182 80 (by decide +kernel)
theorem dX11_fell_5 : decode cX11_fell 5 = .ok (.ifCond .ne 10, 3) := dR2s (f := Instr.ifCond .ne) (k := 0) (i := 5) bn_cX11_fell_0 dop_154 10 10 (by decide +kernel)
theorem dX11_fell_8 : decode cX11_fell 8 = .ok (.aload_n 0, 1) := dR0 (k := 0) (i := 8) bn_cX11_fell_0 dop_42 (by decide +kernel)
theorem dX11_fell_9 : decode cX11_fell 9 = .ok (.ldc 63, 2) := dR1 (f := Instr.ldc) (k := 0) (i := 9) bn_cX11_fell_0 dop_18 63 (by decide +kernel)
theorem dX11_fell_11 : decode cX11_fell 11 = .ok (.invokevirtual 64, 3) := dR2 (f := Instr.invokevirtual) (k := 0) (i := 11) bn_cX11_fell_0 dop_182 64 (by decide +kernel)
theorem dX11_fell_14 : decode cX11_fell 14 = .ok (.ireturn, 1) := dR0 (k := 0) (i := 14) bn_cX11_fell_0 dop_172 (by decide +kernel)
theorem dX11_fell_15 : decode cX11_fell 15 = .ok (.aload_n 0, 1) := dR0 (k := 0) (i := 15) bn_cX11_fell_0 dop_42 (by decide +kernel)
theorem dX11_fell_16 : decode cX11_fell 16 = .ok (.iload_n 1, 1) := dR0 (k := 0) (i := 16) bn_cX11_fell_0 dop_27 (by decide +kernel)
theorem dX11_fell_17 : decode cX11_fell 17 = .ok (.iconst 4, 1) := dR0 (k := 0) (i := 17) bn_cX11_fell_0 dop_7 (by decide +kernel)
theorem dX11_fell_18 : decode cX11_fell 18 = .ok (.invokevirtual 55, 3) := dR2 (f := Instr.invokevirtual) (k := 0) (i := 18) bn_cX11_fell_0 dop_182 55 (by decide +kernel)
theorem dX11_fell_21 : decode cX11_fell 21 = .ok (.iconst 1, 1) := dR0 (k := 0) (i := 21) bn_cX11_fell_0 dop_4 (by decide +kernel)
theorem dX11_fell_22 : decode cX11_fell 22 = .ok (.if_icmp .ne 10, 3) := dR2s (f := Instr.if_icmp .ne) (k := 0) (i := 22) bn_cX11_fell_0 dop_160 10 10 (by decide +kernel)
theorem dX11_fell_25 : decode cX11_fell 25 = .ok (.aload_n 0, 1) := dR0 (k := 0) (i := 25) bn_cX11_fell_0 dop_42 (by decide +kernel)
theorem dX11_fell_26 : decode cX11_fell 26 = .ok (.ldc 94, 2) := dR1 (f := Instr.ldc) (k := 0) (i := 26) bn_cX11_fell_0 dop_18 94 (by decide +kernel)
theorem dX11_fell_28 : decode cX11_fell 28 = .ok (.invokevirtual 64, 3) := dR2 (f := Instr.invokevirtual) (k := 0) (i := 28) bn_cX11_fell_0 dop_182 64 (by decide +kernel)
theorem dX11_fell_31 : decode cX11_fell 31 = .ok (.ireturn, 1) := dR0 (k := 0) (i := 31) bn_cX11_fell_0 dop_172 (by decide +kernel)
theorem dX11_fell_32 : decode cX11_fell 32 = .ok (.aload_n 0, 1) := dR0 (k := 0) (i := 32) bn_cX11_fell_0 dop_42 (by decide +kernel)
theorem dX11_fell_33 : decode cX11_fell 33 = .ok (.iload_n 1, 1) := dR0 (k := 0) (i := 33) bn_cX11_fell_0 dop_27 (by decide +kernel)
theorem dX11_fell_34 : decode cX11_fell 34 = .ok (.iconst 4, 1) := dR0 (k := 0) (i := 34) bn_cX11_fell_0 dop_7 (by decide +kernel)
theorem dX11_fell_35 : decode cX11_fell 35 = .ok (.iconst 1, 1) := dR0 (k := 0) (i := 35) bn_cX11_fell_0 dop_4 (by decide +kernel)
theorem dX11_fell_36 : decode cX11_fell 36 = .ok (.invokevirtual 71, 3) := dR2 (f := Instr.invokevirtual) (k := 0) (i := 36) bn_cX11_fell_0 dop_182 71 (by decide +kernel)
theorem dX11_fell_39 : decode cX11_fell 39 = .ok (.iconst 1, 1) := dR0 (k := 0) (i := 39) bn_cX11_fell_0 dop_4 (by decide +kernel)
theorem dX11_fell_40 : decode cX11_fell 40 = .ok (.ireturn, 1) := dR0 (k := 0) (i := 40) bn_cX11_fell_0 dop_172 (by decide +kernel)
set_option maxHeartbeats 4000000 in
set_option maxRecDepth 100000 in
theorem c_X11_fellG (l : Launch) (D : va_G) (cI : ClassId) (aK aV : Nat → Nat) (k k0 k1 k2 k4 k5 k6 k7 k8 ka kb kl ko : Nat) (sz : Nat) (c3 : Int32) (c9 : Int32) (cc : Int32) (cd : Int32) (ce : Int32) (cf : Int32) (cg : Int32) (ch : Int32) (ci : Int32) (cj : Int32) (ck : Int32) (cm : Int32) (cn : Int32) (c0 : Nat → Int32) (c4 : Nat → Int32) (a0 : Int32) (pre0 : SIX c0 (-1)) : Met l yX11_fell (gW yX11_fell cX11_fell 2 (some .int)) ({ frames := 2, cells := 0, slots := 0, locals := 43 } : Room) (kPreX D cI aK aV [.ref k, .int a0] [(k, .inr (11, [.ref k0, .ref k1, .ref k2, .int c3, .ref k4, .ref k5, .ref k6, .ref k7, .ref k8, .int c9, .ref ka, .ref kb, .int cc, .int cd, .int ce, .int cf, .int cg, .int ch, .int ci, .int cj, .int ck, .ref kl, .int cm, .int cn, .ref ko])), (k0, .inl (cI, 1201, .inl c0)), (k4, .inl (cI, 6, .inl c4))] sz) (va_Qi (fun (r : Int32) (u : (Nat → Int32) × (Nat → Int32)) => SIX u.1 (-1) ∧ r = fellR c0 a0 ∧ u.1 = fellS c0 a0) (fun u t => kWd D cI (va_A [(k, .inr (11, [.ref k0, .ref k1, .ref k2, .int c3, .ref k4, .ref k5, .ref k6, .ref k7, .ref k8, .int c9, .ref ka, .ref kb, .int cc, .int cd, .int ce, .int cf, .int cg, .int ch, .int ci, .int cj, .int ck, .ref kl, .int cm, .int cn, .ref ko])), (k0, .inl (cI, 1201, .inl c0)), (k4, .inl (cI, 6, .inl c4))] sz) [(k, .inr (11, [.ref k0, .ref k1, .ref k2, .int c3, .ref k4, .ref k5, .ref k6, .ref k7, .ref k8, .int c9, .ref ka, .ref kb, .int cc, .int cd, .int ce, .int cf, .int cg, .int ch, .int ci, .int cj, .int ck, .ref kl, .int cm, .int cn, .ref ko])), (k0, .inl (cI, 1201, .inl u.1)), (k4, .inl (cI, 6, .inl u.2))] t) (va_A [(k, .inr (11, [.ref k0, .ref k1, .ref k2, .int c3, .ref k4, .ref k5, .ref k6, .ref k7, .ref k8, .int c9, .ref ka, .ref kb, .int cc, .int cd, .int ce, .int cf, .int cg, .int ch, .int ci, .int cj, .int ck, .ref kl, .int cm, .int cn, .ref ko])), (k0, .inl (cI, 1201, .inl c0)), (k4, .inl (cI, 6, .inl c4))] sz)) 0 0 (va_A [(k, .inr (11, [.ref k0, .ref k1, .ref k2, .int c3, .ref k4, .ref k5, .ref k6, .ref k7, .ref k8, .int c9, .ref ka, .ref kb, .int cc, .int cd, .int ce, .int cf, .int cg, .int ch, .int ci, .int cj, .int ck, .ref kl, .int cm, .int cn, .ref ko])), (k0, .inl (cI, 1201, .inl c0)), (k4, .inl (cI, 6, .inl c4))] sz) := by
  refine kMetIX (own := RX11) (by decide +kernel) rfl (Nat.le_of_ble_eq_true rfl) ?_
  intro p e s m args below meth c hx hb hT hown hname hml A Q hK hP hD hS hA hN hXS hRet ls hl
  have hl : lv_has ls 2 [(0, .ref k), (1, .int a0)] := hl
  have lo_a0 := k_lo a0
  have hi_a0 := k_hi a0
  have lo_ci := k_lo ci
  have hi_ci := k_hi ci
  have pre0 : SIX c0 (-1) := pre0
  have nb_1 : 0 ≤ (c0 0).toInt ∧ (c0 0).toInt ≤ 2000 := SB.n0 (And.left pre0)
  have nb_2 : 0 ≤ (c0 1).toInt ∧ (c0 1).toInt ≤ 60 := SB.n1 (And.left pre0)
  have nb_3 : 0 ≤ (c0 2).toInt ∧ (c0 2).toInt ≤ 4 := SB.n2 (And.left pre0)
  refine lv_aload_n hx hb dX11_fell_0 rfl (lv_at hl 0 rfl) ?_
  refine lv_iload_n hx hb dX11_fell_1 rfl (lv_at hl 1 rfl) ?_
  refine kJi (wr := [(k4, .inl (cI, 6, .inl c4))]) (va_runV (As := [.int a0]) (rest := []) ⟨hx, hb, hml, hown, hT⟩ (c_X11_isWorkG l D cI aK aV k k0 k1 k2 k4 k5 k6 k7 k8 ka kb kl ko s.heap.size c3 c9 cc cd ce cf cg ch ci cj ck cm cn c0 a0 (And.left pre0)) (cwV 1 hT (gV_in mw_1272 mw_1269 mw_1271 mw_p3_11 mw_12) rfl rfl rfl (by decide +kernel) ⟨Nat.le_of_ble_eq_true rfl, Nat.le_of_ble_eq_true rfl⟩) (kRecvX (q0 := 0) (ci := 11) hK hP hD hN hXS hS hA rfl rfl [0, 1] rfl (by decide +kernel)) rfl rfl hl.1 rfl (lv_room (Nat.le_of_ble_eq_true rfl)) dX11_fell_2 ⟨Nat.le_of_ble_eq_true rfl, Nat.le_of_ble_eq_true rfl⟩) hP hD hS hA [0, 1] [2] rfl rfl (by decide +kernel) (by decide +kernel) ?_
  clear hP hD hS
  intro r_4 u_6 H locs w_5 hP hD hS
  replace hP : va_P D vwCl [(k4, .inl (cI, 6, .inl c4)), (k, .inr (11, [.ref k0, .ref k1, .ref k2, .int c3, .ref k4, .ref k5, .ref k6, .ref k7, .ref k8, .int c9, .ref ka, .ref kb, .int cc, .int cd, .int ce, .int cf, .int cg, .int ch, .int ci, .int cj, .int ck, .ref kl, .int cm, .int cn, .ref ko])), (k0, .inl (cI, 1201, .inl c0))] H := hP
  replace hD : va_D A [(k4, .inl (cI, 6, .inl c4)), (k, .inr (11, [.ref k0, .ref k1, .ref k2, .int c3, .ref k4, .ref k5, .ref k6, .ref k7, .ref k8, .int c9, .ref ka, .ref kb, .int cc, .int cd, .int ce, .int cf, .int cg, .int ch, .int ci, .int cj, .int ck, .ref kl, .int cm, .int cn, .ref ko])), (k0, .inl (cI, 1201, .inl c0))] := hD
  rcases w_5 with ⟨hr_4, h_7, h_8⟩ | ⟨hr_4, h_9⟩
  · have h_7 : 0 ≤ a0.toInt := h_7
    have h_8 : a0.toInt < (c0 1).toInt := h_8
    obtain rfl : r_4 = 1 := hr_4.trans (by decide +kernel)
    refine b_if_ne hx hb zl_1 (tgt := 15) dX11_fell_5 (by decide +kernel) (fun c_10 => ?_) (fun c_10 => by exfalso; omega)
    refine lv_aload_n hx hb dX11_fell_15 rfl (lv_at hl 0 rfl) ?_
    refine lv_iload_n hx hb dX11_fell_16 rfl (lv_at hl 1 rfl) ?_
    refine lv_iconst (v := 4) hx hb dX11_fell_17 (by decide +kernel) ?_
    refine kJi (wr := [(k4, .inl (cI, 6, .inl c4))]) (va_runV (As := [.int a0, .int 4]) (rest := []) ⟨hx, hb, hml, hown, hT⟩ (c_X11_workG4 l D cI aK aV k k0 k1 k2 k4 k5 k6 k7 k8 ka kb kl ko H.size c3 c9 cc cd ce cf cg ch ci cj ck cm cn c0 a0 4 (by first | omega | (simp only [zl_4]; first | done | omega) | decide | assumption | rfl) (by first | omega | (simp only [zl_4]; first | done | omega) | decide | assumption | rfl) (by first | omega | (simp only [zl_4]; first | done | omega) | decide | assumption | rfl)) (cwV 2 hT (gV_in mw_1276 mw_1273 mw_1275 mw_p3_12 mw_12) rfl rfl rfl (by decide +kernel) ⟨Nat.le_of_ble_eq_true rfl, Nat.le_of_ble_eq_true rfl⟩) (kRecvX (q0 := 1) (ci := 11) hK hP hD hN hXS hS hA rfl rfl [1, 2] rfl (by decide +kernel)) rfl rfl hl.1 rfl (lv_room (Nat.le_of_ble_eq_true rfl)) dX11_fell_18 ⟨Nat.le_of_ble_eq_true rfl, Nat.le_of_ble_eq_true rfl⟩) hP hD hS hA [1, 2] [0] rfl rfl (by decide +kernel) (by decide +kernel) ?_
    clear hP hD hS
    intro r_11 u_13 H locs w_12 hP hD hS
    replace hP : va_P D vwCl [(k4, .inl (cI, 6, .inl c4)), (k, .inr (11, [.ref k0, .ref k1, .ref k2, .int c3, .ref k4, .ref k5, .ref k6, .ref k7, .ref k8, .int c9, .ref ka, .ref kb, .int cc, .int cd, .int ce, .int cf, .int cg, .int ch, .int ci, .int cj, .int ck, .ref kl, .int cm, .int cn, .ref ko])), (k0, .inl (cI, 1201, .inl c0))] H := hP
    replace hD : va_D A [(k4, .inl (cI, 6, .inl c4)), (k, .inr (11, [.ref k0, .ref k1, .ref k2, .int c3, .ref k4, .ref k5, .ref k6, .ref k7, .ref k8, .int c9, .ref ka, .ref kb, .int cc, .int cd, .int ce, .int cf, .int cg, .int ch, .int ci, .int cj, .int ck, .ref kl, .int cm, .int cn, .ref ko])), (k0, .inl (cI, 1201, .inl c0))] := hD
    have h_14 := w_12
    have h_14 : r_11 = wW c0 a0 4 := h_14
    have t_15 : r_11.toInt = (wW c0 a0 4).toInt := by rw [h_14]
    have b_16 : 0 ≤ r_11.toInt ∧ r_11.toInt ≤ 1 := by rw [h_14]; exact SB.w4 (And.left pre0) (by omega) (by omega)
    have lo_r_11 := k_lo r_11
    have hi_r_11 := k_hi r_11
    refine lv_iconst (v := 1) hx hb dX11_fell_21 (by decide +kernel) ?_
    refine b_icmp_ne hx hb rfl zl_1 (tgt := 32) dX11_fell_22 (by decide +kernel) (fun c_17 => ?_) (fun c_17 => ?_)
    · refine lv_aload_n hx hb dX11_fell_32 rfl (lv_at hl 0 rfl) ?_
      refine lv_iload_n hx hb dX11_fell_33 rfl (lv_at hl 1 rfl) ?_
      refine lv_iconst (v := 4) hx hb dX11_fell_34 (by decide +kernel) ?_
      refine lv_iconst (v := 1) hx hb dX11_fell_35 (by decide +kernel) ?_
      refine kJv (wr := [(k4, .inl (cI, 6, .inl c4))]) (va_runV (As := [.int a0, .int 4, .int 1]) (rest := []) ⟨hx, hb, hml, hown, hT⟩ (c_X11_setWorkG4 l D cI aK aV k k0 k1 k2 k4 k5 k6 k7 k8 ka kb kl ko H.size c3 c9 cc cd ce cf cg ch ci cj ck cm cn c0 a0 4 1 (by first | omega | (simp only [zl_1, zl_4]; first | done | omega) | decide | assumption | rfl) (by first | omega | (simp only [zl_1, zl_4]; first | done | omega) | decide | assumption | rfl) (by first | omega | (simp only [zl_1, zl_4]; first | done | omega) | decide | assumption | rfl)) (cwV 3 hT (gV_in mw_1264 mw_1261 mw_1263 mw_p3_10 mw_12) rfl rfl rfl (by decide +kernel) ⟨Nat.le_of_ble_eq_true rfl, Nat.le_of_ble_eq_true rfl⟩) (kRecvX (q0 := 1) (ci := 11) hK hP hD hN hXS hS hA rfl rfl [1, 2] rfl (by decide +kernel)) rfl rfl hl.1 rfl (lv_room (Nat.le_of_ble_eq_true rfl)) dX11_fell_36 ⟨Nat.le_of_ble_eq_true rfl, Nat.le_of_ble_eq_true rfl⟩) hP hD hS hA [1, 2] [0] rfl rfl (by decide +kernel) (by decide +kernel) ?_
      clear hP hD hS
      intro sc0_20 H locs w_19 hP hD hS
      replace hP : va_P D vwCl [(k4, .inl (cI, 6, .inl c4)), (k, .inr (11, [.ref k0, .ref k1, .ref k2, .int c3, .ref k4, .ref k5, .ref k6, .ref k7, .ref k8, .int c9, .ref ka, .ref kb, .int cc, .int cd, .int ce, .int cf, .int cg, .int ch, .int ci, .int cj, .int ck, .ref kl, .int cm, .int cn, .ref ko])), (k0, .inl (cI, 1201, .inl sc0_20))] H := hP
      replace hD : va_D A [(k4, .inl (cI, 6, .inl c4)), (k, .inr (11, [.ref k0, .ref k1, .ref k2, .int c3, .ref k4, .ref k5, .ref k6, .ref k7, .ref k8, .int c9, .ref ka, .ref kb, .int cc, .int cd, .int ce, .int cf, .int cg, .int ch, .int ci, .int cj, .int ck, .ref kl, .int cm, .int cn, .ref ko])), (k0, .inl (cI, 1201, .inl sc0_20))] := hD
      have h_21 := w_19
      try simp only [zl_1, zl_4] at h_21
      have h_21 : sc0_20 = upd c0 (99 + 6 * a0.toInt.toNat + 4) 1 := h_21
      have h_21 : sc0_20 = upd c0 (99 + 6 * a0.toInt.toNat + 4) 1 := h_21
      have hS_22 : SIX sc0_20 (-1) := SIX.w pre0 h_21 zl_1 (by omega) (by decide +kernel) (by omega)
      have n_23 : (sc0_20 0).toInt = (c0 0).toInt := by rw [updN h_21 (by omega)]
      have n_24 : (sc0_20 1).toInt = (c0 1).toInt := by rw [updN h_21 (by omega)]
      have n_25 : (sc0_20 2).toInt = (c0 2).toInt := by rw [updN h_21 (by omega)]
      refine lv_iconst (v := 1) hx hb dX11_fell_39 (by decide +kernel) ?_
      exact hRet (sc0_20, c4) [1, 2, 0] ⟨hS_22, (by (try dsimp only); unfold fellR; (repeat (first | rw [if_pos (by omega)] | rw [if_neg (by omega)]))), (by (try dsimp only); unfold fellS; (repeat (first | rw [if_pos (by omega)] | rw [if_neg (by omega)])); first | done | exact h_21)⟩ hP hD (by decide +kernel) rfl hS rfl dX11_fell_40
    · refine lv_aload_n hx hb dX11_fell_25 rfl (lv_at hl 0 rfl) ?_
      refine lv_ldc (v := (-1000003)) hx hb hown (hT _ mw_1356) dX11_fell_26 ?_
      refine kJi (wr := [(k0, .inl (cI, 1201, .inl c0))]) (va_runV (As := [.int (-1000003)]) (rest := []) ⟨hx, hb, hml, hown, hT⟩ (c_X11_findingG l D cI aK aV k k0 k1 k2 k4 k5 k6 k7 k8 ka kb kl ko H.size c3 c9 cc cd ce cf cg ch ci cj ck cm cn c4 (-1000003) (by first | omega | (simp only [zl_m1000003]; first | done | omega) | decide | assumption | rfl) (by first | omega | (simp only [zl_m1000003]; first | done | omega) | decide | assumption | rfl)) (cwV 1 hT (gV_in mw_1243 mw_1240 mw_1242 mw_p3_8 mw_12) rfl rfl rfl (by decide +kernel) ⟨Nat.le_of_ble_eq_true rfl, Nat.le_of_ble_eq_true rfl⟩) (kRecvX (q0 := 1) (ci := 11) hK hP hD hN hXS hS hA rfl rfl [1, 0] rfl (by decide +kernel)) rfl rfl hl.1 rfl (lv_room (Nat.le_of_ble_eq_true rfl)) dX11_fell_28 ⟨Nat.le_of_ble_eq_true rfl, Nat.le_of_ble_eq_true rfl⟩) hP hD hS hA [1, 0] [2] rfl rfl (by decide +kernel) (by decide +kernel) ?_
      clear hP hD hS
      intro r_26 sc4_28 H locs w_27 hP hD hS
      replace hP : va_P D vwCl [(k0, .inl (cI, 1201, .inl c0)), (k, .inr (11, [.ref k0, .ref k1, .ref k2, .int c3, .ref k4, .ref k5, .ref k6, .ref k7, .ref k8, .int c9, .ref ka, .ref kb, .int cc, .int cd, .int ce, .int cf, .int cg, .int ch, .int ci, .int cj, .int ck, .ref kl, .int cm, .int cn, .ref ko])), (k4, .inl (cI, 6, .inl sc4_28))] H := hP
      replace hD : va_D A [(k0, .inl (cI, 1201, .inl c0)), (k, .inr (11, [.ref k0, .ref k1, .ref k2, .int c3, .ref k4, .ref k5, .ref k6, .ref k7, .ref k8, .int c9, .ref ka, .ref kb, .int cc, .int cd, .int ce, .int cf, .int cg, .int ch, .int ci, .int cj, .int ck, .ref kl, .int cm, .int cn, .ref ko])), (k4, .inl (cI, 6, .inl sc4_28))] := hD
      have hr_26 := w_27
      obtain rfl : r_26 = (-1000003) := hr_26.trans (by decide +kernel)
      exact hRet (c0, sc4_28) [1, 0, 2] ⟨pre0, (by (try dsimp only); unfold fellR; (repeat (first | rw [if_pos (by omega)] | rw [if_neg (by omega)]))), (by (try dsimp only); unfold fellS; (repeat (first | rw [if_pos (by omega)] | rw [if_neg (by omega)])))⟩ hP hD (by decide +kernel) rfl hS rfl dX11_fell_31
  · have h_9 : a0.toInt < 0 ∨ (c0 1).toInt ≤ a0.toInt := h_9
    obtain rfl : r_4 = 0 := hr_4.trans (by decide +kernel)
    refine b_if_ne hx hb zl_0 (tgt := 15) dX11_fell_5 (by decide +kernel) (fun c_29 => by exfalso; omega) (fun c_29 => ?_)
    refine lv_aload_n hx hb dX11_fell_8 rfl (lv_at hl 0 rfl) ?_
    refine lv_ldc (v := (-1000001)) hx hb hown (hT _ mw_1239) dX11_fell_9 ?_
    refine kJi (wr := [(k0, .inl (cI, 1201, .inl c0))]) (va_runV (As := [.int (-1000001)]) (rest := []) ⟨hx, hb, hml, hown, hT⟩ (c_X11_findingG l D cI aK aV k k0 k1 k2 k4 k5 k6 k7 k8 ka kb kl ko H.size c3 c9 cc cd ce cf cg ch ci cj ck cm cn c4 (-1000001) (by first | omega | (simp only [zl_m1000001]; first | done | omega) | decide | assumption | rfl) (by first | omega | (simp only [zl_m1000001]; first | done | omega) | decide | assumption | rfl)) (cwV 1 hT (gV_in mw_1243 mw_1240 mw_1242 mw_p3_8 mw_12) rfl rfl rfl (by decide +kernel) ⟨Nat.le_of_ble_eq_true rfl, Nat.le_of_ble_eq_true rfl⟩) (kRecvX (q0 := 1) (ci := 11) hK hP hD hN hXS hS hA rfl rfl [1, 0] rfl (by decide +kernel)) rfl rfl hl.1 rfl (lv_room (Nat.le_of_ble_eq_true rfl)) dX11_fell_11 ⟨Nat.le_of_ble_eq_true rfl, Nat.le_of_ble_eq_true rfl⟩) hP hD hS hA [1, 0] [2] rfl rfl (by decide +kernel) (by decide +kernel) ?_
    clear hP hD hS
    intro r_30 sc4_32 H locs w_31 hP hD hS
    replace hP : va_P D vwCl [(k0, .inl (cI, 1201, .inl c0)), (k, .inr (11, [.ref k0, .ref k1, .ref k2, .int c3, .ref k4, .ref k5, .ref k6, .ref k7, .ref k8, .int c9, .ref ka, .ref kb, .int cc, .int cd, .int ce, .int cf, .int cg, .int ch, .int ci, .int cj, .int ck, .ref kl, .int cm, .int cn, .ref ko])), (k4, .inl (cI, 6, .inl sc4_32))] H := hP
    replace hD : va_D A [(k0, .inl (cI, 1201, .inl c0)), (k, .inr (11, [.ref k0, .ref k1, .ref k2, .int c3, .ref k4, .ref k5, .ref k6, .ref k7, .ref k8, .int c9, .ref ka, .ref kb, .int cc, .int cd, .int ce, .int cf, .int cg, .int ch, .int ci, .int cj, .int ck, .ref kl, .int cm, .int cn, .ref ko])), (k4, .inl (cI, 6, .inl sc4_32))] := hD
    have hr_30 := w_31
    obtain rfl : r_30 = (-1000001) := hr_30.trans (by decide +kernel)
    exact hRet (c0, sc4_32) [1, 0, 2] ⟨pre0, (by (try dsimp only); unfold fellR; (repeat (first | rw [if_pos (by omega)] | rw [if_neg (by omega)]))), (by (try dsimp only); unfold fellS; (repeat (first | rw [if_pos (by omega)] | rw [if_neg (by omega)])))⟩ hP hD (by decide +kernel) rfl hS rfl dX11_fell_14
theorem bn_cX11_lay_0 : BN cX11_lay 0 0x15a3800adc121c1592002b73087470015b824382b0487056ad208056e4c098ac16015284050123087470015b824382b5690402b72f84c560b00a840a3800adc101c15ab482015b950262b0580540091c0056e040e0ad5a4100adc80131582c029b180057210140480a1d07805345100adc382b := by
  unfold BN; decide +kernel
theorem dX11_lay_0 : decode cX11_lay 0 = .ok (.aload_n 0, 1) := dR0 (k := 0) (i := 0) bn_cX11_lay_0 dop_42 (by decide +kernel)
theorem dX11_lay_1 : decode cX11_lay 1 = .ok (.iload_n 1, 1) := dR0 (k := 0) (i := 1) bn_cX11_lay_0 dop_27 (by decide +kernel)
theorem dX11_lay_2 : decode cX11_lay 2 = .ok (.invokevirtual 80, 3) := dR2 (f := Instr.invokevirtual) (k := 0) (i := 2) bn_cX11_lay_0 dop_182 80 (by decide +kernel)
theorem dX11_lay_5 : decode cX11_lay 5 = .ok (.ifCond .eq 14, 3) := dR2s (f := Instr.ifCond .eq) (k := 0) (i := 5) bn_cX11_lay_0 dop_153 14 14 (by decide +kernel)
theorem dX11_lay_8 : decode cX11_lay 8 = .ok (.iload_n 2, 1) := dR0 (k := 0) (i := 8) bn_cX11_lay_0 dop_28 (by decide +kernel)
theorem dX11_lay_9 : decode cX11_lay 9 = .ok (.iconst 1, 1) := dR0 (k := 0) (i := 9) bn_cX11_lay_0 dop_4 (by decide +kernel)
theorem dX11_lay_10 : decode cX11_lay 10 = .ok (.sipush 9999, 3) := dR2s (f := Instr.sipush) (k := 0) (i := 10) bn_cX11_lay_0 dop_17 9999 9999 (by decide +kernel)
theorem dX11_lay_13 : decode cX11_lay 13 = .ok (.invokestatic 47, 3) := dR2 (f := Instr.invokestatic) (k := 0) (i := 13) bn_cX11_lay_0 dop_184 47 (by decide +kernel)
theorem dX11_lay_16 : decode cX11_lay 16 = .ok (.ifCond .ne 10, 3) := dR2s (f := Instr.ifCond .ne) (k := 0) (i := 16) bn_cX11_lay_0 dop_154 10 10 (by decide +kernel)
theorem dX11_lay_19 : decode cX11_lay 19 = .ok (.aload_n 0, 1) := dR0 (k := 0) (i := 19) bn_cX11_lay_0 dop_42 (by decide +kernel)
theorem dX11_lay_20 : decode cX11_lay 20 = .ok (.ldc 63, 2) := dR1 (f := Instr.ldc) (k := 0) (i := 20) bn_cX11_lay_0 dop_18 63 (by decide +kernel)
theorem dX11_lay_22 : decode cX11_lay 22 = .ok (.invokevirtual 64, 3) := dR2 (f := Instr.invokevirtual) (k := 0) (i := 22) bn_cX11_lay_0 dop_182 64 (by decide +kernel)
theorem dX11_lay_25 : decode cX11_lay 25 = .ok (.ireturn, 1) := dR0 (k := 0) (i := 25) bn_cX11_lay_0 dop_172 (by decide +kernel)
theorem dX11_lay_26 : decode cX11_lay 26 = .ok (.aload_n 0, 1) := dR0 (k := 0) (i := 26) bn_cX11_lay_0 dop_42 (by decide +kernel)
theorem dX11_lay_27 : decode cX11_lay 27 = .ok (.iload_n 1, 1) := dR0 (k := 0) (i := 27) bn_cX11_lay_0 dop_27 (by decide +kernel)
theorem dX11_lay_28 : decode cX11_lay 28 = .ok (.iconst 0, 1) := dR0 (k := 0) (i := 28) bn_cX11_lay_0 dop_3 (by decide +kernel)
theorem dX11_lay_29 : decode cX11_lay 29 = .ok (.invokevirtual 55, 3) := dR2 (f := Instr.invokevirtual) (k := 0) (i := 29) bn_cX11_lay_0 dop_182 55 (by decide +kernel)
theorem dX11_lay_32 : decode cX11_lay 32 = .ok (.iconst 5, 1) := dR0 (k := 0) (i := 32) bn_cX11_lay_0 dop_8 (by decide +kernel)
theorem dX11_lay_33 : decode cX11_lay 33 = .ok (.if_icmp .eq 10, 3) := dR2s (f := Instr.if_icmp .eq) (k := 0) (i := 33) bn_cX11_lay_0 dop_159 10 10 (by decide +kernel)
theorem dX11_lay_36 : decode cX11_lay 36 = .ok (.aload_n 0, 1) := dR0 (k := 0) (i := 36) bn_cX11_lay_0 dop_42 (by decide +kernel)
theorem dX11_lay_37 : decode cX11_lay 37 = .ok (.ldc 83, 2) := dR1 (f := Instr.ldc) (k := 0) (i := 37) bn_cX11_lay_0 dop_18 83 (by decide +kernel)
theorem dX11_lay_39 : decode cX11_lay 39 = .ok (.invokevirtual 64, 3) := dR2 (f := Instr.invokevirtual) (k := 0) (i := 39) bn_cX11_lay_0 dop_182 64 (by decide +kernel)
theorem dX11_lay_42 : decode cX11_lay 42 = .ok (.ireturn, 1) := dR0 (k := 0) (i := 42) bn_cX11_lay_0 dop_172 (by decide +kernel)
theorem dX11_lay_43 : decode cX11_lay 43 = .ok (.aload_n 0, 1) := dR0 (k := 0) (i := 43) bn_cX11_lay_0 dop_42 (by decide +kernel)
theorem dX11_lay_44 : decode cX11_lay 44 = .ok (.iload_n 1, 1) := dR0 (k := 0) (i := 44) bn_cX11_lay_0 dop_27 (by decide +kernel)
theorem dX11_lay_45 : decode cX11_lay 45 = .ok (.iconst 4, 1) := dR0 (k := 0) (i := 45) bn_cX11_lay_0 dop_7 (by decide +kernel)
theorem dX11_lay_46 : decode cX11_lay 46 = .ok (.invokevirtual 55, 3) := dR2 (f := Instr.invokevirtual) (k := 0) (i := 46) bn_cX11_lay_0 dop_182 55 (by decide +kernel)
theorem dX11_lay_49 : decode cX11_lay 49 = .ok (.iconst 1, 1) := dR0 (k := 0) (i := 49) bn_cX11_lay_0 dop_4 (by decide +kernel)
theorem dX11_lay_50 : decode cX11_lay 50 = .ok (.if_icmp .ne 10, 3) := dR2s (f := Instr.if_icmp .ne) (k := 0) (i := 50) bn_cX11_lay_0 dop_160 10 10 (by decide +kernel)
theorem dX11_lay_53 : decode cX11_lay 53 = .ok (.aload_n 0, 1) := dR0 (k := 0) (i := 53) bn_cX11_lay_0 dop_42 (by decide +kernel)
theorem dX11_lay_54 : decode cX11_lay 54 = .ok (.ldc 94, 2) := dR1 (f := Instr.ldc) (k := 0) (i := 54) bn_cX11_lay_0 dop_18 94 (by decide +kernel)
theorem dX11_lay_56 : decode cX11_lay 56 = .ok (.invokevirtual 64, 3) := dR2 (f := Instr.invokevirtual) (k := 0) (i := 56) bn_cX11_lay_0 dop_182 64 (by decide +kernel)
theorem dX11_lay_59 : decode cX11_lay 59 = .ok (.ireturn, 1) := dR0 (k := 0) (i := 59) bn_cX11_lay_0 dop_172 (by decide +kernel)
theorem dX11_lay_60 : decode cX11_lay 60 = .ok (.aload_n 0, 1) := dR0 (k := 0) (i := 60) bn_cX11_lay_0 dop_42 (by decide +kernel)
theorem dX11_lay_61 : decode cX11_lay 61 = .ok (.iload_n 1, 1) := dR0 (k := 0) (i := 61) bn_cX11_lay_0 dop_27 (by decide +kernel)
theorem dX11_lay_62 : decode cX11_lay 62 = .ok (.iconst 5, 1) := dR0 (k := 0) (i := 62) bn_cX11_lay_0 dop_8 (by decide +kernel)
theorem dX11_lay_63 : decode cX11_lay 63 = .ok (.invokevirtual 55, 3) := dR2 (f := Instr.invokevirtual) (k := 0) (i := 63) bn_cX11_lay_0 dop_182 55 (by decide +kernel)
theorem dX11_lay_66 : decode cX11_lay 66 = .ok (.iload_n 2, 1) := dR0 (k := 0) (i := 66) bn_cX11_lay_0 dop_28 (by decide +kernel)
theorem dX11_lay_67 : decode cX11_lay 67 = .ok (.iadd, 1) := dR0 (k := 0) (i := 67) bn_cX11_lay_0 dop_96 (by decide +kernel)
theorem dX11_lay_68 : decode cX11_lay 68 = .ok (.sipush 9999, 3) := dR2s (f := Instr.sipush) (k := 0) (i := 68) bn_cX11_lay_0 dop_17 9999 9999 (by decide +kernel)
theorem dX11_lay_71 : decode cX11_lay 71 = .ok (.if_icmp .le 10, 3) := dR2s (f := Instr.if_icmp .le) (k := 0) (i := 71) bn_cX11_lay_0 dop_164 10 10 (by decide +kernel)
theorem dX11_lay_74 : decode cX11_lay 74 = .ok (.aload_n 0, 1) := dR0 (k := 0) (i := 74) bn_cX11_lay_0 dop_42 (by decide +kernel)
theorem dX11_lay_75 : decode cX11_lay 75 = .ok (.ldc 75, 2) := dR1 (f := Instr.ldc) (k := 0) (i := 75) bn_cX11_lay_0 dop_18 75 (by decide +kernel)
theorem dX11_lay_77 : decode cX11_lay 77 = .ok (.invokevirtual 64, 3) := dR2 (f := Instr.invokevirtual) (k := 0) (i := 77) bn_cX11_lay_0 dop_182 64 (by decide +kernel)
theorem dX11_lay_80 : decode cX11_lay 80 = .ok (.ireturn, 1) := dR0 (k := 0) (i := 80) bn_cX11_lay_0 dop_172 (by decide +kernel)
theorem dX11_lay_81 : decode cX11_lay 81 = .ok (.aload_n 0, 1) := dR0 (k := 0) (i := 81) bn_cX11_lay_0 dop_42 (by decide +kernel)
theorem dX11_lay_82 : decode cX11_lay 82 = .ok (.iload_n 1, 1) := dR0 (k := 0) (i := 82) bn_cX11_lay_0 dop_27 (by decide +kernel)
theorem dX11_lay_83 : decode cX11_lay 83 = .ok (.iconst 5, 1) := dR0 (k := 0) (i := 83) bn_cX11_lay_0 dop_8 (by decide +kernel)
theorem dX11_lay_84 : decode cX11_lay 84 = .ok (.aload_n 0, 1) := dR0 (k := 0) (i := 84) bn_cX11_lay_0 dop_42 (by decide +kernel)
theorem dX11_lay_85 : decode cX11_lay 85 = .ok (.iload_n 1, 1) := dR0 (k := 0) (i := 85) bn_cX11_lay_0 dop_27 (by decide +kernel)
theorem dX11_lay_86 : decode cX11_lay 86 = .ok (.iconst 5, 1) := dR0 (k := 0) (i := 86) bn_cX11_lay_0 dop_8 (by decide +kernel)
theorem dX11_lay_87 : decode cX11_lay 87 = .ok (.invokevirtual 55, 3) := dR2 (f := Instr.invokevirtual) (k := 0) (i := 87) bn_cX11_lay_0 dop_182 55 (by decide +kernel)
theorem dX11_lay_90 : decode cX11_lay 90 = .ok (.iload_n 2, 1) := dR0 (k := 0) (i := 90) bn_cX11_lay_0 dop_28 (by decide +kernel)
theorem dX11_lay_91 : decode cX11_lay 91 = .ok (.iadd, 1) := dR0 (k := 0) (i := 91) bn_cX11_lay_0 dop_96 (by decide +kernel)
theorem dX11_lay_92 : decode cX11_lay 92 = .ok (.invokevirtual 71, 3) := dR2 (f := Instr.invokevirtual) (k := 0) (i := 92) bn_cX11_lay_0 dop_182 71 (by decide +kernel)
theorem dX11_lay_95 : decode cX11_lay 95 = .ok (.aload_n 0, 1) := dR0 (k := 0) (i := 95) bn_cX11_lay_0 dop_42 (by decide +kernel)
theorem dX11_lay_96 : decode cX11_lay 96 = .ok (.iload_n 1, 1) := dR0 (k := 0) (i := 96) bn_cX11_lay_0 dop_27 (by decide +kernel)
theorem dX11_lay_97 : decode cX11_lay 97 = .ok (.iconst 5, 1) := dR0 (k := 0) (i := 97) bn_cX11_lay_0 dop_8 (by decide +kernel)
theorem dX11_lay_98 : decode cX11_lay 98 = .ok (.invokevirtual 55, 3) := dR2 (f := Instr.invokevirtual) (k := 0) (i := 98) bn_cX11_lay_0 dop_182 55 (by decide +kernel)
theorem dX11_lay_101 : decode cX11_lay 101 = .ok (.ireturn, 1) := dR0 (k := 0) (i := 101) bn_cX11_lay_0 dop_172 (by decide +kernel)
set_option maxHeartbeats 4000000 in
set_option maxRecDepth 100000 in
theorem c_X11_layG (l : Launch) (D : va_G) (cI : ClassId) (aK aV : Nat → Nat) (k k0 k1 k2 k4 k5 k6 k7 k8 ka kb kl ko : Nat) (sz : Nat) (c3 : Int32) (c9 : Int32) (cc : Int32) (cd : Int32) (ce : Int32) (cf : Int32) (cg : Int32) (ch : Int32) (ci : Int32) (cj : Int32) (ck : Int32) (cm : Int32) (cn : Int32) (c0 : Nat → Int32) (c4 : Nat → Int32) (a0 : Int32) (a1 : Int32) (pre0 : SIX c0 (-1)) : Met l yX11_lay (gW yX11_lay cX11_lay 3 (some .int)) ({ frames := 2, cells := 0, slots := 0, locals := 43 } : Room) (kPreX D cI aK aV [.ref k, .int a0, .int a1] [(k, .inr (11, [.ref k0, .ref k1, .ref k2, .int c3, .ref k4, .ref k5, .ref k6, .ref k7, .ref k8, .int c9, .ref ka, .ref kb, .int cc, .int cd, .int ce, .int cf, .int cg, .int ch, .int ci, .int cj, .int ck, .ref kl, .int cm, .int cn, .ref ko])), (k0, .inl (cI, 1201, .inl c0)), (k4, .inl (cI, 6, .inl c4))] sz) (va_Qi (fun (r : Int32) (u : (Nat → Int32) × (Nat → Int32)) => SIX u.1 (-1) ∧ r = layR c0 a0 a1 ∧ u.1 = layS c0 a0 a1) (fun u t => kWd D cI (va_A [(k, .inr (11, [.ref k0, .ref k1, .ref k2, .int c3, .ref k4, .ref k5, .ref k6, .ref k7, .ref k8, .int c9, .ref ka, .ref kb, .int cc, .int cd, .int ce, .int cf, .int cg, .int ch, .int ci, .int cj, .int ck, .ref kl, .int cm, .int cn, .ref ko])), (k0, .inl (cI, 1201, .inl c0)), (k4, .inl (cI, 6, .inl c4))] sz) [(k, .inr (11, [.ref k0, .ref k1, .ref k2, .int c3, .ref k4, .ref k5, .ref k6, .ref k7, .ref k8, .int c9, .ref ka, .ref kb, .int cc, .int cd, .int ce, .int cf, .int cg, .int ch, .int ci, .int cj, .int ck, .ref kl, .int cm, .int cn, .ref ko])), (k0, .inl (cI, 1201, .inl u.1)), (k4, .inl (cI, 6, .inl u.2))] t) (va_A [(k, .inr (11, [.ref k0, .ref k1, .ref k2, .int c3, .ref k4, .ref k5, .ref k6, .ref k7, .ref k8, .int c9, .ref ka, .ref kb, .int cc, .int cd, .int ce, .int cf, .int cg, .int ch, .int ci, .int cj, .int ck, .ref kl, .int cm, .int cn, .ref ko])), (k0, .inl (cI, 1201, .inl c0)), (k4, .inl (cI, 6, .inl c4))] sz)) 0 0 (va_A [(k, .inr (11, [.ref k0, .ref k1, .ref k2, .int c3, .ref k4, .ref k5, .ref k6, .ref k7, .ref k8, .int c9, .ref ka, .ref kb, .int cc, .int cd, .int ce, .int cf, .int cg, .int ch, .int ci, .int cj, .int ck, .ref kl, .int cm, .int cn, .ref ko])), (k0, .inl (cI, 1201, .inl c0)), (k4, .inl (cI, 6, .inl c4))] sz) := by
  refine kMetIX (own := RX11) (by decide +kernel) rfl (Nat.le_of_ble_eq_true rfl) ?_
  intro p e s m args below meth c hx hb hT hown hname hml A Q hK hP hD hS hA hN hXS hRet ls hl
  have hl : lv_has ls 3 [(0, .ref k), (1, .int a0), (2, .int a1)] := hl
  have lo_a0 := k_lo a0
  have hi_a0 := k_hi a0
  have lo_a1 := k_lo a1
  have hi_a1 := k_hi a1
  have lo_ci := k_lo ci
  have hi_ci := k_hi ci
  have pre0 : SIX c0 (-1) := pre0
  have nb_1 : 0 ≤ (c0 0).toInt ∧ (c0 0).toInt ≤ 2000 := SB.n0 (And.left pre0)
  have nb_2 : 0 ≤ (c0 1).toInt ∧ (c0 1).toInt ≤ 60 := SB.n1 (And.left pre0)
  have nb_3 : 0 ≤ (c0 2).toInt ∧ (c0 2).toInt ≤ 4 := SB.n2 (And.left pre0)
  refine lv_aload_n hx hb dX11_lay_0 rfl (lv_at hl 0 rfl) ?_
  refine lv_iload_n hx hb dX11_lay_1 rfl (lv_at hl 1 rfl) ?_
  refine kJi (wr := [(k4, .inl (cI, 6, .inl c4))]) (va_runV (As := [.int a0]) (rest := []) ⟨hx, hb, hml, hown, hT⟩ (c_X11_isWorkG l D cI aK aV k k0 k1 k2 k4 k5 k6 k7 k8 ka kb kl ko s.heap.size c3 c9 cc cd ce cf cg ch ci cj ck cm cn c0 a0 (And.left pre0)) (cwV 1 hT (gV_in mw_1272 mw_1269 mw_1271 mw_p3_11 mw_12) rfl rfl rfl (by decide +kernel) ⟨Nat.le_of_ble_eq_true rfl, Nat.le_of_ble_eq_true rfl⟩) (kRecvX (q0 := 0) (ci := 11) hK hP hD hN hXS hS hA rfl rfl [0, 1] rfl (by decide +kernel)) rfl rfl hl.1 rfl (lv_room (Nat.le_of_ble_eq_true rfl)) dX11_lay_2 ⟨Nat.le_of_ble_eq_true rfl, Nat.le_of_ble_eq_true rfl⟩) hP hD hS hA [0, 1] [2] rfl rfl (by decide +kernel) (by decide +kernel) ?_
  clear hP hD hS
  intro r_4 u_6 H locs w_5 hP hD hS
  replace hP : va_P D vwCl [(k4, .inl (cI, 6, .inl c4)), (k, .inr (11, [.ref k0, .ref k1, .ref k2, .int c3, .ref k4, .ref k5, .ref k6, .ref k7, .ref k8, .int c9, .ref ka, .ref kb, .int cc, .int cd, .int ce, .int cf, .int cg, .int ch, .int ci, .int cj, .int ck, .ref kl, .int cm, .int cn, .ref ko])), (k0, .inl (cI, 1201, .inl c0))] H := hP
  replace hD : va_D A [(k4, .inl (cI, 6, .inl c4)), (k, .inr (11, [.ref k0, .ref k1, .ref k2, .int c3, .ref k4, .ref k5, .ref k6, .ref k7, .ref k8, .int c9, .ref ka, .ref kb, .int cc, .int cd, .int ce, .int cf, .int cg, .int ch, .int ci, .int cj, .int ck, .ref kl, .int cm, .int cn, .ref ko])), (k0, .inl (cI, 1201, .inl c0))] := hD
  rcases w_5 with ⟨hr_4, h_7, h_8⟩ | ⟨hr_4, h_9⟩
  · have h_7 : 0 ≤ a0.toInt := h_7
    have h_8 : a0.toInt < (c0 1).toInt := h_8
    obtain rfl : r_4 = 1 := hr_4.trans (by decide +kernel)
    refine b_if_eq hx hb zl_1 (tgt := 19) dX11_lay_5 (by decide +kernel) (fun c_10 => by exfalso; omega) (fun c_10 => ?_)
    refine lv_iload_n hx hb dX11_lay_8 rfl (lv_at hl 2 rfl) ?_
    refine lv_iconst (v := 1) hx hb dX11_lay_9 (by decide +kernel) ?_
    refine lv_sipush (v := 9999) hx hb dX11_lay_10 (by decide +kernel) ?_
    refine kJi (wr := [(k4, .inl (cI, 6, .inl c4)), (k, .inr (11, [.ref k0, .ref k1, .ref k2, .int c3, .ref k4, .ref k5, .ref k6, .ref k7, .ref k8, .int c9, .ref ka, .ref kb, .int cc, .int cd, .int ce, .int cf, .int cg, .int ch, .int ci, .int cj, .int ck, .ref kl, .int cm, .int cn, .ref ko])), (k0, .inl (cI, 1201, .inl c0))]) (va_runS (As := [.int a1, .int 1, .int 9999]) (rest := []) ⟨hx, hb, hml, hown, hT⟩ (c_X11_inG l D cI aK aV H.size a1 1 9999) (cwS 3 hT (gS_in mw_1238 mw_1236 mw_1237 mw_12) rfl rfl rfl (by decide +kernel) ⟨Nat.le_of_ble_eq_true rfl, Nat.le_of_ble_eq_true rfl⟩) (kStatX hK hP hD hN hXS hS hA [] rfl (by decide +kernel)) rfl rfl hl.1 rfl (lv_room (Nat.le_of_ble_eq_true rfl)) dX11_lay_13 ⟨Nat.le_of_ble_eq_true rfl, Nat.le_of_ble_eq_true rfl⟩) hP hD hS hA [] [0, 1, 2] rfl rfl (by decide +kernel) (by decide +kernel) ?_
    clear hP hD hS
    intro r_11 u_13 H locs w_12 hP hD hS
    replace hP : va_P D vwCl [(k4, .inl (cI, 6, .inl c4)), (k, .inr (11, [.ref k0, .ref k1, .ref k2, .int c3, .ref k4, .ref k5, .ref k6, .ref k7, .ref k8, .int c9, .ref ka, .ref kb, .int cc, .int cd, .int ce, .int cf, .int cg, .int ch, .int ci, .int cj, .int ck, .ref kl, .int cm, .int cn, .ref ko])), (k0, .inl (cI, 1201, .inl c0))] H := hP
    replace hD : va_D A [(k4, .inl (cI, 6, .inl c4)), (k, .inr (11, [.ref k0, .ref k1, .ref k2, .int c3, .ref k4, .ref k5, .ref k6, .ref k7, .ref k8, .int c9, .ref ka, .ref kb, .int cc, .int cd, .int ce, .int cf, .int cg, .int ch, .int ci, .int cj, .int ck, .ref kl, .int cm, .int cn, .ref ko])), (k0, .inl (cI, 1201, .inl c0))] := hD
    rcases w_12 with ⟨hr_11, h_14, h_15⟩ | ⟨hr_11, h_16⟩
    · try simp only [zl_1, zl_9999] at h_14
      have h_14 : 1 ≤ a1.toInt := h_14
      try simp only [zl_1, zl_9999] at h_15
      have h_15 : a1.toInt ≤ 9999 := h_15
      obtain rfl : r_11 = 1 := hr_11.trans (by decide +kernel)
      refine b_if_ne hx hb zl_1 (tgt := 26) dX11_lay_16 (by decide +kernel) (fun c_17 => ?_) (fun c_17 => by exfalso; omega)
      refine lv_aload_n hx hb dX11_lay_26 rfl (lv_at hl 0 rfl) ?_
      refine lv_iload_n hx hb dX11_lay_27 rfl (lv_at hl 1 rfl) ?_
      refine lv_iconst (v := 0) hx hb dX11_lay_28 (by decide +kernel) ?_
      refine kJi (wr := [(k4, .inl (cI, 6, .inl c4))]) (va_runV (As := [.int a0, .int 0]) (rest := []) ⟨hx, hb, hml, hown, hT⟩ (c_X11_workG0 l D cI aK aV k k0 k1 k2 k4 k5 k6 k7 k8 ka kb kl ko H.size c3 c9 cc cd ce cf cg ch ci cj ck cm cn c0 a0 0 (by first | omega | (simp only [zl_0]; first | done | omega) | decide | assumption | rfl) (by first | omega | (simp only [zl_0]; first | done | omega) | decide | assumption | rfl) (by first | omega | (simp only [zl_0]; first | done | omega) | decide | assumption | rfl)) (cwV 2 hT (gV_in mw_1276 mw_1273 mw_1275 mw_p3_12 mw_12) rfl rfl rfl (by decide +kernel) ⟨Nat.le_of_ble_eq_true rfl, Nat.le_of_ble_eq_true rfl⟩) (kRecvX (q0 := 1) (ci := 11) hK hP hD hN hXS hS hA rfl rfl [1, 2] rfl (by decide +kernel)) rfl rfl hl.1 rfl (lv_room (Nat.le_of_ble_eq_true rfl)) dX11_lay_29 ⟨Nat.le_of_ble_eq_true rfl, Nat.le_of_ble_eq_true rfl⟩) hP hD hS hA [1, 2] [0] rfl rfl (by decide +kernel) (by decide +kernel) ?_
      clear hP hD hS
      intro r_18 u_20 H locs w_19 hP hD hS
      replace hP : va_P D vwCl [(k4, .inl (cI, 6, .inl c4)), (k, .inr (11, [.ref k0, .ref k1, .ref k2, .int c3, .ref k4, .ref k5, .ref k6, .ref k7, .ref k8, .int c9, .ref ka, .ref kb, .int cc, .int cd, .int ce, .int cf, .int cg, .int ch, .int ci, .int cj, .int ck, .ref kl, .int cm, .int cn, .ref ko])), (k0, .inl (cI, 1201, .inl c0))] H := hP
      replace hD : va_D A [(k4, .inl (cI, 6, .inl c4)), (k, .inr (11, [.ref k0, .ref k1, .ref k2, .int c3, .ref k4, .ref k5, .ref k6, .ref k7, .ref k8, .int c9, .ref ka, .ref kb, .int cc, .int cd, .int ce, .int cf, .int cg, .int ch, .int ci, .int cj, .int ck, .ref kl, .int cm, .int cn, .ref ko])), (k0, .inl (cI, 1201, .inl c0))] := hD
      have h_21 := w_19
      have h_21 : r_18 = wW c0 a0 0 := h_21
      have t_22 : r_18.toInt = (wW c0 a0 0).toInt := by rw [h_21]
      have b_23 : 0 ≤ r_18.toInt ∧ r_18.toInt ≤ 5 := by rw [h_21]; exact SB.w0 (And.left pre0) (by omega) (by omega)
      have lo_r_18 := k_lo r_18
      have hi_r_18 := k_hi r_18
      refine lv_iconst (v := 5) hx hb dX11_lay_32 (by decide +kernel) ?_
      refine b_icmp_eq hx hb rfl zl_5 (tgt := 43) dX11_lay_33 (by decide +kernel) (fun c_24 => ?_) (fun c_24 => ?_)
      · refine lv_aload_n hx hb dX11_lay_43 rfl (lv_at hl 0 rfl) ?_
        refine lv_iload_n hx hb dX11_lay_44 rfl (lv_at hl 1 rfl) ?_
        refine lv_iconst (v := 4) hx hb dX11_lay_45 (by decide +kernel) ?_
        refine kJi (wr := [(k4, .inl (cI, 6, .inl c4))]) (va_runV (As := [.int a0, .int 4]) (rest := []) ⟨hx, hb, hml, hown, hT⟩ (c_X11_workG4 l D cI aK aV k k0 k1 k2 k4 k5 k6 k7 k8 ka kb kl ko H.size c3 c9 cc cd ce cf cg ch ci cj ck cm cn c0 a0 4 (by first | omega | (simp only [zl_4]; first | done | omega) | decide | assumption | rfl) (by first | omega | (simp only [zl_4]; first | done | omega) | decide | assumption | rfl) (by first | omega | (simp only [zl_4]; first | done | omega) | decide | assumption | rfl)) (cwV 2 hT (gV_in mw_1276 mw_1273 mw_1275 mw_p3_12 mw_12) rfl rfl rfl (by decide +kernel) ⟨Nat.le_of_ble_eq_true rfl, Nat.le_of_ble_eq_true rfl⟩) (kRecvX (q0 := 1) (ci := 11) hK hP hD hN hXS hS hA rfl rfl [1, 2] rfl (by decide +kernel)) rfl rfl hl.1 rfl (lv_room (Nat.le_of_ble_eq_true rfl)) dX11_lay_46 ⟨Nat.le_of_ble_eq_true rfl, Nat.le_of_ble_eq_true rfl⟩) hP hD hS hA [1, 2] [0] rfl rfl (by decide +kernel) (by decide +kernel) ?_
        clear hP hD hS
        intro r_25 u_27 H locs w_26 hP hD hS
        replace hP : va_P D vwCl [(k4, .inl (cI, 6, .inl c4)), (k, .inr (11, [.ref k0, .ref k1, .ref k2, .int c3, .ref k4, .ref k5, .ref k6, .ref k7, .ref k8, .int c9, .ref ka, .ref kb, .int cc, .int cd, .int ce, .int cf, .int cg, .int ch, .int ci, .int cj, .int ck, .ref kl, .int cm, .int cn, .ref ko])), (k0, .inl (cI, 1201, .inl c0))] H := hP
        replace hD : va_D A [(k4, .inl (cI, 6, .inl c4)), (k, .inr (11, [.ref k0, .ref k1, .ref k2, .int c3, .ref k4, .ref k5, .ref k6, .ref k7, .ref k8, .int c9, .ref ka, .ref kb, .int cc, .int cd, .int ce, .int cf, .int cg, .int ch, .int ci, .int cj, .int ck, .ref kl, .int cm, .int cn, .ref ko])), (k0, .inl (cI, 1201, .inl c0))] := hD
        have h_28 := w_26
        have h_28 : r_25 = wW c0 a0 4 := h_28
        have t_29 : r_25.toInt = (wW c0 a0 4).toInt := by rw [h_28]
        have b_30 : 0 ≤ r_25.toInt ∧ r_25.toInt ≤ 1 := by rw [h_28]; exact SB.w4 (And.left pre0) (by omega) (by omega)
        have lo_r_25 := k_lo r_25
        have hi_r_25 := k_hi r_25
        refine lv_iconst (v := 1) hx hb dX11_lay_49 (by decide +kernel) ?_
        refine b_icmp_ne hx hb rfl zl_1 (tgt := 60) dX11_lay_50 (by decide +kernel) (fun c_31 => ?_) (fun c_31 => ?_)
        · refine lv_aload_n hx hb dX11_lay_60 rfl (lv_at hl 0 rfl) ?_
          refine lv_iload_n hx hb dX11_lay_61 rfl (lv_at hl 1 rfl) ?_
          refine lv_iconst (v := 5) hx hb dX11_lay_62 (by decide +kernel) ?_
          refine kJi (wr := [(k4, .inl (cI, 6, .inl c4))]) (va_runV (As := [.int a0, .int 5]) (rest := []) ⟨hx, hb, hml, hown, hT⟩ (c_X11_workG5 l D cI aK aV k k0 k1 k2 k4 k5 k6 k7 k8 ka kb kl ko H.size c3 c9 cc cd ce cf cg ch ci cj ck cm cn c0 a0 5 (by first | omega | (simp only [zl_5]; first | done | omega) | decide | assumption | rfl) (by first | omega | (simp only [zl_5]; first | done | omega) | decide | assumption | rfl) (by first | omega | (simp only [zl_5]; first | done | omega) | decide | assumption | rfl)) (cwV 2 hT (gV_in mw_1276 mw_1273 mw_1275 mw_p3_12 mw_12) rfl rfl rfl (by decide +kernel) ⟨Nat.le_of_ble_eq_true rfl, Nat.le_of_ble_eq_true rfl⟩) (kRecvX (q0 := 1) (ci := 11) hK hP hD hN hXS hS hA rfl rfl [1, 2] rfl (by decide +kernel)) rfl rfl hl.1 rfl (lv_room (Nat.le_of_ble_eq_true rfl)) dX11_lay_63 ⟨Nat.le_of_ble_eq_true rfl, Nat.le_of_ble_eq_true rfl⟩) hP hD hS hA [1, 2] [0] rfl rfl (by decide +kernel) (by decide +kernel) ?_
          clear hP hD hS
          intro r_32 u_34 H locs w_33 hP hD hS
          replace hP : va_P D vwCl [(k4, .inl (cI, 6, .inl c4)), (k, .inr (11, [.ref k0, .ref k1, .ref k2, .int c3, .ref k4, .ref k5, .ref k6, .ref k7, .ref k8, .int c9, .ref ka, .ref kb, .int cc, .int cd, .int ce, .int cf, .int cg, .int ch, .int ci, .int cj, .int ck, .ref kl, .int cm, .int cn, .ref ko])), (k0, .inl (cI, 1201, .inl c0))] H := hP
          replace hD : va_D A [(k4, .inl (cI, 6, .inl c4)), (k, .inr (11, [.ref k0, .ref k1, .ref k2, .int c3, .ref k4, .ref k5, .ref k6, .ref k7, .ref k8, .int c9, .ref ka, .ref kb, .int cc, .int cd, .int ce, .int cf, .int cg, .int ch, .int ci, .int cj, .int ck, .ref kl, .int cm, .int cn, .ref ko])), (k0, .inl (cI, 1201, .inl c0))] := hD
          have h_35 := w_33
          have h_35 : r_32 = wW c0 a0 5 := h_35
          have t_36 : r_32.toInt = (wW c0 a0 5).toInt := by rw [h_35]
          have b_37 : 0 ≤ r_32.toInt ∧ r_32.toInt ≤ 9999 := by rw [h_35]; exact SB.w5 (And.left pre0) (by omega) (by omega)
          have lo_r_32 := k_lo r_32
          have hi_r_32 := k_hi r_32
          refine lv_iload_n hx hb dX11_lay_66 rfl (lv_at hl 2 rfl) ?_
          refine lv_iadd hx hb dX11_lay_67 ?_
          refine lv_topi (fun v_38 ev_38 => ?_)
          have tv_38 : v_38.toInt = r_32.toInt + a1.toInt := by rw [ev_38]; exact k_addv rfl rfl (by omega) (by omega)
          refine lv_sipush (v := 9999) hx hb dX11_lay_68 (by decide +kernel) ?_
          refine b_icmp_le hx hb rfl zl_9999 (tgt := 81) dX11_lay_71 (by decide +kernel) (fun c_39 => ?_) (fun c_39 => ?_)
          · refine lv_aload_n hx hb dX11_lay_81 rfl (lv_at hl 0 rfl) ?_
            refine lv_iload_n hx hb dX11_lay_82 rfl (lv_at hl 1 rfl) ?_
            refine lv_iconst (v := 5) hx hb dX11_lay_83 (by decide +kernel) ?_
            refine lv_aload_n hx hb dX11_lay_84 rfl (lv_at hl 0 rfl) ?_
            refine lv_iload_n hx hb dX11_lay_85 rfl (lv_at hl 1 rfl) ?_
            refine lv_iconst (v := 5) hx hb dX11_lay_86 (by decide +kernel) ?_
            refine kJi (wr := [(k4, .inl (cI, 6, .inl c4))]) (va_runV (As := [.int a0, .int 5]) (rest := [.int 5, .int a0, .ref k]) ⟨hx, hb, hml, hown, hT⟩ (c_X11_workG5 l D cI aK aV k k0 k1 k2 k4 k5 k6 k7 k8 ka kb kl ko H.size c3 c9 cc cd ce cf cg ch ci cj ck cm cn c0 a0 5 (by first | omega | (simp only [zl_5]; first | done | omega) | decide | assumption | rfl) (by first | omega | (simp only [zl_5]; first | done | omega) | decide | assumption | rfl) (by first | omega | (simp only [zl_5]; first | done | omega) | decide | assumption | rfl)) (cwV 2 hT (gV_in mw_1276 mw_1273 mw_1275 mw_p3_12 mw_12) rfl rfl rfl (by decide +kernel) ⟨Nat.le_of_ble_eq_true rfl, Nat.le_of_ble_eq_true rfl⟩) (kRecvX (q0 := 1) (ci := 11) hK hP hD hN hXS hS hA rfl rfl [1, 2] rfl (by decide +kernel)) rfl rfl hl.1 rfl (lv_room (Nat.le_of_ble_eq_true rfl)) dX11_lay_87 ⟨Nat.le_of_ble_eq_true rfl, Nat.le_of_ble_eq_true rfl⟩) hP hD hS hA [1, 2] [0] rfl rfl (by decide +kernel) (by decide +kernel) ?_
            clear hP hD hS
            intro r_40 u_42 H locs w_41 hP hD hS
            replace hP : va_P D vwCl [(k4, .inl (cI, 6, .inl c4)), (k, .inr (11, [.ref k0, .ref k1, .ref k2, .int c3, .ref k4, .ref k5, .ref k6, .ref k7, .ref k8, .int c9, .ref ka, .ref kb, .int cc, .int cd, .int ce, .int cf, .int cg, .int ch, .int ci, .int cj, .int ck, .ref kl, .int cm, .int cn, .ref ko])), (k0, .inl (cI, 1201, .inl c0))] H := hP
            replace hD : va_D A [(k4, .inl (cI, 6, .inl c4)), (k, .inr (11, [.ref k0, .ref k1, .ref k2, .int c3, .ref k4, .ref k5, .ref k6, .ref k7, .ref k8, .int c9, .ref ka, .ref kb, .int cc, .int cd, .int ce, .int cf, .int cg, .int ch, .int ci, .int cj, .int ck, .ref kl, .int cm, .int cn, .ref ko])), (k0, .inl (cI, 1201, .inl c0))] := hD
            have h_43 := w_41
            have h_43 : r_40 = wW c0 a0 5 := h_43
            have t_44 : r_40.toInt = (wW c0 a0 5).toInt := by rw [h_43]
            have b_45 : 0 ≤ r_40.toInt ∧ r_40.toInt ≤ 9999 := by rw [h_43]; exact SB.w5 (And.left pre0) (by omega) (by omega)
            have lo_r_40 := k_lo r_40
            have hi_r_40 := k_hi r_40
            refine lv_iload_n hx hb dX11_lay_90 rfl (lv_at hl 2 rfl) ?_
            refine lv_iadd hx hb dX11_lay_91 ?_
            refine lv_topi (fun v_46 ev_46 => ?_)
            have tv_46 : v_46.toInt = r_40.toInt + a1.toInt := by rw [ev_46]; exact k_addv rfl rfl (by omega) (by omega)
            refine kJv (wr := [(k4, .inl (cI, 6, .inl c4))]) (va_runV (As := [.int a0, .int 5, .int v_46]) (rest := []) ⟨hx, hb, hml, hown, hT⟩ (c_X11_setWorkG5 l D cI aK aV k k0 k1 k2 k4 k5 k6 k7 k8 ka kb kl ko H.size c3 c9 cc cd ce cf cg ch ci cj ck cm cn c0 a0 5 v_46 (by first | omega | (simp only [zl_5]; first | done | omega) | decide | assumption | rfl) (by first | omega | (simp only [zl_5]; first | done | omega) | decide | assumption | rfl) (by first | omega | (simp only [zl_5]; first | done | omega) | decide | assumption | rfl)) (cwV 3 hT (gV_in mw_1264 mw_1261 mw_1263 mw_p3_10 mw_12) rfl rfl rfl (by decide +kernel) ⟨Nat.le_of_ble_eq_true rfl, Nat.le_of_ble_eq_true rfl⟩) (kRecvX (q0 := 1) (ci := 11) hK hP hD hN hXS hS hA rfl rfl [1, 2] rfl (by decide +kernel)) rfl rfl hl.1 rfl (lv_room (Nat.le_of_ble_eq_true rfl)) dX11_lay_92 ⟨Nat.le_of_ble_eq_true rfl, Nat.le_of_ble_eq_true rfl⟩) hP hD hS hA [1, 2] [0] rfl rfl (by decide +kernel) (by decide +kernel) ?_
            clear hP hD hS
            intro sc0_49 H locs w_48 hP hD hS
            replace hP : va_P D vwCl [(k4, .inl (cI, 6, .inl c4)), (k, .inr (11, [.ref k0, .ref k1, .ref k2, .int c3, .ref k4, .ref k5, .ref k6, .ref k7, .ref k8, .int c9, .ref ka, .ref kb, .int cc, .int cd, .int ce, .int cf, .int cg, .int ch, .int ci, .int cj, .int ck, .ref kl, .int cm, .int cn, .ref ko])), (k0, .inl (cI, 1201, .inl sc0_49))] H := hP
            replace hD : va_D A [(k4, .inl (cI, 6, .inl c4)), (k, .inr (11, [.ref k0, .ref k1, .ref k2, .int c3, .ref k4, .ref k5, .ref k6, .ref k7, .ref k8, .int c9, .ref ka, .ref kb, .int cc, .int cd, .int ce, .int cf, .int cg, .int ch, .int ci, .int cj, .int ck, .ref kl, .int cm, .int cn, .ref ko])), (k0, .inl (cI, 1201, .inl sc0_49))] := hD
            have h_50 := w_48
            try simp only [zl_5] at h_50
            have h_50 : sc0_49 = upd c0 (99 + 6 * a0.toInt.toNat + 5) v_46 := h_50
            have h_50 : sc0_49 = upd c0 (99 + 6 * a0.toInt.toNat + 5) v_46 := h_50
            have hS_51 : SIX sc0_49 (-1) := SIX.w pre0 h_50 rfl (by omega) (by decide +kernel) (by omega)
            have n_52 : (sc0_49 0).toInt = (c0 0).toInt := by rw [updN h_50 (by omega)]
            have n_53 : (sc0_49 1).toInt = (c0 1).toInt := by rw [updN h_50 (by omega)]
            have n_54 : (sc0_49 2).toInt = (c0 2).toInt := by rw [updN h_50 (by omega)]
            refine lv_aload_n hx hb dX11_lay_95 rfl (lv_at hl 0 rfl) ?_
            refine lv_iload_n hx hb dX11_lay_96 rfl (lv_at hl 1 rfl) ?_
            refine lv_iconst (v := 5) hx hb dX11_lay_97 (by decide +kernel) ?_
            refine kJi (wr := [(k4, .inl (cI, 6, .inl c4))]) (va_runV (As := [.int a0, .int 5]) (rest := []) ⟨hx, hb, hml, hown, hT⟩ (c_X11_workG5 l D cI aK aV k k0 k1 k2 k4 k5 k6 k7 k8 ka kb kl ko H.size c3 c9 cc cd ce cf cg ch ci cj ck cm cn sc0_49 a0 5 (by first | omega | (simp only [zl_5]; first | done | omega) | decide | assumption | rfl) (by first | omega | (simp only [zl_5]; first | done | omega) | decide | assumption | rfl) (by first | omega | (simp only [zl_5]; first | done | omega) | decide | assumption | rfl)) (cwV 2 hT (gV_in mw_1276 mw_1273 mw_1275 mw_p3_12 mw_12) rfl rfl rfl (by decide +kernel) ⟨Nat.le_of_ble_eq_true rfl, Nat.le_of_ble_eq_true rfl⟩) (kRecvX (q0 := 1) (ci := 11) hK hP hD hN hXS hS hA rfl rfl [1, 2] rfl (by decide +kernel)) rfl rfl hl.1 rfl (lv_room (Nat.le_of_ble_eq_true rfl)) dX11_lay_98 ⟨Nat.le_of_ble_eq_true rfl, Nat.le_of_ble_eq_true rfl⟩) hP hD hS hA [1, 2] [0] rfl rfl (by decide +kernel) (by decide +kernel) ?_
            clear hP hD hS
            intro r_55 u_57 H locs w_56 hP hD hS
            replace hP : va_P D vwCl [(k4, .inl (cI, 6, .inl c4)), (k, .inr (11, [.ref k0, .ref k1, .ref k2, .int c3, .ref k4, .ref k5, .ref k6, .ref k7, .ref k8, .int c9, .ref ka, .ref kb, .int cc, .int cd, .int ce, .int cf, .int cg, .int ch, .int ci, .int cj, .int ck, .ref kl, .int cm, .int cn, .ref ko])), (k0, .inl (cI, 1201, .inl sc0_49))] H := hP
            replace hD : va_D A [(k4, .inl (cI, 6, .inl c4)), (k, .inr (11, [.ref k0, .ref k1, .ref k2, .int c3, .ref k4, .ref k5, .ref k6, .ref k7, .ref k8, .int c9, .ref ka, .ref kb, .int cc, .int cd, .int ce, .int cf, .int cg, .int ch, .int ci, .int cj, .int ck, .ref kl, .int cm, .int cn, .ref ko])), (k0, .inl (cI, 1201, .inl sc0_49))] := hD
            have h_58 := w_56
            have h_58 : r_55 = wW sc0_49 a0 5 := h_58
            have t_59 : r_55.toInt = (wW sc0_49 a0 5).toInt := by rw [h_58]
            have b_60 : 0 ≤ r_55.toInt ∧ r_55.toInt ≤ 9999 := by rw [h_58]; exact SB.w5 (And.left hS_51) (by omega) (by omega)
            have lo_r_55 := k_lo r_55
            have hi_r_55 := k_hi r_55
            exact hRet (sc0_49, c4) [1, 2, 0] ⟨hS_51, (by (try dsimp only); unfold layR; (repeat (first | rw [if_pos (by omega)] | rw [if_neg (by omega)])); first | done | exact (by rw [h_58, h_50]; unfold wW; rw [sp_at, ev_46, h_43]; rfl)), (by (try dsimp only); unfold layS; (repeat (first | rw [if_pos (by omega)] | rw [if_neg (by omega)])); first | done | exact (by rw [h_50, ev_46, h_43]))⟩ hP hD (by decide +kernel) rfl hS rfl dX11_lay_101
          · refine lv_aload_n hx hb dX11_lay_74 rfl (lv_at hl 0 rfl) ?_
            refine lv_ldc (v := (-1000004)) hx hb hown (hT _ mw_1256) dX11_lay_75 ?_
            refine kJi (wr := [(k0, .inl (cI, 1201, .inl c0))]) (va_runV (As := [.int (-1000004)]) (rest := []) ⟨hx, hb, hml, hown, hT⟩ (c_X11_findingG l D cI aK aV k k0 k1 k2 k4 k5 k6 k7 k8 ka kb kl ko H.size c3 c9 cc cd ce cf cg ch ci cj ck cm cn c4 (-1000004) (by first | omega | (simp only [zl_m1000004]; first | done | omega) | decide | assumption | rfl) (by first | omega | (simp only [zl_m1000004]; first | done | omega) | decide | assumption | rfl)) (cwV 1 hT (gV_in mw_1243 mw_1240 mw_1242 mw_p3_8 mw_12) rfl rfl rfl (by decide +kernel) ⟨Nat.le_of_ble_eq_true rfl, Nat.le_of_ble_eq_true rfl⟩) (kRecvX (q0 := 1) (ci := 11) hK hP hD hN hXS hS hA rfl rfl [1, 0] rfl (by decide +kernel)) rfl rfl hl.1 rfl (lv_room (Nat.le_of_ble_eq_true rfl)) dX11_lay_77 ⟨Nat.le_of_ble_eq_true rfl, Nat.le_of_ble_eq_true rfl⟩) hP hD hS hA [1, 0] [2] rfl rfl (by decide +kernel) (by decide +kernel) ?_
            clear hP hD hS
            intro r_61 sc4_63 H locs w_62 hP hD hS
            replace hP : va_P D vwCl [(k0, .inl (cI, 1201, .inl c0)), (k, .inr (11, [.ref k0, .ref k1, .ref k2, .int c3, .ref k4, .ref k5, .ref k6, .ref k7, .ref k8, .int c9, .ref ka, .ref kb, .int cc, .int cd, .int ce, .int cf, .int cg, .int ch, .int ci, .int cj, .int ck, .ref kl, .int cm, .int cn, .ref ko])), (k4, .inl (cI, 6, .inl sc4_63))] H := hP
            replace hD : va_D A [(k0, .inl (cI, 1201, .inl c0)), (k, .inr (11, [.ref k0, .ref k1, .ref k2, .int c3, .ref k4, .ref k5, .ref k6, .ref k7, .ref k8, .int c9, .ref ka, .ref kb, .int cc, .int cd, .int ce, .int cf, .int cg, .int ch, .int ci, .int cj, .int ck, .ref kl, .int cm, .int cn, .ref ko])), (k4, .inl (cI, 6, .inl sc4_63))] := hD
            have hr_61 := w_62
            obtain rfl : r_61 = (-1000004) := hr_61.trans (by decide +kernel)
            exact hRet (c0, sc4_63) [1, 0, 2] ⟨pre0, (by (try dsimp only); unfold layR; (repeat (first | rw [if_pos (by omega)] | rw [if_neg (by omega)]))), (by (try dsimp only); unfold layS; (repeat (first | rw [if_pos (by omega)] | rw [if_neg (by omega)])))⟩ hP hD (by decide +kernel) rfl hS rfl dX11_lay_80
        · refine lv_aload_n hx hb dX11_lay_53 rfl (lv_at hl 0 rfl) ?_
          refine lv_ldc (v := (-1000003)) hx hb hown (hT _ mw_1356) dX11_lay_54 ?_
          refine kJi (wr := [(k0, .inl (cI, 1201, .inl c0))]) (va_runV (As := [.int (-1000003)]) (rest := []) ⟨hx, hb, hml, hown, hT⟩ (c_X11_findingG l D cI aK aV k k0 k1 k2 k4 k5 k6 k7 k8 ka kb kl ko H.size c3 c9 cc cd ce cf cg ch ci cj ck cm cn c4 (-1000003) (by first | omega | (simp only [zl_m1000003]; first | done | omega) | decide | assumption | rfl) (by first | omega | (simp only [zl_m1000003]; first | done | omega) | decide | assumption | rfl)) (cwV 1 hT (gV_in mw_1243 mw_1240 mw_1242 mw_p3_8 mw_12) rfl rfl rfl (by decide +kernel) ⟨Nat.le_of_ble_eq_true rfl, Nat.le_of_ble_eq_true rfl⟩) (kRecvX (q0 := 1) (ci := 11) hK hP hD hN hXS hS hA rfl rfl [1, 0] rfl (by decide +kernel)) rfl rfl hl.1 rfl (lv_room (Nat.le_of_ble_eq_true rfl)) dX11_lay_56 ⟨Nat.le_of_ble_eq_true rfl, Nat.le_of_ble_eq_true rfl⟩) hP hD hS hA [1, 0] [2] rfl rfl (by decide +kernel) (by decide +kernel) ?_
          clear hP hD hS
          intro r_64 sc4_66 H locs w_65 hP hD hS
          replace hP : va_P D vwCl [(k0, .inl (cI, 1201, .inl c0)), (k, .inr (11, [.ref k0, .ref k1, .ref k2, .int c3, .ref k4, .ref k5, .ref k6, .ref k7, .ref k8, .int c9, .ref ka, .ref kb, .int cc, .int cd, .int ce, .int cf, .int cg, .int ch, .int ci, .int cj, .int ck, .ref kl, .int cm, .int cn, .ref ko])), (k4, .inl (cI, 6, .inl sc4_66))] H := hP
          replace hD : va_D A [(k0, .inl (cI, 1201, .inl c0)), (k, .inr (11, [.ref k0, .ref k1, .ref k2, .int c3, .ref k4, .ref k5, .ref k6, .ref k7, .ref k8, .int c9, .ref ka, .ref kb, .int cc, .int cd, .int ce, .int cf, .int cg, .int ch, .int ci, .int cj, .int ck, .ref kl, .int cm, .int cn, .ref ko])), (k4, .inl (cI, 6, .inl sc4_66))] := hD
          have hr_64 := w_65
          obtain rfl : r_64 = (-1000003) := hr_64.trans (by decide +kernel)
          exact hRet (c0, sc4_66) [1, 0, 2] ⟨pre0, (by (try dsimp only); unfold layR; (repeat (first | rw [if_pos (by omega)] | rw [if_neg (by omega)]))), (by (try dsimp only); unfold layS; (repeat (first | rw [if_pos (by omega)] | rw [if_neg (by omega)])))⟩ hP hD (by decide +kernel) rfl hS rfl dX11_lay_59
      · refine lv_aload_n hx hb dX11_lay_36 rfl (lv_at hl 0 rfl) ?_
        refine lv_ldc (v := (-1000005)) hx hb hown (hT _ mw_1283) dX11_lay_37 ?_
        refine kJi (wr := [(k0, .inl (cI, 1201, .inl c0))]) (va_runV (As := [.int (-1000005)]) (rest := []) ⟨hx, hb, hml, hown, hT⟩ (c_X11_findingG l D cI aK aV k k0 k1 k2 k4 k5 k6 k7 k8 ka kb kl ko H.size c3 c9 cc cd ce cf cg ch ci cj ck cm cn c4 (-1000005) (by first | omega | (simp only [zl_m1000005]; first | done | omega) | decide | assumption | rfl) (by first | omega | (simp only [zl_m1000005]; first | done | omega) | decide | assumption | rfl)) (cwV 1 hT (gV_in mw_1243 mw_1240 mw_1242 mw_p3_8 mw_12) rfl rfl rfl (by decide +kernel) ⟨Nat.le_of_ble_eq_true rfl, Nat.le_of_ble_eq_true rfl⟩) (kRecvX (q0 := 1) (ci := 11) hK hP hD hN hXS hS hA rfl rfl [1, 0] rfl (by decide +kernel)) rfl rfl hl.1 rfl (lv_room (Nat.le_of_ble_eq_true rfl)) dX11_lay_39 ⟨Nat.le_of_ble_eq_true rfl, Nat.le_of_ble_eq_true rfl⟩) hP hD hS hA [1, 0] [2] rfl rfl (by decide +kernel) (by decide +kernel) ?_
        clear hP hD hS
        intro r_67 sc4_69 H locs w_68 hP hD hS
        replace hP : va_P D vwCl [(k0, .inl (cI, 1201, .inl c0)), (k, .inr (11, [.ref k0, .ref k1, .ref k2, .int c3, .ref k4, .ref k5, .ref k6, .ref k7, .ref k8, .int c9, .ref ka, .ref kb, .int cc, .int cd, .int ce, .int cf, .int cg, .int ch, .int ci, .int cj, .int ck, .ref kl, .int cm, .int cn, .ref ko])), (k4, .inl (cI, 6, .inl sc4_69))] H := hP
        replace hD : va_D A [(k0, .inl (cI, 1201, .inl c0)), (k, .inr (11, [.ref k0, .ref k1, .ref k2, .int c3, .ref k4, .ref k5, .ref k6, .ref k7, .ref k8, .int c9, .ref ka, .ref kb, .int cc, .int cd, .int ce, .int cf, .int cg, .int ch, .int ci, .int cj, .int ck, .ref kl, .int cm, .int cn, .ref ko])), (k4, .inl (cI, 6, .inl sc4_69))] := hD
        have hr_67 := w_68
        obtain rfl : r_67 = (-1000005) := hr_67.trans (by decide +kernel)
        exact hRet (c0, sc4_69) [1, 0, 2] ⟨pre0, (by (try dsimp only); unfold layR; (repeat (first | rw [if_pos (by omega)] | rw [if_neg (by omega)]))), (by (try dsimp only); unfold layS; (repeat (first | rw [if_pos (by omega)] | rw [if_neg (by omega)])))⟩ hP hD (by decide +kernel) rfl hS rfl dX11_lay_42
    · try simp only [zl_1, zl_9999] at h_16
      have h_16 : a1.toInt < 1 ∨ 9999 < a1.toInt := h_16
      obtain rfl : r_11 = 0 := hr_11.trans (by decide +kernel)
      refine b_if_ne hx hb zl_0 (tgt := 26) dX11_lay_16 (by decide +kernel) (fun c_70 => by exfalso; omega) (fun c_70 => ?_)
      refine lv_aload_n hx hb dX11_lay_19 rfl (lv_at hl 0 rfl) ?_
      refine lv_ldc (v := (-1000001)) hx hb hown (hT _ mw_1239) dX11_lay_20 ?_
      refine kJi (wr := [(k0, .inl (cI, 1201, .inl c0))]) (va_runV (As := [.int (-1000001)]) (rest := []) ⟨hx, hb, hml, hown, hT⟩ (c_X11_findingG l D cI aK aV k k0 k1 k2 k4 k5 k6 k7 k8 ka kb kl ko H.size c3 c9 cc cd ce cf cg ch ci cj ck cm cn c4 (-1000001) (by first | omega | (simp only [zl_m1000001]; first | done | omega) | decide | assumption | rfl) (by first | omega | (simp only [zl_m1000001]; first | done | omega) | decide | assumption | rfl)) (cwV 1 hT (gV_in mw_1243 mw_1240 mw_1242 mw_p3_8 mw_12) rfl rfl rfl (by decide +kernel) ⟨Nat.le_of_ble_eq_true rfl, Nat.le_of_ble_eq_true rfl⟩) (kRecvX (q0 := 1) (ci := 11) hK hP hD hN hXS hS hA rfl rfl [1, 0] rfl (by decide +kernel)) rfl rfl hl.1 rfl (lv_room (Nat.le_of_ble_eq_true rfl)) dX11_lay_22 ⟨Nat.le_of_ble_eq_true rfl, Nat.le_of_ble_eq_true rfl⟩) hP hD hS hA [1, 0] [2] rfl rfl (by decide +kernel) (by decide +kernel) ?_
      clear hP hD hS
      intro r_71 sc4_73 H locs w_72 hP hD hS
      replace hP : va_P D vwCl [(k0, .inl (cI, 1201, .inl c0)), (k, .inr (11, [.ref k0, .ref k1, .ref k2, .int c3, .ref k4, .ref k5, .ref k6, .ref k7, .ref k8, .int c9, .ref ka, .ref kb, .int cc, .int cd, .int ce, .int cf, .int cg, .int ch, .int ci, .int cj, .int ck, .ref kl, .int cm, .int cn, .ref ko])), (k4, .inl (cI, 6, .inl sc4_73))] H := hP
      replace hD : va_D A [(k0, .inl (cI, 1201, .inl c0)), (k, .inr (11, [.ref k0, .ref k1, .ref k2, .int c3, .ref k4, .ref k5, .ref k6, .ref k7, .ref k8, .int c9, .ref ka, .ref kb, .int cc, .int cd, .int ce, .int cf, .int cg, .int ch, .int ci, .int cj, .int ck, .ref kl, .int cm, .int cn, .ref ko])), (k4, .inl (cI, 6, .inl sc4_73))] := hD
      have hr_71 := w_72
      obtain rfl : r_71 = (-1000001) := hr_71.trans (by decide +kernel)
      exact hRet (c0, sc4_73) [1, 0, 2] ⟨pre0, (by (try dsimp only); unfold layR; (repeat (first | rw [if_pos (by omega)] | rw [if_neg (by omega)]))), (by (try dsimp only); unfold layS; (repeat (first | rw [if_pos (by omega)] | rw [if_neg (by omega)])))⟩ hP hD (by decide +kernel) rfl hS rfl dX11_lay_25
  · have h_9 : a0.toInt < 0 ∨ (c0 1).toInt ≤ a0.toInt := h_9
    obtain rfl : r_4 = 0 := hr_4.trans (by decide +kernel)
    refine b_if_eq hx hb zl_0 (tgt := 19) dX11_lay_5 (by decide +kernel) (fun c_74 => ?_) (fun c_74 => by exfalso; omega)
    refine lv_aload_n hx hb dX11_lay_19 rfl (lv_at hl 0 rfl) ?_
    refine lv_ldc (v := (-1000001)) hx hb hown (hT _ mw_1239) dX11_lay_20 ?_
    refine kJi (wr := [(k0, .inl (cI, 1201, .inl c0))]) (va_runV (As := [.int (-1000001)]) (rest := []) ⟨hx, hb, hml, hown, hT⟩ (c_X11_findingG l D cI aK aV k k0 k1 k2 k4 k5 k6 k7 k8 ka kb kl ko H.size c3 c9 cc cd ce cf cg ch ci cj ck cm cn c4 (-1000001) (by first | omega | (simp only [zl_m1000001]; first | done | omega) | decide | assumption | rfl) (by first | omega | (simp only [zl_m1000001]; first | done | omega) | decide | assumption | rfl)) (cwV 1 hT (gV_in mw_1243 mw_1240 mw_1242 mw_p3_8 mw_12) rfl rfl rfl (by decide +kernel) ⟨Nat.le_of_ble_eq_true rfl, Nat.le_of_ble_eq_true rfl⟩) (kRecvX (q0 := 1) (ci := 11) hK hP hD hN hXS hS hA rfl rfl [1, 0] rfl (by decide +kernel)) rfl rfl hl.1 rfl (lv_room (Nat.le_of_ble_eq_true rfl)) dX11_lay_22 ⟨Nat.le_of_ble_eq_true rfl, Nat.le_of_ble_eq_true rfl⟩) hP hD hS hA [1, 0] [2] rfl rfl (by decide +kernel) (by decide +kernel) ?_
    clear hP hD hS
    intro r_75 sc4_77 H locs w_76 hP hD hS
    replace hP : va_P D vwCl [(k0, .inl (cI, 1201, .inl c0)), (k, .inr (11, [.ref k0, .ref k1, .ref k2, .int c3, .ref k4, .ref k5, .ref k6, .ref k7, .ref k8, .int c9, .ref ka, .ref kb, .int cc, .int cd, .int ce, .int cf, .int cg, .int ch, .int ci, .int cj, .int ck, .ref kl, .int cm, .int cn, .ref ko])), (k4, .inl (cI, 6, .inl sc4_77))] H := hP
    replace hD : va_D A [(k0, .inl (cI, 1201, .inl c0)), (k, .inr (11, [.ref k0, .ref k1, .ref k2, .int c3, .ref k4, .ref k5, .ref k6, .ref k7, .ref k8, .int c9, .ref ka, .ref kb, .int cc, .int cd, .int ce, .int cf, .int cg, .int ch, .int ci, .int cj, .int ck, .ref kl, .int cm, .int cn, .ref ko])), (k4, .inl (cI, 6, .inl sc4_77))] := hD
    have hr_75 := w_76
    obtain rfl : r_75 = (-1000001) := hr_75.trans (by decide +kernel)
    exact hRet (c0, sc4_77) [1, 0, 2] ⟨pre0, (by (try dsimp only); unfold layR; (repeat (first | rw [if_pos (by omega)] | rw [if_neg (by omega)]))), (by (try dsimp only); unfold layS; (repeat (first | rw [if_pos (by omega)] | rw [if_neg (by omega)])))⟩ hP hD (by decide +kernel) rfl hS rfl dX11_lay_25
theorem bn_cX11_mileIs_0 : BN cX11_mileIs 0 0x2b482015b900262b569b402b70e0ad5a6a00adcc6015b8ac382b5699c02b70e0ad5a0402805500504005346000adc382b568bcc21c1e04414015a8ad5a2f308702811050056a2b2c00402012700402012400402011d00402011800402011300402010300402010080402012f0040201558755a4100adc80131582c029b22005721c := by
  unfold BN; decide +kernel
theorem dX11_mileIs_0 : decode cX11_mileIs 0 = .ok (.iload_n 1, 1) := dR0 (k := 0) (i := 0) bn_cX11_mileIs_0 dop_27 (by decide +kernel)
theorem dX11_mileIs_1 : decode cX11_mileIs 1 = .ok (.invokestatic 67, 3) := dR2 (f := Instr.invokestatic) (k := 0) (i := 1) bn_cX11_mileIs_0 dop_184 67 (by decide +kernel)
theorem dX11_mileIs_4 : decode cX11_mileIs 4 = .ok (.ifCond .ne 10, 3) := dR2s (f := Instr.ifCond .ne) (k := 0) (i := 4) bn_cX11_mileIs_0 dop_154 10 10 (by decide +kernel)
theorem dX11_mileIs_7 : decode cX11_mileIs 7 = .ok (.aload_n 0, 1) := dR0 (k := 0) (i := 7) bn_cX11_mileIs_0 dop_42 (by decide +kernel)
theorem dX11_mileIs_8 : decode cX11_mileIs 8 = .ok (.ldc 63, 2) := dR1 (f := Instr.ldc) (k := 0) (i := 8) bn_cX11_mileIs_0 dop_18 63 (by decide +kernel)
theorem dX11_mileIs_10 : decode cX11_mileIs 10 = .ok (.invokevirtual 64, 3) := dR2 (f := Instr.invokevirtual) (k := 0) (i := 10) bn_cX11_mileIs_0 dop_182 64 (by decide +kernel)
theorem dX11_mileIs_13 : decode cX11_mileIs 13 = .ok (.ireturn, 1) := dR0 (k := 0) (i := 13) bn_cX11_mileIs_0 dop_172 (by decide +kernel)
theorem dX11_mileIs_14 : decode cX11_mileIs 14 = .ok (.iload_n 2, 1) := dR0 (k := 0) (i := 14) bn_cX11_mileIs_0 dop_28 (by decide +kernel)
theorem dX11_mileIs_15 : decode cX11_mileIs 15 = .ok (.tableswitch 93 0 5 #[37, 47, 57, 71, 77, 87], 37) := by decide +kernel
theorem dX11_mileIs_52 : decode cX11_mileIs 52 = .ok (.aload_n 0, 1) := dR0 (k := 0) (i := 52) bn_cX11_mileIs_0 dop_42 (by decide +kernel)
theorem dX11_mileIs_53 : decode cX11_mileIs 53 = .ok (.getfield 9, 3) := dR2 (f := Instr.getfield) (k := 0) (i := 53) bn_cX11_mileIs_0 dop_180 9 (by decide +kernel)
theorem dX11_mileIs_56 : decode cX11_mileIs 56 = .ok (.bipush 19, 2) := dR1s (f := Instr.bipush) (k := 0) (i := 56) bn_cX11_mileIs_0 dop_16 19 19 (by decide +kernel)
theorem dX11_mileIs_58 : decode cX11_mileIs 58 = .ok (.iload_n 1, 1) := dR0 (k := 0) (i := 58) bn_cX11_mileIs_0 dop_27 (by decide +kernel)
theorem dX11_mileIs_59 : decode cX11_mileIs 59 = .ok (.iadd, 1) := dR0 (k := 0) (i := 59) bn_cX11_mileIs_0 dop_96 (by decide +kernel)
theorem dX11_mileIs_60 : decode cX11_mileIs 60 = .ok (.iaload, 1) := dR0 (k := 0) (i := 60) bn_cX11_mileIs_0 dop_46 (by decide +kernel)
theorem dX11_mileIs_61 : decode cX11_mileIs 61 = .ok (.ireturn, 1) := dR0 (k := 0) (i := 61) bn_cX11_mileIs_0 dop_172 (by decide +kernel)
theorem dX11_mileIs_62 : decode cX11_mileIs 62 = .ok (.aload_n 0, 1) := dR0 (k := 0) (i := 62) bn_cX11_mileIs_0 dop_42 (by decide +kernel)
theorem dX11_mileIs_63 : decode cX11_mileIs 63 = .ok (.getfield 9, 3) := dR2 (f := Instr.getfield) (k := 0) (i := 63) bn_cX11_mileIs_0 dop_180 9 (by decide +kernel)
theorem dX11_mileIs_66 : decode cX11_mileIs 66 = .ok (.bipush 59, 2) := dR1s (f := Instr.bipush) (k := 0) (i := 66) bn_cX11_mileIs_0 dop_16 59 59 (by decide +kernel)
theorem dX11_mileIs_68 : decode cX11_mileIs 68 = .ok (.iload_n 1, 1) := dR0 (k := 0) (i := 68) bn_cX11_mileIs_0 dop_27 (by decide +kernel)
theorem dX11_mileIs_69 : decode cX11_mileIs 69 = .ok (.iadd, 1) := dR0 (k := 0) (i := 69) bn_cX11_mileIs_0 dop_96 (by decide +kernel)
theorem dX11_mileIs_70 : decode cX11_mileIs 70 = .ok (.iaload, 1) := dR0 (k := 0) (i := 70) bn_cX11_mileIs_0 dop_46 (by decide +kernel)
theorem dX11_mileIs_71 : decode cX11_mileIs 71 = .ok (.ireturn, 1) := dR0 (k := 0) (i := 71) bn_cX11_mileIs_0 dop_172 (by decide +kernel)
theorem dX11_mileIs_72 : decode cX11_mileIs 72 = .ok (.aload_n 0, 1) := dR0 (k := 0) (i := 72) bn_cX11_mileIs_0 dop_42 (by decide +kernel)
theorem dX11_mileIs_73 : decode cX11_mileIs 73 = .ok (.iload_n 1, 1) := dR0 (k := 0) (i := 73) bn_cX11_mileIs_0 dop_27 (by decide +kernel)
theorem dX11_mileIs_74 : decode cX11_mileIs 74 = .ok (.invokevirtual 95, 3) := dR2 (f := Instr.invokevirtual) (k := 0) (i := 74) bn_cX11_mileIs_0 dop_182 95 (by decide +kernel)
theorem dX11_mileIs_77 : decode cX11_mileIs 77 = .ok (.ifCond .eq 7, 3) := dR2s (f := Instr.ifCond .eq) (k := 0) (i := 77) bn_cX11_mileIs_0 dop_153 7 7 (by decide +kernel)
theorem dX11_mileIs_80 : decode cX11_mileIs 80 = .ok (.iconst 1, 1) := dR0 (k := 0) (i := 80) bn_cX11_mileIs_0 dop_4 (by decide +kernel)
theorem dX11_mileIs_81 : decode cX11_mileIs 81 = .ok (.goto 4, 3) := dR2s (f := Instr.goto) (k := 0) (i := 81) bn_cX11_mileIs_0 dop_167 4 4 (by decide +kernel)
theorem dX11_mileIs_84 : decode cX11_mileIs 84 = .ok (.iconst 0, 1) := dR0 (k := 0) (i := 84) bn_cX11_mileIs_0 dop_3 (by decide +kernel)
theorem dX11_mileIs_85 : decode cX11_mileIs 85 = .ok (.ireturn, 1) := dR0 (k := 0) (i := 85) bn_cX11_mileIs_0 dop_172 (by decide +kernel)
theorem dX11_mileIs_86 : decode cX11_mileIs 86 = .ok (.aload_n 0, 1) := dR0 (k := 0) (i := 86) bn_cX11_mileIs_0 dop_42 (by decide +kernel)
theorem dX11_mileIs_87 : decode cX11_mileIs 87 = .ok (.iload_n 1, 1) := dR0 (k := 0) (i := 87) bn_cX11_mileIs_0 dop_27 (by decide +kernel)
theorem dX11_mileIs_88 : decode cX11_mileIs 88 = .ok (.invokevirtual 102, 3) := dR2 (f := Instr.invokevirtual) (k := 0) (i := 88) bn_cX11_mileIs_0 dop_182 102 (by decide +kernel)
theorem dX11_mileIs_91 : decode cX11_mileIs 91 = .ok (.ireturn, 1) := dR0 (k := 0) (i := 91) bn_cX11_mileIs_0 dop_172 (by decide +kernel)
theorem dX11_mileIs_92 : decode cX11_mileIs 92 = .ok (.aload_n 0, 1) := dR0 (k := 0) (i := 92) bn_cX11_mileIs_0 dop_42 (by decide +kernel)
theorem dX11_mileIs_93 : decode cX11_mileIs 93 = .ok (.iload_n 1, 1) := dR0 (k := 0) (i := 93) bn_cX11_mileIs_0 dop_27 (by decide +kernel)
theorem dX11_mileIs_94 : decode cX11_mileIs 94 = .ok (.aload_n 0, 1) := dR0 (k := 0) (i := 94) bn_cX11_mileIs_0 dop_42 (by decide +kernel)
theorem dX11_mileIs_95 : decode cX11_mileIs 95 = .ok (.invokevirtual 98, 3) := dR2 (f := Instr.invokevirtual) (k := 0) (i := 95) bn_cX11_mileIs_0 dop_182 98 (by decide +kernel)
theorem dX11_mileIs_98 : decode cX11_mileIs 98 = .ok (.invokevirtual 105, 3) := dR2 (f := Instr.invokevirtual) (k := 0) (i := 98) bn_cX11_mileIs_0 dop_182 105 (by decide +kernel)
theorem dX11_mileIs_101 : decode cX11_mileIs 101 = .ok (.ireturn, 1) := dR0 (k := 0) (i := 101) bn_cX11_mileIs_0 dop_172 (by decide +kernel)
theorem dX11_mileIs_102 : decode cX11_mileIs 102 = .ok (.aload_n 0, 1) := dR0 (k := 0) (i := 102) bn_cX11_mileIs_0 dop_42 (by decide +kernel)
theorem dX11_mileIs_103 : decode cX11_mileIs 103 = .ok (.iload_n 1, 1) := dR0 (k := 0) (i := 103) bn_cX11_mileIs_0 dop_27 (by decide +kernel)
theorem dX11_mileIs_104 : decode cX11_mileIs 104 = .ok (.invokevirtual 108, 3) := dR2 (f := Instr.invokevirtual) (k := 0) (i := 104) bn_cX11_mileIs_0 dop_182 108 (by decide +kernel)
theorem dX11_mileIs_107 : decode cX11_mileIs 107 = .ok (.ireturn, 1) := dR0 (k := 0) (i := 107) bn_cX11_mileIs_0 dop_172 (by decide +kernel)
theorem dX11_mileIs_108 : decode cX11_mileIs 108 = .ok (.aload_n 0, 1) := dR0 (k := 0) (i := 108) bn_cX11_mileIs_0 dop_42 (by decide +kernel)
theorem dX11_mileIs_109 : decode cX11_mileIs 109 = .ok (.ldc 63, 2) := dR1 (f := Instr.ldc) (k := 0) (i := 109) bn_cX11_mileIs_0 dop_18 63 (by decide +kernel)
theorem dX11_mileIs_111 : decode cX11_mileIs 111 = .ok (.invokevirtual 64, 3) := dR2 (f := Instr.invokevirtual) (k := 0) (i := 111) bn_cX11_mileIs_0 dop_182 64 (by decide +kernel)
theorem dX11_mileIs_114 : decode cX11_mileIs 114 = .ok (.ireturn, 1) := dR0 (k := 0) (i := 114) bn_cX11_mileIs_0 dop_172 (by decide +kernel)
set_option maxHeartbeats 4000000 in
set_option maxRecDepth 100000 in
theorem c_X11_mileIsG (l : Launch) (D : va_G) (cI : ClassId) (aK aV : Nat → Nat) (k k0 k1 k2 k4 k5 k6 k7 k8 ka kb kl ko : Nat) (sz : Nat) (c3 : Int32) (c9 : Int32) (cc : Int32) (cd : Int32) (ce : Int32) (cf : Int32) (cg : Int32) (ch : Int32) (ci : Int32) (cj : Int32) (ck : Int32) (cm : Int32) (cn : Int32) (c0 : Nat → Int32) (c4 : Nat → Int32) (a0 : Int32) (a1 : Int32) (pre0 : SB c0) : Met l yX11_mileIs (gW yX11_mileIs cX11_mileIs 3 (some .int)) ({ frames := 4, cells := 0, slots := 0, locals := 88 } : Room) (kPreX D cI aK aV [.ref k, .int a0, .int a1] [(k, .inr (11, [.ref k0, .ref k1, .ref k2, .int c3, .ref k4, .ref k5, .ref k6, .ref k7, .ref k8, .int c9, .ref ka, .ref kb, .int cc, .int cd, .int ce, .int cf, .int cg, .int ch, .int ci, .int cj, .int ck, .ref kl, .int cm, .int cn, .ref ko])), (k0, .inl (cI, 1201, .inl c0)), (k4, .inl (cI, 6, .inl c4))] sz) (va_Qi (fun (r : Int32) (u : (Nat → Int32)) => r = mileR c0 a0 a1) (fun u t => kWd D cI (va_A [(k, .inr (11, [.ref k0, .ref k1, .ref k2, .int c3, .ref k4, .ref k5, .ref k6, .ref k7, .ref k8, .int c9, .ref ka, .ref kb, .int cc, .int cd, .int ce, .int cf, .int cg, .int ch, .int ci, .int cj, .int ck, .ref kl, .int cm, .int cn, .ref ko])), (k0, .inl (cI, 1201, .inl c0)), (k4, .inl (cI, 6, .inl c4))] sz) [(k, .inr (11, [.ref k0, .ref k1, .ref k2, .int c3, .ref k4, .ref k5, .ref k6, .ref k7, .ref k8, .int c9, .ref ka, .ref kb, .int cc, .int cd, .int ce, .int cf, .int cg, .int ch, .int ci, .int cj, .int ck, .ref kl, .int cm, .int cn, .ref ko])), (k0, .inl (cI, 1201, .inl c0)), (k4, .inl (cI, 6, .inl u))] t) (va_A [(k, .inr (11, [.ref k0, .ref k1, .ref k2, .int c3, .ref k4, .ref k5, .ref k6, .ref k7, .ref k8, .int c9, .ref ka, .ref kb, .int cc, .int cd, .int ce, .int cf, .int cg, .int ch, .int ci, .int cj, .int ck, .ref kl, .int cm, .int cn, .ref ko])), (k0, .inl (cI, 1201, .inl c0)), (k4, .inl (cI, 6, .inl c4))] sz)) 0 0 (va_A [(k, .inr (11, [.ref k0, .ref k1, .ref k2, .int c3, .ref k4, .ref k5, .ref k6, .ref k7, .ref k8, .int c9, .ref ka, .ref kb, .int cc, .int cd, .int ce, .int cf, .int cg, .int ch, .int ci, .int cj, .int ck, .ref kl, .int cm, .int cn, .ref ko])), (k0, .inl (cI, 1201, .inl c0)), (k4, .inl (cI, 6, .inl c4))] sz) := by
  refine kMetIX (own := RX11) (by decide +kernel) rfl (Nat.le_of_ble_eq_true rfl) ?_
  intro p e s m args below meth c hx hb hT hown hname hml A Q hK hP hD hS hA hN hXS hRet ls hl
  have hl : lv_has ls 3 [(0, .ref k), (1, .int a0), (2, .int a1)] := hl
  have lo_a0 := k_lo a0
  have hi_a0 := k_hi a0
  have lo_a1 := k_lo a1
  have hi_a1 := k_hi a1
  have lo_ci := k_lo ci
  have hi_ci := k_hi ci
  have pre0 : SB c0 := pre0
  have nb_1 : 0 ≤ (c0 0).toInt ∧ (c0 0).toInt ≤ 2000 := SB.n0 pre0
  have nb_2 : 0 ≤ (c0 1).toInt ∧ (c0 1).toInt ≤ 60 := SB.n1 pre0
  have nb_3 : 0 ≤ (c0 2).toInt ∧ (c0 2).toInt ≤ 4 := SB.n2 pre0
  refine lv_iload_n hx hb dX11_mileIs_0 rfl (lv_at hl 1 rfl) ?_
  refine kJi (wr := [(k, .inr (11, [.ref k0, .ref k1, .ref k2, .int c3, .ref k4, .ref k5, .ref k6, .ref k7, .ref k8, .int c9, .ref ka, .ref kb, .int cc, .int cd, .int ce, .int cf, .int cg, .int ch, .int ci, .int cj, .int ck, .ref kl, .int cm, .int cn, .ref ko])), (k0, .inl (cI, 1201, .inl c0)), (k4, .inl (cI, 6, .inl c4))]) (va_runS (As := [.int a0]) (rest := []) ⟨hx, hb, hml, hown, hT⟩ (c_X11_isMileG l D cI aK aV s.heap.size a0) (cwS 1 hT (gS_in mw_1251 mw_1249 mw_1250 mw_12) rfl rfl rfl (by decide +kernel) ⟨Nat.le_of_ble_eq_true rfl, Nat.le_of_ble_eq_true rfl⟩) (kStatX hK hP hD hN hXS hS hA [] rfl (by decide +kernel)) rfl rfl hl.1 rfl (lv_room (Nat.le_of_ble_eq_true rfl)) dX11_mileIs_1 ⟨Nat.le_of_ble_eq_true rfl, Nat.le_of_ble_eq_true rfl⟩) hP hD hS hA [] [0, 1, 2] rfl rfl (by decide +kernel) (by decide +kernel) ?_
  clear hP hD hS
  intro r_4 u_6 H locs w_5 hP hD hS
  replace hP : va_P D vwCl [(k, .inr (11, [.ref k0, .ref k1, .ref k2, .int c3, .ref k4, .ref k5, .ref k6, .ref k7, .ref k8, .int c9, .ref ka, .ref kb, .int cc, .int cd, .int ce, .int cf, .int cg, .int ch, .int ci, .int cj, .int ck, .ref kl, .int cm, .int cn, .ref ko])), (k0, .inl (cI, 1201, .inl c0)), (k4, .inl (cI, 6, .inl c4))] H := hP
  replace hD : va_D A [(k, .inr (11, [.ref k0, .ref k1, .ref k2, .int c3, .ref k4, .ref k5, .ref k6, .ref k7, .ref k8, .int c9, .ref ka, .ref kb, .int cc, .int cd, .int ce, .int cf, .int cg, .int ch, .int ci, .int cj, .int ck, .ref kl, .int cm, .int cn, .ref ko])), (k0, .inl (cI, 1201, .inl c0)), (k4, .inl (cI, 6, .inl c4))] := hD
  rcases w_5 with ⟨hr_4, h_7, h_8⟩ | ⟨hr_4, h_9⟩
  · have h_7 : 0 ≤ a0.toInt := h_7
    have h_8 : a0.toInt ≤ 39 := h_8
    obtain rfl : r_4 = 1 := hr_4.trans (by decide +kernel)
    refine b_if_ne hx hb zl_1 (tgt := 14) dX11_mileIs_4 (by decide +kernel) (fun c_10 => ?_) (fun c_10 => by exfalso; omega)
    refine lv_iload_n hx hb dX11_mileIs_14 rfl (lv_at hl 2 rfl) ?_
    by_cases c_11 : a1.toInt = 0
    · refine lv_tableIn (off := 37) (tgt := 52) hx hb dX11_mileIs_15 (by omega) (by omega) (by rw [c_11]; decide) (by decide +kernel) ?_
      refine lv_aload_n hx hb dX11_mileIs_52 rfl (lv_at hl 0 rfl) ?_
      refine va_get (D := D) (ci := 11) (v := .ref k0) (C := RX11) (T := TX11) (N := 25) hx hb hT giX11 hown hK hP 0 rfl rfl 0 (by decide +kernel) (hT (Cond.fieldLink RX11 9 "DesertWireModel" "s" "[I") mw_1156) (fun _ h9 => h9) rfl dX11_mileIs_53 ?_
      refine lv_bipush (v := 19) hx hb dX11_mileIs_56 (by decide +kernel) ?_
      refine lv_iload_n hx hb dX11_mileIs_58 rfl (lv_at hl 1 rfl) ?_
      refine lv_iadd hx hb dX11_mileIs_59 ?_
      refine lv_topi (fun v_12 ev_12 => ?_)
      have tv_12 : v_12.toInt = 19 + a0.toInt := by rw [ev_12]; exact k_addv zl_19 rfl (by omega) (by omega)
      refine k_iald (v := (c0 v_12.toNatClampNeg)) hx hb hK hP 1 0 rfl rfl (k_in (by omega) (by omega)) rfl dX11_mileIs_60 ?_
      refine lv_topi (fun v_13 ev_13 => ?_)
      have lo_v_13 := k_lo v_13
      have hi_v_13 := k_hi v_13
      have tv_13 : v_13.toInt = (c0 v_12.toNatClampNeg).toInt := by rw [ev_13]
      exact hRet c4 [0, 1, 2] (by (try dsimp only); unfold mileR; (repeat (first | rw [if_pos (by omega)] | rw [if_neg (by omega)])); first | done | exact (rd_in ev_13 (by omega))) hP hD (by decide +kernel) rfl hS rfl dX11_mileIs_61
    by_cases c_14 : a1.toInt = 1
    · refine lv_tableIn (off := 47) (tgt := 62) hx hb dX11_mileIs_15 (by omega) (by omega) (by rw [c_14]; decide) (by decide +kernel) ?_
      refine lv_aload_n hx hb dX11_mileIs_62 rfl (lv_at hl 0 rfl) ?_
      refine va_get (D := D) (ci := 11) (v := .ref k0) (C := RX11) (T := TX11) (N := 25) hx hb hT giX11 hown hK hP 0 rfl rfl 0 (by decide +kernel) (hT (Cond.fieldLink RX11 9 "DesertWireModel" "s" "[I") mw_1156) (fun _ h9 => h9) rfl dX11_mileIs_63 ?_
      refine lv_bipush (v := 59) hx hb dX11_mileIs_66 (by decide +kernel) ?_
      refine lv_iload_n hx hb dX11_mileIs_68 rfl (lv_at hl 1 rfl) ?_
      refine lv_iadd hx hb dX11_mileIs_69 ?_
      refine lv_topi (fun v_15 ev_15 => ?_)
      have tv_15 : v_15.toInt = 59 + a0.toInt := by rw [ev_15]; exact k_addv zl_59 rfl (by omega) (by omega)
      refine k_iald (v := (c0 v_15.toNatClampNeg)) hx hb hK hP 1 0 rfl rfl (k_in (by omega) (by omega)) rfl dX11_mileIs_70 ?_
      refine lv_topi (fun v_16 ev_16 => ?_)
      have lo_v_16 := k_lo v_16
      have hi_v_16 := k_hi v_16
      have tv_16 : v_16.toInt = (c0 v_15.toNatClampNeg).toInt := by rw [ev_16]
      exact hRet c4 [0, 1, 2] (by (try dsimp only); unfold mileR; (repeat (first | rw [if_pos (by omega)] | rw [if_neg (by omega)])); first | done | exact (rd_in ev_16 (by omega))) hP hD (by decide +kernel) rfl hS rfl dX11_mileIs_71
    by_cases c_17 : a1.toInt = 2
    · refine lv_tableIn (off := 57) (tgt := 72) hx hb dX11_mileIs_15 (by omega) (by omega) (by rw [c_17]; decide) (by decide +kernel) ?_
      refine lv_aload_n hx hb dX11_mileIs_72 rfl (lv_at hl 0 rfl) ?_
      refine lv_iload_n hx hb dX11_mileIs_73 rfl (lv_at hl 1 rfl) ?_
      refine kJi (wr := [(k4, .inl (cI, 6, .inl c4))]) (va_runV (As := [.int a0]) (rest := []) ⟨hx, hb, hml, hown, hT⟩ (c_X11_isWiredG l D cI aK aV k k0 k1 k2 k4 k5 k6 k7 k8 ka kb kl ko H.size c3 c9 cc cd ce cf cg ch ci cj ck cm cn c0 a0 pre0) (cwV 1 hT (gV_in mw_1368 mw_1365 mw_1367 mw_p4_13 mw_12) rfl rfl rfl (by decide +kernel) ⟨Nat.le_of_ble_eq_true rfl, Nat.le_of_ble_eq_true rfl⟩) (kRecvX (q0 := 0) (ci := 11) hK hP hD hN hXS hS hA rfl rfl [0, 1] rfl (by decide +kernel)) rfl rfl hl.1 rfl (lv_room (Nat.le_of_ble_eq_true rfl)) dX11_mileIs_74 ⟨Nat.le_of_ble_eq_true rfl, Nat.le_of_ble_eq_true rfl⟩) hP hD hS hA [0, 1] [2] rfl rfl (by decide +kernel) (by decide +kernel) ?_
      clear hP hD hS
      intro r_18 u_20 H locs w_19 hP hD hS
      replace hP : va_P D vwCl [(k4, .inl (cI, 6, .inl c4)), (k, .inr (11, [.ref k0, .ref k1, .ref k2, .int c3, .ref k4, .ref k5, .ref k6, .ref k7, .ref k8, .int c9, .ref ka, .ref kb, .int cc, .int cd, .int ce, .int cf, .int cg, .int ch, .int ci, .int cj, .int ck, .ref kl, .int cm, .int cn, .ref ko])), (k0, .inl (cI, 1201, .inl c0))] H := hP
      replace hD : va_D A [(k4, .inl (cI, 6, .inl c4)), (k, .inr (11, [.ref k0, .ref k1, .ref k2, .int c3, .ref k4, .ref k5, .ref k6, .ref k7, .ref k8, .int c9, .ref ka, .ref kb, .int cc, .int cd, .int ce, .int cf, .int cg, .int ch, .int ci, .int cj, .int ck, .ref kl, .int cm, .int cn, .ref ko])), (k0, .inl (cI, 1201, .inl c0))] := hD
      rcases w_19 with ⟨hr_18, h_21⟩ | ⟨hr_18, h_22⟩
      · have h_21 : wdF c0 a0.toInt = 1 := h_21
        have h_21 : wdF c0 a0.toInt = 1 := h_21
        obtain rfl : r_18 = 1 := hr_18.trans (by decide +kernel)
        refine b_if_eq hx hb zl_1 (tgt := 84) dX11_mileIs_77 (by decide +kernel) (fun c_23 => by exfalso; omega) (fun c_23 => ?_)
        refine lv_iconst (v := 1) hx hb dX11_mileIs_80 (by decide +kernel) ?_
        refine lv_goto (tgt := 85) hx hb dX11_mileIs_81 (by decide +kernel) ?_
        exact hRet c4 [1, 2, 0] (by unfold mileR; rw [if_pos (by omega), if_neg (by omega), if_neg (by omega), if_pos (by omega)]; exact h_21.symm) hP hD (by decide +kernel) rfl hS rfl dX11_mileIs_85
      · have h_22 : wdF c0 a0.toInt = 0 := h_22
        have h_22 : wdF c0 a0.toInt = 0 := h_22
        obtain rfl : r_18 = 0 := hr_18.trans (by decide +kernel)
        refine b_if_eq hx hb zl_0 (tgt := 84) dX11_mileIs_77 (by decide +kernel) (fun c_24 => ?_) (fun c_24 => by exfalso; omega)
        refine lv_iconst (v := 0) hx hb dX11_mileIs_84 (by decide +kernel) ?_
        exact hRet c4 [1, 2, 0] (by unfold mileR; rw [if_pos (by omega), if_neg (by omega), if_neg (by omega), if_pos (by omega)]; exact h_22.symm) hP hD (by decide +kernel) rfl hS rfl dX11_mileIs_85
    by_cases c_25 : a1.toInt = 3
    · refine lv_tableIn (off := 71) (tgt := 86) hx hb dX11_mileIs_15 (by omega) (by omega) (by rw [c_25]; decide) (by decide +kernel) ?_
      refine lv_aload_n hx hb dX11_mileIs_86 rfl (lv_at hl 0 rfl) ?_
      refine lv_iload_n hx hb dX11_mileIs_87 rfl (lv_at hl 1 rfl) ?_
      refine kJi (wr := [(k4, .inl (cI, 6, .inl c4))]) (va_runV (As := [.int a0]) (rest := []) ⟨hx, hb, hml, hown, hT⟩ (c_X11_leakOfG l D cI aK aV k k0 k1 k2 k4 k5 k6 k7 k8 ka kb kl ko H.size c3 c9 cc cd ce cf cg ch ci cj ck cm cn c0 a0 pre0) (cwV 1 hT (gV_in mw_1372 mw_1369 mw_1371 mw_p4_14 mw_12) rfl rfl rfl (by decide +kernel) ⟨Nat.le_of_ble_eq_true rfl, Nat.le_of_ble_eq_true rfl⟩) (kRecvX (q0 := 0) (ci := 11) hK hP hD hN hXS hS hA rfl rfl [0, 1] rfl (by decide +kernel)) rfl rfl hl.1 rfl (lv_room (Nat.le_of_ble_eq_true rfl)) dX11_mileIs_88 ⟨Nat.le_of_ble_eq_true rfl, Nat.le_of_ble_eq_true rfl⟩) hP hD hS hA [0, 1] [2] rfl rfl (by decide +kernel) (by decide +kernel) ?_
      clear hP hD hS
      intro r_26 u_28 H locs w_27 hP hD hS
      replace hP : va_P D vwCl [(k4, .inl (cI, 6, .inl c4)), (k, .inr (11, [.ref k0, .ref k1, .ref k2, .int c3, .ref k4, .ref k5, .ref k6, .ref k7, .ref k8, .int c9, .ref ka, .ref kb, .int cc, .int cd, .int ce, .int cf, .int cg, .int ch, .int ci, .int cj, .int ck, .ref kl, .int cm, .int cn, .ref ko])), (k0, .inl (cI, 1201, .inl c0))] H := hP
      replace hD : va_D A [(k4, .inl (cI, 6, .inl c4)), (k, .inr (11, [.ref k0, .ref k1, .ref k2, .int c3, .ref k4, .ref k5, .ref k6, .ref k7, .ref k8, .int c9, .ref ka, .ref kb, .int cc, .int cd, .int ce, .int cf, .int cg, .int ch, .int ci, .int cj, .int ck, .ref kl, .int cm, .int cn, .ref ko])), (k0, .inl (cI, 1201, .inl c0))] := hD
      have h_29 := w_27
      have h_29 : r_26 = lkF c0 a0.toInt := h_29
      have lo_r_26 := k_lo r_26
      have hi_r_26 := k_hi r_26
      exact hRet c4 [1, 2, 0] (by (try dsimp only); unfold mileR; (repeat (first | rw [if_pos (by omega)] | rw [if_neg (by omega)])); first | done | exact h_29) hP hD (by decide +kernel) rfl hS rfl dX11_mileIs_91
    by_cases c_30 : a1.toInt = 4
    · refine lv_tableIn (off := 77) (tgt := 92) hx hb dX11_mileIs_15 (by omega) (by omega) (by rw [c_30]; decide) (by decide +kernel) ?_
      refine lv_aload_n hx hb dX11_mileIs_92 rfl (lv_at hl 0 rfl) ?_
      refine lv_iload_n hx hb dX11_mileIs_93 rfl (lv_at hl 1 rfl) ?_
      refine lv_aload_n hx hb dX11_mileIs_94 rfl (lv_at hl 0 rfl) ?_
      refine kJi (wr := [(k4, .inl (cI, 6, .inl c4))]) (va_runV (As := []) (rest := [.int a0, .ref k]) ⟨hx, hb, hml, hown, hT⟩ (c_X11_rainNowG l D cI aK aV k k0 k1 k2 k4 k5 k6 k7 k8 ka kb kl ko H.size c3 c9 cc cd ce cf cg ch ci cj ck cm cn c0 pre0) (cwV 0 hT (gV_in mw_1376 mw_1373 mw_1375 mw_p4_15 mw_12) rfl rfl rfl (by decide +kernel) ⟨Nat.le_of_ble_eq_true rfl, Nat.le_of_ble_eq_true rfl⟩) (kRecvX (q0 := 0) (ci := 11) hK hP hD hN hXS hS hA rfl rfl [0, 1] rfl (by decide +kernel)) rfl rfl hl.1 rfl (lv_room (Nat.le_of_ble_eq_true rfl)) dX11_mileIs_95 ⟨Nat.le_of_ble_eq_true rfl, Nat.le_of_ble_eq_true rfl⟩) hP hD hS hA [0, 1] [2] rfl rfl (by decide +kernel) (by decide +kernel) ?_
      clear hP hD hS
      intro r_31 u_33 H locs w_32 hP hD hS
      replace hP : va_P D vwCl [(k4, .inl (cI, 6, .inl c4)), (k, .inr (11, [.ref k0, .ref k1, .ref k2, .int c3, .ref k4, .ref k5, .ref k6, .ref k7, .ref k8, .int c9, .ref ka, .ref kb, .int cc, .int cd, .int ce, .int cf, .int cg, .int ch, .int ci, .int cj, .int ck, .ref kl, .int cm, .int cn, .ref ko])), (k0, .inl (cI, 1201, .inl c0))] H := hP
      replace hD : va_D A [(k4, .inl (cI, 6, .inl c4)), (k, .inr (11, [.ref k0, .ref k1, .ref k2, .int c3, .ref k4, .ref k5, .ref k6, .ref k7, .ref k8, .int c9, .ref ka, .ref kb, .int cc, .int cd, .int ce, .int cf, .int cg, .int ch, .int ci, .int cj, .int ck, .ref kl, .int cm, .int cn, .ref ko])), (k0, .inl (cI, 1201, .inl c0))] := hD
      have h_34 := w_32
      have h_34 : r_31 = rnF c0 := h_34
      have lo_r_31 := k_lo r_31
      have hi_r_31 := k_hi r_31
      refine kJi (wr := [(k4, .inl (cI, 6, .inl c4))]) (va_runV (As := [.int a0, .int r_31]) (rest := []) ⟨hx, hb, hml, hown, hT⟩ (c_X11_effortG l D cI aK aV k k0 k1 k2 k4 k5 k6 k7 k8 ka kb kl ko H.size c3 c9 cc cd ce cf cg ch ci cj ck cm cn c0 a0 r_31 pre0 (by first | omega | decide | assumption | rfl) (by first | omega | decide | assumption | rfl)) (cwV 2 hT (gV_in mw_1380 mw_1377 mw_1379 mw_p5_0 mw_12) rfl rfl rfl (by decide +kernel) ⟨Nat.le_of_ble_eq_true rfl, Nat.le_of_ble_eq_true rfl⟩) (kRecvX (q0 := 1) (ci := 11) hK hP hD hN hXS hS hA rfl rfl [1, 2] rfl (by decide +kernel)) rfl rfl hl.1 rfl (lv_room (Nat.le_of_ble_eq_true rfl)) dX11_mileIs_98 ⟨Nat.le_of_ble_eq_true rfl, Nat.le_of_ble_eq_true rfl⟩) hP hD hS hA [1, 2] [0] rfl rfl (by decide +kernel) (by decide +kernel) ?_
      clear hP hD hS
      intro r_35 u_37 H locs w_36 hP hD hS
      replace hP : va_P D vwCl [(k4, .inl (cI, 6, .inl c4)), (k, .inr (11, [.ref k0, .ref k1, .ref k2, .int c3, .ref k4, .ref k5, .ref k6, .ref k7, .ref k8, .int c9, .ref ka, .ref kb, .int cc, .int cd, .int ce, .int cf, .int cg, .int ch, .int ci, .int cj, .int ck, .ref kl, .int cm, .int cn, .ref ko])), (k0, .inl (cI, 1201, .inl c0))] H := hP
      replace hD : va_D A [(k4, .inl (cI, 6, .inl c4)), (k, .inr (11, [.ref k0, .ref k1, .ref k2, .int c3, .ref k4, .ref k5, .ref k6, .ref k7, .ref k8, .int c9, .ref ka, .ref kb, .int cc, .int cd, .int ce, .int cf, .int cg, .int ch, .int ci, .int cj, .int ck, .ref kl, .int cm, .int cn, .ref ko])), (k0, .inl (cI, 1201, .inl c0))] := hD
      have h_38 := w_36
      have h_38 : r_35 = efN c0 a0.toInt r_31 := h_38
      have h_38 : r_35 = efN c0 a0.toInt r_31 := h_38
      have lo_r_35 := k_lo r_35
      have hi_r_35 := k_hi r_35
      exact hRet c4 [1, 2, 0] (by (try dsimp only); unfold mileR; (repeat (first | rw [if_pos (by omega)] | rw [if_neg (by omega)])); first | done | exact (by rw [h_38, h_34])) hP hD (by decide +kernel) rfl hS rfl dX11_mileIs_101
    by_cases c_39 : a1.toInt = 5
    · refine lv_tableIn (off := 87) (tgt := 102) hx hb dX11_mileIs_15 (by omega) (by omega) (by rw [c_39]; decide) (by decide +kernel) ?_
      refine lv_aload_n hx hb dX11_mileIs_102 rfl (lv_at hl 0 rfl) ?_
      refine lv_iload_n hx hb dX11_mileIs_103 rfl (lv_at hl 1 rfl) ?_
      refine kJi (wr := [(k4, .inl (cI, 6, .inl c4))]) (va_runV (As := [.int a0]) (rest := []) ⟨hx, hb, hml, hown, hT⟩ (c_X11_wellsInG l D cI aK aV k k0 k1 k2 k4 k5 k6 k7 k8 ka kb kl ko H.size c3 c9 cc cd ce cf cg ch ci cj ck cm cn c0 a0 pre0) (cwV 1 hT (gV_in mw_1384 mw_1381 mw_1383 mw_p5_1 mw_12) rfl rfl rfl (by decide +kernel) ⟨Nat.le_of_ble_eq_true rfl, Nat.le_of_ble_eq_true rfl⟩) (kRecvX (q0 := 0) (ci := 11) hK hP hD hN hXS hS hA rfl rfl [0, 1] rfl (by decide +kernel)) rfl rfl hl.1 rfl (lv_room (Nat.le_of_ble_eq_true rfl)) dX11_mileIs_104 ⟨Nat.le_of_ble_eq_true rfl, Nat.le_of_ble_eq_true rfl⟩) hP hD hS hA [0, 1] [2] rfl rfl (by decide +kernel) (by decide +kernel) ?_
      clear hP hD hS
      intro r_40 u_42 H locs w_41 hP hD hS
      replace hP : va_P D vwCl [(k4, .inl (cI, 6, .inl c4)), (k, .inr (11, [.ref k0, .ref k1, .ref k2, .int c3, .ref k4, .ref k5, .ref k6, .ref k7, .ref k8, .int c9, .ref ka, .ref kb, .int cc, .int cd, .int ce, .int cf, .int cg, .int ch, .int ci, .int cj, .int ck, .ref kl, .int cm, .int cn, .ref ko])), (k0, .inl (cI, 1201, .inl c0))] H := hP
      replace hD : va_D A [(k4, .inl (cI, 6, .inl c4)), (k, .inr (11, [.ref k0, .ref k1, .ref k2, .int c3, .ref k4, .ref k5, .ref k6, .ref k7, .ref k8, .int c9, .ref ka, .ref kb, .int cc, .int cd, .int ce, .int cf, .int cg, .int ch, .int ci, .int cj, .int ck, .ref kl, .int cm, .int cn, .ref ko])), (k0, .inl (cI, 1201, .inl c0))] := hD
      have h_43 := w_41
      have h_43 : r_40 = wlF c0 a0.toInt := h_43
      have h_43 : r_40 = wlF c0 a0.toInt := h_43
      have lo_r_40 := k_lo r_40
      have hi_r_40 := k_hi r_40
      exact hRet c4 [1, 2, 0] (by (try dsimp only); unfold mileR; (repeat (first | rw [if_pos (by omega)] | rw [if_neg (by omega)])); first | done | exact h_43) hP hD (by decide +kernel) rfl hS rfl dX11_mileIs_107
    refine lv_tableOut (tgt := 108) hx hb dX11_mileIs_15 (by omega) (by decide +kernel) ?_
    refine lv_aload_n hx hb dX11_mileIs_108 rfl (lv_at hl 0 rfl) ?_
    refine lv_ldc (v := (-1000001)) hx hb hown (hT _ mw_1239) dX11_mileIs_109 ?_
    refine kJi (wr := [(k0, .inl (cI, 1201, .inl c0))]) (va_runV (As := [.int (-1000001)]) (rest := []) ⟨hx, hb, hml, hown, hT⟩ (c_X11_findingG l D cI aK aV k k0 k1 k2 k4 k5 k6 k7 k8 ka kb kl ko H.size c3 c9 cc cd ce cf cg ch ci cj ck cm cn c4 (-1000001) (by first | omega | (simp only [zl_m1000001]; first | done | omega) | decide | assumption | rfl) (by first | omega | (simp only [zl_m1000001]; first | done | omega) | decide | assumption | rfl)) (cwV 1 hT (gV_in mw_1243 mw_1240 mw_1242 mw_p3_8 mw_12) rfl rfl rfl (by decide +kernel) ⟨Nat.le_of_ble_eq_true rfl, Nat.le_of_ble_eq_true rfl⟩) (kRecvX (q0 := 0) (ci := 11) hK hP hD hN hXS hS hA rfl rfl [0, 2] rfl (by decide +kernel)) rfl rfl hl.1 rfl (lv_room (Nat.le_of_ble_eq_true rfl)) dX11_mileIs_111 ⟨Nat.le_of_ble_eq_true rfl, Nat.le_of_ble_eq_true rfl⟩) hP hD hS hA [0, 2] [1] rfl rfl (by decide +kernel) (by decide +kernel) ?_
    clear hP hD hS
    intro r_44 sc4_46 H locs w_45 hP hD hS
    replace hP : va_P D vwCl [(k0, .inl (cI, 1201, .inl c0)), (k, .inr (11, [.ref k0, .ref k1, .ref k2, .int c3, .ref k4, .ref k5, .ref k6, .ref k7, .ref k8, .int c9, .ref ka, .ref kb, .int cc, .int cd, .int ce, .int cf, .int cg, .int ch, .int ci, .int cj, .int ck, .ref kl, .int cm, .int cn, .ref ko])), (k4, .inl (cI, 6, .inl sc4_46))] H := hP
    replace hD : va_D A [(k0, .inl (cI, 1201, .inl c0)), (k, .inr (11, [.ref k0, .ref k1, .ref k2, .int c3, .ref k4, .ref k5, .ref k6, .ref k7, .ref k8, .int c9, .ref ka, .ref kb, .int cc, .int cd, .int ce, .int cf, .int cg, .int ch, .int ci, .int cj, .int ck, .ref kl, .int cm, .int cn, .ref ko])), (k4, .inl (cI, 6, .inl sc4_46))] := hD
    have hr_44 := w_45
    obtain rfl : r_44 = (-1000001) := hr_44.trans (by decide +kernel)
    exact hRet sc4_46 [1, 0, 2] (by (try dsimp only); unfold mileR; (repeat (first | rw [if_pos (by omega)] | rw [if_neg (by omega)]))) hP hD (by decide +kernel) rfl hS rfl dX11_mileIs_114
  · have h_9 : a0.toInt < 0 ∨ 39 < a0.toInt := h_9
    obtain rfl : r_4 = 0 := hr_4.trans (by decide +kernel)
    refine b_if_ne hx hb zl_0 (tgt := 14) dX11_mileIs_4 (by decide +kernel) (fun c_47 => by exfalso; omega) (fun c_47 => ?_)
    refine lv_aload_n hx hb dX11_mileIs_7 rfl (lv_at hl 0 rfl) ?_
    refine lv_ldc (v := (-1000001)) hx hb hown (hT _ mw_1239) dX11_mileIs_8 ?_
    refine kJi (wr := [(k0, .inl (cI, 1201, .inl c0))]) (va_runV (As := [.int (-1000001)]) (rest := []) ⟨hx, hb, hml, hown, hT⟩ (c_X11_findingG l D cI aK aV k k0 k1 k2 k4 k5 k6 k7 k8 ka kb kl ko H.size c3 c9 cc cd ce cf cg ch ci cj ck cm cn c4 (-1000001) (by first | omega | (simp only [zl_m1000001]; first | done | omega) | decide | assumption | rfl) (by first | omega | (simp only [zl_m1000001]; first | done | omega) | decide | assumption | rfl)) (cwV 1 hT (gV_in mw_1243 mw_1240 mw_1242 mw_p3_8 mw_12) rfl rfl rfl (by decide +kernel) ⟨Nat.le_of_ble_eq_true rfl, Nat.le_of_ble_eq_true rfl⟩) (kRecvX (q0 := 0) (ci := 11) hK hP hD hN hXS hS hA rfl rfl [0, 2] rfl (by decide +kernel)) rfl rfl hl.1 rfl (lv_room (Nat.le_of_ble_eq_true rfl)) dX11_mileIs_10 ⟨Nat.le_of_ble_eq_true rfl, Nat.le_of_ble_eq_true rfl⟩) hP hD hS hA [0, 2] [1] rfl rfl (by decide +kernel) (by decide +kernel) ?_
    clear hP hD hS
    intro r_48 sc4_50 H locs w_49 hP hD hS
    replace hP : va_P D vwCl [(k0, .inl (cI, 1201, .inl c0)), (k, .inr (11, [.ref k0, .ref k1, .ref k2, .int c3, .ref k4, .ref k5, .ref k6, .ref k7, .ref k8, .int c9, .ref ka, .ref kb, .int cc, .int cd, .int ce, .int cf, .int cg, .int ch, .int ci, .int cj, .int ck, .ref kl, .int cm, .int cn, .ref ko])), (k4, .inl (cI, 6, .inl sc4_50))] H := hP
    replace hD : va_D A [(k0, .inl (cI, 1201, .inl c0)), (k, .inr (11, [.ref k0, .ref k1, .ref k2, .int c3, .ref k4, .ref k5, .ref k6, .ref k7, .ref k8, .int c9, .ref ka, .ref kb, .int cc, .int cd, .int ce, .int cf, .int cg, .int ch, .int ci, .int cj, .int ck, .ref kl, .int cm, .int cn, .ref ko])), (k4, .inl (cI, 6, .inl sc4_50))] := hD
    have hr_48 := w_49
    obtain rfl : r_48 = (-1000001) := hr_48.trans (by decide +kernel)
    exact hRet sc4_50 [1, 0, 2] (by (try dsimp only); unfold mileR; (repeat (first | rw [if_pos (by omega)] | rw [if_neg (by omega)]))) hP hD (by decide +kernel) rfl hS rfl dX11_mileIs_13
theorem bn_cX11_soils_0 : BN cX11_soils 0 0x308142c610e850220a00ad4561a00a70e8015b8142c1c158a802a31787034015a8ac0a16028dc08dd802a0040542ab482015b950262b05805363000ae40c033a0056e050b070562000a8c5e1c0d0056a2b028580a37020fc08ad208056e5f098ac1601528a422611787034015a8ac3aad208056e73098ac16014d8bc381700ad456ad208056e40098ac16014d91002b90e82c029a38005721c := by
  unfold BN; decide +kernel
theorem dX11_soils_0 : decode cX11_soils 0 = .ok (.iload_n 1, 1) := dR0 (k := 0) (i := 0) bn_cX11_soils_0 dop_27 (by decide +kernel)
theorem dX11_soils_1 : decode cX11_soils 1 = .ok (.invokestatic 111, 3) := dR2 (f := Instr.invokestatic) (k := 0) (i := 1) bn_cX11_soils_0 dop_184 111 (by decide +kernel)
theorem dX11_soils_4 : decode cX11_soils 4 = .ok (.ifCond .eq 10, 3) := dR2s (f := Instr.ifCond .eq) (k := 0) (i := 4) bn_cX11_soils_0 dop_153 10 10 (by decide +kernel)
theorem dX11_soils_7 : decode cX11_soils 7 = .ok (.iload_n 2, 1) := dR0 (k := 0) (i := 7) bn_cX11_soils_0 dop_28 (by decide +kernel)
theorem dX11_soils_8 : decode cX11_soils 8 = .ok (.invokestatic 67, 3) := dR2 (f := Instr.invokestatic) (k := 0) (i := 8) bn_cX11_soils_0 dop_184 67 (by decide +kernel)
theorem dX11_soils_11 : decode cX11_soils 11 = .ok (.ifCond .ne 10, 3) := dR2s (f := Instr.ifCond .ne) (k := 0) (i := 11) bn_cX11_soils_0 dop_154 10 10 (by decide +kernel)
theorem dX11_soils_14 : decode cX11_soils 14 = .ok (.aload_n 0, 1) := dR0 (k := 0) (i := 14) bn_cX11_soils_0 dop_42 (by decide +kernel)
theorem dX11_soils_15 : decode cX11_soils 15 = .ok (.ldc 63, 2) := dR1 (f := Instr.ldc) (k := 0) (i := 15) bn_cX11_soils_0 dop_18 63 (by decide +kernel)
theorem dX11_soils_17 : decode cX11_soils 17 = .ok (.invokevirtual 64, 3) := dR2 (f := Instr.invokevirtual) (k := 0) (i := 17) bn_cX11_soils_0 dop_182 64 (by decide +kernel)
theorem dX11_soils_20 : decode cX11_soils 20 = .ok (.ireturn, 1) := dR0 (k := 0) (i := 20) bn_cX11_soils_0 dop_172 (by decide +kernel)
theorem dX11_soils_21 : decode cX11_soils 21 = .ok (.aload_n 0, 1) := dR0 (k := 0) (i := 21) bn_cX11_soils_0 dop_42 (by decide +kernel)
theorem dX11_soils_22 : decode cX11_soils 22 = .ok (.getfield 22, 3) := dR2 (f := Instr.getfield) (k := 0) (i := 22) bn_cX11_soils_0 dop_180 22 (by decide +kernel)
theorem dX11_soils_25 : decode cX11_soils 25 = .ok (.iload_n 1, 1) := dR0 (k := 0) (i := 25) bn_cX11_soils_0 dop_27 (by decide +kernel)
theorem dX11_soils_26 : decode cX11_soils 26 = .ok (.iaload, 1) := dR0 (k := 0) (i := 26) bn_cX11_soils_0 dop_46 (by decide +kernel)
theorem dX11_soils_27 : decode cX11_soils 27 = .ok (.ifCond .ne 10, 3) := dR2s (f := Instr.ifCond .ne) (k := 0) (i := 27) bn_cX11_soils_0 dop_154 10 10 (by decide +kernel)
theorem dX11_soils_30 : decode cX11_soils 30 = .ok (.aload_n 0, 1) := dR0 (k := 0) (i := 30) bn_cX11_soils_0 dop_42 (by decide +kernel)
theorem dX11_soils_31 : decode cX11_soils 31 = .ok (.ldc 114, 2) := dR1 (f := Instr.ldc) (k := 0) (i := 31) bn_cX11_soils_0 dop_18 114 (by decide +kernel)
theorem dX11_soils_33 : decode cX11_soils 33 = .ok (.invokevirtual 64, 3) := dR2 (f := Instr.invokevirtual) (k := 0) (i := 33) bn_cX11_soils_0 dop_182 64 (by decide +kernel)
theorem dX11_soils_36 : decode cX11_soils 36 = .ok (.ireturn, 1) := dR0 (k := 0) (i := 36) bn_cX11_soils_0 dop_172 (by decide +kernel)
theorem dX11_soils_37 : decode cX11_soils 37 = .ok (.iload_n 2, 1) := dR0 (k := 0) (i := 37) bn_cX11_soils_0 dop_28 (by decide +kernel)
theorem dX11_soils_38 : decode cX11_soils 38 = .ok (.aload_n 0, 1) := dR0 (k := 0) (i := 38) bn_cX11_soils_0 dop_42 (by decide +kernel)
theorem dX11_soils_39 : decode cX11_soils 39 = .ok (.getfield 25, 3) := dR2 (f := Instr.getfield) (k := 0) (i := 39) bn_cX11_soils_0 dop_180 25 (by decide +kernel)
theorem dX11_soils_42 : decode cX11_soils 42 = .ok (.iload_n 1, 1) := dR0 (k := 0) (i := 42) bn_cX11_soils_0 dop_27 (by decide +kernel)
theorem dX11_soils_43 : decode cX11_soils 43 = .ok (.iaload, 1) := dR0 (k := 0) (i := 43) bn_cX11_soils_0 dop_46 (by decide +kernel)
theorem dX11_soils_44 : decode cX11_soils 44 = .ok (.iadd, 1) := dR0 (k := 0) (i := 44) bn_cX11_soils_0 dop_96 (by decide +kernel)
theorem dX11_soils_45 : decode cX11_soils 45 = .ok (.bipush 40, 2) := dR1s (f := Instr.bipush) (k := 0) (i := 45) bn_cX11_soils_0 dop_16 40 40 (by decide +kernel)
theorem dX11_soils_47 : decode cX11_soils 47 = .ok (.if_icmp .le 10, 3) := dR2s (f := Instr.if_icmp .le) (k := 0) (i := 47) bn_cX11_soils_0 dop_164 10 10 (by decide +kernel)
theorem dX11_soils_50 : decode cX11_soils 50 = .ok (.aload_n 0, 1) := dR0 (k := 0) (i := 50) bn_cX11_soils_0 dop_42 (by decide +kernel)
theorem dX11_soils_51 : decode cX11_soils 51 = .ok (.ldc 94, 2) := dR1 (f := Instr.ldc) (k := 0) (i := 51) bn_cX11_soils_0 dop_18 94 (by decide +kernel)
theorem dX11_soils_53 : decode cX11_soils 53 = .ok (.invokevirtual 64, 3) := dR2 (f := Instr.invokevirtual) (k := 0) (i := 53) bn_cX11_soils_0 dop_182 64 (by decide +kernel)
theorem dX11_soils_56 : decode cX11_soils 56 = .ok (.ireturn, 1) := dR0 (k := 0) (i := 56) bn_cX11_soils_0 dop_172 (by decide +kernel)
theorem dX11_soils_57 : decode cX11_soils 57 = .ok (.iconst 0, 1) := dR0 (k := 0) (i := 57) bn_cX11_soils_0 dop_3 (by decide +kernel)
theorem dX11_soils_58 : decode cX11_soils 58 = .ok (.istore_n 3, 1) := dR0 (k := 0) (i := 58) bn_cX11_soils_0 dop_62 (by decide +kernel)
theorem dX11_soils_59 : decode cX11_soils 59 = .ok (.iconst 0, 1) := dR0 (k := 0) (i := 59) bn_cX11_soils_0 dop_3 (by decide +kernel)
theorem dX11_soils_60 : decode cX11_soils 60 = .ok (.istore 4, 2) := dR1 (f := Instr.istore) (k := 0) (i := 60) bn_cX11_soils_0 dop_54 4 (by decide +kernel)
theorem dX11_soils_62 : decode cX11_soils 62 = .ok (.iload 4, 2) := dR1 (f := Instr.iload) (k := 0) (i := 62) bn_cX11_soils_0 dop_21 4 (by decide +kernel)
theorem dX11_soils_64 : decode cX11_soils 64 = .ok (.aload_n 0, 1) := dR0 (k := 0) (i := 64) bn_cX11_soils_0 dop_42 (by decide +kernel)
theorem dX11_soils_65 : decode cX11_soils 65 = .ok (.getfield 25, 3) := dR2 (f := Instr.getfield) (k := 0) (i := 65) bn_cX11_soils_0 dop_180 25 (by decide +kernel)
theorem dX11_soils_68 : decode cX11_soils 68 = .ok (.iload_n 1, 1) := dR0 (k := 0) (i := 68) bn_cX11_soils_0 dop_27 (by decide +kernel)
theorem dX11_soils_69 : decode cX11_soils 69 = .ok (.iaload, 1) := dR0 (k := 0) (i := 69) bn_cX11_soils_0 dop_46 (by decide +kernel)
theorem dX11_soils_70 : decode cX11_soils 70 = .ok (.if_icmp .ge 31, 3) := dR2s (f := Instr.if_icmp .ge) (k := 0) (i := 70) bn_cX11_soils_0 dop_162 31 31 (by decide +kernel)
theorem dX11_soils_73 : decode cX11_soils 73 = .ok (.aload_n 0, 1) := dR0 (k := 0) (i := 73) bn_cX11_soils_0 dop_42 (by decide +kernel)
theorem dX11_soils_74 : decode cX11_soils 74 = .ok (.iload_n 1, 1) := dR0 (k := 0) (i := 74) bn_cX11_soils_0 dop_27 (by decide +kernel)
theorem dX11_soils_75 : decode cX11_soils 75 = .ok (.iload 4, 2) := dR1 (f := Instr.iload) (k := 0) (i := 75) bn_cX11_soils_0 dop_21 4 (by decide +kernel)
theorem dX11_soils_77 : decode cX11_soils 77 = .ok (.invokevirtual 115, 3) := dR2 (f := Instr.invokevirtual) (k := 0) (i := 77) bn_cX11_soils_0 dop_182 115 (by decide +kernel)
theorem dX11_soils_80 : decode cX11_soils 80 = .ok (.iconst (-1), 1) := dR0 (k := 0) (i := 80) bn_cX11_soils_0 dop_2 (by decide +kernel)
theorem dX11_soils_81 : decode cX11_soils 81 = .ok (.iconst 2, 1) := dR0 (k := 0) (i := 81) bn_cX11_soils_0 dop_5 (by decide +kernel)
theorem dX11_soils_82 : decode cX11_soils 82 = .ok (.invokestatic 47, 3) := dR2 (f := Instr.invokestatic) (k := 0) (i := 82) bn_cX11_soils_0 dop_184 47 (by decide +kernel)
theorem dX11_soils_85 : decode cX11_soils 85 = .ok (.ifCond .ne 10, 3) := dR2s (f := Instr.ifCond .ne) (k := 0) (i := 85) bn_cX11_soils_0 dop_154 10 10 (by decide +kernel)
theorem dX11_soils_88 : decode cX11_soils 88 = .ok (.aload_n 0, 1) := dR0 (k := 0) (i := 88) bn_cX11_soils_0 dop_42 (by decide +kernel)
theorem dX11_soils_89 : decode cX11_soils 89 = .ok (.ldc 83, 2) := dR1 (f := Instr.ldc) (k := 0) (i := 89) bn_cX11_soils_0 dop_18 83 (by decide +kernel)
theorem dX11_soils_91 : decode cX11_soils 91 = .ok (.invokevirtual 64, 3) := dR2 (f := Instr.invokevirtual) (k := 0) (i := 91) bn_cX11_soils_0 dop_182 64 (by decide +kernel)
theorem dX11_soils_94 : decode cX11_soils 94 = .ok (.ireturn, 1) := dR0 (k := 0) (i := 94) bn_cX11_soils_0 dop_172 (by decide +kernel)
theorem dX11_soils_95 : decode cX11_soils 95 = .ok (.iinc 4 1, 3) := dRii (f := Instr.iinc) (k := 0) (i := 95) bn_cX11_soils_0 dop_132 4 1 1 (by decide +kernel)
theorem dX11_soils_98 : decode cX11_soils 98 = .ok (.goto (-36), 3) := dR2s (f := Instr.goto) (k := 0) (i := 98) bn_cX11_soils_0 dop_167 65500 (-36) (by decide +kernel)
theorem dX11_soils_101 : decode cX11_soils 101 = .ok (.iconst 0, 1) := dR0 (k := 0) (i := 101) bn_cX11_soils_0 dop_3 (by decide +kernel)
theorem dX11_soils_102 : decode cX11_soils 102 = .ok (.istore 4, 2) := dR1 (f := Instr.istore) (k := 0) (i := 102) bn_cX11_soils_0 dop_54 4 (by decide +kernel)
theorem dX11_soils_104 : decode cX11_soils 104 = .ok (.iload 4, 2) := dR1 (f := Instr.iload) (k := 0) (i := 104) bn_cX11_soils_0 dop_21 4 (by decide +kernel)
theorem dX11_soils_106 : decode cX11_soils 106 = .ok (.aload_n 0, 1) := dR0 (k := 0) (i := 106) bn_cX11_soils_0 dop_42 (by decide +kernel)
theorem dX11_soils_107 : decode cX11_soils 107 = .ok (.getfield 25, 3) := dR2 (f := Instr.getfield) (k := 0) (i := 107) bn_cX11_soils_0 dop_180 25 (by decide +kernel)
theorem dX11_soils_110 : decode cX11_soils 110 = .ok (.iload_n 1, 1) := dR0 (k := 0) (i := 110) bn_cX11_soils_0 dop_27 (by decide +kernel)
theorem dX11_soils_111 : decode cX11_soils 111 = .ok (.iaload, 1) := dR0 (k := 0) (i := 111) bn_cX11_soils_0 dop_46 (by decide +kernel)
theorem dX11_soils_112 : decode cX11_soils 112 = .ok (.if_icmp .ge 41, 3) := dR2s (f := Instr.if_icmp .ge) (k := 0) (i := 112) bn_cX11_soils_0 dop_162 41 41 (by decide +kernel)
theorem dX11_soils_115 : decode cX11_soils 115 = .ok (.aload_n 0, 1) := dR0 (k := 0) (i := 115) bn_cX11_soils_0 dop_42 (by decide +kernel)
theorem dX11_soils_116 : decode cX11_soils 116 = .ok (.iload_n 1, 1) := dR0 (k := 0) (i := 116) bn_cX11_soils_0 dop_27 (by decide +kernel)
theorem dX11_soils_117 : decode cX11_soils 117 = .ok (.iload 4, 2) := dR1 (f := Instr.iload) (k := 0) (i := 117) bn_cX11_soils_0 dop_21 4 (by decide +kernel)
theorem dX11_soils_119 : decode cX11_soils 119 = .ok (.invokevirtual 115, 3) := dR2 (f := Instr.invokevirtual) (k := 0) (i := 119) bn_cX11_soils_0 dop_182 115 (by decide +kernel)
theorem dX11_soils_122 : decode cX11_soils 122 = .ok (.ifCond .lt 25, 3) := dR2s (f := Instr.ifCond .lt) (k := 0) (i := 122) bn_cX11_soils_0 dop_155 25 25 (by decide +kernel)
theorem dX11_soils_125 : decode cX11_soils 125 = .ok (.aload_n 0, 1) := dR0 (k := 0) (i := 125) bn_cX11_soils_0 dop_42 (by decide +kernel)
theorem dX11_soils_126 : decode cX11_soils 126 = .ok (.getfield 9, 3) := dR2 (f := Instr.getfield) (k := 0) (i := 126) bn_cX11_soils_0 dop_180 9 (by decide +kernel)
theorem bn_cX11_soils_128 : BN cX11_soils 128 0x2b43cd3802a00405428080885281d002b702858382b308142c610e850220a := by
  unfold BN; decide +kernel
theorem dX11_soils_129 : decode cX11_soils 129 = .ok (.bipush 19, 2) := dR1s (f := Instr.bipush) (k := 128) (i := 1) bn_cX11_soils_128 dop_16 19 19 (by decide +kernel)
theorem dX11_soils_131 : decode cX11_soils 131 = .ok (.iload_n 2, 1) := dR0 (k := 128) (i := 3) bn_cX11_soils_128 dop_28 (by decide +kernel)
theorem dX11_soils_132 : decode cX11_soils 132 = .ok (.iadd, 1) := dR0 (k := 128) (i := 4) bn_cX11_soils_128 dop_96 (by decide +kernel)
theorem dX11_soils_133 : decode cX11_soils 133 = .ok (.iload 4, 2) := dR1 (f := Instr.iload) (k := 128) (i := 5) bn_cX11_soils_128 dop_21 4 (by decide +kernel)
theorem dX11_soils_135 : decode cX11_soils 135 = .ok (.iadd, 1) := dR0 (k := 128) (i := 7) bn_cX11_soils_128 dop_96 (by decide +kernel)
theorem dX11_soils_136 : decode cX11_soils 136 = .ok (.aload_n 0, 1) := dR0 (k := 128) (i := 8) bn_cX11_soils_128 dop_42 (by decide +kernel)
theorem dX11_soils_137 : decode cX11_soils 137 = .ok (.iload_n 1, 1) := dR0 (k := 128) (i := 9) bn_cX11_soils_128 dop_27 (by decide +kernel)
theorem dX11_soils_138 : decode cX11_soils 138 = .ok (.iload 4, 2) := dR1 (f := Instr.iload) (k := 128) (i := 10) bn_cX11_soils_128 dop_21 4 (by decide +kernel)
theorem dX11_soils_140 : decode cX11_soils 140 = .ok (.invokevirtual 115, 3) := dR2 (f := Instr.invokevirtual) (k := 128) (i := 12) bn_cX11_soils_128 dop_182 115 (by decide +kernel)
theorem dX11_soils_143 : decode cX11_soils 143 = .ok (.iastore, 1) := dR0 (k := 128) (i := 15) bn_cX11_soils_128 dop_79 (by decide +kernel)
theorem dX11_soils_144 : decode cX11_soils 144 = .ok (.iinc 3 1, 3) := dRii (f := Instr.iinc) (k := 128) (i := 16) bn_cX11_soils_128 dop_132 3 1 1 (by decide +kernel)
theorem dX11_soils_147 : decode cX11_soils 147 = .ok (.iinc 4 1, 3) := dRii (f := Instr.iinc) (k := 128) (i := 19) bn_cX11_soils_128 dop_132 4 1 1 (by decide +kernel)
theorem dX11_soils_150 : decode cX11_soils 150 = .ok (.goto (-46), 3) := dR2s (f := Instr.goto) (k := 128) (i := 22) bn_cX11_soils_128 dop_167 65490 (-46) (by decide +kernel)
theorem dX11_soils_153 : decode cX11_soils 153 = .ok (.iload_n 3, 1) := dR0 (k := 128) (i := 25) bn_cX11_soils_128 dop_29 (by decide +kernel)
theorem dX11_soils_154 : decode cX11_soils 154 = .ok (.ireturn, 1) := dR0 (k := 128) (i := 26) bn_cX11_soils_128 dop_172 (by decide +kernel)
set_option maxHeartbeats 4000000 in
set_option maxRecDepth 100000 in
theorem c_X11_soilsG (l : Launch) (D : va_G) (cI : ClassId) (aK aV : Nat → Nat) (k k0 k1 k2 k4 k5 k6 k7 k8 ka kb kl ko : Nat) (sz : Nat) (c3 : Int32) (c9 : Int32) (cc : Int32) (cd : Int32) (ce : Int32) (cf : Int32) (cg : Int32) (ch : Int32) (ci : Int32) (cj : Int32) (ck : Int32) (cm : Int32) (cn : Int32) (c0 : Nat → Int32) (c4 : Nat → Int32) (c5 : Nat → Int32) (c6 : Nat → Int32) (c7 : Nat → Int32) (a0 : Int32) (a1 : Int32) (pre0 : SIX c0 (-1)) (pre1 : ∀ k : Nat, k < 4 → 0 ≤ (c6 k).toInt ∧ (c6 k).toInt ≤ 36) : Met l yX11_soils (gW yX11_soils cX11_soils 5 (some .int)) ({ frames := 2, cells := 0, slots := 0, locals := 42 } : Room) (kPreX D cI aK aV [.ref k, .int a0, .int a1] [(k, .inr (11, [.ref k0, .ref k1, .ref k2, .int c3, .ref k4, .ref k5, .ref k6, .ref k7, .ref k8, .int c9, .ref ka, .ref kb, .int cc, .int cd, .int ce, .int cf, .int cg, .int ch, .int ci, .int cj, .int ck, .ref kl, .int cm, .int cn, .ref ko])), (k0, .inl (cI, 1201, .inl c0)), (k4, .inl (cI, 6, .inl c4)), (k5, .inl (cI, 4, .inl c5)), (k6, .inl (cI, 4, .inl c6)), (k7, .inl (cI, 144, .inl c7))] sz) (va_Qi (fun (r : Int32) (u : (Nat → Int32) × (Nat → Int32)) => SIX u.1 (-1) ∧ r = soilR c5 c6 c7 a0 a1 ∧ u.1 = soilS 19 c0 c5 c6 c7 a0 a1) (fun u t => kWd D cI (va_A [(k, .inr (11, [.ref k0, .ref k1, .ref k2, .int c3, .ref k4, .ref k5, .ref k6, .ref k7, .ref k8, .int c9, .ref ka, .ref kb, .int cc, .int cd, .int ce, .int cf, .int cg, .int ch, .int ci, .int cj, .int ck, .ref kl, .int cm, .int cn, .ref ko])), (k0, .inl (cI, 1201, .inl c0)), (k4, .inl (cI, 6, .inl c4)), (k5, .inl (cI, 4, .inl c5)), (k6, .inl (cI, 4, .inl c6)), (k7, .inl (cI, 144, .inl c7))] sz) [(k, .inr (11, [.ref k0, .ref k1, .ref k2, .int c3, .ref k4, .ref k5, .ref k6, .ref k7, .ref k8, .int c9, .ref ka, .ref kb, .int cc, .int cd, .int ce, .int cf, .int cg, .int ch, .int ci, .int cj, .int ck, .ref kl, .int cm, .int cn, .ref ko])), (k0, .inl (cI, 1201, .inl u.1)), (k4, .inl (cI, 6, .inl u.2)), (k5, .inl (cI, 4, .inl c5)), (k6, .inl (cI, 4, .inl c6)), (k7, .inl (cI, 144, .inl c7))] t) (va_A [(k, .inr (11, [.ref k0, .ref k1, .ref k2, .int c3, .ref k4, .ref k5, .ref k6, .ref k7, .ref k8, .int c9, .ref ka, .ref kb, .int cc, .int cd, .int ce, .int cf, .int cg, .int ch, .int ci, .int cj, .int ck, .ref kl, .int cm, .int cn, .ref ko])), (k0, .inl (cI, 1201, .inl c0)), (k4, .inl (cI, 6, .inl c4)), (k5, .inl (cI, 4, .inl c5)), (k6, .inl (cI, 4, .inl c6)), (k7, .inl (cI, 144, .inl c7))] sz)) 0 0 (va_A [(k, .inr (11, [.ref k0, .ref k1, .ref k2, .int c3, .ref k4, .ref k5, .ref k6, .ref k7, .ref k8, .int c9, .ref ka, .ref kb, .int cc, .int cd, .int ce, .int cf, .int cg, .int ch, .int ci, .int cj, .int ck, .ref kl, .int cm, .int cn, .ref ko])), (k0, .inl (cI, 1201, .inl c0)), (k4, .inl (cI, 6, .inl c4)), (k5, .inl (cI, 4, .inl c5)), (k6, .inl (cI, 4, .inl c6)), (k7, .inl (cI, 144, .inl c7))] sz) := by
  refine kMetIX (own := RX11) (by decide +kernel) rfl (Nat.le_of_ble_eq_true rfl) ?_
  intro p e s m args below meth c hx hb hT hown hname hml A Q hK hP hD hS hA hN hXS hRet ls hl
  have hl : lv_has ls 5 [(0, .ref k), (1, .int a0), (2, .int a1)] := hl
  have lo_a0 := k_lo a0
  have hi_a0 := k_hi a0
  have lo_a1 := k_lo a1
  have hi_a1 := k_hi a1
  have lo_ci := k_lo ci
  have hi_ci := k_hi ci
  have hln : 0 ≤ a0.toInt → a0.toInt ≤ 3 → 0 ≤ (c6 a0.toNatClampNeg).toInt ∧ (c6 a0.toNatClampNeg).toInt ≤ 36 := fun z0 z1 => pre1 a0.toNatClampNeg (by rw [k_clamp]; omega)
  have pre0 : SIX c0 (-1) := pre0
  have nb_1 : 0 ≤ (c0 0).toInt ∧ (c0 0).toInt ≤ 2000 := SB.n0 (And.left pre0)
  have nb_2 : 0 ≤ (c0 1).toInt ∧ (c0 1).toInt ≤ 60 := SB.n1 (And.left pre0)
  have nb_3 : 0 ≤ (c0 2).toInt ∧ (c0 2).toInt ≤ 4 := SB.n2 (And.left pre0)
  refine lv_iload_n hx hb dX11_soils_0 rfl (lv_at hl 1 rfl) ?_
  refine kJi (wr := [(k, .inr (11, [.ref k0, .ref k1, .ref k2, .int c3, .ref k4, .ref k5, .ref k6, .ref k7, .ref k8, .int c9, .ref ka, .ref kb, .int cc, .int cd, .int ce, .int cf, .int cg, .int ch, .int ci, .int cj, .int ck, .ref kl, .int cm, .int cn, .ref ko])), (k0, .inl (cI, 1201, .inl c0)), (k4, .inl (cI, 6, .inl c4)), (k5, .inl (cI, 4, .inl c5)), (k6, .inl (cI, 4, .inl c6)), (k7, .inl (cI, 144, .inl c7))]) (va_runS (As := [.int a0]) (rest := []) ⟨hx, hb, hml, hown, hT⟩ (c_X11_isSheetG l D cI aK aV s.heap.size a0) (cwS 1 hT (gS_in mw_1391 mw_1389 mw_1390 mw_12) rfl rfl rfl (by decide +kernel) ⟨Nat.le_of_ble_eq_true rfl, Nat.le_of_ble_eq_true rfl⟩) (kStatX hK hP hD hN hXS hS hA [] rfl (by decide +kernel)) rfl rfl hl.1 rfl (lv_room (Nat.le_of_ble_eq_true rfl)) dX11_soils_1 ⟨Nat.le_of_ble_eq_true rfl, Nat.le_of_ble_eq_true rfl⟩) hP hD hS hA [] [0, 1, 2, 3, 4, 5] rfl rfl (by decide +kernel) (by decide +kernel) ?_
  clear hP hD hS
  intro r_4 u_6 H locs w_5 hP hD hS
  replace hP : va_P D vwCl [(k, .inr (11, [.ref k0, .ref k1, .ref k2, .int c3, .ref k4, .ref k5, .ref k6, .ref k7, .ref k8, .int c9, .ref ka, .ref kb, .int cc, .int cd, .int ce, .int cf, .int cg, .int ch, .int ci, .int cj, .int ck, .ref kl, .int cm, .int cn, .ref ko])), (k0, .inl (cI, 1201, .inl c0)), (k4, .inl (cI, 6, .inl c4)), (k5, .inl (cI, 4, .inl c5)), (k6, .inl (cI, 4, .inl c6)), (k7, .inl (cI, 144, .inl c7))] H := hP
  replace hD : va_D A [(k, .inr (11, [.ref k0, .ref k1, .ref k2, .int c3, .ref k4, .ref k5, .ref k6, .ref k7, .ref k8, .int c9, .ref ka, .ref kb, .int cc, .int cd, .int ce, .int cf, .int cg, .int ch, .int ci, .int cj, .int ck, .ref kl, .int cm, .int cn, .ref ko])), (k0, .inl (cI, 1201, .inl c0)), (k4, .inl (cI, 6, .inl c4)), (k5, .inl (cI, 4, .inl c5)), (k6, .inl (cI, 4, .inl c6)), (k7, .inl (cI, 144, .inl c7))] := hD
  rcases w_5 with ⟨hr_4, h_7, h_8⟩ | ⟨hr_4, h_9⟩
  · have h_7 : 0 ≤ a0.toInt := h_7
    have h_8 : a0.toInt ≤ 3 := h_8
    obtain rfl : r_4 = 1 := hr_4.trans (by decide +kernel)
    refine b_if_eq hx hb zl_1 (tgt := 14) dX11_soils_4 (by decide +kernel) (fun c_10 => by exfalso; omega) (fun c_10 => ?_)
    refine lv_iload_n hx hb dX11_soils_7 rfl (lv_at hl 2 rfl) ?_
    refine kJi (wr := [(k, .inr (11, [.ref k0, .ref k1, .ref k2, .int c3, .ref k4, .ref k5, .ref k6, .ref k7, .ref k8, .int c9, .ref ka, .ref kb, .int cc, .int cd, .int ce, .int cf, .int cg, .int ch, .int ci, .int cj, .int ck, .ref kl, .int cm, .int cn, .ref ko])), (k0, .inl (cI, 1201, .inl c0)), (k4, .inl (cI, 6, .inl c4)), (k5, .inl (cI, 4, .inl c5)), (k6, .inl (cI, 4, .inl c6)), (k7, .inl (cI, 144, .inl c7))]) (va_runS (As := [.int a1]) (rest := []) ⟨hx, hb, hml, hown, hT⟩ (c_X11_isMileG l D cI aK aV H.size a1) (cwS 1 hT (gS_in mw_1251 mw_1249 mw_1250 mw_12) rfl rfl rfl (by decide +kernel) ⟨Nat.le_of_ble_eq_true rfl, Nat.le_of_ble_eq_true rfl⟩) (kStatX hK hP hD hN hXS hS hA [] rfl (by decide +kernel)) rfl rfl hl.1 rfl (lv_room (Nat.le_of_ble_eq_true rfl)) dX11_soils_8 ⟨Nat.le_of_ble_eq_true rfl, Nat.le_of_ble_eq_true rfl⟩) hP hD hS hA [] [0, 1, 2, 3, 4, 5] rfl rfl (by decide +kernel) (by decide +kernel) ?_
    clear hP hD hS
    intro r_11 u_13 H locs w_12 hP hD hS
    replace hP : va_P D vwCl [(k, .inr (11, [.ref k0, .ref k1, .ref k2, .int c3, .ref k4, .ref k5, .ref k6, .ref k7, .ref k8, .int c9, .ref ka, .ref kb, .int cc, .int cd, .int ce, .int cf, .int cg, .int ch, .int ci, .int cj, .int ck, .ref kl, .int cm, .int cn, .ref ko])), (k0, .inl (cI, 1201, .inl c0)), (k4, .inl (cI, 6, .inl c4)), (k5, .inl (cI, 4, .inl c5)), (k6, .inl (cI, 4, .inl c6)), (k7, .inl (cI, 144, .inl c7))] H := hP
    replace hD : va_D A [(k, .inr (11, [.ref k0, .ref k1, .ref k2, .int c3, .ref k4, .ref k5, .ref k6, .ref k7, .ref k8, .int c9, .ref ka, .ref kb, .int cc, .int cd, .int ce, .int cf, .int cg, .int ch, .int ci, .int cj, .int ck, .ref kl, .int cm, .int cn, .ref ko])), (k0, .inl (cI, 1201, .inl c0)), (k4, .inl (cI, 6, .inl c4)), (k5, .inl (cI, 4, .inl c5)), (k6, .inl (cI, 4, .inl c6)), (k7, .inl (cI, 144, .inl c7))] := hD
    rcases w_12 with ⟨hr_11, h_14, h_15⟩ | ⟨hr_11, h_16⟩
    · have h_14 : 0 ≤ a1.toInt := h_14
      have h_15 : a1.toInt ≤ 39 := h_15
      obtain rfl : r_11 = 1 := hr_11.trans (by decide +kernel)
      refine b_if_ne hx hb zl_1 (tgt := 21) dX11_soils_11 (by decide +kernel) (fun c_17 => ?_) (fun c_17 => by exfalso; omega)
      refine lv_aload_n hx hb dX11_soils_21 rfl (lv_at hl 0 rfl) ?_
      refine va_get (D := D) (ci := 11) (v := .ref k5) (C := RX11) (T := TX11) (N := 25) hx hb hT giX11 hown hK hP 0 rfl rfl 5 (by decide +kernel) (hT (Cond.fieldLink RX11 22 "DesertWireModel" "bits" "[I") mw_1161) (fun _ h9 => h9) rfl dX11_soils_22 ?_
      refine lv_iload_n hx hb dX11_soils_25 rfl (lv_at hl 1 rfl) ?_
      refine k_iald (v := (c5 a0.toNatClampNeg)) hx hb hK hP 3 0 rfl rfl (k_in (by omega) (by omega)) rfl dX11_soils_26 ?_
      refine lv_topi (fun v_18 ev_18 => ?_)
      have lo_v_18 := k_lo v_18
      have hi_v_18 := k_hi v_18
      have tv_18 : v_18.toInt = (c5 a0.toNatClampNeg).toInt := by rw [ev_18]
      refine b_if_ne hx hb rfl (tgt := 37) dX11_soils_27 (by decide +kernel) (fun c_19 => ?_) (fun c_19 => ?_)
      · refine lv_iload_n hx hb dX11_soils_37 rfl (lv_at hl 2 rfl) ?_
        refine lv_aload_n hx hb dX11_soils_38 rfl (lv_at hl 0 rfl) ?_
        refine va_get (D := D) (ci := 11) (v := .ref k6) (C := RX11) (T := TX11) (N := 25) hx hb hT giX11 hown hK hP 0 rfl rfl 6 (by decide +kernel) (hT (Cond.fieldLink RX11 25 "DesertWireModel" "size" "[I") mw_1162) (fun _ h9 => h9) rfl dX11_soils_39 ?_
        refine lv_iload_n hx hb dX11_soils_42 rfl (lv_at hl 1 rfl) ?_
        refine k_iald (v := (c6 a0.toNatClampNeg)) hx hb hK hP 4 0 rfl rfl (k_in (by omega) (by omega)) rfl dX11_soils_43 ?_
        refine lv_topi (fun v_20 ev_20 => ?_)
        have lo_v_20 := k_lo v_20
        have hi_v_20 := k_hi v_20
        have tv_20 : v_20.toInt = (c6 a0.toNatClampNeg).toInt := by rw [ev_20]
        have b_21 : 0 ≤ v_20.toInt ∧ v_20.toInt ≤ 36 := by rw [tv_20]; exact pre1 a0.toNatClampNeg (by rw [k_clamp]; omega)
        refine lv_iadd hx hb dX11_soils_44 ?_
        refine lv_topi (fun v_22 ev_22 => ?_)
        have tv_22 : v_22.toInt = a1.toInt + v_20.toInt := by rw [ev_22]; exact k_addv rfl rfl (by omega) (by omega)
        refine lv_bipush (v := 40) hx hb dX11_soils_45 (by decide +kernel) ?_
        refine b_icmp_le hx hb rfl zl_40 (tgt := 57) dX11_soils_47 (by decide +kernel) (fun c_23 => ?_) (fun c_23 => ?_)
        · refine lv_iconst (v := 0) hx hb dX11_soils_57 (by decide +kernel) ?_
          refine lv_istore_n (lv' := [(3, .int 0), (0, .ref k), (1, .int a0), (2, .int a1)]) hx hb dX11_soils_58 rfl hl (by decide +kernel) rfl ?_
          clear hl
          intro ls hl
          refine lv_iconst (v := 0) hx hb dX11_soils_59 (by decide +kernel) ?_
          refine lv_istore (lv' := [(4, .int 0), (3, .int 0), (0, .ref k), (1, .int a0), (2, .int a1)]) hx hb dX11_soils_60 hl (by decide +kernel) rfl ?_
          clear hl
          intro ls hl
          have hloop_62 : ∀ (fu_ : Nat) (l62_4 : Int32), 0 ≤ l62_4.toInt → l62_4.toInt ≤ (c6 a0.toNatClampNeg).toInt → l62_4.toInt ≤ 36 → allB (shv c7 a0) (-1) 2 l62_4.toInt.toNat = true → (36 - l62_4.toInt).toNat < fu_ → ∀ (ls : Array Slot) (H : Heap) (locs : List Loc), lv_has ls 5 [(4, .int l62_4), (3, .int 0), (0, .ref k), (1, .int a0), (2, .int a1)] → va_P D vwCl [(k, .inr (11, [.ref k0, .ref k1, .ref k2, .int c3, .ref k4, .ref k5, .ref k6, .ref k7, .ref k8, .int c9, .ref ka, .ref kb, .int cc, .int cd, .int ce, .int cf, .int cg, .int ch, .int ci, .int cj, .int ck, .ref kl, .int cm, .int cn, .ref ko])), (k0, .inl (cI, 1201, .inl c0)), (k4, .inl (cI, 6, .inl c4)), (k5, .inl (cI, 4, .inl c5)), (k6, .inl (cI, 4, .inl c6)), (k7, .inl (cI, 144, .inl c7))] H → va_D A [(k, .inr (11, [.ref k0, .ref k1, .ref k2, .int c3, .ref k4, .ref k5, .ref k6, .ref k7, .ref k8, .int c9, .ref ka, .ref kb, .int cc, .int cd, .int ce, .int cf, .int cg, .int ch, .int ci, .int cj, .int ck, .ref kl, .int cm, .int cn, .ref ko])), (k0, .inl (cI, 1201, .inl c0)), (k4, .inl (cI, 6, .inl c4)), (k5, .inl (cI, 4, .inl c5)), (k6, .inl (cI, 4, .inl c6)), (k7, .inl (cI, 144, .inl c7))] → va_S A s.heap H locs → W p l e ({ frames := 2, cells := 0, slots := 0, locals := 42 } : Room) s m args below meth c H locs 0 0 Q (F0 m 62 ls []) := by
            intro fu_; induction fu_ with
            | zero => intro l62_4 i62_0 i62_1 i62_2 i62_3 hm; exact absurd hm (by omega)
            | succ fu_ ih62 =>
                intro l62_4 i62_0 i62_1 i62_2 i62_3 hm ls H locs hl hP hD hS
                have lo_l62_4 := k_lo l62_4
                have hi_l62_4 := k_hi l62_4
                have i62_3 : allB (shv c7 a0) (-1) 2 l62_4.toInt.toNat = true := i62_3
                refine lv_iload hx hb dX11_soils_62 (lv_at hl 0 rfl) ?_
                refine lv_aload_n hx hb dX11_soils_64 rfl (lv_at hl 2 rfl) ?_
                refine va_get (D := D) (ci := 11) (v := .ref k6) (C := RX11) (T := TX11) (N := 25) hx hb hT giX11 hown hK hP 0 rfl rfl 6 (by decide +kernel) (hT (Cond.fieldLink RX11 25 "DesertWireModel" "size" "[I") mw_1162) (fun _ h9 => h9) rfl dX11_soils_65 ?_
                refine lv_iload_n hx hb dX11_soils_68 rfl (lv_at hl 3 rfl) ?_
                refine k_iald (v := (c6 a0.toNatClampNeg)) hx hb hK hP 4 0 rfl rfl (k_in (by omega) (by omega)) rfl dX11_soils_69 ?_
                refine lv_topi (fun v_24 ev_24 => ?_)
                have lo_v_24 := k_lo v_24
                have hi_v_24 := k_hi v_24
                have tv_24 : v_24.toInt = (c6 a0.toNatClampNeg).toInt := by rw [ev_24]
                have b_25 : 0 ≤ v_24.toInt ∧ v_24.toInt ≤ 36 := by rw [tv_24]; exact pre1 a0.toNatClampNeg (by rw [k_clamp]; omega)
                refine b_icmp_ge hx hb rfl rfl (tgt := 101) dX11_soils_70 (by decide +kernel) (fun c_26 => ?_) (fun c_26 => ?_)
                · refine lv_iconst (v := 0) hx hb dX11_soils_101 (by decide +kernel) ?_
                  refine lv_istore (lv' := [(4, .int 0), (3, .int 0), (0, .ref k), (1, .int a0), (2, .int a1)]) hx hb dX11_soils_102 hl (by decide +kernel) rfl ?_
                  clear hl
                  intro ls hl
                  have hloop_104 : ∀ (fu_ : Nat) (l104_3 : Int32) (l104_4 : Int32) (g104_k0 : Nat → Int32), 0 ≤ l104_4.toInt → l104_4.toInt ≤ (c6 a0.toNatClampNeg).toInt → l104_4.toInt ≤ 36 → SIX g104_k0 (-1) → g104_k0 = soW c0 (19 + a1.toInt.toNat) (shv c7 a0) l104_4.toInt.toNat → l104_3 = cntB (shv c7 a0) l104_4.toInt.toNat → (36 - l104_4.toInt).toNat < fu_ → ∀ (ls : Array Slot) (H : Heap) (locs : List Loc), lv_has ls 5 [(4, .int l104_4), (3, .int l104_3), (0, .ref k), (1, .int a0), (2, .int a1)] → va_P D vwCl [(k, .inr (11, [.ref k0, .ref k1, .ref k2, .int c3, .ref k4, .ref k5, .ref k6, .ref k7, .ref k8, .int c9, .ref ka, .ref kb, .int cc, .int cd, .int ce, .int cf, .int cg, .int ch, .int ci, .int cj, .int ck, .ref kl, .int cm, .int cn, .ref ko])), (k0, .inl (cI, 1201, .inl g104_k0)), (k4, .inl (cI, 6, .inl c4)), (k5, .inl (cI, 4, .inl c5)), (k6, .inl (cI, 4, .inl c6)), (k7, .inl (cI, 144, .inl c7))] H → va_D A [(k, .inr (11, [.ref k0, .ref k1, .ref k2, .int c3, .ref k4, .ref k5, .ref k6, .ref k7, .ref k8, .int c9, .ref ka, .ref kb, .int cc, .int cd, .int ce, .int cf, .int cg, .int ch, .int ci, .int cj, .int ck, .ref kl, .int cm, .int cn, .ref ko])), (k0, .inl (cI, 1201, .inl g104_k0)), (k4, .inl (cI, 6, .inl c4)), (k5, .inl (cI, 4, .inl c5)), (k6, .inl (cI, 4, .inl c6)), (k7, .inl (cI, 144, .inl c7))] → va_S A s.heap H locs → W p l e ({ frames := 2, cells := 0, slots := 0, locals := 42 } : Room) s m args below meth c H locs 0 0 Q (F0 m 104 ls []) := by
                    intro fu_; induction fu_ with
                    | zero => intro l104_3 l104_4 g104_k0 i104_0 i104_1 i104_2 i104_3 i104_4 i104_5 hm; exact absurd hm (by omega)
                    | succ fu_ ih104 =>
                        intro l104_3 l104_4 g104_k0 i104_0 i104_1 i104_2 i104_3 i104_4 i104_5 hm ls H locs hl hP hD hS
                        have lo_l104_3 := k_lo l104_3
                        have hi_l104_3 := k_hi l104_3
                        have lo_l104_4 := k_lo l104_4
                        have hi_l104_4 := k_hi l104_4
                        have i104_3 : SIX g104_k0 (-1) := i104_3
                        have i104_4 : g104_k0 = soW c0 (19 + a1.toInt.toNat) (shv c7 a0) l104_4.toInt.toNat := i104_4
                        have i104_5 : l104_3 = cntB (shv c7 a0) l104_4.toInt.toNat := i104_5
                        refine lv_iload hx hb dX11_soils_104 (lv_at hl 0 rfl) ?_
                        refine lv_aload_n hx hb dX11_soils_106 rfl (lv_at hl 2 rfl) ?_
                        refine va_get (D := D) (ci := 11) (v := .ref k6) (C := RX11) (T := TX11) (N := 25) hx hb hT giX11 hown hK hP 0 rfl rfl 6 (by decide +kernel) (hT (Cond.fieldLink RX11 25 "DesertWireModel" "size" "[I") mw_1162) (fun _ h9 => h9) rfl dX11_soils_107 ?_
                        refine lv_iload_n hx hb dX11_soils_110 rfl (lv_at hl 3 rfl) ?_
                        refine k_iald (v := (c6 a0.toNatClampNeg)) hx hb hK hP 4 0 rfl rfl (k_in (by omega) (by omega)) rfl dX11_soils_111 ?_
                        refine lv_topi (fun v_27 ev_27 => ?_)
                        have lo_v_27 := k_lo v_27
                        have hi_v_27 := k_hi v_27
                        have tv_27 : v_27.toInt = (c6 a0.toNatClampNeg).toInt := by rw [ev_27]
                        have b_28 : 0 ≤ v_27.toInt ∧ v_27.toInt ≤ 36 := by rw [tv_27]; exact pre1 a0.toNatClampNeg (by rw [k_clamp]; omega)
                        refine b_icmp_ge hx hb rfl rfl (tgt := 153) dX11_soils_112 (by decide +kernel) (fun c_29 => ?_) (fun c_29 => ?_)
                        · refine lv_iload_n hx hb dX11_soils_153 rfl (lv_at hl 1 rfl) ?_
                          exact hRet (g104_k0, c4) [0, 1, 2, 3, 4, 5] ⟨i104_3, (by (try dsimp only); unfold soilR; rw [if_pos (by omega), if_neg (by omega), if_neg (by omega), if_pos (show allB (shv c7 a0) (-1) 2 (c6 a0.toNatClampNeg).toInt.toNat = true from (by rw [show (c6 a0.toNatClampNeg).toInt.toNat = l62_4.toInt.toNat from by omega]; exact i62_3)), show (c6 a0.toNatClampNeg).toInt.toNat = l104_4.toInt.toNat from by omega]; exact i104_5), (by (try dsimp only); unfold soilS; rw [if_pos (by omega), if_neg (by omega), if_neg (by omega), if_pos (show allB (shv c7 a0) (-1) 2 (c6 a0.toNatClampNeg).toInt.toNat = true from (by rw [show (c6 a0.toNatClampNeg).toInt.toNat = l62_4.toInt.toNat from by omega]; exact i62_3)), show (c6 a0.toNatClampNeg).toInt.toNat = l104_4.toInt.toNat from by omega]; exact i104_4)⟩ hP hD (by decide +kernel) rfl hS rfl dX11_soils_154
                        · refine lv_aload_n hx hb dX11_soils_115 rfl (lv_at hl 2 rfl) ?_
                          refine lv_iload_n hx hb dX11_soils_116 rfl (lv_at hl 3 rfl) ?_
                          refine lv_iload hx hb dX11_soils_117 (lv_at hl 0 rfl) ?_
                          refine kJi (wr := [(k0, .inl (cI, 1201, .inl g104_k0)), (k4, .inl (cI, 6, .inl c4)), (k5, .inl (cI, 4, .inl c5)), (k6, .inl (cI, 4, .inl c6))]) (va_runV (As := [.int a0, .int l104_4]) (rest := []) ⟨hx, hb, hml, hown, hT⟩ (c_X11_atG l D cI aK aV k k0 k1 k2 k4 k5 k6 k7 k8 ka kb kl ko H.size c3 c9 cc cd ce cf cg ch ci cj ck cm cn c7 a0 l104_4 (by first | omega | decide | assumption | rfl) (by first | omega | decide | assumption | rfl) (by first | omega | decide | assumption | rfl) (by first | omega | decide | assumption | rfl)) (cwV 2 hT (gV_in mw_1396 mw_1393 mw_1395 mw_p5_2 mw_12) rfl rfl rfl (by decide +kernel) ⟨Nat.le_of_ble_eq_true rfl, Nat.le_of_ble_eq_true rfl⟩) (kRecvX (q0 := 0) (ci := 11) hK hP hD hN hXS hS hA rfl rfl [0, 5] rfl (by decide +kernel)) rfl rfl hl.1 rfl (lv_room (Nat.le_of_ble_eq_true rfl)) dX11_soils_119 ⟨Nat.le_of_ble_eq_true rfl, Nat.le_of_ble_eq_true rfl⟩) hP hD hS hA [0, 5] [1, 2, 3, 4] rfl rfl (by decide +kernel) (by decide +kernel) ?_
                          clear hP hD hS
                          intro r_30 u_32 H locs w_31 hP hD hS
                          replace hP : va_P D vwCl [(k0, .inl (cI, 1201, .inl g104_k0)), (k4, .inl (cI, 6, .inl c4)), (k5, .inl (cI, 4, .inl c5)), (k6, .inl (cI, 4, .inl c6)), (k, .inr (11, [.ref k0, .ref k1, .ref k2, .int c3, .ref k4, .ref k5, .ref k6, .ref k7, .ref k8, .int c9, .ref ka, .ref kb, .int cc, .int cd, .int ce, .int cf, .int cg, .int ch, .int ci, .int cj, .int ck, .ref kl, .int cm, .int cn, .ref ko])), (k7, .inl (cI, 144, .inl c7))] H := hP
                          replace hD : va_D A [(k0, .inl (cI, 1201, .inl g104_k0)), (k4, .inl (cI, 6, .inl c4)), (k5, .inl (cI, 4, .inl c5)), (k6, .inl (cI, 4, .inl c6)), (k, .inr (11, [.ref k0, .ref k1, .ref k2, .int c3, .ref k4, .ref k5, .ref k6, .ref k7, .ref k8, .int c9, .ref ka, .ref kb, .int cc, .int cd, .int ce, .int cf, .int cg, .int ch, .int ci, .int cj, .int ck, .ref kl, .int cm, .int cn, .ref ko])), (k7, .inl (cI, 144, .inl c7))] := hD
                          have h_33 := w_31
                          have h_33 : r_30 = c7 (36 * a0.toInt.toNat + l104_4.toInt.toNat) := h_33
                          have h_33 : r_30 = c7 (36 * a0.toInt.toNat + l104_4.toInt.toNat) := h_33
                          have b_34 : -1 ≤ r_30.toInt ∧ r_30.toInt ≤ 2 := by rw [h_33]; exact allB_all _ i62_3 l104_4.toInt.toNat (by omega)
                          have lo_r_30 := k_lo r_30
                          have hi_r_30 := k_hi r_30
                          refine b_if_lt hx hb rfl (tgt := 147) dX11_soils_122 (by decide +kernel) (fun c_35 => ?_) (fun c_35 => ?_)
                          · obtain ⟨v_36, ev_36⟩ : ∃ y : Int32, y = l104_4 + 1 := ⟨_, rfl⟩
                            have tv_36 : v_36.toInt = l104_4.toInt + 1 := by rw [ev_36]; exact k_addv rfl zl_1 (by omega) (by omega)
                            refine lv_iinc (v := v_36) (lv' := [(4, .int v_36), (3, .int l104_3), (0, .ref k), (1, .int a0), (2, .int a1)]) hx hb dX11_soils_147 hl (k := 0) rfl (by rw [ev_36]; rfl) (by decide +kernel) rfl ?_
                            clear hl
                            intro ls hl
                            refine lv_goto (tgt := 104) hx hb dX11_soils_150 (by decide +kernel) ?_
                            exact ih104 l104_3 v_36 g104_k0 (by first | omega | decide | assumption | rfl) (by first | omega | decide | assumption | rfl) (by first | omega | decide | assumption | rfl) i104_3 (so_no i104_4 i104_5 (by omega) (by omega) h_33 (by omega)).1 (so_no i104_4 i104_5 (by omega) (by omega) h_33 (by omega)).2 (by omega) ls _ _ (lv_sub hl [0, 1, 2, 3, 4] rfl) (hP.sub [4, 0, 1, 2, 3, 5] rfl) (hD.sub [4, 0, 1, 2, 3, 5] (by decide +kernel) rfl) hS
                          · refine lv_aload_n hx hb dX11_soils_125 rfl (lv_at hl 2 rfl) ?_
                            refine va_get (D := D) (ci := 11) (v := .ref k0) (C := RX11) (T := TX11) (N := 25) hx hb hT giX11 hown hK hP 4 rfl rfl 0 (by decide +kernel) (hT (Cond.fieldLink RX11 9 "DesertWireModel" "s" "[I") mw_1156) (fun _ h9 => h9) rfl dX11_soils_126 ?_
                            refine lv_bipush (v := 19) hx hb dX11_soils_129 (by decide +kernel) ?_
                            refine lv_iload_n hx hb dX11_soils_131 rfl (lv_at hl 4 rfl) ?_
                            refine lv_iadd hx hb dX11_soils_132 ?_
                            refine lv_topi (fun v_37 ev_37 => ?_)
                            have tv_37 : v_37.toInt = 19 + a1.toInt := by rw [ev_37]; exact k_addv zl_19 rfl (by omega) (by omega)
                            refine lv_iload hx hb dX11_soils_133 (lv_at hl 0 rfl) ?_
                            refine lv_iadd hx hb dX11_soils_135 ?_
                            refine lv_topi (fun v_38 ev_38 => ?_)
                            have tv_38 : v_38.toInt = v_37.toInt + l104_4.toInt := by rw [ev_38]; exact k_addv rfl rfl (by omega) (by omega)
                            refine lv_aload_n hx hb dX11_soils_136 rfl (lv_at hl 2 rfl) ?_
                            refine lv_iload_n hx hb dX11_soils_137 rfl (lv_at hl 3 rfl) ?_
                            refine lv_iload hx hb dX11_soils_138 (lv_at hl 0 rfl) ?_
                            refine kJi (wr := [(k0, .inl (cI, 1201, .inl g104_k0)), (k4, .inl (cI, 6, .inl c4)), (k5, .inl (cI, 4, .inl c5)), (k6, .inl (cI, 4, .inl c6))]) (va_runV (As := [.int a0, .int l104_4]) (rest := [.int v_38, .ref k0]) ⟨hx, hb, hml, hown, hT⟩ (c_X11_atG l D cI aK aV k k0 k1 k2 k4 k5 k6 k7 k8 ka kb kl ko H.size c3 c9 cc cd ce cf cg ch ci cj ck cm cn c7 a0 l104_4 (by first | omega | decide | assumption | rfl) (by first | omega | decide | assumption | rfl) (by first | omega | decide | assumption | rfl) (by first | omega | decide | assumption | rfl)) (cwV 2 hT (gV_in mw_1396 mw_1393 mw_1395 mw_p5_2 mw_12) rfl rfl rfl (by decide +kernel) ⟨Nat.le_of_ble_eq_true rfl, Nat.le_of_ble_eq_true rfl⟩) (kRecvX (q0 := 4) (ci := 11) hK hP hD hN hXS hS hA rfl rfl [4, 5] rfl (by decide +kernel)) rfl rfl hl.1 rfl (lv_room (Nat.le_of_ble_eq_true rfl)) dX11_soils_140 ⟨Nat.le_of_ble_eq_true rfl, Nat.le_of_ble_eq_true rfl⟩) hP hD hS hA [4, 5] [0, 1, 2, 3] rfl rfl (by decide +kernel) (by decide +kernel) ?_
                            clear hP hD hS
                            intro r_39 u_41 H locs w_40 hP hD hS
                            replace hP : va_P D vwCl [(k0, .inl (cI, 1201, .inl g104_k0)), (k4, .inl (cI, 6, .inl c4)), (k5, .inl (cI, 4, .inl c5)), (k6, .inl (cI, 4, .inl c6)), (k, .inr (11, [.ref k0, .ref k1, .ref k2, .int c3, .ref k4, .ref k5, .ref k6, .ref k7, .ref k8, .int c9, .ref ka, .ref kb, .int cc, .int cd, .int ce, .int cf, .int cg, .int ch, .int ci, .int cj, .int ck, .ref kl, .int cm, .int cn, .ref ko])), (k7, .inl (cI, 144, .inl c7))] H := hP
                            replace hD : va_D A [(k0, .inl (cI, 1201, .inl g104_k0)), (k4, .inl (cI, 6, .inl c4)), (k5, .inl (cI, 4, .inl c5)), (k6, .inl (cI, 4, .inl c6)), (k, .inr (11, [.ref k0, .ref k1, .ref k2, .int c3, .ref k4, .ref k5, .ref k6, .ref k7, .ref k8, .int c9, .ref ka, .ref kb, .int cc, .int cd, .int ce, .int cf, .int cg, .int ch, .int ci, .int cj, .int ck, .ref kl, .int cm, .int cn, .ref ko])), (k7, .inl (cI, 144, .inl c7))] := hD
                            have h_42 := w_40
                            have h_42 : r_39 = c7 (36 * a0.toInt.toNat + l104_4.toInt.toNat) := h_42
                            have h_42 : r_39 = c7 (36 * a0.toInt.toNat + l104_4.toInt.toNat) := h_42
                            have q_43 : r_39.toInt = r_30.toInt := by rw [h_42, h_33]
                            have b_44 : -1 ≤ r_39.toInt ∧ r_39.toInt ≤ 2 := by rw [h_42]; exact allB_all _ i62_3 l104_4.toInt.toNat (by omega)
                            have lo_r_39 := k_lo r_39
                            have hi_r_39 := k_hi r_39
                            refine va_iast hx hb hK hP hD hS 0 0 rfl rfl (k_in (by omega) (by omega)) dX11_soils_143 ?_
                            clear hP hD hS
                            intro H locs hP hD hS
                            replace hP : va_P D vwCl [(k0, .inl (cI, 1201, .inl (upd g104_k0 v_38.toNatClampNeg r_39))), (k4, .inl (cI, 6, .inl c4)), (k5, .inl (cI, 4, .inl c5)), (k6, .inl (cI, 4, .inl c6)), (k, .inr (11, [.ref k0, .ref k1, .ref k2, .int c3, .ref k4, .ref k5, .ref k6, .ref k7, .ref k8, .int c9, .ref ka, .ref kb, .int cc, .int cd, .int ce, .int cf, .int cg, .int ch, .int ci, .int cj, .int ck, .ref kl, .int cm, .int cn, .ref ko])), (k7, .inl (cI, 144, .inl c7))] H := hP
                            replace hD : va_D A [(k0, .inl (cI, 1201, .inl (upd g104_k0 v_38.toNatClampNeg r_39))), (k4, .inl (cI, 6, .inl c4)), (k5, .inl (cI, 4, .inl c5)), (k6, .inl (cI, 4, .inl c6)), (k, .inr (11, [.ref k0, .ref k1, .ref k2, .int c3, .ref k4, .ref k5, .ref k6, .ref k7, .ref k8, .int c9, .ref ka, .ref kb, .int cc, .int cd, .int ce, .int cf, .int cg, .int ch, .int ci, .int cj, .int ck, .ref kl, .int cm, .int cn, .ref ko])), (k7, .inl (cI, 144, .inl c7))] := hD
                            obtain ⟨f_45, ef_45⟩ : ∃ g : Nat → Int32, g = upd g104_k0 v_38.toNatClampNeg r_39 := ⟨_, rfl⟩
                            rw [← ef_45] at hP hD
                            have hS_46 : SIX f_45 (-1) := by first | exact SIX.free i104_3 ef_45 (by rw [k_clamp]; omega) | exact SIX.so i104_3 ef_45 (by rw [k_clamp]; omega) (by omega)
                            have n_47 : (f_45 0).toInt = (g104_k0 0).toInt := by rw [updN ef_45 (by rw [k_clamp]; omega)]
                            have n_48 : (f_45 1).toInt = (g104_k0 1).toInt := by rw [updN ef_45 (by rw [k_clamp]; omega)]
                            have n_49 : (f_45 2).toInt = (g104_k0 2).toInt := by rw [updN ef_45 (by rw [k_clamp]; omega)]
                            obtain ⟨v_50, ev_50⟩ : ∃ y : Int32, y = l104_3 + 1 := ⟨_, rfl⟩
                            have lo_v_50 := k_lo v_50
                            have hi_v_50 := k_hi v_50
                            refine lv_iinc (v := v_50) (lv' := [(3, .int v_50), (4, .int l104_4), (0, .ref k), (1, .int a0), (2, .int a1)]) hx hb dX11_soils_144 hl (k := 1) rfl (by rw [ev_50]; rfl) (by decide +kernel) rfl ?_
                            clear hl
                            intro ls hl
                            obtain ⟨v_51, ev_51⟩ : ∃ y : Int32, y = l104_4 + 1 := ⟨_, rfl⟩
                            have tv_51 : v_51.toInt = l104_4.toInt + 1 := by rw [ev_51]; exact k_addv rfl zl_1 (by omega) (by omega)
                            refine lv_iinc (v := v_51) (lv' := [(4, .int v_51), (3, .int v_50), (0, .ref k), (1, .int a0), (2, .int a1)]) hx hb dX11_soils_147 hl (k := 1) rfl (by rw [ev_51]; rfl) (by decide +kernel) rfl ?_
                            clear hl
                            intro ls hl
                            refine lv_goto (tgt := 104) hx hb dX11_soils_150 (by decide +kernel) ?_
                            exact ih104 v_50 v_51 f_45 (by first | omega | decide | assumption | rfl) (by first | omega | decide | assumption | rfl) (by first | omega | decide | assumption | rfl) hS_46 (so_yes i104_4 i104_5 (by omega) (by omega) h_42 (by omega) (up_in ef_45 (by omega)) ev_50).1 (so_yes i104_4 i104_5 (by omega) (by omega) h_42 (by omega) (up_in ef_45 (by omega)) ev_50).2 (by omega) ls _ _ (lv_sub hl [0, 1, 2, 3, 4] rfl) (hP.sub [4, 0, 1, 2, 3, 5] rfl) (hD.sub [4, 0, 1, 2, 3, 5] (by decide +kernel) rfl) hS
                  exact hloop_104 _ 0 0 c0 (by first | omega | (simp only [zl_0]; first | done | omega) | decide | assumption | rfl) (by first | omega | (simp only [zl_0]; first | done | omega) | decide | assumption | rfl) (by first | omega | (simp only [zl_0]; first | done | omega) | decide | assumption | rfl) pre0 (by rw [zl_0]; rfl) (by rw [zl_0]; rfl) (Nat.lt_succ_self _) ls _ _ (lv_sub hl [0, 1, 2, 3, 4] rfl) hP hD hS
                · refine lv_aload_n hx hb dX11_soils_73 rfl (lv_at hl 2 rfl) ?_
                  refine lv_iload_n hx hb dX11_soils_74 rfl (lv_at hl 3 rfl) ?_
                  refine lv_iload hx hb dX11_soils_75 (lv_at hl 0 rfl) ?_
                  refine kJi (wr := [(k0, .inl (cI, 1201, .inl c0)), (k4, .inl (cI, 6, .inl c4)), (k5, .inl (cI, 4, .inl c5)), (k6, .inl (cI, 4, .inl c6))]) (va_runV (As := [.int a0, .int l62_4]) (rest := []) ⟨hx, hb, hml, hown, hT⟩ (c_X11_atG l D cI aK aV k k0 k1 k2 k4 k5 k6 k7 k8 ka kb kl ko H.size c3 c9 cc cd ce cf cg ch ci cj ck cm cn c7 a0 l62_4 (by first | omega | decide | assumption | rfl) (by first | omega | decide | assumption | rfl) (by first | omega | decide | assumption | rfl) (by first | omega | decide | assumption | rfl)) (cwV 2 hT (gV_in mw_1396 mw_1393 mw_1395 mw_p5_2 mw_12) rfl rfl rfl (by decide +kernel) ⟨Nat.le_of_ble_eq_true rfl, Nat.le_of_ble_eq_true rfl⟩) (kRecvX (q0 := 0) (ci := 11) hK hP hD hN hXS hS hA rfl rfl [0, 5] rfl (by decide +kernel)) rfl rfl hl.1 rfl (lv_room (Nat.le_of_ble_eq_true rfl)) dX11_soils_77 ⟨Nat.le_of_ble_eq_true rfl, Nat.le_of_ble_eq_true rfl⟩) hP hD hS hA [0, 5] [1, 2, 3, 4] rfl rfl (by decide +kernel) (by decide +kernel) ?_
                  clear hP hD hS
                  intro r_52 u_54 H locs w_53 hP hD hS
                  replace hP : va_P D vwCl [(k0, .inl (cI, 1201, .inl c0)), (k4, .inl (cI, 6, .inl c4)), (k5, .inl (cI, 4, .inl c5)), (k6, .inl (cI, 4, .inl c6)), (k, .inr (11, [.ref k0, .ref k1, .ref k2, .int c3, .ref k4, .ref k5, .ref k6, .ref k7, .ref k8, .int c9, .ref ka, .ref kb, .int cc, .int cd, .int ce, .int cf, .int cg, .int ch, .int ci, .int cj, .int ck, .ref kl, .int cm, .int cn, .ref ko])), (k7, .inl (cI, 144, .inl c7))] H := hP
                  replace hD : va_D A [(k0, .inl (cI, 1201, .inl c0)), (k4, .inl (cI, 6, .inl c4)), (k5, .inl (cI, 4, .inl c5)), (k6, .inl (cI, 4, .inl c6)), (k, .inr (11, [.ref k0, .ref k1, .ref k2, .int c3, .ref k4, .ref k5, .ref k6, .ref k7, .ref k8, .int c9, .ref ka, .ref kb, .int cc, .int cd, .int ce, .int cf, .int cg, .int ch, .int ci, .int cj, .int ck, .ref kl, .int cm, .int cn, .ref ko])), (k7, .inl (cI, 144, .inl c7))] := hD
                  have h_55 := w_53
                  have h_55 : r_52 = c7 (36 * a0.toInt.toNat + l62_4.toInt.toNat) := h_55
                  have h_55 : r_52 = c7 (36 * a0.toInt.toNat + l62_4.toInt.toNat) := h_55
                  have lo_r_52 := k_lo r_52
                  have hi_r_52 := k_hi r_52
                  refine lv_iconst (v := (-1)) hx hb dX11_soils_80 (by decide +kernel) ?_
                  refine lv_iconst (v := 2) hx hb dX11_soils_81 (by decide +kernel) ?_
                  refine kJi (wr := [(k0, .inl (cI, 1201, .inl c0)), (k4, .inl (cI, 6, .inl c4)), (k5, .inl (cI, 4, .inl c5)), (k6, .inl (cI, 4, .inl c6)), (k, .inr (11, [.ref k0, .ref k1, .ref k2, .int c3, .ref k4, .ref k5, .ref k6, .ref k7, .ref k8, .int c9, .ref ka, .ref kb, .int cc, .int cd, .int ce, .int cf, .int cg, .int ch, .int ci, .int cj, .int ck, .ref kl, .int cm, .int cn, .ref ko])), (k7, .inl (cI, 144, .inl c7))]) (va_runS (As := [.int r_52, .int (-1), .int 2]) (rest := []) ⟨hx, hb, hml, hown, hT⟩ (c_X11_inG l D cI aK aV H.size r_52 (-1) 2) (cwS 3 hT (gS_in mw_1238 mw_1236 mw_1237 mw_12) rfl rfl rfl (by decide +kernel) ⟨Nat.le_of_ble_eq_true rfl, Nat.le_of_ble_eq_true rfl⟩) (kStatX hK hP hD hN hXS hS hA [] rfl (by decide +kernel)) rfl rfl hl.1 rfl (lv_room (Nat.le_of_ble_eq_true rfl)) dX11_soils_82 ⟨Nat.le_of_ble_eq_true rfl, Nat.le_of_ble_eq_true rfl⟩) hP hD hS hA [] [0, 1, 2, 3, 4, 5] rfl rfl (by decide +kernel) (by decide +kernel) ?_
                  clear hP hD hS
                  intro r_56 u_58 H locs w_57 hP hD hS
                  replace hP : va_P D vwCl [(k0, .inl (cI, 1201, .inl c0)), (k4, .inl (cI, 6, .inl c4)), (k5, .inl (cI, 4, .inl c5)), (k6, .inl (cI, 4, .inl c6)), (k, .inr (11, [.ref k0, .ref k1, .ref k2, .int c3, .ref k4, .ref k5, .ref k6, .ref k7, .ref k8, .int c9, .ref ka, .ref kb, .int cc, .int cd, .int ce, .int cf, .int cg, .int ch, .int ci, .int cj, .int ck, .ref kl, .int cm, .int cn, .ref ko])), (k7, .inl (cI, 144, .inl c7))] H := hP
                  replace hD : va_D A [(k0, .inl (cI, 1201, .inl c0)), (k4, .inl (cI, 6, .inl c4)), (k5, .inl (cI, 4, .inl c5)), (k6, .inl (cI, 4, .inl c6)), (k, .inr (11, [.ref k0, .ref k1, .ref k2, .int c3, .ref k4, .ref k5, .ref k6, .ref k7, .ref k8, .int c9, .ref ka, .ref kb, .int cc, .int cd, .int ce, .int cf, .int cg, .int ch, .int ci, .int cj, .int ck, .ref kl, .int cm, .int cn, .ref ko])), (k7, .inl (cI, 144, .inl c7))] := hD
                  rcases w_57 with ⟨hr_56, h_59, h_60⟩ | ⟨hr_56, h_61⟩
                  · try simp only [zl_m1, zl_2] at h_59
                    have h_59 : (-1) ≤ r_52.toInt := h_59
                    try simp only [zl_m1, zl_2] at h_60
                    have h_60 : r_52.toInt ≤ 2 := h_60
                    obtain rfl : r_56 = 1 := hr_56.trans (by decide +kernel)
                    refine b_if_ne hx hb zl_1 (tgt := 95) dX11_soils_85 (by decide +kernel) (fun c_62 => ?_) (fun c_62 => by exfalso; omega)
                    obtain ⟨v_63, ev_63⟩ : ∃ y : Int32, y = l62_4 + 1 := ⟨_, rfl⟩
                    have tv_63 : v_63.toInt = l62_4.toInt + 1 := by rw [ev_63]; exact k_addv rfl zl_1 (by omega) (by omega)
                    refine lv_iinc (v := v_63) (lv' := [(4, .int v_63), (3, .int 0), (0, .ref k), (1, .int a0), (2, .int a1)]) hx hb dX11_soils_95 hl (k := 0) rfl (by rw [ev_63]; rfl) (by decide +kernel) rfl ?_
                    clear hl
                    intro ls hl
                    refine lv_goto (tgt := 62) hx hb dX11_soils_98 (by decide +kernel) ?_
                    exact ih62 v_63 (by first | omega | decide | assumption | rfl) (by first | omega | decide | assumption | rfl) (by first | omega | decide | assumption | rfl) (allB_step i62_3 (by omega) (by omega) h_55 (by omega) (by omega)) (by omega) ls _ _ (lv_sub hl [0, 1, 2, 3, 4] rfl) (hP.sub [4, 0, 1, 2, 3, 5] rfl) (hD.sub [4, 0, 1, 2, 3, 5] (by decide +kernel) rfl) hS
                  · try simp only [zl_m1, zl_2] at h_61
                    have h_61 : r_52.toInt < (-1) ∨ 2 < r_52.toInt := h_61
                    obtain rfl : r_56 = 0 := hr_56.trans (by decide +kernel)
                    refine b_if_ne hx hb zl_0 (tgt := 95) dX11_soils_85 (by decide +kernel) (fun c_64 => by exfalso; omega) (fun c_64 => ?_)
                    refine lv_aload_n hx hb dX11_soils_88 rfl (lv_at hl 2 rfl) ?_
                    refine lv_ldc (v := (-1000005)) hx hb hown (hT _ mw_1283) dX11_soils_89 ?_
                    refine kJi (wr := [(k0, .inl (cI, 1201, .inl c0)), (k5, .inl (cI, 4, .inl c5)), (k6, .inl (cI, 4, .inl c6)), (k7, .inl (cI, 144, .inl c7))]) (va_runV (As := [.int (-1000005)]) (rest := []) ⟨hx, hb, hml, hown, hT⟩ (c_X11_findingG l D cI aK aV k k0 k1 k2 k4 k5 k6 k7 k8 ka kb kl ko H.size c3 c9 cc cd ce cf cg ch ci cj ck cm cn c4 (-1000005) (by first | omega | (simp only [zl_m1000005]; first | done | omega) | decide | assumption | rfl) (by first | omega | (simp only [zl_m1000005]; first | done | omega) | decide | assumption | rfl)) (cwV 1 hT (gV_in mw_1243 mw_1240 mw_1242 mw_p3_8 mw_12) rfl rfl rfl (by decide +kernel) ⟨Nat.le_of_ble_eq_true rfl, Nat.le_of_ble_eq_true rfl⟩) (kRecvX (q0 := 4) (ci := 11) hK hP hD hN hXS hS hA rfl rfl [4, 1] rfl (by decide +kernel)) rfl rfl hl.1 rfl (lv_room (Nat.le_of_ble_eq_true rfl)) dX11_soils_91 ⟨Nat.le_of_ble_eq_true rfl, Nat.le_of_ble_eq_true rfl⟩) hP hD hS hA [4, 1] [0, 2, 3, 5] rfl rfl (by decide +kernel) (by decide +kernel) ?_
                    clear hP hD hS
                    intro r_65 sc4_67 H locs w_66 hP hD hS
                    replace hP : va_P D vwCl [(k0, .inl (cI, 1201, .inl c0)), (k5, .inl (cI, 4, .inl c5)), (k6, .inl (cI, 4, .inl c6)), (k7, .inl (cI, 144, .inl c7)), (k, .inr (11, [.ref k0, .ref k1, .ref k2, .int c3, .ref k4, .ref k5, .ref k6, .ref k7, .ref k8, .int c9, .ref ka, .ref kb, .int cc, .int cd, .int ce, .int cf, .int cg, .int ch, .int ci, .int cj, .int ck, .ref kl, .int cm, .int cn, .ref ko])), (k4, .inl (cI, 6, .inl sc4_67))] H := hP
                    replace hD : va_D A [(k0, .inl (cI, 1201, .inl c0)), (k5, .inl (cI, 4, .inl c5)), (k6, .inl (cI, 4, .inl c6)), (k7, .inl (cI, 144, .inl c7)), (k, .inr (11, [.ref k0, .ref k1, .ref k2, .int c3, .ref k4, .ref k5, .ref k6, .ref k7, .ref k8, .int c9, .ref ka, .ref kb, .int cc, .int cd, .int ce, .int cf, .int cg, .int ch, .int ci, .int cj, .int ck, .ref kl, .int cm, .int cn, .ref ko])), (k4, .inl (cI, 6, .inl sc4_67))] := hD
                    have hr_65 := w_66
                    obtain rfl : r_65 = (-1000005) := hr_65.trans (by decide +kernel)
                    exact hRet (c0, sc4_67) [4, 0, 5, 1, 2, 3] ⟨pre0, (by (try dsimp only); unfold soilR; (repeat (first | rw [if_pos (by omega)] | rw [if_neg (by omega)] | rw [if_pos (by assumption)] | rw [if_neg (fun z => absurd ((allB_no (lo := -1) (hi := 2) (n := c6 a0.toNatClampNeg) (by omega) (by omega) h_55 (by omega)).symm.trans z) (by decide +kernel))]))), (by (try dsimp only); unfold soilS; (repeat (first | rw [if_pos (by omega)] | rw [if_neg (by omega)] | rw [if_pos (by assumption)] | rw [if_neg (fun z => absurd ((allB_no (lo := -1) (hi := 2) (n := c6 a0.toNatClampNeg) (by omega) (by omega) h_55 (by omega)).symm.trans z) (by decide +kernel))])))⟩ hP hD (by decide +kernel) rfl hS rfl dX11_soils_94
          exact hloop_62 _ 0 (by first | omega | (simp only [zl_0]; first | done | omega) | decide | assumption | rfl) (by first | omega | (simp only [zl_0]; first | done | omega) | decide | assumption | rfl) (by first | omega | (simp only [zl_0]; first | done | omega) | decide | assumption | rfl) (by rw [zl_0]; rfl) (Nat.lt_succ_self _) ls _ _ (lv_sub hl [0, 1, 2, 3, 4] rfl) hP hD hS
        · refine lv_aload_n hx hb dX11_soils_50 rfl (lv_at hl 0 rfl) ?_
          refine lv_ldc (v := (-1000003)) hx hb hown (hT _ mw_1356) dX11_soils_51 ?_
          refine kJi (wr := [(k0, .inl (cI, 1201, .inl c0)), (k5, .inl (cI, 4, .inl c5)), (k6, .inl (cI, 4, .inl c6)), (k7, .inl (cI, 144, .inl c7))]) (va_runV (As := [.int (-1000003)]) (rest := []) ⟨hx, hb, hml, hown, hT⟩ (c_X11_findingG l D cI aK aV k k0 k1 k2 k4 k5 k6 k7 k8 ka kb kl ko H.size c3 c9 cc cd ce cf cg ch ci cj ck cm cn c4 (-1000003) (by first | omega | (simp only [zl_m1000003]; first | done | omega) | decide | assumption | rfl) (by first | omega | (simp only [zl_m1000003]; first | done | omega) | decide | assumption | rfl)) (cwV 1 hT (gV_in mw_1243 mw_1240 mw_1242 mw_p3_8 mw_12) rfl rfl rfl (by decide +kernel) ⟨Nat.le_of_ble_eq_true rfl, Nat.le_of_ble_eq_true rfl⟩) (kRecvX (q0 := 0) (ci := 11) hK hP hD hN hXS hS hA rfl rfl [0, 2] rfl (by decide +kernel)) rfl rfl hl.1 rfl (lv_room (Nat.le_of_ble_eq_true rfl)) dX11_soils_53 ⟨Nat.le_of_ble_eq_true rfl, Nat.le_of_ble_eq_true rfl⟩) hP hD hS hA [0, 2] [1, 3, 4, 5] rfl rfl (by decide +kernel) (by decide +kernel) ?_
          clear hP hD hS
          intro r_68 sc4_70 H locs w_69 hP hD hS
          replace hP : va_P D vwCl [(k0, .inl (cI, 1201, .inl c0)), (k5, .inl (cI, 4, .inl c5)), (k6, .inl (cI, 4, .inl c6)), (k7, .inl (cI, 144, .inl c7)), (k, .inr (11, [.ref k0, .ref k1, .ref k2, .int c3, .ref k4, .ref k5, .ref k6, .ref k7, .ref k8, .int c9, .ref ka, .ref kb, .int cc, .int cd, .int ce, .int cf, .int cg, .int ch, .int ci, .int cj, .int ck, .ref kl, .int cm, .int cn, .ref ko])), (k4, .inl (cI, 6, .inl sc4_70))] H := hP
          replace hD : va_D A [(k0, .inl (cI, 1201, .inl c0)), (k5, .inl (cI, 4, .inl c5)), (k6, .inl (cI, 4, .inl c6)), (k7, .inl (cI, 144, .inl c7)), (k, .inr (11, [.ref k0, .ref k1, .ref k2, .int c3, .ref k4, .ref k5, .ref k6, .ref k7, .ref k8, .int c9, .ref ka, .ref kb, .int cc, .int cd, .int ce, .int cf, .int cg, .int ch, .int ci, .int cj, .int ck, .ref kl, .int cm, .int cn, .ref ko])), (k4, .inl (cI, 6, .inl sc4_70))] := hD
          have hr_68 := w_69
          obtain rfl : r_68 = (-1000003) := hr_68.trans (by decide +kernel)
          exact hRet (c0, sc4_70) [4, 0, 5, 1, 2, 3] ⟨pre0, (by (try dsimp only); unfold soilR; (repeat (first | rw [if_pos (by omega)] | rw [if_neg (by omega)] | rw [if_pos (by assumption)] | rw [if_neg (fun z => absurd (zl_0.symm.trans z) (by decide +kernel))]))), (by (try dsimp only); unfold soilS; (repeat (first | rw [if_pos (by omega)] | rw [if_neg (by omega)] | rw [if_pos (by assumption)] | rw [if_neg (fun z => absurd (zl_0.symm.trans z) (by decide +kernel))])))⟩ hP hD (by decide +kernel) rfl hS rfl dX11_soils_56
      · refine lv_aload_n hx hb dX11_soils_30 rfl (lv_at hl 0 rfl) ?_
        refine lv_ldc (v := (-1000002)) hx hb hown (hT _ mw_1392) dX11_soils_31 ?_
        refine kJi (wr := [(k0, .inl (cI, 1201, .inl c0)), (k5, .inl (cI, 4, .inl c5)), (k6, .inl (cI, 4, .inl c6)), (k7, .inl (cI, 144, .inl c7))]) (va_runV (As := [.int (-1000002)]) (rest := []) ⟨hx, hb, hml, hown, hT⟩ (c_X11_findingG l D cI aK aV k k0 k1 k2 k4 k5 k6 k7 k8 ka kb kl ko H.size c3 c9 cc cd ce cf cg ch ci cj ck cm cn c4 (-1000002) (by first | omega | (simp only [zl_m1000002]; first | done | omega) | decide | assumption | rfl) (by first | omega | (simp only [zl_m1000002]; first | done | omega) | decide | assumption | rfl)) (cwV 1 hT (gV_in mw_1243 mw_1240 mw_1242 mw_p3_8 mw_12) rfl rfl rfl (by decide +kernel) ⟨Nat.le_of_ble_eq_true rfl, Nat.le_of_ble_eq_true rfl⟩) (kRecvX (q0 := 0) (ci := 11) hK hP hD hN hXS hS hA rfl rfl [0, 2] rfl (by decide +kernel)) rfl rfl hl.1 rfl (lv_room (Nat.le_of_ble_eq_true rfl)) dX11_soils_33 ⟨Nat.le_of_ble_eq_true rfl, Nat.le_of_ble_eq_true rfl⟩) hP hD hS hA [0, 2] [1, 3, 4, 5] rfl rfl (by decide +kernel) (by decide +kernel) ?_
        clear hP hD hS
        intro r_71 sc4_73 H locs w_72 hP hD hS
        replace hP : va_P D vwCl [(k0, .inl (cI, 1201, .inl c0)), (k5, .inl (cI, 4, .inl c5)), (k6, .inl (cI, 4, .inl c6)), (k7, .inl (cI, 144, .inl c7)), (k, .inr (11, [.ref k0, .ref k1, .ref k2, .int c3, .ref k4, .ref k5, .ref k6, .ref k7, .ref k8, .int c9, .ref ka, .ref kb, .int cc, .int cd, .int ce, .int cf, .int cg, .int ch, .int ci, .int cj, .int ck, .ref kl, .int cm, .int cn, .ref ko])), (k4, .inl (cI, 6, .inl sc4_73))] H := hP
        replace hD : va_D A [(k0, .inl (cI, 1201, .inl c0)), (k5, .inl (cI, 4, .inl c5)), (k6, .inl (cI, 4, .inl c6)), (k7, .inl (cI, 144, .inl c7)), (k, .inr (11, [.ref k0, .ref k1, .ref k2, .int c3, .ref k4, .ref k5, .ref k6, .ref k7, .ref k8, .int c9, .ref ka, .ref kb, .int cc, .int cd, .int ce, .int cf, .int cg, .int ch, .int ci, .int cj, .int ck, .ref kl, .int cm, .int cn, .ref ko])), (k4, .inl (cI, 6, .inl sc4_73))] := hD
        have hr_71 := w_72
        obtain rfl : r_71 = (-1000002) := hr_71.trans (by decide +kernel)
        exact hRet (c0, sc4_73) [4, 0, 5, 1, 2, 3] ⟨pre0, (by (try dsimp only); unfold soilR; (repeat (first | rw [if_pos (by omega)] | rw [if_neg (by omega)] | rw [if_pos (by assumption)] | rw [if_neg (fun z => absurd (zl_0.symm.trans z) (by decide +kernel))]))), (by (try dsimp only); unfold soilS; (repeat (first | rw [if_pos (by omega)] | rw [if_neg (by omega)] | rw [if_pos (by assumption)] | rw [if_neg (fun z => absurd (zl_0.symm.trans z) (by decide +kernel))])))⟩ hP hD (by decide +kernel) rfl hS rfl dX11_soils_36
    · have h_16 : a1.toInt < 0 ∨ 39 < a1.toInt := h_16
      obtain rfl : r_11 = 0 := hr_11.trans (by decide +kernel)
      refine b_if_ne hx hb zl_0 (tgt := 21) dX11_soils_11 (by decide +kernel) (fun c_74 => by exfalso; omega) (fun c_74 => ?_)
      refine lv_aload_n hx hb dX11_soils_14 rfl (lv_at hl 0 rfl) ?_
      refine lv_ldc (v := (-1000001)) hx hb hown (hT _ mw_1239) dX11_soils_15 ?_
      refine kJi (wr := [(k0, .inl (cI, 1201, .inl c0)), (k5, .inl (cI, 4, .inl c5)), (k6, .inl (cI, 4, .inl c6)), (k7, .inl (cI, 144, .inl c7))]) (va_runV (As := [.int (-1000001)]) (rest := []) ⟨hx, hb, hml, hown, hT⟩ (c_X11_findingG l D cI aK aV k k0 k1 k2 k4 k5 k6 k7 k8 ka kb kl ko H.size c3 c9 cc cd ce cf cg ch ci cj ck cm cn c4 (-1000001) (by first | omega | (simp only [zl_m1000001]; first | done | omega) | decide | assumption | rfl) (by first | omega | (simp only [zl_m1000001]; first | done | omega) | decide | assumption | rfl)) (cwV 1 hT (gV_in mw_1243 mw_1240 mw_1242 mw_p3_8 mw_12) rfl rfl rfl (by decide +kernel) ⟨Nat.le_of_ble_eq_true rfl, Nat.le_of_ble_eq_true rfl⟩) (kRecvX (q0 := 0) (ci := 11) hK hP hD hN hXS hS hA rfl rfl [0, 2] rfl (by decide +kernel)) rfl rfl hl.1 rfl (lv_room (Nat.le_of_ble_eq_true rfl)) dX11_soils_17 ⟨Nat.le_of_ble_eq_true rfl, Nat.le_of_ble_eq_true rfl⟩) hP hD hS hA [0, 2] [1, 3, 4, 5] rfl rfl (by decide +kernel) (by decide +kernel) ?_
      clear hP hD hS
      intro r_75 sc4_77 H locs w_76 hP hD hS
      replace hP : va_P D vwCl [(k0, .inl (cI, 1201, .inl c0)), (k5, .inl (cI, 4, .inl c5)), (k6, .inl (cI, 4, .inl c6)), (k7, .inl (cI, 144, .inl c7)), (k, .inr (11, [.ref k0, .ref k1, .ref k2, .int c3, .ref k4, .ref k5, .ref k6, .ref k7, .ref k8, .int c9, .ref ka, .ref kb, .int cc, .int cd, .int ce, .int cf, .int cg, .int ch, .int ci, .int cj, .int ck, .ref kl, .int cm, .int cn, .ref ko])), (k4, .inl (cI, 6, .inl sc4_77))] H := hP
      replace hD : va_D A [(k0, .inl (cI, 1201, .inl c0)), (k5, .inl (cI, 4, .inl c5)), (k6, .inl (cI, 4, .inl c6)), (k7, .inl (cI, 144, .inl c7)), (k, .inr (11, [.ref k0, .ref k1, .ref k2, .int c3, .ref k4, .ref k5, .ref k6, .ref k7, .ref k8, .int c9, .ref ka, .ref kb, .int cc, .int cd, .int ce, .int cf, .int cg, .int ch, .int ci, .int cj, .int ck, .ref kl, .int cm, .int cn, .ref ko])), (k4, .inl (cI, 6, .inl sc4_77))] := hD
      have hr_75 := w_76
      obtain rfl : r_75 = (-1000001) := hr_75.trans (by decide +kernel)
      exact hRet (c0, sc4_77) [4, 0, 5, 1, 2, 3] ⟨pre0, (by (try dsimp only); unfold soilR; (repeat (first | rw [if_pos (by omega)] | rw [if_neg (by omega)] | rw [if_pos (by assumption)] | rw [if_neg (fun z => absurd (zl_0.symm.trans z) (by decide +kernel))]))), (by (try dsimp only); unfold soilS; (repeat (first | rw [if_pos (by omega)] | rw [if_neg (by omega)] | rw [if_pos (by assumption)] | rw [if_neg (fun z => absurd (zl_0.symm.trans z) (by decide +kernel))])))⟩ hP hD (by decide +kernel) rfl hS rfl dX11_soils_20
  · have h_9 : a0.toInt < 0 ∨ 3 < a0.toInt := h_9
    obtain rfl : r_4 = 0 := hr_4.trans (by decide +kernel)
    refine b_if_eq hx hb zl_0 (tgt := 14) dX11_soils_4 (by decide +kernel) (fun c_78 => ?_) (fun c_78 => by exfalso; omega)
    refine lv_aload_n hx hb dX11_soils_14 rfl (lv_at hl 0 rfl) ?_
    refine lv_ldc (v := (-1000001)) hx hb hown (hT _ mw_1239) dX11_soils_15 ?_
    refine kJi (wr := [(k0, .inl (cI, 1201, .inl c0)), (k5, .inl (cI, 4, .inl c5)), (k6, .inl (cI, 4, .inl c6)), (k7, .inl (cI, 144, .inl c7))]) (va_runV (As := [.int (-1000001)]) (rest := []) ⟨hx, hb, hml, hown, hT⟩ (c_X11_findingG l D cI aK aV k k0 k1 k2 k4 k5 k6 k7 k8 ka kb kl ko H.size c3 c9 cc cd ce cf cg ch ci cj ck cm cn c4 (-1000001) (by first | omega | (simp only [zl_m1000001]; first | done | omega) | decide | assumption | rfl) (by first | omega | (simp only [zl_m1000001]; first | done | omega) | decide | assumption | rfl)) (cwV 1 hT (gV_in mw_1243 mw_1240 mw_1242 mw_p3_8 mw_12) rfl rfl rfl (by decide +kernel) ⟨Nat.le_of_ble_eq_true rfl, Nat.le_of_ble_eq_true rfl⟩) (kRecvX (q0 := 0) (ci := 11) hK hP hD hN hXS hS hA rfl rfl [0, 2] rfl (by decide +kernel)) rfl rfl hl.1 rfl (lv_room (Nat.le_of_ble_eq_true rfl)) dX11_soils_17 ⟨Nat.le_of_ble_eq_true rfl, Nat.le_of_ble_eq_true rfl⟩) hP hD hS hA [0, 2] [1, 3, 4, 5] rfl rfl (by decide +kernel) (by decide +kernel) ?_
    clear hP hD hS
    intro r_79 sc4_81 H locs w_80 hP hD hS
    replace hP : va_P D vwCl [(k0, .inl (cI, 1201, .inl c0)), (k5, .inl (cI, 4, .inl c5)), (k6, .inl (cI, 4, .inl c6)), (k7, .inl (cI, 144, .inl c7)), (k, .inr (11, [.ref k0, .ref k1, .ref k2, .int c3, .ref k4, .ref k5, .ref k6, .ref k7, .ref k8, .int c9, .ref ka, .ref kb, .int cc, .int cd, .int ce, .int cf, .int cg, .int ch, .int ci, .int cj, .int ck, .ref kl, .int cm, .int cn, .ref ko])), (k4, .inl (cI, 6, .inl sc4_81))] H := hP
    replace hD : va_D A [(k0, .inl (cI, 1201, .inl c0)), (k5, .inl (cI, 4, .inl c5)), (k6, .inl (cI, 4, .inl c6)), (k7, .inl (cI, 144, .inl c7)), (k, .inr (11, [.ref k0, .ref k1, .ref k2, .int c3, .ref k4, .ref k5, .ref k6, .ref k7, .ref k8, .int c9, .ref ka, .ref kb, .int cc, .int cd, .int ce, .int cf, .int cg, .int ch, .int ci, .int cj, .int ck, .ref kl, .int cm, .int cn, .ref ko])), (k4, .inl (cI, 6, .inl sc4_81))] := hD
    have hr_79 := w_80
    obtain rfl : r_79 = (-1000001) := hr_79.trans (by decide +kernel)
    exact hRet (c0, sc4_81) [4, 0, 5, 1, 2, 3] ⟨pre0, (by (try dsimp only); unfold soilR; (repeat (first | rw [if_pos (by omega)] | rw [if_neg (by omega)] | rw [if_pos (by assumption)] | rw [if_neg (fun z => absurd (zl_0.symm.trans z) (by decide +kernel))]))), (by (try dsimp only); unfold soilS; (repeat (first | rw [if_pos (by omega)] | rw [if_neg (by omega)] | rw [if_pos (by assumption)] | rw [if_neg (fun z => absurd (zl_0.symm.trans z) (by decide +kernel))])))⟩ hP hD (by decide +kernel) rfl hS rfl dX11_soils_20
theorem bn_cX11_party__0 : BN cX11_party_ 0 0x3058567700adc38040305856ee802a00407429dc02b70201c2c060b0ac26015182822070b01c6e04281840a2f2e81814015a8ac0c371781814015a8ad5a4100adc98131582c02a1040bc0c0a00ad456ad208056e40098ac16014d8c002b93204408050b03c029a18005723308810e2650887838014d0c002b9198440a6d328443c2900a703c2d00a84061d0480540050e8dc029a22005721c := by
  unfold BN; decide +kernel
theorem dX11_party__0 : decode cX11_party_ 0 = .ok (.iload_n 1, 1) := dR0 (k := 0) (i := 0) bn_cX11_party__0 dop_27 (by decide +kernel)
theorem dX11_party__1 : decode cX11_party_ 1 = .ok (.invokestatic 67, 3) := dR2 (f := Instr.invokestatic) (k := 0) (i := 1) bn_cX11_party__0 dop_184 67 (by decide +kernel)
theorem dX11_party__4 : decode cX11_party_ 4 = .ok (.ifCond .eq 54, 3) := dR2s (f := Instr.ifCond .eq) (k := 0) (i := 4) bn_cX11_party__0 dop_153 54 54 (by decide +kernel)
theorem dX11_party__7 : decode cX11_party_ 7 = .ok (.iload_n 2, 1) := dR0 (k := 0) (i := 7) bn_cX11_party__0 dop_28 (by decide +kernel)
theorem dX11_party__8 : decode cX11_party_ 8 = .ok (.iconst 1, 1) := dR0 (k := 0) (i := 8) bn_cX11_party__0 dop_4 (by decide +kernel)
theorem dX11_party__9 : decode cX11_party_ 9 = .ok (.if_icmp .eq 8, 3) := dR2s (f := Instr.if_icmp .eq) (k := 0) (i := 9) bn_cX11_party__0 dop_159 8 8 (by decide +kernel)
theorem dX11_party__12 : decode cX11_party_ 12 = .ok (.iload_n 2, 1) := dR0 (k := 0) (i := 12) bn_cX11_party__0 dop_28 (by decide +kernel)
theorem dX11_party__13 : decode cX11_party_ 13 = .ok (.iconst (-1), 1) := dR0 (k := 0) (i := 13) bn_cX11_party__0 dop_2 (by decide +kernel)
theorem dX11_party__14 : decode cX11_party_ 14 = .ok (.if_icmp .ne 44, 3) := dR2s (f := Instr.if_icmp .ne) (k := 0) (i := 14) bn_cX11_party__0 dop_160 44 44 (by decide +kernel)
theorem dX11_party__17 : decode cX11_party_ 17 = .ok (.iload_n 3, 1) := dR0 (k := 0) (i := 17) bn_cX11_party__0 dop_29 (by decide +kernel)
theorem dX11_party__18 : decode cX11_party_ 18 = .ok (.ifCond .lt 40, 3) := dR2s (f := Instr.ifCond .lt) (k := 0) (i := 18) bn_cX11_party__0 dop_155 40 40 (by decide +kernel)
theorem dX11_party__21 : decode cX11_party_ 21 = .ok (.iload_n 3, 1) := dR0 (k := 0) (i := 21) bn_cX11_party__0 dop_29 (by decide +kernel)
theorem dX11_party__22 : decode cX11_party_ 22 = .ok (.bipush 100, 2) := dR1s (f := Instr.bipush) (k := 0) (i := 22) bn_cX11_party__0 dop_16 100 100 (by decide +kernel)
theorem dX11_party__24 : decode cX11_party_ 24 = .ok (.idiv, 1) := dR0 (k := 0) (i := 24) bn_cX11_party__0 dop_108 (by decide +kernel)
theorem dX11_party__25 : decode cX11_party_ 25 = .ok (.iconst 1, 1) := dR0 (k := 0) (i := 25) bn_cX11_party__0 dop_4 (by decide +kernel)
theorem dX11_party__26 : decode cX11_party_ 26 = .ok (.bipush 50, 2) := dR1s (f := Instr.bipush) (k := 0) (i := 26) bn_cX11_party__0 dop_16 50 50 (by decide +kernel)
theorem dX11_party__28 : decode cX11_party_ 28 = .ok (.invokestatic 47, 3) := dR2 (f := Instr.invokestatic) (k := 0) (i := 28) bn_cX11_party__0 dop_184 47 (by decide +kernel)
theorem dX11_party__31 : decode cX11_party_ 31 = .ok (.ifCond .eq 27, 3) := dR2s (f := Instr.ifCond .eq) (k := 0) (i := 31) bn_cX11_party__0 dop_153 27 27 (by decide +kernel)
theorem dX11_party__34 : decode cX11_party_ 34 = .ok (.iload_n 3, 1) := dR0 (k := 0) (i := 34) bn_cX11_party__0 dop_29 (by decide +kernel)
theorem dX11_party__35 : decode cX11_party_ 35 = .ok (.bipush 100, 2) := dR1s (f := Instr.bipush) (k := 0) (i := 35) bn_cX11_party__0 dop_16 100 100 (by decide +kernel)
theorem dX11_party__37 : decode cX11_party_ 37 = .ok (.irem, 1) := dR0 (k := 0) (i := 37) bn_cX11_party__0 dop_112 (by decide +kernel)
theorem dX11_party__38 : decode cX11_party_ 38 = .ok (.iconst 0, 1) := dR0 (k := 0) (i := 38) bn_cX11_party__0 dop_3 (by decide +kernel)
theorem dX11_party__39 : decode cX11_party_ 39 = .ok (.bipush 50, 2) := dR1s (f := Instr.bipush) (k := 0) (i := 39) bn_cX11_party__0 dop_16 50 50 (by decide +kernel)
theorem dX11_party__41 : decode cX11_party_ 41 = .ok (.invokestatic 47, 3) := dR2 (f := Instr.invokestatic) (k := 0) (i := 41) bn_cX11_party__0 dop_184 47 (by decide +kernel)
theorem dX11_party__44 : decode cX11_party_ 44 = .ok (.ifCond .eq 14, 3) := dR2s (f := Instr.ifCond .eq) (k := 0) (i := 44) bn_cX11_party__0 dop_153 14 14 (by decide +kernel)
theorem dX11_party__47 : decode cX11_party_ 47 = .ok (.iload 4, 2) := dR1 (f := Instr.iload) (k := 0) (i := 47) bn_cX11_party__0 dop_21 4 (by decide +kernel)
theorem dX11_party__49 : decode cX11_party_ 49 = .ok (.iconst 0, 1) := dR0 (k := 0) (i := 49) bn_cX11_party__0 dop_3 (by decide +kernel)
theorem dX11_party__50 : decode cX11_party_ 50 = .ok (.bipush 99, 2) := dR1s (f := Instr.bipush) (k := 0) (i := 50) bn_cX11_party__0 dop_16 99 99 (by decide +kernel)
theorem dX11_party__52 : decode cX11_party_ 52 = .ok (.invokestatic 47, 3) := dR2 (f := Instr.invokestatic) (k := 0) (i := 52) bn_cX11_party__0 dop_184 47 (by decide +kernel)
theorem dX11_party__55 : decode cX11_party_ 55 = .ok (.ifCond .ne 10, 3) := dR2s (f := Instr.ifCond .ne) (k := 0) (i := 55) bn_cX11_party__0 dop_154 10 10 (by decide +kernel)
theorem dX11_party__58 : decode cX11_party_ 58 = .ok (.aload_n 0, 1) := dR0 (k := 0) (i := 58) bn_cX11_party__0 dop_42 (by decide +kernel)
theorem dX11_party__59 : decode cX11_party_ 59 = .ok (.ldc 63, 2) := dR1 (f := Instr.ldc) (k := 0) (i := 59) bn_cX11_party__0 dop_18 63 (by decide +kernel)
theorem dX11_party__61 : decode cX11_party_ 61 = .ok (.invokevirtual 64, 3) := dR2 (f := Instr.invokevirtual) (k := 0) (i := 61) bn_cX11_party__0 dop_182 64 (by decide +kernel)
theorem dX11_party__64 : decode cX11_party_ 64 = .ok (.ireturn, 1) := dR0 (k := 0) (i := 64) bn_cX11_party__0 dop_172 (by decide +kernel)
theorem dX11_party__65 : decode cX11_party_ 65 = .ok (.aload_n 0, 1) := dR0 (k := 0) (i := 65) bn_cX11_party__0 dop_42 (by decide +kernel)
theorem dX11_party__66 : decode cX11_party_ 66 = .ok (.getfield 9, 3) := dR2 (f := Instr.getfield) (k := 0) (i := 66) bn_cX11_party__0 dop_180 9 (by decide +kernel)
theorem dX11_party__69 : decode cX11_party_ 69 = .ok (.iconst 2, 1) := dR0 (k := 0) (i := 69) bn_cX11_party__0 dop_5 (by decide +kernel)
theorem dX11_party__70 : decode cX11_party_ 70 = .ok (.iaload, 1) := dR0 (k := 0) (i := 70) bn_cX11_party__0 dop_46 (by decide +kernel)
theorem dX11_party__71 : decode cX11_party_ 71 = .ok (.iconst 4, 1) := dR0 (k := 0) (i := 71) bn_cX11_party__0 dop_7 (by decide +kernel)
theorem dX11_party__72 : decode cX11_party_ 72 = .ok (.if_icmp .ne 10, 3) := dR2s (f := Instr.if_icmp .ne) (k := 0) (i := 72) bn_cX11_party__0 dop_160 10 10 (by decide +kernel)
theorem dX11_party__75 : decode cX11_party_ 75 = .ok (.aload_n 0, 1) := dR0 (k := 0) (i := 75) bn_cX11_party__0 dop_42 (by decide +kernel)
theorem dX11_party__76 : decode cX11_party_ 76 = .ok (.ldc 75, 2) := dR1 (f := Instr.ldc) (k := 0) (i := 76) bn_cX11_party__0 dop_18 75 (by decide +kernel)
theorem dX11_party__78 : decode cX11_party_ 78 = .ok (.invokevirtual 64, 3) := dR2 (f := Instr.invokevirtual) (k := 0) (i := 78) bn_cX11_party__0 dop_182 64 (by decide +kernel)
theorem dX11_party__81 : decode cX11_party_ 81 = .ok (.ireturn, 1) := dR0 (k := 0) (i := 81) bn_cX11_party__0 dop_172 (by decide +kernel)
theorem dX11_party__82 : decode cX11_party_ 82 = .ok (.aload_n 0, 1) := dR0 (k := 0) (i := 82) bn_cX11_party__0 dop_42 (by decide +kernel)
theorem dX11_party__83 : decode cX11_party_ 83 = .ok (.getfield 9, 3) := dR2 (f := Instr.getfield) (k := 0) (i := 83) bn_cX11_party__0 dop_180 9 (by decide +kernel)
theorem dX11_party__86 : decode cX11_party_ 86 = .ok (.iconst 2, 1) := dR0 (k := 0) (i := 86) bn_cX11_party__0 dop_5 (by decide +kernel)
theorem dX11_party__87 : decode cX11_party_ 87 = .ok (.iaload, 1) := dR0 (k := 0) (i := 87) bn_cX11_party__0 dop_46 (by decide +kernel)
theorem dX11_party__88 : decode cX11_party_ 88 = .ok (.istore 5, 2) := dR1 (f := Instr.istore) (k := 0) (i := 88) bn_cX11_party__0 dop_54 5 (by decide +kernel)
theorem dX11_party__90 : decode cX11_party_ 90 = .ok (.aload_n 0, 1) := dR0 (k := 0) (i := 90) bn_cX11_party__0 dop_42 (by decide +kernel)
theorem dX11_party__91 : decode cX11_party_ 91 = .ok (.getfield 9, 3) := dR2 (f := Instr.getfield) (k := 0) (i := 91) bn_cX11_party__0 dop_180 9 (by decide +kernel)
theorem dX11_party__94 : decode cX11_party_ 94 = .ok (.iconst 2, 1) := dR0 (k := 0) (i := 94) bn_cX11_party__0 dop_5 (by decide +kernel)
theorem dX11_party__95 : decode cX11_party_ 95 = .ok (.dup2, 1) := dR0 (k := 0) (i := 95) bn_cX11_party__0 dop_92 (by decide +kernel)
theorem dX11_party__96 : decode cX11_party_ 96 = .ok (.iaload, 1) := dR0 (k := 0) (i := 96) bn_cX11_party__0 dop_46 (by decide +kernel)
theorem dX11_party__97 : decode cX11_party_ 97 = .ok (.iconst 1, 1) := dR0 (k := 0) (i := 97) bn_cX11_party__0 dop_4 (by decide +kernel)
theorem dX11_party__98 : decode cX11_party_ 98 = .ok (.iadd, 1) := dR0 (k := 0) (i := 98) bn_cX11_party__0 dop_96 (by decide +kernel)
theorem dX11_party__99 : decode cX11_party_ 99 = .ok (.iastore, 1) := dR0 (k := 0) (i := 99) bn_cX11_party__0 dop_79 (by decide +kernel)
theorem dX11_party__100 : decode cX11_party_ 100 = .ok (.iconst 0, 1) := dR0 (k := 0) (i := 100) bn_cX11_party__0 dop_3 (by decide +kernel)
theorem dX11_party__101 : decode cX11_party_ 101 = .ok (.istore 6, 2) := dR1 (f := Instr.istore) (k := 0) (i := 101) bn_cX11_party__0 dop_54 6 (by decide +kernel)
theorem dX11_party__103 : decode cX11_party_ 103 = .ok (.iload 6, 2) := dR1 (f := Instr.iload) (k := 0) (i := 103) bn_cX11_party__0 dop_21 6 (by decide +kernel)
theorem dX11_party__105 : decode cX11_party_ 105 = .ok (.bipush 9, 2) := dR1s (f := Instr.bipush) (k := 0) (i := 105) bn_cX11_party__0 dop_16 9 9 (by decide +kernel)
theorem dX11_party__107 : decode cX11_party_ 107 = .ok (.if_icmp .ge 18, 3) := dR2s (f := Instr.if_icmp .ge) (k := 0) (i := 107) bn_cX11_party__0 dop_162 18 18 (by decide +kernel)
theorem dX11_party__110 : decode cX11_party_ 110 = .ok (.aload_n 0, 1) := dR0 (k := 0) (i := 110) bn_cX11_party__0 dop_42 (by decide +kernel)
theorem dX11_party__111 : decode cX11_party_ 111 = .ok (.iload 5, 2) := dR1 (f := Instr.iload) (k := 0) (i := 111) bn_cX11_party__0 dop_21 5 (by decide +kernel)
theorem dX11_party__113 : decode cX11_party_ 113 = .ok (.iload 6, 2) := dR1 (f := Instr.iload) (k := 0) (i := 113) bn_cX11_party__0 dop_21 6 (by decide +kernel)
theorem dX11_party__115 : decode cX11_party_ 115 = .ok (.iconst 0, 1) := dR0 (k := 0) (i := 115) bn_cX11_party__0 dop_3 (by decide +kernel)
theorem dX11_party__116 : decode cX11_party_ 116 = .ok (.invokevirtual 118, 3) := dR2 (f := Instr.invokevirtual) (k := 0) (i := 116) bn_cX11_party__0 dop_182 118 (by decide +kernel)
theorem dX11_party__119 : decode cX11_party_ 119 = .ok (.iinc 6 1, 3) := dRii (f := Instr.iinc) (k := 0) (i := 119) bn_cX11_party__0 dop_132 6 1 1 (by decide +kernel)
theorem dX11_party__122 : decode cX11_party_ 122 = .ok (.goto (-19), 3) := dR2s (f := Instr.goto) (k := 0) (i := 122) bn_cX11_party__0 dop_167 65517 (-19) (by decide +kernel)
theorem dX11_party__125 : decode cX11_party_ 125 = .ok (.aload_n 0, 1) := dR0 (k := 0) (i := 125) bn_cX11_party__0 dop_42 (by decide +kernel)
theorem dX11_party__126 : decode cX11_party_ 126 = .ok (.iload 5, 2) := dR1 (f := Instr.iload) (k := 0) (i := 126) bn_cX11_party__0 dop_21 5 (by decide +kernel)
theorem bn_cX11_party__128 : BN cX11_party_ 128 0x2b40c163b8056e050b0200c16159dc02b738994221e038182c2b3b8056e6d328443c0603058567700adc3a0503058567700adc3804 := by
  unfold BN; decide +kernel
theorem dX11_party__128 : decode cX11_party_ 128 = .ok (.iconst 0, 1) := dR0 (k := 128) (i := 0) bn_cX11_party__128 dop_3 (by decide +kernel)
theorem dX11_party__129 : decode cX11_party_ 129 = .ok (.iload_n 1, 1) := dR0 (k := 128) (i := 1) bn_cX11_party__128 dop_27 (by decide +kernel)
theorem dX11_party__130 : decode cX11_party_ 130 = .ok (.invokevirtual 118, 3) := dR2 (f := Instr.invokevirtual) (k := 128) (i := 2) bn_cX11_party__128 dop_182 118 (by decide +kernel)
theorem dX11_party__133 : decode cX11_party_ 133 = .ok (.aload_n 0, 1) := dR0 (k := 128) (i := 5) bn_cX11_party__128 dop_42 (by decide +kernel)
theorem dX11_party__134 : decode cX11_party_ 134 = .ok (.iload 5, 2) := dR1 (f := Instr.iload) (k := 128) (i := 6) bn_cX11_party__128 dop_21 5 (by decide +kernel)
theorem dX11_party__136 : decode cX11_party_ 136 = .ok (.iconst 1, 1) := dR0 (k := 128) (i := 8) bn_cX11_party__128 dop_4 (by decide +kernel)
theorem dX11_party__137 : decode cX11_party_ 137 = .ok (.iload_n 2, 1) := dR0 (k := 128) (i := 9) bn_cX11_party__128 dop_28 (by decide +kernel)
theorem dX11_party__138 : decode cX11_party_ 138 = .ok (.invokevirtual 118, 3) := dR2 (f := Instr.invokevirtual) (k := 128) (i := 10) bn_cX11_party__128 dop_182 118 (by decide +kernel)
theorem dX11_party__141 : decode cX11_party_ 141 = .ok (.aload_n 0, 1) := dR0 (k := 128) (i := 13) bn_cX11_party__128 dop_42 (by decide +kernel)
theorem dX11_party__142 : decode cX11_party_ 142 = .ok (.iload 5, 2) := dR1 (f := Instr.iload) (k := 128) (i := 14) bn_cX11_party__128 dop_21 5 (by decide +kernel)
theorem dX11_party__144 : decode cX11_party_ 144 = .ok (.iconst 2, 1) := dR0 (k := 128) (i := 16) bn_cX11_party__128 dop_5 (by decide +kernel)
theorem dX11_party__145 : decode cX11_party_ 145 = .ok (.iload_n 3, 1) := dR0 (k := 128) (i := 17) bn_cX11_party__128 dop_29 (by decide +kernel)
theorem dX11_party__146 : decode cX11_party_ 146 = .ok (.bipush 100, 2) := dR1s (f := Instr.bipush) (k := 128) (i := 18) bn_cX11_party__128 dop_16 100 100 (by decide +kernel)
theorem dX11_party__148 : decode cX11_party_ 148 = .ok (.idiv, 1) := dR0 (k := 128) (i := 20) bn_cX11_party__128 dop_108 (by decide +kernel)
theorem dX11_party__149 : decode cX11_party_ 149 = .ok (.invokevirtual 118, 3) := dR2 (f := Instr.invokevirtual) (k := 128) (i := 21) bn_cX11_party__128 dop_182 118 (by decide +kernel)
theorem dX11_party__152 : decode cX11_party_ 152 = .ok (.aload_n 0, 1) := dR0 (k := 128) (i := 24) bn_cX11_party__128 dop_42 (by decide +kernel)
theorem dX11_party__153 : decode cX11_party_ 153 = .ok (.iload 5, 2) := dR1 (f := Instr.iload) (k := 128) (i := 25) bn_cX11_party__128 dop_21 5 (by decide +kernel)
theorem dX11_party__155 : decode cX11_party_ 155 = .ok (.iconst 3, 1) := dR0 (k := 128) (i := 27) bn_cX11_party__128 dop_6 (by decide +kernel)
theorem dX11_party__156 : decode cX11_party_ 156 = .ok (.iload_n 3, 1) := dR0 (k := 128) (i := 28) bn_cX11_party__128 dop_29 (by decide +kernel)
theorem dX11_party__157 : decode cX11_party_ 157 = .ok (.bipush 100, 2) := dR1s (f := Instr.bipush) (k := 128) (i := 29) bn_cX11_party__128 dop_16 100 100 (by decide +kernel)
theorem dX11_party__159 : decode cX11_party_ 159 = .ok (.irem, 1) := dR0 (k := 128) (i := 31) bn_cX11_party__128 dop_112 (by decide +kernel)
theorem dX11_party__160 : decode cX11_party_ 160 = .ok (.invokevirtual 118, 3) := dR2 (f := Instr.invokevirtual) (k := 128) (i := 32) bn_cX11_party__128 dop_182 118 (by decide +kernel)
theorem dX11_party__163 : decode cX11_party_ 163 = .ok (.aload_n 0, 1) := dR0 (k := 128) (i := 35) bn_cX11_party__128 dop_42 (by decide +kernel)
theorem dX11_party__164 : decode cX11_party_ 164 = .ok (.iload 5, 2) := dR1 (f := Instr.iload) (k := 128) (i := 36) bn_cX11_party__128 dop_21 5 (by decide +kernel)
theorem dX11_party__166 : decode cX11_party_ 166 = .ok (.iconst 4, 1) := dR0 (k := 128) (i := 38) bn_cX11_party__128 dop_7 (by decide +kernel)
theorem dX11_party__167 : decode cX11_party_ 167 = .ok (.iload 4, 2) := dR1 (f := Instr.iload) (k := 128) (i := 39) bn_cX11_party__128 dop_21 4 (by decide +kernel)
theorem dX11_party__169 : decode cX11_party_ 169 = .ok (.invokevirtual 118, 3) := dR2 (f := Instr.invokevirtual) (k := 128) (i := 41) bn_cX11_party__128 dop_182 118 (by decide +kernel)
theorem dX11_party__172 : decode cX11_party_ 172 = .ok (.iload 5, 2) := dR1 (f := Instr.iload) (k := 128) (i := 44) bn_cX11_party__128 dop_21 5 (by decide +kernel)
theorem dX11_party__174 : decode cX11_party_ 174 = .ok (.ireturn, 1) := dR0 (k := 128) (i := 46) bn_cX11_party__128 dop_172 (by decide +kernel)
set_option maxHeartbeats 4000000 in
set_option maxRecDepth 100000 in
theorem c_X11_party_G (l : Launch) (D : va_G) (cI : ClassId) (aK aV : Nat → Nat) (k k0 k1 k2 k4 k5 k6 k7 k8 ka kb kl ko : Nat) (sz : Nat) (c3 : Int32) (c9 : Int32) (cc : Int32) (cd : Int32) (ce : Int32) (cf : Int32) (cg : Int32) (ch : Int32) (ci : Int32) (cj : Int32) (ck : Int32) (cm : Int32) (cn : Int32) (c0 : Nat → Int32) (c4 : Nat → Int32) (a0 : Int32) (a1 : Int32) (a2 : Int32) (a3 : Int32) (pre0 : SIX c0 (-1)) : Met l yX11_party_ (gW yX11_party_ cX11_party_ 7 (some .int)) ({ frames := 2, cells := 0, slots := 0, locals := 42 } : Room) (kPreX D cI aK aV [.ref k, .int a0, .int a1, .int a2, .int a3] [(k, .inr (11, [.ref k0, .ref k1, .ref k2, .int c3, .ref k4, .ref k5, .ref k6, .ref k7, .ref k8, .int c9, .ref ka, .ref kb, .int cc, .int cd, .int ce, .int cf, .int cg, .int ch, .int ci, .int cj, .int ck, .ref kl, .int cm, .int cn, .ref ko])), (k0, .inl (cI, 1201, .inl c0)), (k4, .inl (cI, 6, .inl c4))] sz) (va_Qi (fun (r : Int32) (u : (Nat → Int32) × (Nat → Int32)) => SIX u.1 (-1) ∧ r = partyR (c0 2) a0 a1 a2 a3 ∧ u.1 = partyS c0 a0 a1 a2 a3) (fun u t => kWd D cI (va_A [(k, .inr (11, [.ref k0, .ref k1, .ref k2, .int c3, .ref k4, .ref k5, .ref k6, .ref k7, .ref k8, .int c9, .ref ka, .ref kb, .int cc, .int cd, .int ce, .int cf, .int cg, .int ch, .int ci, .int cj, .int ck, .ref kl, .int cm, .int cn, .ref ko])), (k0, .inl (cI, 1201, .inl c0)), (k4, .inl (cI, 6, .inl c4))] sz) [(k, .inr (11, [.ref k0, .ref k1, .ref k2, .int c3, .ref k4, .ref k5, .ref k6, .ref k7, .ref k8, .int c9, .ref ka, .ref kb, .int cc, .int cd, .int ce, .int cf, .int cg, .int ch, .int ci, .int cj, .int ck, .ref kl, .int cm, .int cn, .ref ko])), (k0, .inl (cI, 1201, .inl u.1)), (k4, .inl (cI, 6, .inl u.2))] t) (va_A [(k, .inr (11, [.ref k0, .ref k1, .ref k2, .int c3, .ref k4, .ref k5, .ref k6, .ref k7, .ref k8, .int c9, .ref ka, .ref kb, .int cc, .int cd, .int ce, .int cf, .int cg, .int ch, .int ci, .int cj, .int ck, .ref kl, .int cm, .int cn, .ref ko])), (k0, .inl (cI, 1201, .inl c0)), (k4, .inl (cI, 6, .inl c4))] sz)) 0 0 (va_A [(k, .inr (11, [.ref k0, .ref k1, .ref k2, .int c3, .ref k4, .ref k5, .ref k6, .ref k7, .ref k8, .int c9, .ref ka, .ref kb, .int cc, .int cd, .int ce, .int cf, .int cg, .int ch, .int ci, .int cj, .int ck, .ref kl, .int cm, .int cn, .ref ko])), (k0, .inl (cI, 1201, .inl c0)), (k4, .inl (cI, 6, .inl c4))] sz) := by
  refine kMetIX (own := RX11) (by decide +kernel) rfl (Nat.le_of_ble_eq_true rfl) ?_
  intro p e s m args below meth c hx hb hT hown hname hml A Q hK hP hD hS hA hN hXS hRet ls hl
  have hl : lv_has ls 7 [(0, .ref k), (1, .int a0), (2, .int a1), (3, .int a2), (4, .int a3)] := hl
  have lo_a0 := k_lo a0
  have hi_a0 := k_hi a0
  have lo_a1 := k_lo a1
  have hi_a1 := k_hi a1
  have lo_a2 := k_lo a2
  have hi_a2 := k_hi a2
  have lo_a3 := k_lo a3
  have hi_a3 := k_hi a3
  have lo_ci := k_lo ci
  have hi_ci := k_hi ci
  have pre0 : SIX c0 (-1) := pre0
  have nb_1 : 0 ≤ (c0 0).toInt ∧ (c0 0).toInt ≤ 2000 := SB.n0 (And.left pre0)
  have nb_2 : 0 ≤ (c0 1).toInt ∧ (c0 1).toInt ≤ 60 := SB.n1 (And.left pre0)
  have nb_3 : 0 ≤ (c0 2).toInt ∧ (c0 2).toInt ≤ 4 := SB.n2 (And.left pre0)
  refine lv_iload_n hx hb dX11_party__0 rfl (lv_at hl 1 rfl) ?_
  refine kJi (wr := [(k, .inr (11, [.ref k0, .ref k1, .ref k2, .int c3, .ref k4, .ref k5, .ref k6, .ref k7, .ref k8, .int c9, .ref ka, .ref kb, .int cc, .int cd, .int ce, .int cf, .int cg, .int ch, .int ci, .int cj, .int ck, .ref kl, .int cm, .int cn, .ref ko])), (k0, .inl (cI, 1201, .inl c0)), (k4, .inl (cI, 6, .inl c4))]) (va_runS (As := [.int a0]) (rest := []) ⟨hx, hb, hml, hown, hT⟩ (c_X11_isMileG l D cI aK aV s.heap.size a0) (cwS 1 hT (gS_in mw_1251 mw_1249 mw_1250 mw_12) rfl rfl rfl (by decide +kernel) ⟨Nat.le_of_ble_eq_true rfl, Nat.le_of_ble_eq_true rfl⟩) (kStatX hK hP hD hN hXS hS hA [] rfl (by decide +kernel)) rfl rfl hl.1 rfl (lv_room (Nat.le_of_ble_eq_true rfl)) dX11_party__1 ⟨Nat.le_of_ble_eq_true rfl, Nat.le_of_ble_eq_true rfl⟩) hP hD hS hA [] [0, 1, 2] rfl rfl (by decide +kernel) (by decide +kernel) ?_
  clear hP hD hS
  intro r_4 u_6 H locs w_5 hP hD hS
  replace hP : va_P D vwCl [(k, .inr (11, [.ref k0, .ref k1, .ref k2, .int c3, .ref k4, .ref k5, .ref k6, .ref k7, .ref k8, .int c9, .ref ka, .ref kb, .int cc, .int cd, .int ce, .int cf, .int cg, .int ch, .int ci, .int cj, .int ck, .ref kl, .int cm, .int cn, .ref ko])), (k0, .inl (cI, 1201, .inl c0)), (k4, .inl (cI, 6, .inl c4))] H := hP
  replace hD : va_D A [(k, .inr (11, [.ref k0, .ref k1, .ref k2, .int c3, .ref k4, .ref k5, .ref k6, .ref k7, .ref k8, .int c9, .ref ka, .ref kb, .int cc, .int cd, .int ce, .int cf, .int cg, .int ch, .int ci, .int cj, .int ck, .ref kl, .int cm, .int cn, .ref ko])), (k0, .inl (cI, 1201, .inl c0)), (k4, .inl (cI, 6, .inl c4))] := hD
  rcases w_5 with ⟨hr_4, h_7, h_8⟩ | ⟨hr_4, h_9⟩
  · have h_7 : 0 ≤ a0.toInt := h_7
    have h_8 : a0.toInt ≤ 39 := h_8
    obtain rfl : r_4 = 1 := hr_4.trans (by decide +kernel)
    refine b_if_eq hx hb zl_1 (tgt := 58) dX11_party__4 (by decide +kernel) (fun c_10 => by exfalso; omega) (fun c_10 => ?_)
    refine lv_iload_n hx hb dX11_party__7 rfl (lv_at hl 2 rfl) ?_
    refine lv_iconst (v := 1) hx hb dX11_party__8 (by decide +kernel) ?_
    refine b_icmp_eq hx hb rfl zl_1 (tgt := 17) dX11_party__9 (by decide +kernel) (fun c_11 => ?_) (fun c_11 => ?_)
    · refine lv_iload_n hx hb dX11_party__17 rfl (lv_at hl 3 rfl) ?_
      refine b_if_lt hx hb rfl (tgt := 58) dX11_party__18 (by decide +kernel) (fun c_12 => ?_) (fun c_12 => ?_)
      · refine lv_aload_n hx hb dX11_party__58 rfl (lv_at hl 0 rfl) ?_
        refine lv_ldc (v := (-1000001)) hx hb hown (hT _ mw_1239) dX11_party__59 ?_
        refine kJi (wr := [(k0, .inl (cI, 1201, .inl c0))]) (va_runV (As := [.int (-1000001)]) (rest := []) ⟨hx, hb, hml, hown, hT⟩ (c_X11_findingG l D cI aK aV k k0 k1 k2 k4 k5 k6 k7 k8 ka kb kl ko H.size c3 c9 cc cd ce cf cg ch ci cj ck cm cn c4 (-1000001) (by first | omega | (simp only [zl_m1000001]; first | done | omega) | decide | assumption | rfl) (by first | omega | (simp only [zl_m1000001]; first | done | omega) | decide | assumption | rfl)) (cwV 1 hT (gV_in mw_1243 mw_1240 mw_1242 mw_p3_8 mw_12) rfl rfl rfl (by decide +kernel) ⟨Nat.le_of_ble_eq_true rfl, Nat.le_of_ble_eq_true rfl⟩) (kRecvX (q0 := 0) (ci := 11) hK hP hD hN hXS hS hA rfl rfl [0, 2] rfl (by decide +kernel)) rfl rfl hl.1 rfl (lv_room (Nat.le_of_ble_eq_true rfl)) dX11_party__61 ⟨Nat.le_of_ble_eq_true rfl, Nat.le_of_ble_eq_true rfl⟩) hP hD hS hA [0, 2] [1] rfl rfl (by decide +kernel) (by decide +kernel) ?_
        clear hP hD hS
        intro r_13 sc4_15 H locs w_14 hP hD hS
        replace hP : va_P D vwCl [(k0, .inl (cI, 1201, .inl c0)), (k, .inr (11, [.ref k0, .ref k1, .ref k2, .int c3, .ref k4, .ref k5, .ref k6, .ref k7, .ref k8, .int c9, .ref ka, .ref kb, .int cc, .int cd, .int ce, .int cf, .int cg, .int ch, .int ci, .int cj, .int ck, .ref kl, .int cm, .int cn, .ref ko])), (k4, .inl (cI, 6, .inl sc4_15))] H := hP
        replace hD : va_D A [(k0, .inl (cI, 1201, .inl c0)), (k, .inr (11, [.ref k0, .ref k1, .ref k2, .int c3, .ref k4, .ref k5, .ref k6, .ref k7, .ref k8, .int c9, .ref ka, .ref kb, .int cc, .int cd, .int ce, .int cf, .int cg, .int ch, .int ci, .int cj, .int ck, .ref kl, .int cm, .int cn, .ref ko])), (k4, .inl (cI, 6, .inl sc4_15))] := hD
        have hr_13 := w_14
        obtain rfl : r_13 = (-1000001) := hr_13.trans (by decide +kernel)
        exact hRet (c0, sc4_15) [1, 0, 2] ⟨pre0, (by (try dsimp only); unfold partyR; (repeat (first | rw [if_pos (by omega)] | rw [if_neg (by omega)]))), (by (try dsimp only); unfold partyS; (repeat (first | rw [if_pos (by omega)] | rw [if_neg (by omega)])))⟩ hP hD (by decide +kernel) rfl hS rfl dX11_party__64
      · refine lv_iload_n hx hb dX11_party__21 rfl (lv_at hl 3 rfl) ?_
        refine lv_bipush (v := 100) hx hb dX11_party__22 (by decide +kernel) ?_
        refine lv_idiv hx hb dX11_party__24 (by decide +kernel) ?_
        refine lv_topi (fun v_16 ev_16 => ?_)
        have tv_16 : v_16.toInt = a2.toInt / 100 := k_divv (w := 0) ev_16 zl_100 (by omega) (by decide +kernel)
        have lo_v_16 := k_lo v_16
        have hi_v_16 := k_hi v_16
        refine lv_iconst (v := 1) hx hb dX11_party__25 (by decide +kernel) ?_
        refine lv_bipush (v := 50) hx hb dX11_party__26 (by decide +kernel) ?_
        refine kJi (wr := [(k, .inr (11, [.ref k0, .ref k1, .ref k2, .int c3, .ref k4, .ref k5, .ref k6, .ref k7, .ref k8, .int c9, .ref ka, .ref kb, .int cc, .int cd, .int ce, .int cf, .int cg, .int ch, .int ci, .int cj, .int ck, .ref kl, .int cm, .int cn, .ref ko])), (k0, .inl (cI, 1201, .inl c0)), (k4, .inl (cI, 6, .inl c4))]) (va_runS (As := [.int v_16, .int 1, .int 50]) (rest := []) ⟨hx, hb, hml, hown, hT⟩ (c_X11_inG l D cI aK aV H.size v_16 1 50) (cwS 3 hT (gS_in mw_1238 mw_1236 mw_1237 mw_12) rfl rfl rfl (by decide +kernel) ⟨Nat.le_of_ble_eq_true rfl, Nat.le_of_ble_eq_true rfl⟩) (kStatX hK hP hD hN hXS hS hA [] rfl (by decide +kernel)) rfl rfl hl.1 rfl (lv_room (Nat.le_of_ble_eq_true rfl)) dX11_party__28 ⟨Nat.le_of_ble_eq_true rfl, Nat.le_of_ble_eq_true rfl⟩) hP hD hS hA [] [0, 1, 2] rfl rfl (by decide +kernel) (by decide +kernel) ?_
        clear hP hD hS
        intro r_17 u_19 H locs w_18 hP hD hS
        replace hP : va_P D vwCl [(k, .inr (11, [.ref k0, .ref k1, .ref k2, .int c3, .ref k4, .ref k5, .ref k6, .ref k7, .ref k8, .int c9, .ref ka, .ref kb, .int cc, .int cd, .int ce, .int cf, .int cg, .int ch, .int ci, .int cj, .int ck, .ref kl, .int cm, .int cn, .ref ko])), (k0, .inl (cI, 1201, .inl c0)), (k4, .inl (cI, 6, .inl c4))] H := hP
        replace hD : va_D A [(k, .inr (11, [.ref k0, .ref k1, .ref k2, .int c3, .ref k4, .ref k5, .ref k6, .ref k7, .ref k8, .int c9, .ref ka, .ref kb, .int cc, .int cd, .int ce, .int cf, .int cg, .int ch, .int ci, .int cj, .int ck, .ref kl, .int cm, .int cn, .ref ko])), (k0, .inl (cI, 1201, .inl c0)), (k4, .inl (cI, 6, .inl c4))] := hD
        rcases w_18 with ⟨hr_17, h_20, h_21⟩ | ⟨hr_17, h_22⟩
        · try simp only [zl_1, zl_50] at h_20
          have h_20 : 1 ≤ v_16.toInt := h_20
          try simp only [zl_1, zl_50] at h_21
          have h_21 : v_16.toInt ≤ 50 := h_21
          obtain rfl : r_17 = 1 := hr_17.trans (by decide +kernel)
          refine b_if_eq hx hb zl_1 (tgt := 58) dX11_party__31 (by decide +kernel) (fun c_23 => by exfalso; omega) (fun c_23 => ?_)
          refine lv_iload_n hx hb dX11_party__34 rfl (lv_at hl 3 rfl) ?_
          refine lv_bipush (v := 100) hx hb dX11_party__35 (by decide +kernel) ?_
          refine lv_irem hx hb dX11_party__37 (by decide +kernel) ?_
          refine lv_topi (fun v_24 ev_24 => ?_)
          have tv_24 : v_24.toInt = a2.toInt % 100 := k_remv (w := 0) ev_24 zl_100 (by omega) (by decide +kernel)
          have lo_v_24 := k_lo v_24
          have hi_v_24 := k_hi v_24
          refine lv_iconst (v := 0) hx hb dX11_party__38 (by decide +kernel) ?_
          refine lv_bipush (v := 50) hx hb dX11_party__39 (by decide +kernel) ?_
          refine kJi (wr := [(k, .inr (11, [.ref k0, .ref k1, .ref k2, .int c3, .ref k4, .ref k5, .ref k6, .ref k7, .ref k8, .int c9, .ref ka, .ref kb, .int cc, .int cd, .int ce, .int cf, .int cg, .int ch, .int ci, .int cj, .int ck, .ref kl, .int cm, .int cn, .ref ko])), (k0, .inl (cI, 1201, .inl c0)), (k4, .inl (cI, 6, .inl c4))]) (va_runS (As := [.int v_24, .int 0, .int 50]) (rest := []) ⟨hx, hb, hml, hown, hT⟩ (c_X11_inG l D cI aK aV H.size v_24 0 50) (cwS 3 hT (gS_in mw_1238 mw_1236 mw_1237 mw_12) rfl rfl rfl (by decide +kernel) ⟨Nat.le_of_ble_eq_true rfl, Nat.le_of_ble_eq_true rfl⟩) (kStatX hK hP hD hN hXS hS hA [] rfl (by decide +kernel)) rfl rfl hl.1 rfl (lv_room (Nat.le_of_ble_eq_true rfl)) dX11_party__41 ⟨Nat.le_of_ble_eq_true rfl, Nat.le_of_ble_eq_true rfl⟩) hP hD hS hA [] [0, 1, 2] rfl rfl (by decide +kernel) (by decide +kernel) ?_
          clear hP hD hS
          intro r_25 u_27 H locs w_26 hP hD hS
          replace hP : va_P D vwCl [(k, .inr (11, [.ref k0, .ref k1, .ref k2, .int c3, .ref k4, .ref k5, .ref k6, .ref k7, .ref k8, .int c9, .ref ka, .ref kb, .int cc, .int cd, .int ce, .int cf, .int cg, .int ch, .int ci, .int cj, .int ck, .ref kl, .int cm, .int cn, .ref ko])), (k0, .inl (cI, 1201, .inl c0)), (k4, .inl (cI, 6, .inl c4))] H := hP
          replace hD : va_D A [(k, .inr (11, [.ref k0, .ref k1, .ref k2, .int c3, .ref k4, .ref k5, .ref k6, .ref k7, .ref k8, .int c9, .ref ka, .ref kb, .int cc, .int cd, .int ce, .int cf, .int cg, .int ch, .int ci, .int cj, .int ck, .ref kl, .int cm, .int cn, .ref ko])), (k0, .inl (cI, 1201, .inl c0)), (k4, .inl (cI, 6, .inl c4))] := hD
          rcases w_26 with ⟨hr_25, h_28, h_29⟩ | ⟨hr_25, h_30⟩
          · try simp only [zl_0, zl_50] at h_28
            have h_28 : 0 ≤ v_24.toInt := h_28
            try simp only [zl_0, zl_50] at h_29
            have h_29 : v_24.toInt ≤ 50 := h_29
            obtain rfl : r_25 = 1 := hr_25.trans (by decide +kernel)
            refine b_if_eq hx hb zl_1 (tgt := 58) dX11_party__44 (by decide +kernel) (fun c_31 => by exfalso; omega) (fun c_31 => ?_)
            refine lv_iload hx hb dX11_party__47 (lv_at hl 4 rfl) ?_
            refine lv_iconst (v := 0) hx hb dX11_party__49 (by decide +kernel) ?_
            refine lv_bipush (v := 99) hx hb dX11_party__50 (by decide +kernel) ?_
            refine kJi (wr := [(k, .inr (11, [.ref k0, .ref k1, .ref k2, .int c3, .ref k4, .ref k5, .ref k6, .ref k7, .ref k8, .int c9, .ref ka, .ref kb, .int cc, .int cd, .int ce, .int cf, .int cg, .int ch, .int ci, .int cj, .int ck, .ref kl, .int cm, .int cn, .ref ko])), (k0, .inl (cI, 1201, .inl c0)), (k4, .inl (cI, 6, .inl c4))]) (va_runS (As := [.int a3, .int 0, .int 99]) (rest := []) ⟨hx, hb, hml, hown, hT⟩ (c_X11_inG l D cI aK aV H.size a3 0 99) (cwS 3 hT (gS_in mw_1238 mw_1236 mw_1237 mw_12) rfl rfl rfl (by decide +kernel) ⟨Nat.le_of_ble_eq_true rfl, Nat.le_of_ble_eq_true rfl⟩) (kStatX hK hP hD hN hXS hS hA [] rfl (by decide +kernel)) rfl rfl hl.1 rfl (lv_room (Nat.le_of_ble_eq_true rfl)) dX11_party__52 ⟨Nat.le_of_ble_eq_true rfl, Nat.le_of_ble_eq_true rfl⟩) hP hD hS hA [] [0, 1, 2] rfl rfl (by decide +kernel) (by decide +kernel) ?_
            clear hP hD hS
            intro r_32 u_34 H locs w_33 hP hD hS
            replace hP : va_P D vwCl [(k, .inr (11, [.ref k0, .ref k1, .ref k2, .int c3, .ref k4, .ref k5, .ref k6, .ref k7, .ref k8, .int c9, .ref ka, .ref kb, .int cc, .int cd, .int ce, .int cf, .int cg, .int ch, .int ci, .int cj, .int ck, .ref kl, .int cm, .int cn, .ref ko])), (k0, .inl (cI, 1201, .inl c0)), (k4, .inl (cI, 6, .inl c4))] H := hP
            replace hD : va_D A [(k, .inr (11, [.ref k0, .ref k1, .ref k2, .int c3, .ref k4, .ref k5, .ref k6, .ref k7, .ref k8, .int c9, .ref ka, .ref kb, .int cc, .int cd, .int ce, .int cf, .int cg, .int ch, .int ci, .int cj, .int ck, .ref kl, .int cm, .int cn, .ref ko])), (k0, .inl (cI, 1201, .inl c0)), (k4, .inl (cI, 6, .inl c4))] := hD
            rcases w_33 with ⟨hr_32, h_35, h_36⟩ | ⟨hr_32, h_37⟩
            · try simp only [zl_0, zl_99] at h_35
              have h_35 : 0 ≤ a3.toInt := h_35
              try simp only [zl_0, zl_99] at h_36
              have h_36 : a3.toInt ≤ 99 := h_36
              obtain rfl : r_32 = 1 := hr_32.trans (by decide +kernel)
              refine b_if_ne hx hb zl_1 (tgt := 65) dX11_party__55 (by decide +kernel) (fun c_38 => ?_) (fun c_38 => by exfalso; omega)
              refine lv_aload_n hx hb dX11_party__65 rfl (lv_at hl 0 rfl) ?_
              refine va_get (D := D) (ci := 11) (v := .ref k0) (C := RX11) (T := TX11) (N := 25) hx hb hT giX11 hown hK hP 0 rfl rfl 0 (by decide +kernel) (hT (Cond.fieldLink RX11 9 "DesertWireModel" "s" "[I") mw_1156) (fun _ h9 => h9) rfl dX11_party__66 ?_
              refine lv_iconst (v := 2) hx hb dX11_party__69 (by decide +kernel) ?_
              refine k_iald (v := (c0 2)) hx hb hK hP 1 0 rfl rfl (k_inl (by decide +kernel)) rfl dX11_party__70 ?_
              refine lv_topi (fun v_39 ev_39 => ?_)
              have lo_v_39 := k_lo v_39
              have hi_v_39 := k_hi v_39
              have tv_39 : v_39.toInt = (c0 2).toInt := by rw [ev_39]
              have b_40 : 0 ≤ v_39.toInt ∧ v_39.toInt ≤ 4 := by first | (rw [tv_39]; exact SB.n2 (And.left pre0)) | exact SB.n2 (And.left pre0) | omega
              refine lv_iconst (v := 4) hx hb dX11_party__71 (by decide +kernel) ?_
              refine b_icmp_ne hx hb rfl zl_4 (tgt := 82) dX11_party__72 (by decide +kernel) (fun c_41 => ?_) (fun c_41 => ?_)
              · refine lv_aload_n hx hb dX11_party__82 rfl (lv_at hl 0 rfl) ?_
                refine va_get (D := D) (ci := 11) (v := .ref k0) (C := RX11) (T := TX11) (N := 25) hx hb hT giX11 hown hK hP 0 rfl rfl 0 (by decide +kernel) (hT (Cond.fieldLink RX11 9 "DesertWireModel" "s" "[I") mw_1156) (fun _ h9 => h9) rfl dX11_party__83 ?_
                refine lv_iconst (v := 2) hx hb dX11_party__86 (by decide +kernel) ?_
                refine k_iald (v := (c0 2)) hx hb hK hP 1 0 rfl rfl (k_inl (by decide +kernel)) rfl dX11_party__87 ?_
                refine lv_topi (fun v_42 ev_42 => ?_)
                have lo_v_42 := k_lo v_42
                have hi_v_42 := k_hi v_42
                have tv_42 : v_42.toInt = (c0 2).toInt := by rw [ev_42]
                have b_43 : 0 ≤ v_42.toInt ∧ v_42.toInt ≤ 4 := by first | (rw [tv_42]; exact SB.n2 (And.left pre0)) | exact SB.n2 (And.left pre0) | omega
                refine lv_istore (lv' := [(5, .int v_42), (0, .ref k), (1, .int a0), (2, .int a1), (3, .int a2), (4, .int a3)]) hx hb dX11_party__88 hl (by decide +kernel) rfl ?_
                clear hl
                intro ls hl
                refine lv_aload_n hx hb dX11_party__90 rfl (lv_at hl 1 rfl) ?_
                refine va_get (D := D) (ci := 11) (v := .ref k0) (C := RX11) (T := TX11) (N := 25) hx hb hT giX11 hown hK hP 0 rfl rfl 0 (by decide +kernel) (hT (Cond.fieldLink RX11 9 "DesertWireModel" "s" "[I") mw_1156) (fun _ h9 => h9) rfl dX11_party__91 ?_
                refine lv_iconst (v := 2) hx hb dX11_party__94 (by decide +kernel) ?_
                refine lv_dup2_11 hx hb dX11_party__95 rfl rfl ?_
                refine k_iald (v := (c0 2)) hx hb hK hP 1 0 rfl rfl (k_inl (by decide +kernel)) rfl dX11_party__96 ?_
                refine lv_topi (fun v_44 ev_44 => ?_)
                have lo_v_44 := k_lo v_44
                have hi_v_44 := k_hi v_44
                have tv_44 : v_44.toInt = (c0 2).toInt := by rw [ev_44]
                have b_45 : 0 ≤ v_44.toInt ∧ v_44.toInt ≤ 4 := by first | (rw [tv_44]; exact SB.n2 (And.left pre0)) | exact SB.n2 (And.left pre0) | omega
                refine lv_iconst (v := 1) hx hb dX11_party__97 (by decide +kernel) ?_
                refine lv_iadd hx hb dX11_party__98 ?_
                refine lv_topi (fun v_46 ev_46 => ?_)
                have tv_46 : v_46.toInt = v_44.toInt + 1 := by rw [ev_46]; exact k_addv rfl zl_1 (by omega) (by omega)
                refine va_iast hx hb hK hP hD hS 1 0 rfl rfl (k_inl (by decide +kernel)) dX11_party__99 ?_
                clear hP hD hS
                intro H locs hP hD hS
                replace hP : va_P D vwCl [(k, .inr (11, [.ref k0, .ref k1, .ref k2, .int c3, .ref k4, .ref k5, .ref k6, .ref k7, .ref k8, .int c9, .ref ka, .ref kb, .int cc, .int cd, .int ce, .int cf, .int cg, .int ch, .int ci, .int cj, .int ck, .ref kl, .int cm, .int cn, .ref ko])), (k0, .inl (cI, 1201, .inl (upd c0 2 v_46))), (k4, .inl (cI, 6, .inl c4))] H := hP
                replace hD : va_D A [(k, .inr (11, [.ref k0, .ref k1, .ref k2, .int c3, .ref k4, .ref k5, .ref k6, .ref k7, .ref k8, .int c9, .ref ka, .ref kb, .int cc, .int cd, .int ce, .int cf, .int cg, .int ch, .int ci, .int cj, .int ck, .ref kl, .int cm, .int cn, .ref ko])), (k0, .inl (cI, 1201, .inl (upd c0 2 v_46))), (k4, .inl (cI, 6, .inl c4))] := hD
                obtain ⟨f_47, ef_47⟩ : ∃ g : Nat → Int32, g = upd c0 2 v_46 := ⟨_, rfl⟩
                rw [← ef_47] at hP hD
                have hS_48 : SIX f_47 v_42.toInt := SIX.n2 pre0 ef_47 (p := v_42) (by omega) (by omega) (by omega)
                have n_49 : (f_47 0).toInt = (c0 0).toInt := by rw [updN ef_47 (by omega)]
                have n_50 : (f_47 1).toInt = (c0 1).toInt := by rw [updN ef_47 (by omega)]
                have n_51 : (f_47 2).toInt = v_46.toInt := by rw [ef_47, upd_at]
                refine lv_iconst (v := 0) hx hb dX11_party__100 (by decide +kernel) ?_
                refine lv_istore (lv' := [(6, .int 0), (5, .int v_42), (0, .ref k), (1, .int a0), (2, .int a1), (3, .int a2), (4, .int a3)]) hx hb dX11_party__101 hl (by decide +kernel) rfl ?_
                clear hl
                intro ls hl
                have hloop_103 : ∀ (fu_ : Nat) (l103_6 : Int32) (g103_k0 : Nat → Int32), 0 ≤ l103_6.toInt → SIX g103_k0 v_42.toInt → (g103_k0 2).toInt = v_42.toInt + 1 → g103_k0 = pzN f_47 v_42.toInt.toNat l103_6.toInt.toNat → l103_6.toInt ≤ 9 → (9 - l103_6.toInt).toNat < fu_ → ∀ (ls : Array Slot) (H : Heap) (locs : List Loc), lv_has ls 7 [(6, .int l103_6), (5, .int v_42), (0, .ref k), (1, .int a0), (2, .int a1), (3, .int a2), (4, .int a3)] → va_P D vwCl [(k, .inr (11, [.ref k0, .ref k1, .ref k2, .int c3, .ref k4, .ref k5, .ref k6, .ref k7, .ref k8, .int c9, .ref ka, .ref kb, .int cc, .int cd, .int ce, .int cf, .int cg, .int ch, .int ci, .int cj, .int ck, .ref kl, .int cm, .int cn, .ref ko])), (k0, .inl (cI, 1201, .inl g103_k0)), (k4, .inl (cI, 6, .inl c4))] H → va_D A [(k, .inr (11, [.ref k0, .ref k1, .ref k2, .int c3, .ref k4, .ref k5, .ref k6, .ref k7, .ref k8, .int c9, .ref ka, .ref kb, .int cc, .int cd, .int ce, .int cf, .int cg, .int ch, .int ci, .int cj, .int ck, .ref kl, .int cm, .int cn, .ref ko])), (k0, .inl (cI, 1201, .inl g103_k0)), (k4, .inl (cI, 6, .inl c4))] → va_S A s.heap H locs → W p l e ({ frames := 2, cells := 0, slots := 0, locals := 42 } : Room) s m args below meth c H locs 0 0 Q (F0 m 103 ls []) := by
                  intro fu_; induction fu_ with
                  | zero => intro l103_6 g103_k0 i103_0 i103_1 i103_2 i103_3 i103_4 hm; exact absurd hm (by omega)
                  | succ fu_ ih103 =>
                      intro l103_6 g103_k0 i103_0 i103_1 i103_2 i103_3 i103_4 hm ls H locs hl hP hD hS
                      have lo_l103_6 := k_lo l103_6
                      have hi_l103_6 := k_hi l103_6
                      have i103_1 : SIX g103_k0 v_42.toInt := i103_1
                      have i103_3 : g103_k0 = pzN f_47 v_42.toInt.toNat l103_6.toInt.toNat := i103_3
                      refine lv_iload hx hb dX11_party__103 (lv_at hl 0 rfl) ?_
                      refine lv_bipush (v := 9) hx hb dX11_party__105 (by decide +kernel) ?_
                      refine b_icmp_ge hx hb rfl zl_9 (tgt := 125) dX11_party__107 (by decide +kernel) (fun c_52 => ?_) (fun c_52 => ?_)
                      · refine lv_aload_n hx hb dX11_party__125 rfl (lv_at hl 2 rfl) ?_
                        refine lv_iload hx hb dX11_party__126 (lv_at hl 1 rfl) ?_
                        refine lv_iconst (v := 0) hx hb dX11_party__128 (by decide +kernel) ?_
                        refine lv_iload_n hx hb dX11_party__129 rfl (lv_at hl 3 rfl) ?_
                        refine kJv (wr := [(k4, .inl (cI, 6, .inl c4))]) (va_runV (As := [.int v_42, .int 0, .int a0]) (rest := []) ⟨hx, hb, hml, hown, hT⟩ (c_X11_setPartyG0 l D cI aK aV k k0 k1 k2 k4 k5 k6 k7 k8 ka kb kl ko H.size c3 c9 cc cd ce cf cg ch ci cj ck cm cn g103_k0 v_42 0 a0 (by first | omega | (simp only [zl_0]; first | done | omega) | decide | assumption | rfl) (by first | omega | (simp only [zl_0]; first | done | omega) | decide | assumption | rfl) (by first | omega | (simp only [zl_0]; first | done | omega) | decide | assumption | rfl)) (cwV 3 hT (gV_in mw_1404 mw_1401 mw_1403 mw_p5_3 mw_12) rfl rfl rfl (by decide +kernel) ⟨Nat.le_of_ble_eq_true rfl, Nat.le_of_ble_eq_true rfl⟩) (kRecvX (q0 := 0) (ci := 11) hK hP hD hN hXS hS hA rfl rfl [0, 1] rfl (by decide +kernel)) rfl rfl hl.1 rfl (lv_room (Nat.le_of_ble_eq_true rfl)) dX11_party__130 ⟨Nat.le_of_ble_eq_true rfl, Nat.le_of_ble_eq_true rfl⟩) hP hD hS hA [0, 1] [2] rfl rfl (by decide +kernel) (by decide +kernel) ?_
                        clear hP hD hS
                        intro sc0_55 H locs w_54 hP hD hS
                        replace hP : va_P D vwCl [(k4, .inl (cI, 6, .inl c4)), (k, .inr (11, [.ref k0, .ref k1, .ref k2, .int c3, .ref k4, .ref k5, .ref k6, .ref k7, .ref k8, .int c9, .ref ka, .ref kb, .int cc, .int cd, .int ce, .int cf, .int cg, .int ch, .int ci, .int cj, .int ck, .ref kl, .int cm, .int cn, .ref ko])), (k0, .inl (cI, 1201, .inl sc0_55))] H := hP
                        replace hD : va_D A [(k4, .inl (cI, 6, .inl c4)), (k, .inr (11, [.ref k0, .ref k1, .ref k2, .int c3, .ref k4, .ref k5, .ref k6, .ref k7, .ref k8, .int c9, .ref ka, .ref kb, .int cc, .int cd, .int ce, .int cf, .int cg, .int ch, .int ci, .int cj, .int ck, .ref kl, .int cm, .int cn, .ref ko])), (k0, .inl (cI, 1201, .inl sc0_55))] := hD
                        have h_56 := w_54
                        try simp only [zl_0] at h_56
                        have h_56 : sc0_55 = upd g103_k0 (459 + 9 * v_42.toInt.toNat + 0) a0 := h_56
                        have h_56 : sc0_55 = upd g103_k0 (459 + 9 * v_42.toInt.toNat + 0) a0 := h_56
                        have hS_57 : SIX sc0_55 v_42.toInt := SIX.p i103_1 h_56 rfl (by omega) (by omega) (by decide +kernel) (by omega) (fun z => by omega) (fun z => by omega)
                        have n_58 : (sc0_55 0).toInt = (g103_k0 0).toInt := by rw [updN h_56 (by omega)]
                        have n_59 : (sc0_55 1).toInt = (g103_k0 1).toInt := by rw [updN h_56 (by omega)]
                        have n_60 : (sc0_55 2).toInt = (g103_k0 2).toInt := by rw [updN h_56 (by omega)]
                        have n_61 : (pW sc0_55 v_42 2).toInt = (pW g103_k0 v_42 2).toInt := by rw [pW_upd h_56 (by decide +kernel) (by decide +kernel) (Or.inl (by decide +kernel))]
                        refine lv_aload_n hx hb dX11_party__133 rfl (lv_at hl 2 rfl) ?_
                        refine lv_iload hx hb dX11_party__134 (lv_at hl 1 rfl) ?_
                        refine lv_iconst (v := 1) hx hb dX11_party__136 (by decide +kernel) ?_
                        refine lv_iload_n hx hb dX11_party__137 rfl (lv_at hl 4 rfl) ?_
                        refine kJv (wr := [(k4, .inl (cI, 6, .inl c4))]) (va_runV (As := [.int v_42, .int 1, .int a1]) (rest := []) ⟨hx, hb, hml, hown, hT⟩ (c_X11_setPartyG1 l D cI aK aV k k0 k1 k2 k4 k5 k6 k7 k8 ka kb kl ko H.size c3 c9 cc cd ce cf cg ch ci cj ck cm cn sc0_55 v_42 1 a1 (by first | omega | (simp only [zl_1]; first | done | omega) | decide | assumption | rfl) (by first | omega | (simp only [zl_1]; first | done | omega) | decide | assumption | rfl) (by first | omega | (simp only [zl_1]; first | done | omega) | decide | assumption | rfl)) (cwV 3 hT (gV_in mw_1404 mw_1401 mw_1403 mw_p5_3 mw_12) rfl rfl rfl (by decide +kernel) ⟨Nat.le_of_ble_eq_true rfl, Nat.le_of_ble_eq_true rfl⟩) (kRecvX (q0 := 1) (ci := 11) hK hP hD hN hXS hS hA rfl rfl [1, 2] rfl (by decide +kernel)) rfl rfl hl.1 rfl (lv_room (Nat.le_of_ble_eq_true rfl)) dX11_party__138 ⟨Nat.le_of_ble_eq_true rfl, Nat.le_of_ble_eq_true rfl⟩) hP hD hS hA [1, 2] [0] rfl rfl (by decide +kernel) (by decide +kernel) ?_
                        clear hP hD hS
                        intro sc0_64 H locs w_63 hP hD hS
                        replace hP : va_P D vwCl [(k4, .inl (cI, 6, .inl c4)), (k, .inr (11, [.ref k0, .ref k1, .ref k2, .int c3, .ref k4, .ref k5, .ref k6, .ref k7, .ref k8, .int c9, .ref ka, .ref kb, .int cc, .int cd, .int ce, .int cf, .int cg, .int ch, .int ci, .int cj, .int ck, .ref kl, .int cm, .int cn, .ref ko])), (k0, .inl (cI, 1201, .inl sc0_64))] H := hP
                        replace hD : va_D A [(k4, .inl (cI, 6, .inl c4)), (k, .inr (11, [.ref k0, .ref k1, .ref k2, .int c3, .ref k4, .ref k5, .ref k6, .ref k7, .ref k8, .int c9, .ref ka, .ref kb, .int cc, .int cd, .int ce, .int cf, .int cg, .int ch, .int ci, .int cj, .int ck, .ref kl, .int cm, .int cn, .ref ko])), (k0, .inl (cI, 1201, .inl sc0_64))] := hD
                        have h_65 := w_63
                        try simp only [zl_1] at h_65
                        have h_65 : sc0_64 = upd sc0_55 (459 + 9 * v_42.toInt.toNat + 1) a1 := h_65
                        have h_65 : sc0_64 = upd sc0_55 (459 + 9 * v_42.toInt.toNat + 1) a1 := h_65
                        have hS_66 : SIX sc0_64 v_42.toInt := SIX.p hS_57 h_65 rfl (by omega) (by omega) (by decide +kernel) (by omega) (fun z => by omega) (fun z => by omega)
                        have n_67 : (sc0_64 0).toInt = (sc0_55 0).toInt := by rw [updN h_65 (by omega)]
                        have n_68 : (sc0_64 1).toInt = (sc0_55 1).toInt := by rw [updN h_65 (by omega)]
                        have n_69 : (sc0_64 2).toInt = (sc0_55 2).toInt := by rw [updN h_65 (by omega)]
                        have n_70 : (pW sc0_64 v_42 2).toInt = (pW sc0_55 v_42 2).toInt := by rw [pW_upd h_65 (by decide +kernel) (by decide +kernel) (Or.inl (by decide +kernel))]
                        refine lv_aload_n hx hb dX11_party__141 rfl (lv_at hl 2 rfl) ?_
                        refine lv_iload hx hb dX11_party__142 (lv_at hl 1 rfl) ?_
                        refine lv_iconst (v := 2) hx hb dX11_party__144 (by decide +kernel) ?_
                        refine lv_iload_n hx hb dX11_party__145 rfl (lv_at hl 5 rfl) ?_
                        refine lv_bipush (v := 100) hx hb dX11_party__146 (by decide +kernel) ?_
                        refine lv_idiv hx hb dX11_party__148 (by decide +kernel) ?_
                        refine lv_topi (fun v_71 ev_71 => ?_)
                        have tv_71 : v_71.toInt = a2.toInt / 100 := k_divv (w := 0) ev_71 zl_100 (by omega) (by decide +kernel)
                        have lo_v_71 := k_lo v_71
                        have hi_v_71 := k_hi v_71
                        refine kJv (wr := [(k4, .inl (cI, 6, .inl c4))]) (va_runV (As := [.int v_42, .int 2, .int v_71]) (rest := []) ⟨hx, hb, hml, hown, hT⟩ (c_X11_setPartyG2 l D cI aK aV k k0 k1 k2 k4 k5 k6 k7 k8 ka kb kl ko H.size c3 c9 cc cd ce cf cg ch ci cj ck cm cn sc0_64 v_42 2 v_71 (by first | omega | (simp only [zl_2]; first | done | omega) | decide | assumption | rfl) (by first | omega | (simp only [zl_2]; first | done | omega) | decide | assumption | rfl) (by first | omega | (simp only [zl_2]; first | done | omega) | decide | assumption | rfl)) (cwV 3 hT (gV_in mw_1404 mw_1401 mw_1403 mw_p5_3 mw_12) rfl rfl rfl (by decide +kernel) ⟨Nat.le_of_ble_eq_true rfl, Nat.le_of_ble_eq_true rfl⟩) (kRecvX (q0 := 1) (ci := 11) hK hP hD hN hXS hS hA rfl rfl [1, 2] rfl (by decide +kernel)) rfl rfl hl.1 rfl (lv_room (Nat.le_of_ble_eq_true rfl)) dX11_party__149 ⟨Nat.le_of_ble_eq_true rfl, Nat.le_of_ble_eq_true rfl⟩) hP hD hS hA [1, 2] [0] rfl rfl (by decide +kernel) (by decide +kernel) ?_
                        clear hP hD hS
                        intro sc0_74 H locs w_73 hP hD hS
                        replace hP : va_P D vwCl [(k4, .inl (cI, 6, .inl c4)), (k, .inr (11, [.ref k0, .ref k1, .ref k2, .int c3, .ref k4, .ref k5, .ref k6, .ref k7, .ref k8, .int c9, .ref ka, .ref kb, .int cc, .int cd, .int ce, .int cf, .int cg, .int ch, .int ci, .int cj, .int ck, .ref kl, .int cm, .int cn, .ref ko])), (k0, .inl (cI, 1201, .inl sc0_74))] H := hP
                        replace hD : va_D A [(k4, .inl (cI, 6, .inl c4)), (k, .inr (11, [.ref k0, .ref k1, .ref k2, .int c3, .ref k4, .ref k5, .ref k6, .ref k7, .ref k8, .int c9, .ref ka, .ref kb, .int cc, .int cd, .int ce, .int cf, .int cg, .int ch, .int ci, .int cj, .int ck, .ref kl, .int cm, .int cn, .ref ko])), (k0, .inl (cI, 1201, .inl sc0_74))] := hD
                        have h_75 := w_73
                        try simp only [zl_2] at h_75
                        have h_75 : sc0_74 = upd sc0_64 (459 + 9 * v_42.toInt.toNat + 2) v_71 := h_75
                        have h_75 : sc0_74 = upd sc0_64 (459 + 9 * v_42.toInt.toNat + 2) v_71 := h_75
                        have hS_76 : SIX sc0_74 (-1) := SIX.all (p := v_42) (SIX.p hS_66 h_75 rfl (by omega) (by omega) (by decide +kernel) (by omega) (fun _ => Or.inr rfl) (fun z => by omega)) (Or.inr (by rw [pW_updE h_75]; omega))
                        have n_77 : (sc0_74 0).toInt = (sc0_64 0).toInt := by rw [updN h_75 (by omega)]
                        have n_78 : (sc0_74 1).toInt = (sc0_64 1).toInt := by rw [updN h_75 (by omega)]
                        have n_79 : (sc0_74 2).toInt = (sc0_64 2).toInt := by rw [updN h_75 (by omega)]
                        refine lv_aload_n hx hb dX11_party__152 rfl (lv_at hl 2 rfl) ?_
                        refine lv_iload hx hb dX11_party__153 (lv_at hl 1 rfl) ?_
                        refine lv_iconst (v := 3) hx hb dX11_party__155 (by decide +kernel) ?_
                        refine lv_iload_n hx hb dX11_party__156 rfl (lv_at hl 5 rfl) ?_
                        refine lv_bipush (v := 100) hx hb dX11_party__157 (by decide +kernel) ?_
                        refine lv_irem hx hb dX11_party__159 (by decide +kernel) ?_
                        refine lv_topi (fun v_81 ev_81 => ?_)
                        have tv_81 : v_81.toInt = a2.toInt % 100 := k_remv (w := 0) ev_81 zl_100 (by omega) (by decide +kernel)
                        have lo_v_81 := k_lo v_81
                        have hi_v_81 := k_hi v_81
                        refine kJv (wr := [(k4, .inl (cI, 6, .inl c4))]) (va_runV (As := [.int v_42, .int 3, .int v_81]) (rest := []) ⟨hx, hb, hml, hown, hT⟩ (c_X11_setPartyG3 l D cI aK aV k k0 k1 k2 k4 k5 k6 k7 k8 ka kb kl ko H.size c3 c9 cc cd ce cf cg ch ci cj ck cm cn sc0_74 v_42 3 v_81 (by first | omega | (simp only [zl_3]; first | done | omega) | decide | assumption | rfl) (by first | omega | (simp only [zl_3]; first | done | omega) | decide | assumption | rfl) (by first | omega | (simp only [zl_3]; first | done | omega) | decide | assumption | rfl)) (cwV 3 hT (gV_in mw_1404 mw_1401 mw_1403 mw_p5_3 mw_12) rfl rfl rfl (by decide +kernel) ⟨Nat.le_of_ble_eq_true rfl, Nat.le_of_ble_eq_true rfl⟩) (kRecvX (q0 := 1) (ci := 11) hK hP hD hN hXS hS hA rfl rfl [1, 2] rfl (by decide +kernel)) rfl rfl hl.1 rfl (lv_room (Nat.le_of_ble_eq_true rfl)) dX11_party__160 ⟨Nat.le_of_ble_eq_true rfl, Nat.le_of_ble_eq_true rfl⟩) hP hD hS hA [1, 2] [0] rfl rfl (by decide +kernel) (by decide +kernel) ?_
                        clear hP hD hS
                        intro sc0_84 H locs w_83 hP hD hS
                        replace hP : va_P D vwCl [(k4, .inl (cI, 6, .inl c4)), (k, .inr (11, [.ref k0, .ref k1, .ref k2, .int c3, .ref k4, .ref k5, .ref k6, .ref k7, .ref k8, .int c9, .ref ka, .ref kb, .int cc, .int cd, .int ce, .int cf, .int cg, .int ch, .int ci, .int cj, .int ck, .ref kl, .int cm, .int cn, .ref ko])), (k0, .inl (cI, 1201, .inl sc0_84))] H := hP
                        replace hD : va_D A [(k4, .inl (cI, 6, .inl c4)), (k, .inr (11, [.ref k0, .ref k1, .ref k2, .int c3, .ref k4, .ref k5, .ref k6, .ref k7, .ref k8, .int c9, .ref ka, .ref kb, .int cc, .int cd, .int ce, .int cf, .int cg, .int ch, .int ci, .int cj, .int ck, .ref kl, .int cm, .int cn, .ref ko])), (k0, .inl (cI, 1201, .inl sc0_84))] := hD
                        have h_85 := w_83
                        try simp only [zl_3] at h_85
                        have h_85 : sc0_84 = upd sc0_74 (459 + 9 * v_42.toInt.toNat + 3) v_81 := h_85
                        have h_85 : sc0_84 = upd sc0_74 (459 + 9 * v_42.toInt.toNat + 3) v_81 := h_85
                        have hS_86 : SIX sc0_84 (-1) := SIX.p hS_76 h_85 rfl (by omega) (by omega) (by decide +kernel) (by omega) (fun z => by omega) (fun z => by omega)
                        have n_87 : (sc0_84 0).toInt = (sc0_74 0).toInt := by rw [updN h_85 (by omega)]
                        have n_88 : (sc0_84 1).toInt = (sc0_74 1).toInt := by rw [updN h_85 (by omega)]
                        have n_89 : (sc0_84 2).toInt = (sc0_74 2).toInt := by rw [updN h_85 (by omega)]
                        have n_90 : (pW sc0_84 v_42 2).toInt = (pW sc0_74 v_42 2).toInt := by rw [pW_upd h_85 (by decide +kernel) (by decide +kernel) (Or.inl (by decide +kernel))]
                        refine lv_aload_n hx hb dX11_party__163 rfl (lv_at hl 2 rfl) ?_
                        refine lv_iload hx hb dX11_party__164 (lv_at hl 1 rfl) ?_
                        refine lv_iconst (v := 4) hx hb dX11_party__166 (by decide +kernel) ?_
                        refine lv_iload hx hb dX11_party__167 (lv_at hl 6 rfl) ?_
                        refine kJv (wr := [(k4, .inl (cI, 6, .inl c4))]) (va_runV (As := [.int v_42, .int 4, .int a3]) (rest := []) ⟨hx, hb, hml, hown, hT⟩ (c_X11_setPartyG4 l D cI aK aV k k0 k1 k2 k4 k5 k6 k7 k8 ka kb kl ko H.size c3 c9 cc cd ce cf cg ch ci cj ck cm cn sc0_84 v_42 4 a3 (by first | omega | (simp only [zl_4]; first | done | omega) | decide | assumption | rfl) (by first | omega | (simp only [zl_4]; first | done | omega) | decide | assumption | rfl) (by first | omega | (simp only [zl_4]; first | done | omega) | decide | assumption | rfl)) (cwV 3 hT (gV_in mw_1404 mw_1401 mw_1403 mw_p5_3 mw_12) rfl rfl rfl (by decide +kernel) ⟨Nat.le_of_ble_eq_true rfl, Nat.le_of_ble_eq_true rfl⟩) (kRecvX (q0 := 1) (ci := 11) hK hP hD hN hXS hS hA rfl rfl [1, 2] rfl (by decide +kernel)) rfl rfl hl.1 rfl (lv_room (Nat.le_of_ble_eq_true rfl)) dX11_party__169 ⟨Nat.le_of_ble_eq_true rfl, Nat.le_of_ble_eq_true rfl⟩) hP hD hS hA [1, 2] [0] rfl rfl (by decide +kernel) (by decide +kernel) ?_
                        clear hP hD hS
                        intro sc0_93 H locs w_92 hP hD hS
                        replace hP : va_P D vwCl [(k4, .inl (cI, 6, .inl c4)), (k, .inr (11, [.ref k0, .ref k1, .ref k2, .int c3, .ref k4, .ref k5, .ref k6, .ref k7, .ref k8, .int c9, .ref ka, .ref kb, .int cc, .int cd, .int ce, .int cf, .int cg, .int ch, .int ci, .int cj, .int ck, .ref kl, .int cm, .int cn, .ref ko])), (k0, .inl (cI, 1201, .inl sc0_93))] H := hP
                        replace hD : va_D A [(k4, .inl (cI, 6, .inl c4)), (k, .inr (11, [.ref k0, .ref k1, .ref k2, .int c3, .ref k4, .ref k5, .ref k6, .ref k7, .ref k8, .int c9, .ref ka, .ref kb, .int cc, .int cd, .int ce, .int cf, .int cg, .int ch, .int ci, .int cj, .int ck, .ref kl, .int cm, .int cn, .ref ko])), (k0, .inl (cI, 1201, .inl sc0_93))] := hD
                        have h_94 := w_92
                        try simp only [zl_4] at h_94
                        have h_94 : sc0_93 = upd sc0_84 (459 + 9 * v_42.toInt.toNat + 4) a3 := h_94
                        have h_94 : sc0_93 = upd sc0_84 (459 + 9 * v_42.toInt.toNat + 4) a3 := h_94
                        have hS_95 : SIX sc0_93 (-1) := SIX.p hS_86 h_94 rfl (by omega) (by omega) (by decide +kernel) (by omega) (fun z => by omega) (fun z => by omega)
                        have n_96 : (sc0_93 0).toInt = (sc0_84 0).toInt := by rw [updN h_94 (by omega)]
                        have n_97 : (sc0_93 1).toInt = (sc0_84 1).toInt := by rw [updN h_94 (by omega)]
                        have n_98 : (sc0_93 2).toInt = (sc0_84 2).toInt := by rw [updN h_94 (by omega)]
                        have n_99 : (pW sc0_93 v_42 2).toInt = (pW sc0_84 v_42 2).toInt := by rw [pW_upd h_94 (by decide +kernel) (by decide +kernel) (Or.inl (by decide +kernel))]
                        refine lv_iload hx hb dX11_party__172 (lv_at hl 1 rfl) ?_
                        exact hRet (sc0_93, c4) [1, 2, 0] ⟨hS_95, (by (try dsimp only); unfold partyR; (repeat (first | rw [if_pos (by omega)] | rw [if_neg (by omega)])); first | done | exact k_inj (by omega)), (pty_ref (p := v_42) (v := v_46) (m := v_71) (b := v_81) ⟨by omega, by omega, by omega, by omega, by omega, by omega, by omega, by omega, by omega⟩ ev_42 (by rw [ev_46, ev_44]) (by omega) ev_71 ev_81 ef_47 (by have z := i103_3; rw [show l103_6.toInt.toNat = 9 from by omega] at z; exact z) h_56 h_65 h_75 h_85 h_94)⟩ hP hD (by decide +kernel) rfl hS rfl dX11_party__174
                      · refine lv_aload_n hx hb dX11_party__110 rfl (lv_at hl 2 rfl) ?_
                        refine lv_iload hx hb dX11_party__111 (lv_at hl 1 rfl) ?_
                        refine lv_iload hx hb dX11_party__113 (lv_at hl 0 rfl) ?_
                        refine lv_iconst (v := 0) hx hb dX11_party__115 (by decide +kernel) ?_
                        refine kJv (wr := [(k4, .inl (cI, 6, .inl c4))]) (va_runV (As := [.int v_42, .int l103_6, .int 0]) (rest := []) ⟨hx, hb, hml, hown, hT⟩ (c_X11_setPartyGZ l D cI aK aV k k0 k1 k2 k4 k5 k6 k7 k8 ka kb kl ko H.size c3 c9 cc cd ce cf cg ch ci cj ck cm cn g103_k0 v_42 l103_6 0 (by first | omega | (simp only [zl_0]; first | done | omega) | decide | assumption | rfl) (by first | omega | (simp only [zl_0]; first | done | omega) | decide | assumption | rfl) (by first | omega | (simp only [zl_0]; first | done | omega) | decide | assumption | rfl) (by first | omega | (simp only [zl_0]; first | done | omega) | decide | assumption | rfl) (by first | omega | (simp only [zl_0]; first | done | omega) | decide | assumption | rfl) i103_1) (cwV 3 hT (gV_in mw_1404 mw_1401 mw_1403 mw_p5_3 mw_12) rfl rfl rfl (by decide +kernel) ⟨Nat.le_of_ble_eq_true rfl, Nat.le_of_ble_eq_true rfl⟩) (kRecvX (q0 := 0) (ci := 11) hK hP hD hN hXS hS hA rfl rfl [0, 1] rfl (by decide +kernel)) rfl rfl hl.1 rfl (lv_room (Nat.le_of_ble_eq_true rfl)) dX11_party__116 ⟨Nat.le_of_ble_eq_true rfl, Nat.le_of_ble_eq_true rfl⟩) hP hD hS hA [0, 1] [2] rfl rfl (by decide +kernel) (by decide +kernel) ?_
                        clear hP hD hS
                        intro sc0_102 H locs w_101 hP hD hS
                        replace hP : va_P D vwCl [(k4, .inl (cI, 6, .inl c4)), (k, .inr (11, [.ref k0, .ref k1, .ref k2, .int c3, .ref k4, .ref k5, .ref k6, .ref k7, .ref k8, .int c9, .ref ka, .ref kb, .int cc, .int cd, .int ce, .int cf, .int cg, .int ch, .int ci, .int cj, .int ck, .ref kl, .int cm, .int cn, .ref ko])), (k0, .inl (cI, 1201, .inl sc0_102))] H := hP
                        replace hD : va_D A [(k4, .inl (cI, 6, .inl c4)), (k, .inr (11, [.ref k0, .ref k1, .ref k2, .int c3, .ref k4, .ref k5, .ref k6, .ref k7, .ref k8, .int c9, .ref ka, .ref kb, .int cc, .int cd, .int ce, .int cf, .int cg, .int ch, .int ci, .int cj, .int ck, .ref kl, .int cm, .int cn, .ref ko])), (k0, .inl (cI, 1201, .inl sc0_102))] := hD
                        obtain ⟨h_103, h_104, h_105, h_106, h_107⟩ := w_101
                        try simp only [zl_0] at h_103
                        have h_103 : SIX sc0_102 v_42.toInt := h_103
                        have h_103 : SIX sc0_102 v_42.toInt := h_103
                        try simp only [zl_0] at h_104
                        have h_104 : sc0_102 = upd g103_k0 (459 + 9 * v_42.toInt.toNat + l103_6.toInt.toNat) 0 := h_104
                        have h_104 : sc0_102 = upd g103_k0 (459 + 9 * v_42.toInt.toNat + l103_6.toInt.toNat) 0 := h_104
                        try simp only [zl_0] at h_105
                        have h_105 : (sc0_102 0).toInt = (g103_k0 0).toInt := h_105
                        try simp only [zl_0] at h_106
                        have h_106 : (sc0_102 1).toInt = (g103_k0 1).toInt := h_106
                        try simp only [zl_0] at h_107
                        have h_107 : (sc0_102 2).toInt = (g103_k0 2).toInt := h_107
                        obtain ⟨v_108, ev_108⟩ : ∃ y : Int32, y = l103_6 + 1 := ⟨_, rfl⟩
                        have tv_108 : v_108.toInt = l103_6.toInt + 1 := by rw [ev_108]; exact k_addv rfl zl_1 (by omega) (by omega)
                        refine lv_iinc (v := v_108) (lv' := [(6, .int v_108), (5, .int v_42), (0, .ref k), (1, .int a0), (2, .int a1), (3, .int a2), (4, .int a3)]) hx hb dX11_party__119 hl (k := 0) rfl (by rw [ev_108]; rfl) (by decide +kernel) rfl ?_
                        clear hl
                        intro ls hl
                        refine lv_goto (tgt := 103) hx hb dX11_party__122 (by decide +kernel) ?_
                        exact ih103 v_108 sc0_102 (by first | omega | decide | assumption | rfl) h_103 (by first | omega | decide | assumption | rfl) (pz_s i103_3 (by omega) (by omega) h_104) (by first | omega | decide | assumption | rfl) (by omega) ls _ _ (lv_sub hl [0, 1, 2, 3, 4, 5, 6] rfl) (hP.sub [1, 2, 0] rfl) (hD.sub [1, 2, 0] (by decide +kernel) rfl) hS
                exact hloop_103 _ 0 f_47 (by first | omega | (simp only [zl_0]; first | done | omega) | decide | assumption | rfl) hS_48 (by rw [show f_47 2 = v_46 from (by rw [ef_47]; rfl)] <;> first | omega | (simp only [zl_0]; first | done | omega) | (simp [zl_0]; done)) (by rw [zl_0]; rfl) (by first | omega | (simp only [zl_0]; first | done | omega) | decide | assumption | rfl) (Nat.lt_succ_self _) ls _ _ (lv_sub hl [0, 1, 2, 3, 4, 5, 6] rfl) hP hD hS
              · refine lv_aload_n hx hb dX11_party__75 rfl (lv_at hl 0 rfl) ?_
                refine lv_ldc (v := (-1000004)) hx hb hown (hT _ mw_1256) dX11_party__76 ?_
                refine kJi (wr := [(k0, .inl (cI, 1201, .inl c0))]) (va_runV (As := [.int (-1000004)]) (rest := []) ⟨hx, hb, hml, hown, hT⟩ (c_X11_findingG l D cI aK aV k k0 k1 k2 k4 k5 k6 k7 k8 ka kb kl ko H.size c3 c9 cc cd ce cf cg ch ci cj ck cm cn c4 (-1000004) (by first | omega | (simp only [zl_m1000004]; first | done | omega) | decide | assumption | rfl) (by first | omega | (simp only [zl_m1000004]; first | done | omega) | decide | assumption | rfl)) (cwV 1 hT (gV_in mw_1243 mw_1240 mw_1242 mw_p3_8 mw_12) rfl rfl rfl (by decide +kernel) ⟨Nat.le_of_ble_eq_true rfl, Nat.le_of_ble_eq_true rfl⟩) (kRecvX (q0 := 0) (ci := 11) hK hP hD hN hXS hS hA rfl rfl [0, 2] rfl (by decide +kernel)) rfl rfl hl.1 rfl (lv_room (Nat.le_of_ble_eq_true rfl)) dX11_party__78 ⟨Nat.le_of_ble_eq_true rfl, Nat.le_of_ble_eq_true rfl⟩) hP hD hS hA [0, 2] [1] rfl rfl (by decide +kernel) (by decide +kernel) ?_
                clear hP hD hS
                intro r_109 sc4_111 H locs w_110 hP hD hS
                replace hP : va_P D vwCl [(k0, .inl (cI, 1201, .inl c0)), (k, .inr (11, [.ref k0, .ref k1, .ref k2, .int c3, .ref k4, .ref k5, .ref k6, .ref k7, .ref k8, .int c9, .ref ka, .ref kb, .int cc, .int cd, .int ce, .int cf, .int cg, .int ch, .int ci, .int cj, .int ck, .ref kl, .int cm, .int cn, .ref ko])), (k4, .inl (cI, 6, .inl sc4_111))] H := hP
                replace hD : va_D A [(k0, .inl (cI, 1201, .inl c0)), (k, .inr (11, [.ref k0, .ref k1, .ref k2, .int c3, .ref k4, .ref k5, .ref k6, .ref k7, .ref k8, .int c9, .ref ka, .ref kb, .int cc, .int cd, .int ce, .int cf, .int cg, .int ch, .int ci, .int cj, .int ck, .ref kl, .int cm, .int cn, .ref ko])), (k4, .inl (cI, 6, .inl sc4_111))] := hD
                have hr_109 := w_110
                obtain rfl : r_109 = (-1000004) := hr_109.trans (by decide +kernel)
                exact hRet (c0, sc4_111) [1, 0, 2] ⟨pre0, (by (try dsimp only); unfold partyR; (repeat (first | rw [if_pos (by omega)] | rw [if_neg (by omega)]))), (by (try dsimp only); unfold partyS; (repeat (first | rw [if_pos (by omega)] | rw [if_neg (by omega)])))⟩ hP hD (by decide +kernel) rfl hS rfl dX11_party__81
            · try simp only [zl_0, zl_99] at h_37
              have h_37 : a3.toInt < 0 ∨ 99 < a3.toInt := h_37
              obtain rfl : r_32 = 0 := hr_32.trans (by decide +kernel)
              refine b_if_ne hx hb zl_0 (tgt := 65) dX11_party__55 (by decide +kernel) (fun c_112 => by exfalso; omega) (fun c_112 => ?_)
              refine lv_aload_n hx hb dX11_party__58 rfl (lv_at hl 0 rfl) ?_
              refine lv_ldc (v := (-1000001)) hx hb hown (hT _ mw_1239) dX11_party__59 ?_
              refine kJi (wr := [(k0, .inl (cI, 1201, .inl c0))]) (va_runV (As := [.int (-1000001)]) (rest := []) ⟨hx, hb, hml, hown, hT⟩ (c_X11_findingG l D cI aK aV k k0 k1 k2 k4 k5 k6 k7 k8 ka kb kl ko H.size c3 c9 cc cd ce cf cg ch ci cj ck cm cn c4 (-1000001) (by first | omega | (simp only [zl_m1000001]; first | done | omega) | decide | assumption | rfl) (by first | omega | (simp only [zl_m1000001]; first | done | omega) | decide | assumption | rfl)) (cwV 1 hT (gV_in mw_1243 mw_1240 mw_1242 mw_p3_8 mw_12) rfl rfl rfl (by decide +kernel) ⟨Nat.le_of_ble_eq_true rfl, Nat.le_of_ble_eq_true rfl⟩) (kRecvX (q0 := 0) (ci := 11) hK hP hD hN hXS hS hA rfl rfl [0, 2] rfl (by decide +kernel)) rfl rfl hl.1 rfl (lv_room (Nat.le_of_ble_eq_true rfl)) dX11_party__61 ⟨Nat.le_of_ble_eq_true rfl, Nat.le_of_ble_eq_true rfl⟩) hP hD hS hA [0, 2] [1] rfl rfl (by decide +kernel) (by decide +kernel) ?_
              clear hP hD hS
              intro r_113 sc4_115 H locs w_114 hP hD hS
              replace hP : va_P D vwCl [(k0, .inl (cI, 1201, .inl c0)), (k, .inr (11, [.ref k0, .ref k1, .ref k2, .int c3, .ref k4, .ref k5, .ref k6, .ref k7, .ref k8, .int c9, .ref ka, .ref kb, .int cc, .int cd, .int ce, .int cf, .int cg, .int ch, .int ci, .int cj, .int ck, .ref kl, .int cm, .int cn, .ref ko])), (k4, .inl (cI, 6, .inl sc4_115))] H := hP
              replace hD : va_D A [(k0, .inl (cI, 1201, .inl c0)), (k, .inr (11, [.ref k0, .ref k1, .ref k2, .int c3, .ref k4, .ref k5, .ref k6, .ref k7, .ref k8, .int c9, .ref ka, .ref kb, .int cc, .int cd, .int ce, .int cf, .int cg, .int ch, .int ci, .int cj, .int ck, .ref kl, .int cm, .int cn, .ref ko])), (k4, .inl (cI, 6, .inl sc4_115))] := hD
              have hr_113 := w_114
              obtain rfl : r_113 = (-1000001) := hr_113.trans (by decide +kernel)
              exact hRet (c0, sc4_115) [1, 0, 2] ⟨pre0, (by (try dsimp only); unfold partyR; (repeat (first | rw [if_pos (by omega)] | rw [if_neg (by omega)]))), (by (try dsimp only); unfold partyS; (repeat (first | rw [if_pos (by omega)] | rw [if_neg (by omega)])))⟩ hP hD (by decide +kernel) rfl hS rfl dX11_party__64
          · try simp only [zl_0, zl_50] at h_30
            have h_30 : v_24.toInt < 0 ∨ 50 < v_24.toInt := h_30
            obtain rfl : r_25 = 0 := hr_25.trans (by decide +kernel)
            refine b_if_eq hx hb zl_0 (tgt := 58) dX11_party__44 (by decide +kernel) (fun c_116 => ?_) (fun c_116 => by exfalso; omega)
            refine lv_aload_n hx hb dX11_party__58 rfl (lv_at hl 0 rfl) ?_
            refine lv_ldc (v := (-1000001)) hx hb hown (hT _ mw_1239) dX11_party__59 ?_
            refine kJi (wr := [(k0, .inl (cI, 1201, .inl c0))]) (va_runV (As := [.int (-1000001)]) (rest := []) ⟨hx, hb, hml, hown, hT⟩ (c_X11_findingG l D cI aK aV k k0 k1 k2 k4 k5 k6 k7 k8 ka kb kl ko H.size c3 c9 cc cd ce cf cg ch ci cj ck cm cn c4 (-1000001) (by first | omega | (simp only [zl_m1000001]; first | done | omega) | decide | assumption | rfl) (by first | omega | (simp only [zl_m1000001]; first | done | omega) | decide | assumption | rfl)) (cwV 1 hT (gV_in mw_1243 mw_1240 mw_1242 mw_p3_8 mw_12) rfl rfl rfl (by decide +kernel) ⟨Nat.le_of_ble_eq_true rfl, Nat.le_of_ble_eq_true rfl⟩) (kRecvX (q0 := 0) (ci := 11) hK hP hD hN hXS hS hA rfl rfl [0, 2] rfl (by decide +kernel)) rfl rfl hl.1 rfl (lv_room (Nat.le_of_ble_eq_true rfl)) dX11_party__61 ⟨Nat.le_of_ble_eq_true rfl, Nat.le_of_ble_eq_true rfl⟩) hP hD hS hA [0, 2] [1] rfl rfl (by decide +kernel) (by decide +kernel) ?_
            clear hP hD hS
            intro r_117 sc4_119 H locs w_118 hP hD hS
            replace hP : va_P D vwCl [(k0, .inl (cI, 1201, .inl c0)), (k, .inr (11, [.ref k0, .ref k1, .ref k2, .int c3, .ref k4, .ref k5, .ref k6, .ref k7, .ref k8, .int c9, .ref ka, .ref kb, .int cc, .int cd, .int ce, .int cf, .int cg, .int ch, .int ci, .int cj, .int ck, .ref kl, .int cm, .int cn, .ref ko])), (k4, .inl (cI, 6, .inl sc4_119))] H := hP
            replace hD : va_D A [(k0, .inl (cI, 1201, .inl c0)), (k, .inr (11, [.ref k0, .ref k1, .ref k2, .int c3, .ref k4, .ref k5, .ref k6, .ref k7, .ref k8, .int c9, .ref ka, .ref kb, .int cc, .int cd, .int ce, .int cf, .int cg, .int ch, .int ci, .int cj, .int ck, .ref kl, .int cm, .int cn, .ref ko])), (k4, .inl (cI, 6, .inl sc4_119))] := hD
            have hr_117 := w_118
            obtain rfl : r_117 = (-1000001) := hr_117.trans (by decide +kernel)
            exact hRet (c0, sc4_119) [1, 0, 2] ⟨pre0, (by (try dsimp only); unfold partyR; (repeat (first | rw [if_pos (by omega)] | rw [if_neg (by omega)]))), (by (try dsimp only); unfold partyS; (repeat (first | rw [if_pos (by omega)] | rw [if_neg (by omega)])))⟩ hP hD (by decide +kernel) rfl hS rfl dX11_party__64
        · try simp only [zl_1, zl_50] at h_22
          have h_22 : v_16.toInt < 1 ∨ 50 < v_16.toInt := h_22
          obtain rfl : r_17 = 0 := hr_17.trans (by decide +kernel)
          refine b_if_eq hx hb zl_0 (tgt := 58) dX11_party__31 (by decide +kernel) (fun c_120 => ?_) (fun c_120 => by exfalso; omega)
          refine lv_aload_n hx hb dX11_party__58 rfl (lv_at hl 0 rfl) ?_
          refine lv_ldc (v := (-1000001)) hx hb hown (hT _ mw_1239) dX11_party__59 ?_
          refine kJi (wr := [(k0, .inl (cI, 1201, .inl c0))]) (va_runV (As := [.int (-1000001)]) (rest := []) ⟨hx, hb, hml, hown, hT⟩ (c_X11_findingG l D cI aK aV k k0 k1 k2 k4 k5 k6 k7 k8 ka kb kl ko H.size c3 c9 cc cd ce cf cg ch ci cj ck cm cn c4 (-1000001) (by first | omega | (simp only [zl_m1000001]; first | done | omega) | decide | assumption | rfl) (by first | omega | (simp only [zl_m1000001]; first | done | omega) | decide | assumption | rfl)) (cwV 1 hT (gV_in mw_1243 mw_1240 mw_1242 mw_p3_8 mw_12) rfl rfl rfl (by decide +kernel) ⟨Nat.le_of_ble_eq_true rfl, Nat.le_of_ble_eq_true rfl⟩) (kRecvX (q0 := 0) (ci := 11) hK hP hD hN hXS hS hA rfl rfl [0, 2] rfl (by decide +kernel)) rfl rfl hl.1 rfl (lv_room (Nat.le_of_ble_eq_true rfl)) dX11_party__61 ⟨Nat.le_of_ble_eq_true rfl, Nat.le_of_ble_eq_true rfl⟩) hP hD hS hA [0, 2] [1] rfl rfl (by decide +kernel) (by decide +kernel) ?_
          clear hP hD hS
          intro r_121 sc4_123 H locs w_122 hP hD hS
          replace hP : va_P D vwCl [(k0, .inl (cI, 1201, .inl c0)), (k, .inr (11, [.ref k0, .ref k1, .ref k2, .int c3, .ref k4, .ref k5, .ref k6, .ref k7, .ref k8, .int c9, .ref ka, .ref kb, .int cc, .int cd, .int ce, .int cf, .int cg, .int ch, .int ci, .int cj, .int ck, .ref kl, .int cm, .int cn, .ref ko])), (k4, .inl (cI, 6, .inl sc4_123))] H := hP
          replace hD : va_D A [(k0, .inl (cI, 1201, .inl c0)), (k, .inr (11, [.ref k0, .ref k1, .ref k2, .int c3, .ref k4, .ref k5, .ref k6, .ref k7, .ref k8, .int c9, .ref ka, .ref kb, .int cc, .int cd, .int ce, .int cf, .int cg, .int ch, .int ci, .int cj, .int ck, .ref kl, .int cm, .int cn, .ref ko])), (k4, .inl (cI, 6, .inl sc4_123))] := hD
          have hr_121 := w_122
          obtain rfl : r_121 = (-1000001) := hr_121.trans (by decide +kernel)
          exact hRet (c0, sc4_123) [1, 0, 2] ⟨pre0, (by (try dsimp only); unfold partyR; (repeat (first | rw [if_pos (by omega)] | rw [if_neg (by omega)]))), (by (try dsimp only); unfold partyS; (repeat (first | rw [if_pos (by omega)] | rw [if_neg (by omega)])))⟩ hP hD (by decide +kernel) rfl hS rfl dX11_party__64
    · refine lv_iload_n hx hb dX11_party__12 rfl (lv_at hl 2 rfl) ?_
      refine lv_iconst (v := (-1)) hx hb dX11_party__13 (by decide +kernel) ?_
      refine b_icmp_ne hx hb rfl zl_m1 (tgt := 58) dX11_party__14 (by decide +kernel) (fun c_124 => ?_) (fun c_124 => ?_)
      · refine lv_aload_n hx hb dX11_party__58 rfl (lv_at hl 0 rfl) ?_
        refine lv_ldc (v := (-1000001)) hx hb hown (hT _ mw_1239) dX11_party__59 ?_
        refine kJi (wr := [(k0, .inl (cI, 1201, .inl c0))]) (va_runV (As := [.int (-1000001)]) (rest := []) ⟨hx, hb, hml, hown, hT⟩ (c_X11_findingG l D cI aK aV k k0 k1 k2 k4 k5 k6 k7 k8 ka kb kl ko H.size c3 c9 cc cd ce cf cg ch ci cj ck cm cn c4 (-1000001) (by first | omega | (simp only [zl_m1000001]; first | done | omega) | decide | assumption | rfl) (by first | omega | (simp only [zl_m1000001]; first | done | omega) | decide | assumption | rfl)) (cwV 1 hT (gV_in mw_1243 mw_1240 mw_1242 mw_p3_8 mw_12) rfl rfl rfl (by decide +kernel) ⟨Nat.le_of_ble_eq_true rfl, Nat.le_of_ble_eq_true rfl⟩) (kRecvX (q0 := 0) (ci := 11) hK hP hD hN hXS hS hA rfl rfl [0, 2] rfl (by decide +kernel)) rfl rfl hl.1 rfl (lv_room (Nat.le_of_ble_eq_true rfl)) dX11_party__61 ⟨Nat.le_of_ble_eq_true rfl, Nat.le_of_ble_eq_true rfl⟩) hP hD hS hA [0, 2] [1] rfl rfl (by decide +kernel) (by decide +kernel) ?_
        clear hP hD hS
        intro r_125 sc4_127 H locs w_126 hP hD hS
        replace hP : va_P D vwCl [(k0, .inl (cI, 1201, .inl c0)), (k, .inr (11, [.ref k0, .ref k1, .ref k2, .int c3, .ref k4, .ref k5, .ref k6, .ref k7, .ref k8, .int c9, .ref ka, .ref kb, .int cc, .int cd, .int ce, .int cf, .int cg, .int ch, .int ci, .int cj, .int ck, .ref kl, .int cm, .int cn, .ref ko])), (k4, .inl (cI, 6, .inl sc4_127))] H := hP
        replace hD : va_D A [(k0, .inl (cI, 1201, .inl c0)), (k, .inr (11, [.ref k0, .ref k1, .ref k2, .int c3, .ref k4, .ref k5, .ref k6, .ref k7, .ref k8, .int c9, .ref ka, .ref kb, .int cc, .int cd, .int ce, .int cf, .int cg, .int ch, .int ci, .int cj, .int ck, .ref kl, .int cm, .int cn, .ref ko])), (k4, .inl (cI, 6, .inl sc4_127))] := hD
        have hr_125 := w_126
        obtain rfl : r_125 = (-1000001) := hr_125.trans (by decide +kernel)
        exact hRet (c0, sc4_127) [1, 0, 2] ⟨pre0, (by (try dsimp only); unfold partyR; (repeat (first | rw [if_pos (by omega)] | rw [if_neg (by omega)]))), (by (try dsimp only); unfold partyS; (repeat (first | rw [if_pos (by omega)] | rw [if_neg (by omega)])))⟩ hP hD (by decide +kernel) rfl hS rfl dX11_party__64
      · refine lv_iload_n hx hb dX11_party__17 rfl (lv_at hl 3 rfl) ?_
        refine b_if_lt hx hb rfl (tgt := 58) dX11_party__18 (by decide +kernel) (fun c_128 => ?_) (fun c_128 => ?_)
        · refine lv_aload_n hx hb dX11_party__58 rfl (lv_at hl 0 rfl) ?_
          refine lv_ldc (v := (-1000001)) hx hb hown (hT _ mw_1239) dX11_party__59 ?_
          refine kJi (wr := [(k0, .inl (cI, 1201, .inl c0))]) (va_runV (As := [.int (-1000001)]) (rest := []) ⟨hx, hb, hml, hown, hT⟩ (c_X11_findingG l D cI aK aV k k0 k1 k2 k4 k5 k6 k7 k8 ka kb kl ko H.size c3 c9 cc cd ce cf cg ch ci cj ck cm cn c4 (-1000001) (by first | omega | (simp only [zl_m1000001]; first | done | omega) | decide | assumption | rfl) (by first | omega | (simp only [zl_m1000001]; first | done | omega) | decide | assumption | rfl)) (cwV 1 hT (gV_in mw_1243 mw_1240 mw_1242 mw_p3_8 mw_12) rfl rfl rfl (by decide +kernel) ⟨Nat.le_of_ble_eq_true rfl, Nat.le_of_ble_eq_true rfl⟩) (kRecvX (q0 := 0) (ci := 11) hK hP hD hN hXS hS hA rfl rfl [0, 2] rfl (by decide +kernel)) rfl rfl hl.1 rfl (lv_room (Nat.le_of_ble_eq_true rfl)) dX11_party__61 ⟨Nat.le_of_ble_eq_true rfl, Nat.le_of_ble_eq_true rfl⟩) hP hD hS hA [0, 2] [1] rfl rfl (by decide +kernel) (by decide +kernel) ?_
          clear hP hD hS
          intro r_129 sc4_131 H locs w_130 hP hD hS
          replace hP : va_P D vwCl [(k0, .inl (cI, 1201, .inl c0)), (k, .inr (11, [.ref k0, .ref k1, .ref k2, .int c3, .ref k4, .ref k5, .ref k6, .ref k7, .ref k8, .int c9, .ref ka, .ref kb, .int cc, .int cd, .int ce, .int cf, .int cg, .int ch, .int ci, .int cj, .int ck, .ref kl, .int cm, .int cn, .ref ko])), (k4, .inl (cI, 6, .inl sc4_131))] H := hP
          replace hD : va_D A [(k0, .inl (cI, 1201, .inl c0)), (k, .inr (11, [.ref k0, .ref k1, .ref k2, .int c3, .ref k4, .ref k5, .ref k6, .ref k7, .ref k8, .int c9, .ref ka, .ref kb, .int cc, .int cd, .int ce, .int cf, .int cg, .int ch, .int ci, .int cj, .int ck, .ref kl, .int cm, .int cn, .ref ko])), (k4, .inl (cI, 6, .inl sc4_131))] := hD
          have hr_129 := w_130
          obtain rfl : r_129 = (-1000001) := hr_129.trans (by decide +kernel)
          exact hRet (c0, sc4_131) [1, 0, 2] ⟨pre0, (by (try dsimp only); unfold partyR; (repeat (first | rw [if_pos (by omega)] | rw [if_neg (by omega)]))), (by (try dsimp only); unfold partyS; (repeat (first | rw [if_pos (by omega)] | rw [if_neg (by omega)])))⟩ hP hD (by decide +kernel) rfl hS rfl dX11_party__64
        · refine lv_iload_n hx hb dX11_party__21 rfl (lv_at hl 3 rfl) ?_
          refine lv_bipush (v := 100) hx hb dX11_party__22 (by decide +kernel) ?_
          refine lv_idiv hx hb dX11_party__24 (by decide +kernel) ?_
          refine lv_topi (fun v_132 ev_132 => ?_)
          have tv_132 : v_132.toInt = a2.toInt / 100 := k_divv (w := 0) ev_132 zl_100 (by omega) (by decide +kernel)
          have lo_v_132 := k_lo v_132
          have hi_v_132 := k_hi v_132
          refine lv_iconst (v := 1) hx hb dX11_party__25 (by decide +kernel) ?_
          refine lv_bipush (v := 50) hx hb dX11_party__26 (by decide +kernel) ?_
          refine kJi (wr := [(k, .inr (11, [.ref k0, .ref k1, .ref k2, .int c3, .ref k4, .ref k5, .ref k6, .ref k7, .ref k8, .int c9, .ref ka, .ref kb, .int cc, .int cd, .int ce, .int cf, .int cg, .int ch, .int ci, .int cj, .int ck, .ref kl, .int cm, .int cn, .ref ko])), (k0, .inl (cI, 1201, .inl c0)), (k4, .inl (cI, 6, .inl c4))]) (va_runS (As := [.int v_132, .int 1, .int 50]) (rest := []) ⟨hx, hb, hml, hown, hT⟩ (c_X11_inG l D cI aK aV H.size v_132 1 50) (cwS 3 hT (gS_in mw_1238 mw_1236 mw_1237 mw_12) rfl rfl rfl (by decide +kernel) ⟨Nat.le_of_ble_eq_true rfl, Nat.le_of_ble_eq_true rfl⟩) (kStatX hK hP hD hN hXS hS hA [] rfl (by decide +kernel)) rfl rfl hl.1 rfl (lv_room (Nat.le_of_ble_eq_true rfl)) dX11_party__28 ⟨Nat.le_of_ble_eq_true rfl, Nat.le_of_ble_eq_true rfl⟩) hP hD hS hA [] [0, 1, 2] rfl rfl (by decide +kernel) (by decide +kernel) ?_
          clear hP hD hS
          intro r_133 u_135 H locs w_134 hP hD hS
          replace hP : va_P D vwCl [(k, .inr (11, [.ref k0, .ref k1, .ref k2, .int c3, .ref k4, .ref k5, .ref k6, .ref k7, .ref k8, .int c9, .ref ka, .ref kb, .int cc, .int cd, .int ce, .int cf, .int cg, .int ch, .int ci, .int cj, .int ck, .ref kl, .int cm, .int cn, .ref ko])), (k0, .inl (cI, 1201, .inl c0)), (k4, .inl (cI, 6, .inl c4))] H := hP
          replace hD : va_D A [(k, .inr (11, [.ref k0, .ref k1, .ref k2, .int c3, .ref k4, .ref k5, .ref k6, .ref k7, .ref k8, .int c9, .ref ka, .ref kb, .int cc, .int cd, .int ce, .int cf, .int cg, .int ch, .int ci, .int cj, .int ck, .ref kl, .int cm, .int cn, .ref ko])), (k0, .inl (cI, 1201, .inl c0)), (k4, .inl (cI, 6, .inl c4))] := hD
          rcases w_134 with ⟨hr_133, h_136, h_137⟩ | ⟨hr_133, h_138⟩
          · try simp only [zl_1, zl_50] at h_136
            have h_136 : 1 ≤ v_132.toInt := h_136
            try simp only [zl_1, zl_50] at h_137
            have h_137 : v_132.toInt ≤ 50 := h_137
            obtain rfl : r_133 = 1 := hr_133.trans (by decide +kernel)
            refine b_if_eq hx hb zl_1 (tgt := 58) dX11_party__31 (by decide +kernel) (fun c_139 => by exfalso; omega) (fun c_139 => ?_)
            refine lv_iload_n hx hb dX11_party__34 rfl (lv_at hl 3 rfl) ?_
            refine lv_bipush (v := 100) hx hb dX11_party__35 (by decide +kernel) ?_
            refine lv_irem hx hb dX11_party__37 (by decide +kernel) ?_
            refine lv_topi (fun v_140 ev_140 => ?_)
            have tv_140 : v_140.toInt = a2.toInt % 100 := k_remv (w := 0) ev_140 zl_100 (by omega) (by decide +kernel)
            have lo_v_140 := k_lo v_140
            have hi_v_140 := k_hi v_140
            refine lv_iconst (v := 0) hx hb dX11_party__38 (by decide +kernel) ?_
            refine lv_bipush (v := 50) hx hb dX11_party__39 (by decide +kernel) ?_
            refine kJi (wr := [(k, .inr (11, [.ref k0, .ref k1, .ref k2, .int c3, .ref k4, .ref k5, .ref k6, .ref k7, .ref k8, .int c9, .ref ka, .ref kb, .int cc, .int cd, .int ce, .int cf, .int cg, .int ch, .int ci, .int cj, .int ck, .ref kl, .int cm, .int cn, .ref ko])), (k0, .inl (cI, 1201, .inl c0)), (k4, .inl (cI, 6, .inl c4))]) (va_runS (As := [.int v_140, .int 0, .int 50]) (rest := []) ⟨hx, hb, hml, hown, hT⟩ (c_X11_inG l D cI aK aV H.size v_140 0 50) (cwS 3 hT (gS_in mw_1238 mw_1236 mw_1237 mw_12) rfl rfl rfl (by decide +kernel) ⟨Nat.le_of_ble_eq_true rfl, Nat.le_of_ble_eq_true rfl⟩) (kStatX hK hP hD hN hXS hS hA [] rfl (by decide +kernel)) rfl rfl hl.1 rfl (lv_room (Nat.le_of_ble_eq_true rfl)) dX11_party__41 ⟨Nat.le_of_ble_eq_true rfl, Nat.le_of_ble_eq_true rfl⟩) hP hD hS hA [] [0, 1, 2] rfl rfl (by decide +kernel) (by decide +kernel) ?_
            clear hP hD hS
            intro r_141 u_143 H locs w_142 hP hD hS
            replace hP : va_P D vwCl [(k, .inr (11, [.ref k0, .ref k1, .ref k2, .int c3, .ref k4, .ref k5, .ref k6, .ref k7, .ref k8, .int c9, .ref ka, .ref kb, .int cc, .int cd, .int ce, .int cf, .int cg, .int ch, .int ci, .int cj, .int ck, .ref kl, .int cm, .int cn, .ref ko])), (k0, .inl (cI, 1201, .inl c0)), (k4, .inl (cI, 6, .inl c4))] H := hP
            replace hD : va_D A [(k, .inr (11, [.ref k0, .ref k1, .ref k2, .int c3, .ref k4, .ref k5, .ref k6, .ref k7, .ref k8, .int c9, .ref ka, .ref kb, .int cc, .int cd, .int ce, .int cf, .int cg, .int ch, .int ci, .int cj, .int ck, .ref kl, .int cm, .int cn, .ref ko])), (k0, .inl (cI, 1201, .inl c0)), (k4, .inl (cI, 6, .inl c4))] := hD
            rcases w_142 with ⟨hr_141, h_144, h_145⟩ | ⟨hr_141, h_146⟩
            · try simp only [zl_0, zl_50] at h_144
              have h_144 : 0 ≤ v_140.toInt := h_144
              try simp only [zl_0, zl_50] at h_145
              have h_145 : v_140.toInt ≤ 50 := h_145
              obtain rfl : r_141 = 1 := hr_141.trans (by decide +kernel)
              refine b_if_eq hx hb zl_1 (tgt := 58) dX11_party__44 (by decide +kernel) (fun c_147 => by exfalso; omega) (fun c_147 => ?_)
              refine lv_iload hx hb dX11_party__47 (lv_at hl 4 rfl) ?_
              refine lv_iconst (v := 0) hx hb dX11_party__49 (by decide +kernel) ?_
              refine lv_bipush (v := 99) hx hb dX11_party__50 (by decide +kernel) ?_
              refine kJi (wr := [(k, .inr (11, [.ref k0, .ref k1, .ref k2, .int c3, .ref k4, .ref k5, .ref k6, .ref k7, .ref k8, .int c9, .ref ka, .ref kb, .int cc, .int cd, .int ce, .int cf, .int cg, .int ch, .int ci, .int cj, .int ck, .ref kl, .int cm, .int cn, .ref ko])), (k0, .inl (cI, 1201, .inl c0)), (k4, .inl (cI, 6, .inl c4))]) (va_runS (As := [.int a3, .int 0, .int 99]) (rest := []) ⟨hx, hb, hml, hown, hT⟩ (c_X11_inG l D cI aK aV H.size a3 0 99) (cwS 3 hT (gS_in mw_1238 mw_1236 mw_1237 mw_12) rfl rfl rfl (by decide +kernel) ⟨Nat.le_of_ble_eq_true rfl, Nat.le_of_ble_eq_true rfl⟩) (kStatX hK hP hD hN hXS hS hA [] rfl (by decide +kernel)) rfl rfl hl.1 rfl (lv_room (Nat.le_of_ble_eq_true rfl)) dX11_party__52 ⟨Nat.le_of_ble_eq_true rfl, Nat.le_of_ble_eq_true rfl⟩) hP hD hS hA [] [0, 1, 2] rfl rfl (by decide +kernel) (by decide +kernel) ?_
              clear hP hD hS
              intro r_148 u_150 H locs w_149 hP hD hS
              replace hP : va_P D vwCl [(k, .inr (11, [.ref k0, .ref k1, .ref k2, .int c3, .ref k4, .ref k5, .ref k6, .ref k7, .ref k8, .int c9, .ref ka, .ref kb, .int cc, .int cd, .int ce, .int cf, .int cg, .int ch, .int ci, .int cj, .int ck, .ref kl, .int cm, .int cn, .ref ko])), (k0, .inl (cI, 1201, .inl c0)), (k4, .inl (cI, 6, .inl c4))] H := hP
              replace hD : va_D A [(k, .inr (11, [.ref k0, .ref k1, .ref k2, .int c3, .ref k4, .ref k5, .ref k6, .ref k7, .ref k8, .int c9, .ref ka, .ref kb, .int cc, .int cd, .int ce, .int cf, .int cg, .int ch, .int ci, .int cj, .int ck, .ref kl, .int cm, .int cn, .ref ko])), (k0, .inl (cI, 1201, .inl c0)), (k4, .inl (cI, 6, .inl c4))] := hD
              rcases w_149 with ⟨hr_148, h_151, h_152⟩ | ⟨hr_148, h_153⟩
              · try simp only [zl_0, zl_99] at h_151
                have h_151 : 0 ≤ a3.toInt := h_151
                try simp only [zl_0, zl_99] at h_152
                have h_152 : a3.toInt ≤ 99 := h_152
                obtain rfl : r_148 = 1 := hr_148.trans (by decide +kernel)
                refine b_if_ne hx hb zl_1 (tgt := 65) dX11_party__55 (by decide +kernel) (fun c_154 => ?_) (fun c_154 => by exfalso; omega)
                refine lv_aload_n hx hb dX11_party__65 rfl (lv_at hl 0 rfl) ?_
                refine va_get (D := D) (ci := 11) (v := .ref k0) (C := RX11) (T := TX11) (N := 25) hx hb hT giX11 hown hK hP 0 rfl rfl 0 (by decide +kernel) (hT (Cond.fieldLink RX11 9 "DesertWireModel" "s" "[I") mw_1156) (fun _ h9 => h9) rfl dX11_party__66 ?_
                refine lv_iconst (v := 2) hx hb dX11_party__69 (by decide +kernel) ?_
                refine k_iald (v := (c0 2)) hx hb hK hP 1 0 rfl rfl (k_inl (by decide +kernel)) rfl dX11_party__70 ?_
                refine lv_topi (fun v_155 ev_155 => ?_)
                have lo_v_155 := k_lo v_155
                have hi_v_155 := k_hi v_155
                have tv_155 : v_155.toInt = (c0 2).toInt := by rw [ev_155]
                have b_156 : 0 ≤ v_155.toInt ∧ v_155.toInt ≤ 4 := by first | (rw [tv_155]; exact SB.n2 (And.left pre0)) | exact SB.n2 (And.left pre0) | omega
                refine lv_iconst (v := 4) hx hb dX11_party__71 (by decide +kernel) ?_
                refine b_icmp_ne hx hb rfl zl_4 (tgt := 82) dX11_party__72 (by decide +kernel) (fun c_157 => ?_) (fun c_157 => ?_)
                · refine lv_aload_n hx hb dX11_party__82 rfl (lv_at hl 0 rfl) ?_
                  refine va_get (D := D) (ci := 11) (v := .ref k0) (C := RX11) (T := TX11) (N := 25) hx hb hT giX11 hown hK hP 0 rfl rfl 0 (by decide +kernel) (hT (Cond.fieldLink RX11 9 "DesertWireModel" "s" "[I") mw_1156) (fun _ h9 => h9) rfl dX11_party__83 ?_
                  refine lv_iconst (v := 2) hx hb dX11_party__86 (by decide +kernel) ?_
                  refine k_iald (v := (c0 2)) hx hb hK hP 1 0 rfl rfl (k_inl (by decide +kernel)) rfl dX11_party__87 ?_
                  refine lv_topi (fun v_158 ev_158 => ?_)
                  have lo_v_158 := k_lo v_158
                  have hi_v_158 := k_hi v_158
                  have tv_158 : v_158.toInt = (c0 2).toInt := by rw [ev_158]
                  have b_159 : 0 ≤ v_158.toInt ∧ v_158.toInt ≤ 4 := by first | (rw [tv_158]; exact SB.n2 (And.left pre0)) | exact SB.n2 (And.left pre0) | omega
                  refine lv_istore (lv' := [(5, .int v_158), (0, .ref k), (1, .int a0), (2, .int a1), (3, .int a2), (4, .int a3)]) hx hb dX11_party__88 hl (by decide +kernel) rfl ?_
                  clear hl
                  intro ls hl
                  refine lv_aload_n hx hb dX11_party__90 rfl (lv_at hl 1 rfl) ?_
                  refine va_get (D := D) (ci := 11) (v := .ref k0) (C := RX11) (T := TX11) (N := 25) hx hb hT giX11 hown hK hP 0 rfl rfl 0 (by decide +kernel) (hT (Cond.fieldLink RX11 9 "DesertWireModel" "s" "[I") mw_1156) (fun _ h9 => h9) rfl dX11_party__91 ?_
                  refine lv_iconst (v := 2) hx hb dX11_party__94 (by decide +kernel) ?_
                  refine lv_dup2_11 hx hb dX11_party__95 rfl rfl ?_
                  refine k_iald (v := (c0 2)) hx hb hK hP 1 0 rfl rfl (k_inl (by decide +kernel)) rfl dX11_party__96 ?_
                  refine lv_topi (fun v_160 ev_160 => ?_)
                  have lo_v_160 := k_lo v_160
                  have hi_v_160 := k_hi v_160
                  have tv_160 : v_160.toInt = (c0 2).toInt := by rw [ev_160]
                  have b_161 : 0 ≤ v_160.toInt ∧ v_160.toInt ≤ 4 := by first | (rw [tv_160]; exact SB.n2 (And.left pre0)) | exact SB.n2 (And.left pre0) | omega
                  refine lv_iconst (v := 1) hx hb dX11_party__97 (by decide +kernel) ?_
                  refine lv_iadd hx hb dX11_party__98 ?_
                  refine lv_topi (fun v_162 ev_162 => ?_)
                  have tv_162 : v_162.toInt = v_160.toInt + 1 := by rw [ev_162]; exact k_addv rfl zl_1 (by omega) (by omega)
                  refine va_iast hx hb hK hP hD hS 1 0 rfl rfl (k_inl (by decide +kernel)) dX11_party__99 ?_
                  clear hP hD hS
                  intro H locs hP hD hS
                  replace hP : va_P D vwCl [(k, .inr (11, [.ref k0, .ref k1, .ref k2, .int c3, .ref k4, .ref k5, .ref k6, .ref k7, .ref k8, .int c9, .ref ka, .ref kb, .int cc, .int cd, .int ce, .int cf, .int cg, .int ch, .int ci, .int cj, .int ck, .ref kl, .int cm, .int cn, .ref ko])), (k0, .inl (cI, 1201, .inl (upd c0 2 v_162))), (k4, .inl (cI, 6, .inl c4))] H := hP
                  replace hD : va_D A [(k, .inr (11, [.ref k0, .ref k1, .ref k2, .int c3, .ref k4, .ref k5, .ref k6, .ref k7, .ref k8, .int c9, .ref ka, .ref kb, .int cc, .int cd, .int ce, .int cf, .int cg, .int ch, .int ci, .int cj, .int ck, .ref kl, .int cm, .int cn, .ref ko])), (k0, .inl (cI, 1201, .inl (upd c0 2 v_162))), (k4, .inl (cI, 6, .inl c4))] := hD
                  obtain ⟨f_163, ef_163⟩ : ∃ g : Nat → Int32, g = upd c0 2 v_162 := ⟨_, rfl⟩
                  rw [← ef_163] at hP hD
                  have hS_164 : SIX f_163 v_158.toInt := SIX.n2 pre0 ef_163 (p := v_158) (by omega) (by omega) (by omega)
                  have n_165 : (f_163 0).toInt = (c0 0).toInt := by rw [updN ef_163 (by omega)]
                  have n_166 : (f_163 1).toInt = (c0 1).toInt := by rw [updN ef_163 (by omega)]
                  have n_167 : (f_163 2).toInt = v_162.toInt := by rw [ef_163, upd_at]
                  refine lv_iconst (v := 0) hx hb dX11_party__100 (by decide +kernel) ?_
                  refine lv_istore (lv' := [(6, .int 0), (5, .int v_158), (0, .ref k), (1, .int a0), (2, .int a1), (3, .int a2), (4, .int a3)]) hx hb dX11_party__101 hl (by decide +kernel) rfl ?_
                  clear hl
                  intro ls hl
                  have hloop_103 : ∀ (fu_ : Nat) (l103_6 : Int32) (g103_k0 : Nat → Int32), 0 ≤ l103_6.toInt → SIX g103_k0 v_158.toInt → (g103_k0 2).toInt = v_158.toInt + 1 → g103_k0 = pzN f_163 v_158.toInt.toNat l103_6.toInt.toNat → l103_6.toInt ≤ 9 → (9 - l103_6.toInt).toNat < fu_ → ∀ (ls : Array Slot) (H : Heap) (locs : List Loc), lv_has ls 7 [(6, .int l103_6), (5, .int v_158), (0, .ref k), (1, .int a0), (2, .int a1), (3, .int a2), (4, .int a3)] → va_P D vwCl [(k, .inr (11, [.ref k0, .ref k1, .ref k2, .int c3, .ref k4, .ref k5, .ref k6, .ref k7, .ref k8, .int c9, .ref ka, .ref kb, .int cc, .int cd, .int ce, .int cf, .int cg, .int ch, .int ci, .int cj, .int ck, .ref kl, .int cm, .int cn, .ref ko])), (k0, .inl (cI, 1201, .inl g103_k0)), (k4, .inl (cI, 6, .inl c4))] H → va_D A [(k, .inr (11, [.ref k0, .ref k1, .ref k2, .int c3, .ref k4, .ref k5, .ref k6, .ref k7, .ref k8, .int c9, .ref ka, .ref kb, .int cc, .int cd, .int ce, .int cf, .int cg, .int ch, .int ci, .int cj, .int ck, .ref kl, .int cm, .int cn, .ref ko])), (k0, .inl (cI, 1201, .inl g103_k0)), (k4, .inl (cI, 6, .inl c4))] → va_S A s.heap H locs → W p l e ({ frames := 2, cells := 0, slots := 0, locals := 42 } : Room) s m args below meth c H locs 0 0 Q (F0 m 103 ls []) := by
                    intro fu_; induction fu_ with
                    | zero => intro l103_6 g103_k0 i103_0 i103_1 i103_2 i103_3 i103_4 hm; exact absurd hm (by omega)
                    | succ fu_ ih103 =>
                        intro l103_6 g103_k0 i103_0 i103_1 i103_2 i103_3 i103_4 hm ls H locs hl hP hD hS
                        have lo_l103_6 := k_lo l103_6
                        have hi_l103_6 := k_hi l103_6
                        have i103_1 : SIX g103_k0 v_158.toInt := i103_1
                        have i103_3 : g103_k0 = pzN f_163 v_158.toInt.toNat l103_6.toInt.toNat := i103_3
                        refine lv_iload hx hb dX11_party__103 (lv_at hl 0 rfl) ?_
                        refine lv_bipush (v := 9) hx hb dX11_party__105 (by decide +kernel) ?_
                        refine b_icmp_ge hx hb rfl zl_9 (tgt := 125) dX11_party__107 (by decide +kernel) (fun c_168 => ?_) (fun c_168 => ?_)
                        · refine lv_aload_n hx hb dX11_party__125 rfl (lv_at hl 2 rfl) ?_
                          refine lv_iload hx hb dX11_party__126 (lv_at hl 1 rfl) ?_
                          refine lv_iconst (v := 0) hx hb dX11_party__128 (by decide +kernel) ?_
                          refine lv_iload_n hx hb dX11_party__129 rfl (lv_at hl 3 rfl) ?_
                          refine kJv (wr := [(k4, .inl (cI, 6, .inl c4))]) (va_runV (As := [.int v_158, .int 0, .int a0]) (rest := []) ⟨hx, hb, hml, hown, hT⟩ (c_X11_setPartyG0 l D cI aK aV k k0 k1 k2 k4 k5 k6 k7 k8 ka kb kl ko H.size c3 c9 cc cd ce cf cg ch ci cj ck cm cn g103_k0 v_158 0 a0 (by first | omega | (simp only [zl_0]; first | done | omega) | decide | assumption | rfl) (by first | omega | (simp only [zl_0]; first | done | omega) | decide | assumption | rfl) (by first | omega | (simp only [zl_0]; first | done | omega) | decide | assumption | rfl)) (cwV 3 hT (gV_in mw_1404 mw_1401 mw_1403 mw_p5_3 mw_12) rfl rfl rfl (by decide +kernel) ⟨Nat.le_of_ble_eq_true rfl, Nat.le_of_ble_eq_true rfl⟩) (kRecvX (q0 := 0) (ci := 11) hK hP hD hN hXS hS hA rfl rfl [0, 1] rfl (by decide +kernel)) rfl rfl hl.1 rfl (lv_room (Nat.le_of_ble_eq_true rfl)) dX11_party__130 ⟨Nat.le_of_ble_eq_true rfl, Nat.le_of_ble_eq_true rfl⟩) hP hD hS hA [0, 1] [2] rfl rfl (by decide +kernel) (by decide +kernel) ?_
                          clear hP hD hS
                          intro sc0_171 H locs w_170 hP hD hS
                          replace hP : va_P D vwCl [(k4, .inl (cI, 6, .inl c4)), (k, .inr (11, [.ref k0, .ref k1, .ref k2, .int c3, .ref k4, .ref k5, .ref k6, .ref k7, .ref k8, .int c9, .ref ka, .ref kb, .int cc, .int cd, .int ce, .int cf, .int cg, .int ch, .int ci, .int cj, .int ck, .ref kl, .int cm, .int cn, .ref ko])), (k0, .inl (cI, 1201, .inl sc0_171))] H := hP
                          replace hD : va_D A [(k4, .inl (cI, 6, .inl c4)), (k, .inr (11, [.ref k0, .ref k1, .ref k2, .int c3, .ref k4, .ref k5, .ref k6, .ref k7, .ref k8, .int c9, .ref ka, .ref kb, .int cc, .int cd, .int ce, .int cf, .int cg, .int ch, .int ci, .int cj, .int ck, .ref kl, .int cm, .int cn, .ref ko])), (k0, .inl (cI, 1201, .inl sc0_171))] := hD
                          have h_172 := w_170
                          try simp only [zl_0] at h_172
                          have h_172 : sc0_171 = upd g103_k0 (459 + 9 * v_158.toInt.toNat + 0) a0 := h_172
                          have h_172 : sc0_171 = upd g103_k0 (459 + 9 * v_158.toInt.toNat + 0) a0 := h_172
                          have hS_173 : SIX sc0_171 v_158.toInt := SIX.p i103_1 h_172 rfl (by omega) (by omega) (by decide +kernel) (by omega) (fun z => by omega) (fun z => by omega)
                          have n_174 : (sc0_171 0).toInt = (g103_k0 0).toInt := by rw [updN h_172 (by omega)]
                          have n_175 : (sc0_171 1).toInt = (g103_k0 1).toInt := by rw [updN h_172 (by omega)]
                          have n_176 : (sc0_171 2).toInt = (g103_k0 2).toInt := by rw [updN h_172 (by omega)]
                          have n_177 : (pW sc0_171 v_158 2).toInt = (pW g103_k0 v_158 2).toInt := by rw [pW_upd h_172 (by decide +kernel) (by decide +kernel) (Or.inl (by decide +kernel))]
                          refine lv_aload_n hx hb dX11_party__133 rfl (lv_at hl 2 rfl) ?_
                          refine lv_iload hx hb dX11_party__134 (lv_at hl 1 rfl) ?_
                          refine lv_iconst (v := 1) hx hb dX11_party__136 (by decide +kernel) ?_
                          refine lv_iload_n hx hb dX11_party__137 rfl (lv_at hl 4 rfl) ?_
                          refine kJv (wr := [(k4, .inl (cI, 6, .inl c4))]) (va_runV (As := [.int v_158, .int 1, .int a1]) (rest := []) ⟨hx, hb, hml, hown, hT⟩ (c_X11_setPartyG1 l D cI aK aV k k0 k1 k2 k4 k5 k6 k7 k8 ka kb kl ko H.size c3 c9 cc cd ce cf cg ch ci cj ck cm cn sc0_171 v_158 1 a1 (by first | omega | (simp only [zl_1]; first | done | omega) | decide | assumption | rfl) (by first | omega | (simp only [zl_1]; first | done | omega) | decide | assumption | rfl) (by first | omega | (simp only [zl_1]; first | done | omega) | decide | assumption | rfl)) (cwV 3 hT (gV_in mw_1404 mw_1401 mw_1403 mw_p5_3 mw_12) rfl rfl rfl (by decide +kernel) ⟨Nat.le_of_ble_eq_true rfl, Nat.le_of_ble_eq_true rfl⟩) (kRecvX (q0 := 1) (ci := 11) hK hP hD hN hXS hS hA rfl rfl [1, 2] rfl (by decide +kernel)) rfl rfl hl.1 rfl (lv_room (Nat.le_of_ble_eq_true rfl)) dX11_party__138 ⟨Nat.le_of_ble_eq_true rfl, Nat.le_of_ble_eq_true rfl⟩) hP hD hS hA [1, 2] [0] rfl rfl (by decide +kernel) (by decide +kernel) ?_
                          clear hP hD hS
                          intro sc0_180 H locs w_179 hP hD hS
                          replace hP : va_P D vwCl [(k4, .inl (cI, 6, .inl c4)), (k, .inr (11, [.ref k0, .ref k1, .ref k2, .int c3, .ref k4, .ref k5, .ref k6, .ref k7, .ref k8, .int c9, .ref ka, .ref kb, .int cc, .int cd, .int ce, .int cf, .int cg, .int ch, .int ci, .int cj, .int ck, .ref kl, .int cm, .int cn, .ref ko])), (k0, .inl (cI, 1201, .inl sc0_180))] H := hP
                          replace hD : va_D A [(k4, .inl (cI, 6, .inl c4)), (k, .inr (11, [.ref k0, .ref k1, .ref k2, .int c3, .ref k4, .ref k5, .ref k6, .ref k7, .ref k8, .int c9, .ref ka, .ref kb, .int cc, .int cd, .int ce, .int cf, .int cg, .int ch, .int ci, .int cj, .int ck, .ref kl, .int cm, .int cn, .ref ko])), (k0, .inl (cI, 1201, .inl sc0_180))] := hD
                          have h_181 := w_179
                          try simp only [zl_1] at h_181
                          have h_181 : sc0_180 = upd sc0_171 (459 + 9 * v_158.toInt.toNat + 1) a1 := h_181
                          have h_181 : sc0_180 = upd sc0_171 (459 + 9 * v_158.toInt.toNat + 1) a1 := h_181
                          have hS_182 : SIX sc0_180 v_158.toInt := SIX.p hS_173 h_181 rfl (by omega) (by omega) (by decide +kernel) (by omega) (fun z => by omega) (fun z => by omega)
                          have n_183 : (sc0_180 0).toInt = (sc0_171 0).toInt := by rw [updN h_181 (by omega)]
                          have n_184 : (sc0_180 1).toInt = (sc0_171 1).toInt := by rw [updN h_181 (by omega)]
                          have n_185 : (sc0_180 2).toInt = (sc0_171 2).toInt := by rw [updN h_181 (by omega)]
                          have n_186 : (pW sc0_180 v_158 2).toInt = (pW sc0_171 v_158 2).toInt := by rw [pW_upd h_181 (by decide +kernel) (by decide +kernel) (Or.inl (by decide +kernel))]
                          refine lv_aload_n hx hb dX11_party__141 rfl (lv_at hl 2 rfl) ?_
                          refine lv_iload hx hb dX11_party__142 (lv_at hl 1 rfl) ?_
                          refine lv_iconst (v := 2) hx hb dX11_party__144 (by decide +kernel) ?_
                          refine lv_iload_n hx hb dX11_party__145 rfl (lv_at hl 5 rfl) ?_
                          refine lv_bipush (v := 100) hx hb dX11_party__146 (by decide +kernel) ?_
                          refine lv_idiv hx hb dX11_party__148 (by decide +kernel) ?_
                          refine lv_topi (fun v_187 ev_187 => ?_)
                          have tv_187 : v_187.toInt = a2.toInt / 100 := k_divv (w := 0) ev_187 zl_100 (by omega) (by decide +kernel)
                          have lo_v_187 := k_lo v_187
                          have hi_v_187 := k_hi v_187
                          refine kJv (wr := [(k4, .inl (cI, 6, .inl c4))]) (va_runV (As := [.int v_158, .int 2, .int v_187]) (rest := []) ⟨hx, hb, hml, hown, hT⟩ (c_X11_setPartyG2 l D cI aK aV k k0 k1 k2 k4 k5 k6 k7 k8 ka kb kl ko H.size c3 c9 cc cd ce cf cg ch ci cj ck cm cn sc0_180 v_158 2 v_187 (by first | omega | (simp only [zl_2]; first | done | omega) | decide | assumption | rfl) (by first | omega | (simp only [zl_2]; first | done | omega) | decide | assumption | rfl) (by first | omega | (simp only [zl_2]; first | done | omega) | decide | assumption | rfl)) (cwV 3 hT (gV_in mw_1404 mw_1401 mw_1403 mw_p5_3 mw_12) rfl rfl rfl (by decide +kernel) ⟨Nat.le_of_ble_eq_true rfl, Nat.le_of_ble_eq_true rfl⟩) (kRecvX (q0 := 1) (ci := 11) hK hP hD hN hXS hS hA rfl rfl [1, 2] rfl (by decide +kernel)) rfl rfl hl.1 rfl (lv_room (Nat.le_of_ble_eq_true rfl)) dX11_party__149 ⟨Nat.le_of_ble_eq_true rfl, Nat.le_of_ble_eq_true rfl⟩) hP hD hS hA [1, 2] [0] rfl rfl (by decide +kernel) (by decide +kernel) ?_
                          clear hP hD hS
                          intro sc0_190 H locs w_189 hP hD hS
                          replace hP : va_P D vwCl [(k4, .inl (cI, 6, .inl c4)), (k, .inr (11, [.ref k0, .ref k1, .ref k2, .int c3, .ref k4, .ref k5, .ref k6, .ref k7, .ref k8, .int c9, .ref ka, .ref kb, .int cc, .int cd, .int ce, .int cf, .int cg, .int ch, .int ci, .int cj, .int ck, .ref kl, .int cm, .int cn, .ref ko])), (k0, .inl (cI, 1201, .inl sc0_190))] H := hP
                          replace hD : va_D A [(k4, .inl (cI, 6, .inl c4)), (k, .inr (11, [.ref k0, .ref k1, .ref k2, .int c3, .ref k4, .ref k5, .ref k6, .ref k7, .ref k8, .int c9, .ref ka, .ref kb, .int cc, .int cd, .int ce, .int cf, .int cg, .int ch, .int ci, .int cj, .int ck, .ref kl, .int cm, .int cn, .ref ko])), (k0, .inl (cI, 1201, .inl sc0_190))] := hD
                          have h_191 := w_189
                          try simp only [zl_2] at h_191
                          have h_191 : sc0_190 = upd sc0_180 (459 + 9 * v_158.toInt.toNat + 2) v_187 := h_191
                          have h_191 : sc0_190 = upd sc0_180 (459 + 9 * v_158.toInt.toNat + 2) v_187 := h_191
                          have hS_192 : SIX sc0_190 (-1) := SIX.all (p := v_158) (SIX.p hS_182 h_191 rfl (by omega) (by omega) (by decide +kernel) (by omega) (fun _ => Or.inr rfl) (fun z => by omega)) (Or.inr (by rw [pW_updE h_191]; omega))
                          have n_193 : (sc0_190 0).toInt = (sc0_180 0).toInt := by rw [updN h_191 (by omega)]
                          have n_194 : (sc0_190 1).toInt = (sc0_180 1).toInt := by rw [updN h_191 (by omega)]
                          have n_195 : (sc0_190 2).toInt = (sc0_180 2).toInt := by rw [updN h_191 (by omega)]
                          refine lv_aload_n hx hb dX11_party__152 rfl (lv_at hl 2 rfl) ?_
                          refine lv_iload hx hb dX11_party__153 (lv_at hl 1 rfl) ?_
                          refine lv_iconst (v := 3) hx hb dX11_party__155 (by decide +kernel) ?_
                          refine lv_iload_n hx hb dX11_party__156 rfl (lv_at hl 5 rfl) ?_
                          refine lv_bipush (v := 100) hx hb dX11_party__157 (by decide +kernel) ?_
                          refine lv_irem hx hb dX11_party__159 (by decide +kernel) ?_
                          refine lv_topi (fun v_197 ev_197 => ?_)
                          have tv_197 : v_197.toInt = a2.toInt % 100 := k_remv (w := 0) ev_197 zl_100 (by omega) (by decide +kernel)
                          have lo_v_197 := k_lo v_197
                          have hi_v_197 := k_hi v_197
                          refine kJv (wr := [(k4, .inl (cI, 6, .inl c4))]) (va_runV (As := [.int v_158, .int 3, .int v_197]) (rest := []) ⟨hx, hb, hml, hown, hT⟩ (c_X11_setPartyG3 l D cI aK aV k k0 k1 k2 k4 k5 k6 k7 k8 ka kb kl ko H.size c3 c9 cc cd ce cf cg ch ci cj ck cm cn sc0_190 v_158 3 v_197 (by first | omega | (simp only [zl_3]; first | done | omega) | decide | assumption | rfl) (by first | omega | (simp only [zl_3]; first | done | omega) | decide | assumption | rfl) (by first | omega | (simp only [zl_3]; first | done | omega) | decide | assumption | rfl)) (cwV 3 hT (gV_in mw_1404 mw_1401 mw_1403 mw_p5_3 mw_12) rfl rfl rfl (by decide +kernel) ⟨Nat.le_of_ble_eq_true rfl, Nat.le_of_ble_eq_true rfl⟩) (kRecvX (q0 := 1) (ci := 11) hK hP hD hN hXS hS hA rfl rfl [1, 2] rfl (by decide +kernel)) rfl rfl hl.1 rfl (lv_room (Nat.le_of_ble_eq_true rfl)) dX11_party__160 ⟨Nat.le_of_ble_eq_true rfl, Nat.le_of_ble_eq_true rfl⟩) hP hD hS hA [1, 2] [0] rfl rfl (by decide +kernel) (by decide +kernel) ?_
                          clear hP hD hS
                          intro sc0_200 H locs w_199 hP hD hS
                          replace hP : va_P D vwCl [(k4, .inl (cI, 6, .inl c4)), (k, .inr (11, [.ref k0, .ref k1, .ref k2, .int c3, .ref k4, .ref k5, .ref k6, .ref k7, .ref k8, .int c9, .ref ka, .ref kb, .int cc, .int cd, .int ce, .int cf, .int cg, .int ch, .int ci, .int cj, .int ck, .ref kl, .int cm, .int cn, .ref ko])), (k0, .inl (cI, 1201, .inl sc0_200))] H := hP
                          replace hD : va_D A [(k4, .inl (cI, 6, .inl c4)), (k, .inr (11, [.ref k0, .ref k1, .ref k2, .int c3, .ref k4, .ref k5, .ref k6, .ref k7, .ref k8, .int c9, .ref ka, .ref kb, .int cc, .int cd, .int ce, .int cf, .int cg, .int ch, .int ci, .int cj, .int ck, .ref kl, .int cm, .int cn, .ref ko])), (k0, .inl (cI, 1201, .inl sc0_200))] := hD
                          have h_201 := w_199
                          try simp only [zl_3] at h_201
                          have h_201 : sc0_200 = upd sc0_190 (459 + 9 * v_158.toInt.toNat + 3) v_197 := h_201
                          have h_201 : sc0_200 = upd sc0_190 (459 + 9 * v_158.toInt.toNat + 3) v_197 := h_201
                          have hS_202 : SIX sc0_200 (-1) := SIX.p hS_192 h_201 rfl (by omega) (by omega) (by decide +kernel) (by omega) (fun z => by omega) (fun z => by omega)
                          have n_203 : (sc0_200 0).toInt = (sc0_190 0).toInt := by rw [updN h_201 (by omega)]
                          have n_204 : (sc0_200 1).toInt = (sc0_190 1).toInt := by rw [updN h_201 (by omega)]
                          have n_205 : (sc0_200 2).toInt = (sc0_190 2).toInt := by rw [updN h_201 (by omega)]
                          have n_206 : (pW sc0_200 v_158 2).toInt = (pW sc0_190 v_158 2).toInt := by rw [pW_upd h_201 (by decide +kernel) (by decide +kernel) (Or.inl (by decide +kernel))]
                          refine lv_aload_n hx hb dX11_party__163 rfl (lv_at hl 2 rfl) ?_
                          refine lv_iload hx hb dX11_party__164 (lv_at hl 1 rfl) ?_
                          refine lv_iconst (v := 4) hx hb dX11_party__166 (by decide +kernel) ?_
                          refine lv_iload hx hb dX11_party__167 (lv_at hl 6 rfl) ?_
                          refine kJv (wr := [(k4, .inl (cI, 6, .inl c4))]) (va_runV (As := [.int v_158, .int 4, .int a3]) (rest := []) ⟨hx, hb, hml, hown, hT⟩ (c_X11_setPartyG4 l D cI aK aV k k0 k1 k2 k4 k5 k6 k7 k8 ka kb kl ko H.size c3 c9 cc cd ce cf cg ch ci cj ck cm cn sc0_200 v_158 4 a3 (by first | omega | (simp only [zl_4]; first | done | omega) | decide | assumption | rfl) (by first | omega | (simp only [zl_4]; first | done | omega) | decide | assumption | rfl) (by first | omega | (simp only [zl_4]; first | done | omega) | decide | assumption | rfl)) (cwV 3 hT (gV_in mw_1404 mw_1401 mw_1403 mw_p5_3 mw_12) rfl rfl rfl (by decide +kernel) ⟨Nat.le_of_ble_eq_true rfl, Nat.le_of_ble_eq_true rfl⟩) (kRecvX (q0 := 1) (ci := 11) hK hP hD hN hXS hS hA rfl rfl [1, 2] rfl (by decide +kernel)) rfl rfl hl.1 rfl (lv_room (Nat.le_of_ble_eq_true rfl)) dX11_party__169 ⟨Nat.le_of_ble_eq_true rfl, Nat.le_of_ble_eq_true rfl⟩) hP hD hS hA [1, 2] [0] rfl rfl (by decide +kernel) (by decide +kernel) ?_
                          clear hP hD hS
                          intro sc0_209 H locs w_208 hP hD hS
                          replace hP : va_P D vwCl [(k4, .inl (cI, 6, .inl c4)), (k, .inr (11, [.ref k0, .ref k1, .ref k2, .int c3, .ref k4, .ref k5, .ref k6, .ref k7, .ref k8, .int c9, .ref ka, .ref kb, .int cc, .int cd, .int ce, .int cf, .int cg, .int ch, .int ci, .int cj, .int ck, .ref kl, .int cm, .int cn, .ref ko])), (k0, .inl (cI, 1201, .inl sc0_209))] H := hP
                          replace hD : va_D A [(k4, .inl (cI, 6, .inl c4)), (k, .inr (11, [.ref k0, .ref k1, .ref k2, .int c3, .ref k4, .ref k5, .ref k6, .ref k7, .ref k8, .int c9, .ref ka, .ref kb, .int cc, .int cd, .int ce, .int cf, .int cg, .int ch, .int ci, .int cj, .int ck, .ref kl, .int cm, .int cn, .ref ko])), (k0, .inl (cI, 1201, .inl sc0_209))] := hD
                          have h_210 := w_208
                          try simp only [zl_4] at h_210
                          have h_210 : sc0_209 = upd sc0_200 (459 + 9 * v_158.toInt.toNat + 4) a3 := h_210
                          have h_210 : sc0_209 = upd sc0_200 (459 + 9 * v_158.toInt.toNat + 4) a3 := h_210
                          have hS_211 : SIX sc0_209 (-1) := SIX.p hS_202 h_210 rfl (by omega) (by omega) (by decide +kernel) (by omega) (fun z => by omega) (fun z => by omega)
                          have n_212 : (sc0_209 0).toInt = (sc0_200 0).toInt := by rw [updN h_210 (by omega)]
                          have n_213 : (sc0_209 1).toInt = (sc0_200 1).toInt := by rw [updN h_210 (by omega)]
                          have n_214 : (sc0_209 2).toInt = (sc0_200 2).toInt := by rw [updN h_210 (by omega)]
                          have n_215 : (pW sc0_209 v_158 2).toInt = (pW sc0_200 v_158 2).toInt := by rw [pW_upd h_210 (by decide +kernel) (by decide +kernel) (Or.inl (by decide +kernel))]
                          refine lv_iload hx hb dX11_party__172 (lv_at hl 1 rfl) ?_
                          exact hRet (sc0_209, c4) [1, 2, 0] ⟨hS_211, (by (try dsimp only); unfold partyR; (repeat (first | rw [if_pos (by omega)] | rw [if_neg (by omega)])); first | done | exact k_inj (by omega)), (pty_ref (p := v_158) (v := v_162) (m := v_187) (b := v_197) ⟨by omega, by omega, by omega, by omega, by omega, by omega, by omega, by omega, by omega⟩ ev_158 (by rw [ev_162, ev_160]) (by omega) ev_187 ev_197 ef_163 (by have z := i103_3; rw [show l103_6.toInt.toNat = 9 from by omega] at z; exact z) h_172 h_181 h_191 h_201 h_210)⟩ hP hD (by decide +kernel) rfl hS rfl dX11_party__174
                        · refine lv_aload_n hx hb dX11_party__110 rfl (lv_at hl 2 rfl) ?_
                          refine lv_iload hx hb dX11_party__111 (lv_at hl 1 rfl) ?_
                          refine lv_iload hx hb dX11_party__113 (lv_at hl 0 rfl) ?_
                          refine lv_iconst (v := 0) hx hb dX11_party__115 (by decide +kernel) ?_
                          refine kJv (wr := [(k4, .inl (cI, 6, .inl c4))]) (va_runV (As := [.int v_158, .int l103_6, .int 0]) (rest := []) ⟨hx, hb, hml, hown, hT⟩ (c_X11_setPartyGZ l D cI aK aV k k0 k1 k2 k4 k5 k6 k7 k8 ka kb kl ko H.size c3 c9 cc cd ce cf cg ch ci cj ck cm cn g103_k0 v_158 l103_6 0 (by first | omega | (simp only [zl_0]; first | done | omega) | decide | assumption | rfl) (by first | omega | (simp only [zl_0]; first | done | omega) | decide | assumption | rfl) (by first | omega | (simp only [zl_0]; first | done | omega) | decide | assumption | rfl) (by first | omega | (simp only [zl_0]; first | done | omega) | decide | assumption | rfl) (by first | omega | (simp only [zl_0]; first | done | omega) | decide | assumption | rfl) i103_1) (cwV 3 hT (gV_in mw_1404 mw_1401 mw_1403 mw_p5_3 mw_12) rfl rfl rfl (by decide +kernel) ⟨Nat.le_of_ble_eq_true rfl, Nat.le_of_ble_eq_true rfl⟩) (kRecvX (q0 := 0) (ci := 11) hK hP hD hN hXS hS hA rfl rfl [0, 1] rfl (by decide +kernel)) rfl rfl hl.1 rfl (lv_room (Nat.le_of_ble_eq_true rfl)) dX11_party__116 ⟨Nat.le_of_ble_eq_true rfl, Nat.le_of_ble_eq_true rfl⟩) hP hD hS hA [0, 1] [2] rfl rfl (by decide +kernel) (by decide +kernel) ?_
                          clear hP hD hS
                          intro sc0_218 H locs w_217 hP hD hS
                          replace hP : va_P D vwCl [(k4, .inl (cI, 6, .inl c4)), (k, .inr (11, [.ref k0, .ref k1, .ref k2, .int c3, .ref k4, .ref k5, .ref k6, .ref k7, .ref k8, .int c9, .ref ka, .ref kb, .int cc, .int cd, .int ce, .int cf, .int cg, .int ch, .int ci, .int cj, .int ck, .ref kl, .int cm, .int cn, .ref ko])), (k0, .inl (cI, 1201, .inl sc0_218))] H := hP
                          replace hD : va_D A [(k4, .inl (cI, 6, .inl c4)), (k, .inr (11, [.ref k0, .ref k1, .ref k2, .int c3, .ref k4, .ref k5, .ref k6, .ref k7, .ref k8, .int c9, .ref ka, .ref kb, .int cc, .int cd, .int ce, .int cf, .int cg, .int ch, .int ci, .int cj, .int ck, .ref kl, .int cm, .int cn, .ref ko])), (k0, .inl (cI, 1201, .inl sc0_218))] := hD
                          obtain ⟨h_219, h_220, h_221, h_222, h_223⟩ := w_217
                          try simp only [zl_0] at h_219
                          have h_219 : SIX sc0_218 v_158.toInt := h_219
                          have h_219 : SIX sc0_218 v_158.toInt := h_219
                          try simp only [zl_0] at h_220
                          have h_220 : sc0_218 = upd g103_k0 (459 + 9 * v_158.toInt.toNat + l103_6.toInt.toNat) 0 := h_220
                          have h_220 : sc0_218 = upd g103_k0 (459 + 9 * v_158.toInt.toNat + l103_6.toInt.toNat) 0 := h_220
                          try simp only [zl_0] at h_221
                          have h_221 : (sc0_218 0).toInt = (g103_k0 0).toInt := h_221
                          try simp only [zl_0] at h_222
                          have h_222 : (sc0_218 1).toInt = (g103_k0 1).toInt := h_222
                          try simp only [zl_0] at h_223
                          have h_223 : (sc0_218 2).toInt = (g103_k0 2).toInt := h_223
                          obtain ⟨v_224, ev_224⟩ : ∃ y : Int32, y = l103_6 + 1 := ⟨_, rfl⟩
                          have tv_224 : v_224.toInt = l103_6.toInt + 1 := by rw [ev_224]; exact k_addv rfl zl_1 (by omega) (by omega)
                          refine lv_iinc (v := v_224) (lv' := [(6, .int v_224), (5, .int v_158), (0, .ref k), (1, .int a0), (2, .int a1), (3, .int a2), (4, .int a3)]) hx hb dX11_party__119 hl (k := 0) rfl (by rw [ev_224]; rfl) (by decide +kernel) rfl ?_
                          clear hl
                          intro ls hl
                          refine lv_goto (tgt := 103) hx hb dX11_party__122 (by decide +kernel) ?_
                          exact ih103 v_224 sc0_218 (by first | omega | decide | assumption | rfl) h_219 (by first | omega | decide | assumption | rfl) (pz_s i103_3 (by omega) (by omega) h_220) (by first | omega | decide | assumption | rfl) (by omega) ls _ _ (lv_sub hl [0, 1, 2, 3, 4, 5, 6] rfl) (hP.sub [1, 2, 0] rfl) (hD.sub [1, 2, 0] (by decide +kernel) rfl) hS
                  exact hloop_103 _ 0 f_163 (by first | omega | (simp only [zl_0]; first | done | omega) | decide | assumption | rfl) hS_164 (by rw [show f_163 2 = v_162 from (by rw [ef_163]; rfl)] <;> first | omega | (simp only [zl_0]; first | done | omega) | (simp [zl_0]; done)) (by rw [zl_0]; rfl) (by first | omega | (simp only [zl_0]; first | done | omega) | decide | assumption | rfl) (Nat.lt_succ_self _) ls _ _ (lv_sub hl [0, 1, 2, 3, 4, 5, 6] rfl) hP hD hS
                · refine lv_aload_n hx hb dX11_party__75 rfl (lv_at hl 0 rfl) ?_
                  refine lv_ldc (v := (-1000004)) hx hb hown (hT _ mw_1256) dX11_party__76 ?_
                  refine kJi (wr := [(k0, .inl (cI, 1201, .inl c0))]) (va_runV (As := [.int (-1000004)]) (rest := []) ⟨hx, hb, hml, hown, hT⟩ (c_X11_findingG l D cI aK aV k k0 k1 k2 k4 k5 k6 k7 k8 ka kb kl ko H.size c3 c9 cc cd ce cf cg ch ci cj ck cm cn c4 (-1000004) (by first | omega | (simp only [zl_m1000004]; first | done | omega) | decide | assumption | rfl) (by first | omega | (simp only [zl_m1000004]; first | done | omega) | decide | assumption | rfl)) (cwV 1 hT (gV_in mw_1243 mw_1240 mw_1242 mw_p3_8 mw_12) rfl rfl rfl (by decide +kernel) ⟨Nat.le_of_ble_eq_true rfl, Nat.le_of_ble_eq_true rfl⟩) (kRecvX (q0 := 0) (ci := 11) hK hP hD hN hXS hS hA rfl rfl [0, 2] rfl (by decide +kernel)) rfl rfl hl.1 rfl (lv_room (Nat.le_of_ble_eq_true rfl)) dX11_party__78 ⟨Nat.le_of_ble_eq_true rfl, Nat.le_of_ble_eq_true rfl⟩) hP hD hS hA [0, 2] [1] rfl rfl (by decide +kernel) (by decide +kernel) ?_
                  clear hP hD hS
                  intro r_225 sc4_227 H locs w_226 hP hD hS
                  replace hP : va_P D vwCl [(k0, .inl (cI, 1201, .inl c0)), (k, .inr (11, [.ref k0, .ref k1, .ref k2, .int c3, .ref k4, .ref k5, .ref k6, .ref k7, .ref k8, .int c9, .ref ka, .ref kb, .int cc, .int cd, .int ce, .int cf, .int cg, .int ch, .int ci, .int cj, .int ck, .ref kl, .int cm, .int cn, .ref ko])), (k4, .inl (cI, 6, .inl sc4_227))] H := hP
                  replace hD : va_D A [(k0, .inl (cI, 1201, .inl c0)), (k, .inr (11, [.ref k0, .ref k1, .ref k2, .int c3, .ref k4, .ref k5, .ref k6, .ref k7, .ref k8, .int c9, .ref ka, .ref kb, .int cc, .int cd, .int ce, .int cf, .int cg, .int ch, .int ci, .int cj, .int ck, .ref kl, .int cm, .int cn, .ref ko])), (k4, .inl (cI, 6, .inl sc4_227))] := hD
                  have hr_225 := w_226
                  obtain rfl : r_225 = (-1000004) := hr_225.trans (by decide +kernel)
                  exact hRet (c0, sc4_227) [1, 0, 2] ⟨pre0, (by (try dsimp only); unfold partyR; (repeat (first | rw [if_pos (by omega)] | rw [if_neg (by omega)]))), (by (try dsimp only); unfold partyS; (repeat (first | rw [if_pos (by omega)] | rw [if_neg (by omega)])))⟩ hP hD (by decide +kernel) rfl hS rfl dX11_party__81
              · try simp only [zl_0, zl_99] at h_153
                have h_153 : a3.toInt < 0 ∨ 99 < a3.toInt := h_153
                obtain rfl : r_148 = 0 := hr_148.trans (by decide +kernel)
                refine b_if_ne hx hb zl_0 (tgt := 65) dX11_party__55 (by decide +kernel) (fun c_228 => by exfalso; omega) (fun c_228 => ?_)
                refine lv_aload_n hx hb dX11_party__58 rfl (lv_at hl 0 rfl) ?_
                refine lv_ldc (v := (-1000001)) hx hb hown (hT _ mw_1239) dX11_party__59 ?_
                refine kJi (wr := [(k0, .inl (cI, 1201, .inl c0))]) (va_runV (As := [.int (-1000001)]) (rest := []) ⟨hx, hb, hml, hown, hT⟩ (c_X11_findingG l D cI aK aV k k0 k1 k2 k4 k5 k6 k7 k8 ka kb kl ko H.size c3 c9 cc cd ce cf cg ch ci cj ck cm cn c4 (-1000001) (by first | omega | (simp only [zl_m1000001]; first | done | omega) | decide | assumption | rfl) (by first | omega | (simp only [zl_m1000001]; first | done | omega) | decide | assumption | rfl)) (cwV 1 hT (gV_in mw_1243 mw_1240 mw_1242 mw_p3_8 mw_12) rfl rfl rfl (by decide +kernel) ⟨Nat.le_of_ble_eq_true rfl, Nat.le_of_ble_eq_true rfl⟩) (kRecvX (q0 := 0) (ci := 11) hK hP hD hN hXS hS hA rfl rfl [0, 2] rfl (by decide +kernel)) rfl rfl hl.1 rfl (lv_room (Nat.le_of_ble_eq_true rfl)) dX11_party__61 ⟨Nat.le_of_ble_eq_true rfl, Nat.le_of_ble_eq_true rfl⟩) hP hD hS hA [0, 2] [1] rfl rfl (by decide +kernel) (by decide +kernel) ?_
                clear hP hD hS
                intro r_229 sc4_231 H locs w_230 hP hD hS
                replace hP : va_P D vwCl [(k0, .inl (cI, 1201, .inl c0)), (k, .inr (11, [.ref k0, .ref k1, .ref k2, .int c3, .ref k4, .ref k5, .ref k6, .ref k7, .ref k8, .int c9, .ref ka, .ref kb, .int cc, .int cd, .int ce, .int cf, .int cg, .int ch, .int ci, .int cj, .int ck, .ref kl, .int cm, .int cn, .ref ko])), (k4, .inl (cI, 6, .inl sc4_231))] H := hP
                replace hD : va_D A [(k0, .inl (cI, 1201, .inl c0)), (k, .inr (11, [.ref k0, .ref k1, .ref k2, .int c3, .ref k4, .ref k5, .ref k6, .ref k7, .ref k8, .int c9, .ref ka, .ref kb, .int cc, .int cd, .int ce, .int cf, .int cg, .int ch, .int ci, .int cj, .int ck, .ref kl, .int cm, .int cn, .ref ko])), (k4, .inl (cI, 6, .inl sc4_231))] := hD
                have hr_229 := w_230
                obtain rfl : r_229 = (-1000001) := hr_229.trans (by decide +kernel)
                exact hRet (c0, sc4_231) [1, 0, 2] ⟨pre0, (by (try dsimp only); unfold partyR; (repeat (first | rw [if_pos (by omega)] | rw [if_neg (by omega)]))), (by (try dsimp only); unfold partyS; (repeat (first | rw [if_pos (by omega)] | rw [if_neg (by omega)])))⟩ hP hD (by decide +kernel) rfl hS rfl dX11_party__64
            · try simp only [zl_0, zl_50] at h_146
              have h_146 : v_140.toInt < 0 ∨ 50 < v_140.toInt := h_146
              obtain rfl : r_141 = 0 := hr_141.trans (by decide +kernel)
              refine b_if_eq hx hb zl_0 (tgt := 58) dX11_party__44 (by decide +kernel) (fun c_232 => ?_) (fun c_232 => by exfalso; omega)
              refine lv_aload_n hx hb dX11_party__58 rfl (lv_at hl 0 rfl) ?_
              refine lv_ldc (v := (-1000001)) hx hb hown (hT _ mw_1239) dX11_party__59 ?_
              refine kJi (wr := [(k0, .inl (cI, 1201, .inl c0))]) (va_runV (As := [.int (-1000001)]) (rest := []) ⟨hx, hb, hml, hown, hT⟩ (c_X11_findingG l D cI aK aV k k0 k1 k2 k4 k5 k6 k7 k8 ka kb kl ko H.size c3 c9 cc cd ce cf cg ch ci cj ck cm cn c4 (-1000001) (by first | omega | (simp only [zl_m1000001]; first | done | omega) | decide | assumption | rfl) (by first | omega | (simp only [zl_m1000001]; first | done | omega) | decide | assumption | rfl)) (cwV 1 hT (gV_in mw_1243 mw_1240 mw_1242 mw_p3_8 mw_12) rfl rfl rfl (by decide +kernel) ⟨Nat.le_of_ble_eq_true rfl, Nat.le_of_ble_eq_true rfl⟩) (kRecvX (q0 := 0) (ci := 11) hK hP hD hN hXS hS hA rfl rfl [0, 2] rfl (by decide +kernel)) rfl rfl hl.1 rfl (lv_room (Nat.le_of_ble_eq_true rfl)) dX11_party__61 ⟨Nat.le_of_ble_eq_true rfl, Nat.le_of_ble_eq_true rfl⟩) hP hD hS hA [0, 2] [1] rfl rfl (by decide +kernel) (by decide +kernel) ?_
              clear hP hD hS
              intro r_233 sc4_235 H locs w_234 hP hD hS
              replace hP : va_P D vwCl [(k0, .inl (cI, 1201, .inl c0)), (k, .inr (11, [.ref k0, .ref k1, .ref k2, .int c3, .ref k4, .ref k5, .ref k6, .ref k7, .ref k8, .int c9, .ref ka, .ref kb, .int cc, .int cd, .int ce, .int cf, .int cg, .int ch, .int ci, .int cj, .int ck, .ref kl, .int cm, .int cn, .ref ko])), (k4, .inl (cI, 6, .inl sc4_235))] H := hP
              replace hD : va_D A [(k0, .inl (cI, 1201, .inl c0)), (k, .inr (11, [.ref k0, .ref k1, .ref k2, .int c3, .ref k4, .ref k5, .ref k6, .ref k7, .ref k8, .int c9, .ref ka, .ref kb, .int cc, .int cd, .int ce, .int cf, .int cg, .int ch, .int ci, .int cj, .int ck, .ref kl, .int cm, .int cn, .ref ko])), (k4, .inl (cI, 6, .inl sc4_235))] := hD
              have hr_233 := w_234
              obtain rfl : r_233 = (-1000001) := hr_233.trans (by decide +kernel)
              exact hRet (c0, sc4_235) [1, 0, 2] ⟨pre0, (by (try dsimp only); unfold partyR; (repeat (first | rw [if_pos (by omega)] | rw [if_neg (by omega)]))), (by (try dsimp only); unfold partyS; (repeat (first | rw [if_pos (by omega)] | rw [if_neg (by omega)])))⟩ hP hD (by decide +kernel) rfl hS rfl dX11_party__64
          · try simp only [zl_1, zl_50] at h_138
            have h_138 : v_132.toInt < 1 ∨ 50 < v_132.toInt := h_138
            obtain rfl : r_133 = 0 := hr_133.trans (by decide +kernel)
            refine b_if_eq hx hb zl_0 (tgt := 58) dX11_party__31 (by decide +kernel) (fun c_236 => ?_) (fun c_236 => by exfalso; omega)
            refine lv_aload_n hx hb dX11_party__58 rfl (lv_at hl 0 rfl) ?_
            refine lv_ldc (v := (-1000001)) hx hb hown (hT _ mw_1239) dX11_party__59 ?_
            refine kJi (wr := [(k0, .inl (cI, 1201, .inl c0))]) (va_runV (As := [.int (-1000001)]) (rest := []) ⟨hx, hb, hml, hown, hT⟩ (c_X11_findingG l D cI aK aV k k0 k1 k2 k4 k5 k6 k7 k8 ka kb kl ko H.size c3 c9 cc cd ce cf cg ch ci cj ck cm cn c4 (-1000001) (by first | omega | (simp only [zl_m1000001]; first | done | omega) | decide | assumption | rfl) (by first | omega | (simp only [zl_m1000001]; first | done | omega) | decide | assumption | rfl)) (cwV 1 hT (gV_in mw_1243 mw_1240 mw_1242 mw_p3_8 mw_12) rfl rfl rfl (by decide +kernel) ⟨Nat.le_of_ble_eq_true rfl, Nat.le_of_ble_eq_true rfl⟩) (kRecvX (q0 := 0) (ci := 11) hK hP hD hN hXS hS hA rfl rfl [0, 2] rfl (by decide +kernel)) rfl rfl hl.1 rfl (lv_room (Nat.le_of_ble_eq_true rfl)) dX11_party__61 ⟨Nat.le_of_ble_eq_true rfl, Nat.le_of_ble_eq_true rfl⟩) hP hD hS hA [0, 2] [1] rfl rfl (by decide +kernel) (by decide +kernel) ?_
            clear hP hD hS
            intro r_237 sc4_239 H locs w_238 hP hD hS
            replace hP : va_P D vwCl [(k0, .inl (cI, 1201, .inl c0)), (k, .inr (11, [.ref k0, .ref k1, .ref k2, .int c3, .ref k4, .ref k5, .ref k6, .ref k7, .ref k8, .int c9, .ref ka, .ref kb, .int cc, .int cd, .int ce, .int cf, .int cg, .int ch, .int ci, .int cj, .int ck, .ref kl, .int cm, .int cn, .ref ko])), (k4, .inl (cI, 6, .inl sc4_239))] H := hP
            replace hD : va_D A [(k0, .inl (cI, 1201, .inl c0)), (k, .inr (11, [.ref k0, .ref k1, .ref k2, .int c3, .ref k4, .ref k5, .ref k6, .ref k7, .ref k8, .int c9, .ref ka, .ref kb, .int cc, .int cd, .int ce, .int cf, .int cg, .int ch, .int ci, .int cj, .int ck, .ref kl, .int cm, .int cn, .ref ko])), (k4, .inl (cI, 6, .inl sc4_239))] := hD
            have hr_237 := w_238
            obtain rfl : r_237 = (-1000001) := hr_237.trans (by decide +kernel)
            exact hRet (c0, sc4_239) [1, 0, 2] ⟨pre0, (by (try dsimp only); unfold partyR; (repeat (first | rw [if_pos (by omega)] | rw [if_neg (by omega)]))), (by (try dsimp only); unfold partyS; (repeat (first | rw [if_pos (by omega)] | rw [if_neg (by omega)])))⟩ hP hD (by decide +kernel) rfl hS rfl dX11_party__64
  · have h_9 : a0.toInt < 0 ∨ 39 < a0.toInt := h_9
    obtain rfl : r_4 = 0 := hr_4.trans (by decide +kernel)
    refine b_if_eq hx hb zl_0 (tgt := 58) dX11_party__4 (by decide +kernel) (fun c_240 => ?_) (fun c_240 => by exfalso; omega)
    refine lv_aload_n hx hb dX11_party__58 rfl (lv_at hl 0 rfl) ?_
    refine lv_ldc (v := (-1000001)) hx hb hown (hT _ mw_1239) dX11_party__59 ?_
    refine kJi (wr := [(k0, .inl (cI, 1201, .inl c0))]) (va_runV (As := [.int (-1000001)]) (rest := []) ⟨hx, hb, hml, hown, hT⟩ (c_X11_findingG l D cI aK aV k k0 k1 k2 k4 k5 k6 k7 k8 ka kb kl ko H.size c3 c9 cc cd ce cf cg ch ci cj ck cm cn c4 (-1000001) (by first | omega | (simp only [zl_m1000001]; first | done | omega) | decide | assumption | rfl) (by first | omega | (simp only [zl_m1000001]; first | done | omega) | decide | assumption | rfl)) (cwV 1 hT (gV_in mw_1243 mw_1240 mw_1242 mw_p3_8 mw_12) rfl rfl rfl (by decide +kernel) ⟨Nat.le_of_ble_eq_true rfl, Nat.le_of_ble_eq_true rfl⟩) (kRecvX (q0 := 0) (ci := 11) hK hP hD hN hXS hS hA rfl rfl [0, 2] rfl (by decide +kernel)) rfl rfl hl.1 rfl (lv_room (Nat.le_of_ble_eq_true rfl)) dX11_party__61 ⟨Nat.le_of_ble_eq_true rfl, Nat.le_of_ble_eq_true rfl⟩) hP hD hS hA [0, 2] [1] rfl rfl (by decide +kernel) (by decide +kernel) ?_
    clear hP hD hS
    intro r_241 sc4_243 H locs w_242 hP hD hS
    replace hP : va_P D vwCl [(k0, .inl (cI, 1201, .inl c0)), (k, .inr (11, [.ref k0, .ref k1, .ref k2, .int c3, .ref k4, .ref k5, .ref k6, .ref k7, .ref k8, .int c9, .ref ka, .ref kb, .int cc, .int cd, .int ce, .int cf, .int cg, .int ch, .int ci, .int cj, .int ck, .ref kl, .int cm, .int cn, .ref ko])), (k4, .inl (cI, 6, .inl sc4_243))] H := hP
    replace hD : va_D A [(k0, .inl (cI, 1201, .inl c0)), (k, .inr (11, [.ref k0, .ref k1, .ref k2, .int c3, .ref k4, .ref k5, .ref k6, .ref k7, .ref k8, .int c9, .ref ka, .ref kb, .int cc, .int cd, .int ce, .int cf, .int cg, .int ch, .int ci, .int cj, .int ck, .ref kl, .int cm, .int cn, .ref ko])), (k4, .inl (cI, 6, .inl sc4_243))] := hD
    have hr_241 := w_242
    obtain rfl : r_241 = (-1000001) := hr_241.trans (by decide +kernel)
    exact hRet (c0, sc4_243) [1, 0, 2] ⟨pre0, (by (try dsimp only); unfold partyR; (repeat (first | rw [if_pos (by omega)] | rw [if_neg (by omega)]))), (by (try dsimp only); unfold partyS; (repeat (first | rw [if_pos (by omega)] | rw [if_neg (by omega)])))⟩ hP hD (by decide +kernel) rfl hS rfl dX11_party__64
theorem bn_cX11_partyIs_0 : BN cX11_partyIs 0 0x15a4100adc80131582802a83e8056e1d0e0ac1a014d0c002b904844081d0b805347a00adc382b := by
  unfold BN; decide +kernel
theorem dX11_partyIs_0 : decode cX11_partyIs 0 = .ok (.aload_n 0, 1) := dR0 (k := 0) (i := 0) bn_cX11_partyIs_0 dop_42 (by decide +kernel)
theorem dX11_partyIs_1 : decode cX11_partyIs 1 = .ok (.iload_n 1, 1) := dR0 (k := 0) (i := 1) bn_cX11_partyIs_0 dop_27 (by decide +kernel)
theorem dX11_partyIs_2 : decode cX11_partyIs 2 = .ok (.invokevirtual 121, 3) := dR2 (f := Instr.invokevirtual) (k := 0) (i := 2) bn_cX11_partyIs_0 dop_182 121 (by decide +kernel)
theorem dX11_partyIs_5 : decode cX11_partyIs 5 = .ok (.ifCond .eq 22, 3) := dR2s (f := Instr.ifCond .eq) (k := 0) (i := 5) bn_cX11_partyIs_0 dop_153 22 22 (by decide +kernel)
theorem dX11_partyIs_8 : decode cX11_partyIs 8 = .ok (.iload_n 2, 1) := dR0 (k := 0) (i := 8) bn_cX11_partyIs_0 dop_28 (by decide +kernel)
theorem dX11_partyIs_9 : decode cX11_partyIs 9 = .ok (.iconst 0, 1) := dR0 (k := 0) (i := 9) bn_cX11_partyIs_0 dop_3 (by decide +kernel)
theorem dX11_partyIs_10 : decode cX11_partyIs 10 = .ok (.bipush 8, 2) := dR1s (f := Instr.bipush) (k := 0) (i := 10) bn_cX11_partyIs_0 dop_16 8 8 (by decide +kernel)
theorem dX11_partyIs_12 : decode cX11_partyIs 12 = .ok (.invokestatic 47, 3) := dR2 (f := Instr.invokestatic) (k := 0) (i := 12) bn_cX11_partyIs_0 dop_184 47 (by decide +kernel)
theorem dX11_partyIs_15 : decode cX11_partyIs 15 = .ok (.ifCond .eq 12, 3) := dR2s (f := Instr.ifCond .eq) (k := 0) (i := 15) bn_cX11_partyIs_0 dop_153 12 12 (by decide +kernel)
theorem dX11_partyIs_18 : decode cX11_partyIs 18 = .ok (.aload_n 0, 1) := dR0 (k := 0) (i := 18) bn_cX11_partyIs_0 dop_42 (by decide +kernel)
theorem dX11_partyIs_19 : decode cX11_partyIs 19 = .ok (.iload_n 1, 1) := dR0 (k := 0) (i := 19) bn_cX11_partyIs_0 dop_27 (by decide +kernel)
theorem dX11_partyIs_20 : decode cX11_partyIs 20 = .ok (.iload_n 2, 1) := dR0 (k := 0) (i := 20) bn_cX11_partyIs_0 dop_28 (by decide +kernel)
theorem dX11_partyIs_21 : decode cX11_partyIs 21 = .ok (.invokevirtual 124, 3) := dR2 (f := Instr.invokevirtual) (k := 0) (i := 21) bn_cX11_partyIs_0 dop_182 124 (by decide +kernel)
theorem dX11_partyIs_24 : decode cX11_partyIs 24 = .ok (.goto 9, 3) := dR2s (f := Instr.goto) (k := 0) (i := 24) bn_cX11_partyIs_0 dop_167 9 9 (by decide +kernel)
theorem dX11_partyIs_27 : decode cX11_partyIs 27 = .ok (.aload_n 0, 1) := dR0 (k := 0) (i := 27) bn_cX11_partyIs_0 dop_42 (by decide +kernel)
theorem dX11_partyIs_28 : decode cX11_partyIs 28 = .ok (.ldc 63, 2) := dR1 (f := Instr.ldc) (k := 0) (i := 28) bn_cX11_partyIs_0 dop_18 63 (by decide +kernel)
theorem dX11_partyIs_30 : decode cX11_partyIs 30 = .ok (.invokevirtual 64, 3) := dR2 (f := Instr.invokevirtual) (k := 0) (i := 30) bn_cX11_partyIs_0 dop_182 64 (by decide +kernel)
theorem dX11_partyIs_33 : decode cX11_partyIs 33 = .ok (.ireturn, 1) := dR0 (k := 0) (i := 33) bn_cX11_partyIs_0 dop_172 (by decide +kernel)
set_option maxHeartbeats 4000000 in
set_option maxRecDepth 100000 in
theorem c_X11_partyIsG (l : Launch) (D : va_G) (cI : ClassId) (aK aV : Nat → Nat) (k k0 k1 k2 k4 k5 k6 k7 k8 ka kb kl ko : Nat) (sz : Nat) (c3 : Int32) (c9 : Int32) (cc : Int32) (cd : Int32) (ce : Int32) (cf : Int32) (cg : Int32) (ch : Int32) (ci : Int32) (cj : Int32) (ck : Int32) (cm : Int32) (cn : Int32) (c0 : Nat → Int32) (c4 : Nat → Int32) (a0 : Int32) (a1 : Int32) (pre0 : SB c0) : Met l yX11_partyIs (gW yX11_partyIs cX11_partyIs 3 (some .int)) ({ frames := 2, cells := 0, slots := 0, locals := 43 } : Room) (kPreX D cI aK aV [.ref k, .int a0, .int a1] [(k, .inr (11, [.ref k0, .ref k1, .ref k2, .int c3, .ref k4, .ref k5, .ref k6, .ref k7, .ref k8, .int c9, .ref ka, .ref kb, .int cc, .int cd, .int ce, .int cf, .int cg, .int ch, .int ci, .int cj, .int ck, .ref kl, .int cm, .int cn, .ref ko])), (k0, .inl (cI, 1201, .inl c0)), (k4, .inl (cI, 6, .inl c4))] sz) (va_Qi (fun (r : Int32) (u : (Nat → Int32)) => r = ptIR c0 a0 a1) (fun u t => kWd D cI (va_A [(k, .inr (11, [.ref k0, .ref k1, .ref k2, .int c3, .ref k4, .ref k5, .ref k6, .ref k7, .ref k8, .int c9, .ref ka, .ref kb, .int cc, .int cd, .int ce, .int cf, .int cg, .int ch, .int ci, .int cj, .int ck, .ref kl, .int cm, .int cn, .ref ko])), (k0, .inl (cI, 1201, .inl c0)), (k4, .inl (cI, 6, .inl c4))] sz) [(k, .inr (11, [.ref k0, .ref k1, .ref k2, .int c3, .ref k4, .ref k5, .ref k6, .ref k7, .ref k8, .int c9, .ref ka, .ref kb, .int cc, .int cd, .int ce, .int cf, .int cg, .int ch, .int ci, .int cj, .int ck, .ref kl, .int cm, .int cn, .ref ko])), (k0, .inl (cI, 1201, .inl c0)), (k4, .inl (cI, 6, .inl u))] t) (va_A [(k, .inr (11, [.ref k0, .ref k1, .ref k2, .int c3, .ref k4, .ref k5, .ref k6, .ref k7, .ref k8, .int c9, .ref ka, .ref kb, .int cc, .int cd, .int ce, .int cf, .int cg, .int ch, .int ci, .int cj, .int ck, .ref kl, .int cm, .int cn, .ref ko])), (k0, .inl (cI, 1201, .inl c0)), (k4, .inl (cI, 6, .inl c4))] sz)) 0 0 (va_A [(k, .inr (11, [.ref k0, .ref k1, .ref k2, .int c3, .ref k4, .ref k5, .ref k6, .ref k7, .ref k8, .int c9, .ref ka, .ref kb, .int cc, .int cd, .int ce, .int cf, .int cg, .int ch, .int ci, .int cj, .int ck, .ref kl, .int cm, .int cn, .ref ko])), (k0, .inl (cI, 1201, .inl c0)), (k4, .inl (cI, 6, .inl c4))] sz) := by
  refine kMetIX (own := RX11) (by decide +kernel) rfl (Nat.le_of_ble_eq_true rfl) ?_
  intro p e s m args below meth c hx hb hT hown hname hml A Q hK hP hD hS hA hN hXS hRet ls hl
  have hl : lv_has ls 3 [(0, .ref k), (1, .int a0), (2, .int a1)] := hl
  have lo_a0 := k_lo a0
  have hi_a0 := k_hi a0
  have lo_a1 := k_lo a1
  have hi_a1 := k_hi a1
  have lo_ci := k_lo ci
  have hi_ci := k_hi ci
  have pre0 : SB c0 := pre0
  have nb_1 : 0 ≤ (c0 0).toInt ∧ (c0 0).toInt ≤ 2000 := SB.n0 pre0
  have nb_2 : 0 ≤ (c0 1).toInt ∧ (c0 1).toInt ≤ 60 := SB.n1 pre0
  have nb_3 : 0 ≤ (c0 2).toInt ∧ (c0 2).toInt ≤ 4 := SB.n2 pre0
  refine lv_aload_n hx hb dX11_partyIs_0 rfl (lv_at hl 0 rfl) ?_
  refine lv_iload_n hx hb dX11_partyIs_1 rfl (lv_at hl 1 rfl) ?_
  refine kJi (wr := [(k4, .inl (cI, 6, .inl c4))]) (va_runV (As := [.int a0]) (rest := []) ⟨hx, hb, hml, hown, hT⟩ (c_X11_isPartyG l D cI aK aV k k0 k1 k2 k4 k5 k6 k7 k8 ka kb kl ko s.heap.size c3 c9 cc cd ce cf cg ch ci cj ck cm cn c0 a0 pre0) (cwV 1 hT (gV_in mw_1412 mw_1409 mw_1411 mw_p5_4 mw_12) rfl rfl rfl (by decide +kernel) ⟨Nat.le_of_ble_eq_true rfl, Nat.le_of_ble_eq_true rfl⟩) (kRecvX (q0 := 0) (ci := 11) hK hP hD hN hXS hS hA rfl rfl [0, 1] rfl (by decide +kernel)) rfl rfl hl.1 rfl (lv_room (Nat.le_of_ble_eq_true rfl)) dX11_partyIs_2 ⟨Nat.le_of_ble_eq_true rfl, Nat.le_of_ble_eq_true rfl⟩) hP hD hS hA [0, 1] [2] rfl rfl (by decide +kernel) (by decide +kernel) ?_
  clear hP hD hS
  intro r_4 u_6 H locs w_5 hP hD hS
  replace hP : va_P D vwCl [(k4, .inl (cI, 6, .inl c4)), (k, .inr (11, [.ref k0, .ref k1, .ref k2, .int c3, .ref k4, .ref k5, .ref k6, .ref k7, .ref k8, .int c9, .ref ka, .ref kb, .int cc, .int cd, .int ce, .int cf, .int cg, .int ch, .int ci, .int cj, .int ck, .ref kl, .int cm, .int cn, .ref ko])), (k0, .inl (cI, 1201, .inl c0))] H := hP
  replace hD : va_D A [(k4, .inl (cI, 6, .inl c4)), (k, .inr (11, [.ref k0, .ref k1, .ref k2, .int c3, .ref k4, .ref k5, .ref k6, .ref k7, .ref k8, .int c9, .ref ka, .ref kb, .int cc, .int cd, .int ce, .int cf, .int cg, .int ch, .int ci, .int cj, .int ck, .ref kl, .int cm, .int cn, .ref ko])), (k0, .inl (cI, 1201, .inl c0))] := hD
  rcases w_5 with ⟨hr_4, h_7, h_8⟩ | ⟨hr_4, h_9⟩
  · have h_7 : 0 ≤ a0.toInt := h_7
    have h_8 : a0.toInt < (c0 2).toInt := h_8
    obtain rfl : r_4 = 1 := hr_4.trans (by decide +kernel)
    refine b_if_eq hx hb zl_1 (tgt := 27) dX11_partyIs_5 (by decide +kernel) (fun c_10 => by exfalso; omega) (fun c_10 => ?_)
    refine lv_iload_n hx hb dX11_partyIs_8 rfl (lv_at hl 2 rfl) ?_
    refine lv_iconst (v := 0) hx hb dX11_partyIs_9 (by decide +kernel) ?_
    refine lv_bipush (v := 8) hx hb dX11_partyIs_10 (by decide +kernel) ?_
    refine kJi (wr := [(k4, .inl (cI, 6, .inl c4)), (k, .inr (11, [.ref k0, .ref k1, .ref k2, .int c3, .ref k4, .ref k5, .ref k6, .ref k7, .ref k8, .int c9, .ref ka, .ref kb, .int cc, .int cd, .int ce, .int cf, .int cg, .int ch, .int ci, .int cj, .int ck, .ref kl, .int cm, .int cn, .ref ko])), (k0, .inl (cI, 1201, .inl c0))]) (va_runS (As := [.int a1, .int 0, .int 8]) (rest := []) ⟨hx, hb, hml, hown, hT⟩ (c_X11_inG l D cI aK aV H.size a1 0 8) (cwS 3 hT (gS_in mw_1238 mw_1236 mw_1237 mw_12) rfl rfl rfl (by decide +kernel) ⟨Nat.le_of_ble_eq_true rfl, Nat.le_of_ble_eq_true rfl⟩) (kStatX hK hP hD hN hXS hS hA [] rfl (by decide +kernel)) rfl rfl hl.1 rfl (lv_room (Nat.le_of_ble_eq_true rfl)) dX11_partyIs_12 ⟨Nat.le_of_ble_eq_true rfl, Nat.le_of_ble_eq_true rfl⟩) hP hD hS hA [] [0, 1, 2] rfl rfl (by decide +kernel) (by decide +kernel) ?_
    clear hP hD hS
    intro r_11 u_13 H locs w_12 hP hD hS
    replace hP : va_P D vwCl [(k4, .inl (cI, 6, .inl c4)), (k, .inr (11, [.ref k0, .ref k1, .ref k2, .int c3, .ref k4, .ref k5, .ref k6, .ref k7, .ref k8, .int c9, .ref ka, .ref kb, .int cc, .int cd, .int ce, .int cf, .int cg, .int ch, .int ci, .int cj, .int ck, .ref kl, .int cm, .int cn, .ref ko])), (k0, .inl (cI, 1201, .inl c0))] H := hP
    replace hD : va_D A [(k4, .inl (cI, 6, .inl c4)), (k, .inr (11, [.ref k0, .ref k1, .ref k2, .int c3, .ref k4, .ref k5, .ref k6, .ref k7, .ref k8, .int c9, .ref ka, .ref kb, .int cc, .int cd, .int ce, .int cf, .int cg, .int ch, .int ci, .int cj, .int ck, .ref kl, .int cm, .int cn, .ref ko])), (k0, .inl (cI, 1201, .inl c0))] := hD
    rcases w_12 with ⟨hr_11, h_14, h_15⟩ | ⟨hr_11, h_16⟩
    · try simp only [zl_0, zl_8] at h_14
      have h_14 : 0 ≤ a1.toInt := h_14
      try simp only [zl_0, zl_8] at h_15
      have h_15 : a1.toInt ≤ 8 := h_15
      obtain rfl : r_11 = 1 := hr_11.trans (by decide +kernel)
      refine b_if_eq hx hb zl_1 (tgt := 27) dX11_partyIs_15 (by decide +kernel) (fun c_17 => by exfalso; omega) (fun c_17 => ?_)
      refine lv_aload_n hx hb dX11_partyIs_18 rfl (lv_at hl 0 rfl) ?_
      refine lv_iload_n hx hb dX11_partyIs_19 rfl (lv_at hl 1 rfl) ?_
      refine lv_iload_n hx hb dX11_partyIs_20 rfl (lv_at hl 2 rfl) ?_
      refine kJi (wr := [(k4, .inl (cI, 6, .inl c4))]) (va_runV (As := [.int a0, .int a1]) (rest := []) ⟨hx, hb, hml, hown, hT⟩ (c_X11_partyGV l D cI aK aV k k0 k1 k2 k4 k5 k6 k7 k8 ka kb kl ko H.size c3 c9 cc cd ce cf cg ch ci cj ck cm cn c0 a0 a1 (by first | omega | decide | assumption | rfl) (by first | omega | decide | assumption | rfl) (by first | omega | decide | assumption | rfl) (by first | omega | decide | assumption | rfl)) (cwV 2 hT (gV_in mw_1416 mw_1413 mw_1415 mw_p5_5 mw_12) rfl rfl rfl (by decide +kernel) ⟨Nat.le_of_ble_eq_true rfl, Nat.le_of_ble_eq_true rfl⟩) (kRecvX (q0 := 1) (ci := 11) hK hP hD hN hXS hS hA rfl rfl [1, 2] rfl (by decide +kernel)) rfl rfl hl.1 rfl (lv_room (Nat.le_of_ble_eq_true rfl)) dX11_partyIs_21 ⟨Nat.le_of_ble_eq_true rfl, Nat.le_of_ble_eq_true rfl⟩) hP hD hS hA [1, 2] [0] rfl rfl (by decide +kernel) (by decide +kernel) ?_
      clear hP hD hS
      intro r_18 u_20 H locs w_19 hP hD hS
      replace hP : va_P D vwCl [(k4, .inl (cI, 6, .inl c4)), (k, .inr (11, [.ref k0, .ref k1, .ref k2, .int c3, .ref k4, .ref k5, .ref k6, .ref k7, .ref k8, .int c9, .ref ka, .ref kb, .int cc, .int cd, .int ce, .int cf, .int cg, .int ch, .int ci, .int cj, .int ck, .ref kl, .int cm, .int cn, .ref ko])), (k0, .inl (cI, 1201, .inl c0))] H := hP
      replace hD : va_D A [(k4, .inl (cI, 6, .inl c4)), (k, .inr (11, [.ref k0, .ref k1, .ref k2, .int c3, .ref k4, .ref k5, .ref k6, .ref k7, .ref k8, .int c9, .ref ka, .ref kb, .int cc, .int cd, .int ce, .int cf, .int cg, .int ch, .int ci, .int cj, .int ck, .ref kl, .int cm, .int cn, .ref ko])), (k0, .inl (cI, 1201, .inl c0))] := hD
      have h_21 := w_19
      have h_21 : r_18 = c0 (459 + 9 * a0.toInt.toNat + a1.toInt.toNat) := h_21
      have lo_r_18 := k_lo r_18
      have hi_r_18 := k_hi r_18
      refine lv_goto (tgt := 33) hx hb dX11_partyIs_24 (by decide +kernel) ?_
      exact hRet c4 [1, 2, 0] (by (try dsimp only); unfold ptIR; (repeat (first | rw [if_pos (by omega)] | rw [if_neg (by omega)])); first | done | exact (by assumption)) hP hD (by decide +kernel) rfl hS rfl dX11_partyIs_33
    · try simp only [zl_0, zl_8] at h_16
      have h_16 : a1.toInt < 0 ∨ 8 < a1.toInt := h_16
      obtain rfl : r_11 = 0 := hr_11.trans (by decide +kernel)
      refine b_if_eq hx hb zl_0 (tgt := 27) dX11_partyIs_15 (by decide +kernel) (fun c_22 => ?_) (fun c_22 => by exfalso; omega)
      refine lv_aload_n hx hb dX11_partyIs_27 rfl (lv_at hl 0 rfl) ?_
      refine lv_ldc (v := (-1000001)) hx hb hown (hT _ mw_1239) dX11_partyIs_28 ?_
      refine kJi (wr := [(k0, .inl (cI, 1201, .inl c0))]) (va_runV (As := [.int (-1000001)]) (rest := []) ⟨hx, hb, hml, hown, hT⟩ (c_X11_findingG l D cI aK aV k k0 k1 k2 k4 k5 k6 k7 k8 ka kb kl ko H.size c3 c9 cc cd ce cf cg ch ci cj ck cm cn c4 (-1000001) (by first | omega | (simp only [zl_m1000001]; first | done | omega) | decide | assumption | rfl) (by first | omega | (simp only [zl_m1000001]; first | done | omega) | decide | assumption | rfl)) (cwV 1 hT (gV_in mw_1243 mw_1240 mw_1242 mw_p3_8 mw_12) rfl rfl rfl (by decide +kernel) ⟨Nat.le_of_ble_eq_true rfl, Nat.le_of_ble_eq_true rfl⟩) (kRecvX (q0 := 1) (ci := 11) hK hP hD hN hXS hS hA rfl rfl [1, 0] rfl (by decide +kernel)) rfl rfl hl.1 rfl (lv_room (Nat.le_of_ble_eq_true rfl)) dX11_partyIs_30 ⟨Nat.le_of_ble_eq_true rfl, Nat.le_of_ble_eq_true rfl⟩) hP hD hS hA [1, 0] [2] rfl rfl (by decide +kernel) (by decide +kernel) ?_
      clear hP hD hS
      intro r_23 sc4_25 H locs w_24 hP hD hS
      replace hP : va_P D vwCl [(k0, .inl (cI, 1201, .inl c0)), (k, .inr (11, [.ref k0, .ref k1, .ref k2, .int c3, .ref k4, .ref k5, .ref k6, .ref k7, .ref k8, .int c9, .ref ka, .ref kb, .int cc, .int cd, .int ce, .int cf, .int cg, .int ch, .int ci, .int cj, .int ck, .ref kl, .int cm, .int cn, .ref ko])), (k4, .inl (cI, 6, .inl sc4_25))] H := hP
      replace hD : va_D A [(k0, .inl (cI, 1201, .inl c0)), (k, .inr (11, [.ref k0, .ref k1, .ref k2, .int c3, .ref k4, .ref k5, .ref k6, .ref k7, .ref k8, .int c9, .ref ka, .ref kb, .int cc, .int cd, .int ce, .int cf, .int cg, .int ch, .int ci, .int cj, .int ck, .ref kl, .int cm, .int cn, .ref ko])), (k4, .inl (cI, 6, .inl sc4_25))] := hD
      have hr_23 := w_24
      obtain rfl : r_23 = (-1000001) := hr_23.trans (by decide +kernel)
      exact hRet sc4_25 [1, 0, 2] (by (try dsimp only); unfold ptIR; (repeat (first | rw [if_pos (by omega)] | rw [if_neg (by omega)]))) hP hD (by decide +kernel) rfl hS rfl dX11_partyIs_33
  · have h_9 : a0.toInt < 0 ∨ (c0 2).toInt ≤ a0.toInt := h_9
    obtain rfl : r_4 = 0 := hr_4.trans (by decide +kernel)
    refine b_if_eq hx hb zl_0 (tgt := 27) dX11_partyIs_5 (by decide +kernel) (fun c_26 => ?_) (fun c_26 => by exfalso; omega)
    refine lv_aload_n hx hb dX11_partyIs_27 rfl (lv_at hl 0 rfl) ?_
    refine lv_ldc (v := (-1000001)) hx hb hown (hT _ mw_1239) dX11_partyIs_28 ?_
    refine kJi (wr := [(k0, .inl (cI, 1201, .inl c0))]) (va_runV (As := [.int (-1000001)]) (rest := []) ⟨hx, hb, hml, hown, hT⟩ (c_X11_findingG l D cI aK aV k k0 k1 k2 k4 k5 k6 k7 k8 ka kb kl ko H.size c3 c9 cc cd ce cf cg ch ci cj ck cm cn c4 (-1000001) (by first | omega | (simp only [zl_m1000001]; first | done | omega) | decide | assumption | rfl) (by first | omega | (simp only [zl_m1000001]; first | done | omega) | decide | assumption | rfl)) (cwV 1 hT (gV_in mw_1243 mw_1240 mw_1242 mw_p3_8 mw_12) rfl rfl rfl (by decide +kernel) ⟨Nat.le_of_ble_eq_true rfl, Nat.le_of_ble_eq_true rfl⟩) (kRecvX (q0 := 1) (ci := 11) hK hP hD hN hXS hS hA rfl rfl [1, 0] rfl (by decide +kernel)) rfl rfl hl.1 rfl (lv_room (Nat.le_of_ble_eq_true rfl)) dX11_partyIs_30 ⟨Nat.le_of_ble_eq_true rfl, Nat.le_of_ble_eq_true rfl⟩) hP hD hS hA [1, 0] [2] rfl rfl (by decide +kernel) (by decide +kernel) ?_
    clear hP hD hS
    intro r_27 sc4_29 H locs w_28 hP hD hS
    replace hP : va_P D vwCl [(k0, .inl (cI, 1201, .inl c0)), (k, .inr (11, [.ref k0, .ref k1, .ref k2, .int c3, .ref k4, .ref k5, .ref k6, .ref k7, .ref k8, .int c9, .ref ka, .ref kb, .int cc, .int cd, .int ce, .int cf, .int cg, .int ch, .int ci, .int cj, .int ck, .ref kl, .int cm, .int cn, .ref ko])), (k4, .inl (cI, 6, .inl sc4_29))] H := hP
    replace hD : va_D A [(k0, .inl (cI, 1201, .inl c0)), (k, .inr (11, [.ref k0, .ref k1, .ref k2, .int c3, .ref k4, .ref k5, .ref k6, .ref k7, .ref k8, .int c9, .ref ka, .ref kb, .int cc, .int cd, .int ce, .int cf, .int cg, .int ch, .int ci, .int cj, .int ck, .ref kl, .int cm, .int cn, .ref ko])), (k4, .inl (cI, 6, .inl sc4_29))] := hD
    have hr_27 := w_28
    obtain rfl : r_27 = (-1000001) := hr_27.trans (by decide +kernel)
    exact hRet sc4_29 [1, 0, 2] (by (try dsimp only); unfold ptIR; (repeat (first | rw [if_pos (by omega)] | rw [if_neg (by omega)]))) hP hD (by decide +kernel) rfl hS rfl dX11_partyIs_33
theorem bn_cX11_give_0 : BN cX11_give 0 0x3e8056e050b070567700adcc21e3e8056e050b07056050b07056ad208056e4c098ac16015284050120380550640882402a103074c21e3e8056e050b07056051b8200a015401c220900a840a1d07805500904005361d5690402b72f84c560b00a6900015b87056ad208056e40098ac16014d8c002b9080a0240700aa0c8110480542060e8143c1900a6860015c818081d11005347a00adc382b := by
  unfold BN; decide +kernel
theorem dX11_give_0 : decode cX11_give 0 = .ok (.aload_n 0, 1) := dR0 (k := 0) (i := 0) bn_cX11_give_0 dop_42 (by decide +kernel)
theorem dX11_give_1 : decode cX11_give 1 = .ok (.iload_n 1, 1) := dR0 (k := 0) (i := 1) bn_cX11_give_0 dop_27 (by decide +kernel)
theorem dX11_give_2 : decode cX11_give 2 = .ok (.invokevirtual 121, 3) := dR2 (f := Instr.invokevirtual) (k := 0) (i := 2) bn_cX11_give_0 dop_182 121 (by decide +kernel)
theorem dX11_give_5 : decode cX11_give 5 = .ok (.ifCond .eq 33, 3) := dR2s (f := Instr.ifCond .eq) (k := 0) (i := 5) bn_cX11_give_0 dop_153 33 33 (by decide +kernel)
theorem dX11_give_8 : decode cX11_give 8 = .ok (.iload_n 2, 1) := dR0 (k := 0) (i := 8) bn_cX11_give_0 dop_28 (by decide +kernel)
theorem dX11_give_9 : decode cX11_give 9 = .ok (.iconst 0, 1) := dR0 (k := 0) (i := 9) bn_cX11_give_0 dop_3 (by decide +kernel)
theorem dX11_give_10 : decode cX11_give 10 = .ok (.iconst 2, 1) := dR0 (k := 0) (i := 10) bn_cX11_give_0 dop_5 (by decide +kernel)
theorem dX11_give_11 : decode cX11_give 11 = .ok (.invokestatic 47, 3) := dR2 (f := Instr.invokestatic) (k := 0) (i := 11) bn_cX11_give_0 dop_184 47 (by decide +kernel)
theorem dX11_give_14 : decode cX11_give 14 = .ok (.ifCond .eq 24, 3) := dR2s (f := Instr.ifCond .eq) (k := 0) (i := 14) bn_cX11_give_0 dop_153 24 24 (by decide +kernel)
theorem dX11_give_17 : decode cX11_give 17 = .ok (.iload_n 3, 1) := dR0 (k := 0) (i := 17) bn_cX11_give_0 dop_29 (by decide +kernel)
theorem dX11_give_18 : decode cX11_give 18 = .ok (.iconst 1, 1) := dR0 (k := 0) (i := 18) bn_cX11_give_0 dop_4 (by decide +kernel)
theorem dX11_give_19 : decode cX11_give 19 = .ok (.iload_n 2, 1) := dR0 (k := 0) (i := 19) bn_cX11_give_0 dop_28 (by decide +kernel)
theorem dX11_give_20 : decode cX11_give 20 = .ok (.iconst 2, 1) := dR0 (k := 0) (i := 20) bn_cX11_give_0 dop_5 (by decide +kernel)
theorem dX11_give_21 : decode cX11_give 21 = .ok (.if_icmp .ne 8, 3) := dR2s (f := Instr.if_icmp .ne) (k := 0) (i := 21) bn_cX11_give_0 dop_160 8 8 (by decide +kernel)
theorem dX11_give_24 : decode cX11_give 24 = .ok (.bipush 99, 2) := dR1s (f := Instr.bipush) (k := 0) (i := 24) bn_cX11_give_0 dop_16 99 99 (by decide +kernel)
theorem dX11_give_26 : decode cX11_give 26 = .ok (.goto 6, 3) := dR2s (f := Instr.goto) (k := 0) (i := 26) bn_cX11_give_0 dop_167 6 6 (by decide +kernel)
theorem dX11_give_29 : decode cX11_give 29 = .ok (.sipush 9999, 3) := dR2s (f := Instr.sipush) (k := 0) (i := 29) bn_cX11_give_0 dop_17 9999 9999 (by decide +kernel)
theorem dX11_give_32 : decode cX11_give 32 = .ok (.invokestatic 47, 3) := dR2 (f := Instr.invokestatic) (k := 0) (i := 32) bn_cX11_give_0 dop_184 47 (by decide +kernel)
theorem dX11_give_35 : decode cX11_give 35 = .ok (.ifCond .ne 10, 3) := dR2s (f := Instr.ifCond .ne) (k := 0) (i := 35) bn_cX11_give_0 dop_154 10 10 (by decide +kernel)
theorem dX11_give_38 : decode cX11_give 38 = .ok (.aload_n 0, 1) := dR0 (k := 0) (i := 38) bn_cX11_give_0 dop_42 (by decide +kernel)
theorem dX11_give_39 : decode cX11_give 39 = .ok (.ldc 63, 2) := dR1 (f := Instr.ldc) (k := 0) (i := 39) bn_cX11_give_0 dop_18 63 (by decide +kernel)
theorem dX11_give_41 : decode cX11_give 41 = .ok (.invokevirtual 64, 3) := dR2 (f := Instr.invokevirtual) (k := 0) (i := 41) bn_cX11_give_0 dop_182 64 (by decide +kernel)
theorem dX11_give_44 : decode cX11_give 44 = .ok (.ireturn, 1) := dR0 (k := 0) (i := 44) bn_cX11_give_0 dop_172 (by decide +kernel)
theorem dX11_give_45 : decode cX11_give 45 = .ok (.aload_n 0, 1) := dR0 (k := 0) (i := 45) bn_cX11_give_0 dop_42 (by decide +kernel)
theorem dX11_give_46 : decode cX11_give 46 = .ok (.iload_n 1, 1) := dR0 (k := 0) (i := 46) bn_cX11_give_0 dop_27 (by decide +kernel)
theorem dX11_give_47 : decode cX11_give 47 = .ok (.invokevirtual 127, 3) := dR2 (f := Instr.invokevirtual) (k := 0) (i := 47) bn_cX11_give_0 dop_182 127 (by decide +kernel)
theorem dX11_give_50 : decode cX11_give 50 = .ok (.ifCond .eq 10, 3) := dR2s (f := Instr.ifCond .eq) (k := 0) (i := 50) bn_cX11_give_0 dop_153 10 10 (by decide +kernel)
theorem dX11_give_53 : decode cX11_give 53 = .ok (.aload_n 0, 1) := dR0 (k := 0) (i := 53) bn_cX11_give_0 dop_42 (by decide +kernel)
theorem dX11_give_54 : decode cX11_give 54 = .ok (.ldc 94, 2) := dR1 (f := Instr.ldc) (k := 0) (i := 54) bn_cX11_give_0 dop_18 94 (by decide +kernel)
theorem dX11_give_56 : decode cX11_give 56 = .ok (.invokevirtual 64, 3) := dR2 (f := Instr.invokevirtual) (k := 0) (i := 56) bn_cX11_give_0 dop_182 64 (by decide +kernel)
theorem dX11_give_59 : decode cX11_give 59 = .ok (.ireturn, 1) := dR0 (k := 0) (i := 59) bn_cX11_give_0 dop_172 (by decide +kernel)
theorem dX11_give_60 : decode cX11_give 60 = .ok (.iload_n 2, 1) := dR0 (k := 0) (i := 60) bn_cX11_give_0 dop_28 (by decide +kernel)
theorem dX11_give_61 : decode cX11_give 61 = .ok (.ifCond .ne 7, 3) := dR2s (f := Instr.ifCond .ne) (k := 0) (i := 61) bn_cX11_give_0 dop_154 7 7 (by decide +kernel)
theorem dX11_give_64 : decode cX11_give 64 = .ok (.iconst 5, 1) := dR0 (k := 0) (i := 64) bn_cX11_give_0 dop_8 (by decide +kernel)
theorem dX11_give_65 : decode cX11_give 65 = .ok (.goto 14, 3) := dR2s (f := Instr.goto) (k := 0) (i := 65) bn_cX11_give_0 dop_167 14 14 (by decide +kernel)
theorem dX11_give_68 : decode cX11_give 68 = .ok (.iload_n 2, 1) := dR0 (k := 0) (i := 68) bn_cX11_give_0 dop_28 (by decide +kernel)
theorem dX11_give_69 : decode cX11_give 69 = .ok (.iconst 1, 1) := dR0 (k := 0) (i := 69) bn_cX11_give_0 dop_4 (by decide +kernel)
theorem dX11_give_70 : decode cX11_give 70 = .ok (.if_icmp .ne 8, 3) := dR2s (f := Instr.if_icmp .ne) (k := 0) (i := 70) bn_cX11_give_0 dop_160 8 8 (by decide +kernel)
theorem dX11_give_73 : decode cX11_give 73 = .ok (.bipush 6, 2) := dR1s (f := Instr.bipush) (k := 0) (i := 73) bn_cX11_give_0 dop_16 6 6 (by decide +kernel)
theorem dX11_give_75 : decode cX11_give 75 = .ok (.goto 4, 3) := dR2s (f := Instr.goto) (k := 0) (i := 75) bn_cX11_give_0 dop_167 4 4 (by decide +kernel)
theorem dX11_give_78 : decode cX11_give 78 = .ok (.iconst 4, 1) := dR0 (k := 0) (i := 78) bn_cX11_give_0 dop_7 (by decide +kernel)
theorem dX11_give_79 : decode cX11_give 79 = .ok (.istore 4, 2) := dR1 (f := Instr.istore) (k := 0) (i := 79) bn_cX11_give_0 dop_54 4 (by decide +kernel)
theorem dX11_give_81 : decode cX11_give 81 = .ok (.aload_n 0, 1) := dR0 (k := 0) (i := 81) bn_cX11_give_0 dop_42 (by decide +kernel)
theorem dX11_give_82 : decode cX11_give 82 = .ok (.iload_n 1, 1) := dR0 (k := 0) (i := 82) bn_cX11_give_0 dop_27 (by decide +kernel)
theorem dX11_give_83 : decode cX11_give 83 = .ok (.iload 4, 2) := dR1 (f := Instr.iload) (k := 0) (i := 83) bn_cX11_give_0 dop_21 4 (by decide +kernel)
theorem dX11_give_85 : decode cX11_give 85 = .ok (.invokevirtual 124, 3) := dR2 (f := Instr.invokevirtual) (k := 0) (i := 85) bn_cX11_give_0 dop_182 124 (by decide +kernel)
theorem dX11_give_88 : decode cX11_give 88 = .ok (.iload_n 3, 1) := dR0 (k := 0) (i := 88) bn_cX11_give_0 dop_29 (by decide +kernel)
theorem dX11_give_89 : decode cX11_give 89 = .ok (.iadd, 1) := dR0 (k := 0) (i := 89) bn_cX11_give_0 dop_96 (by decide +kernel)
theorem dX11_give_90 : decode cX11_give 90 = .ok (.iload_n 2, 1) := dR0 (k := 0) (i := 90) bn_cX11_give_0 dop_28 (by decide +kernel)
theorem dX11_give_91 : decode cX11_give 91 = .ok (.iconst 2, 1) := dR0 (k := 0) (i := 91) bn_cX11_give_0 dop_5 (by decide +kernel)
theorem dX11_give_92 : decode cX11_give 92 = .ok (.if_icmp .ne 8, 3) := dR2s (f := Instr.if_icmp .ne) (k := 0) (i := 92) bn_cX11_give_0 dop_160 8 8 (by decide +kernel)
theorem dX11_give_95 : decode cX11_give 95 = .ok (.bipush 99, 2) := dR1s (f := Instr.bipush) (k := 0) (i := 95) bn_cX11_give_0 dop_16 99 99 (by decide +kernel)
theorem dX11_give_97 : decode cX11_give 97 = .ok (.goto 6, 3) := dR2s (f := Instr.goto) (k := 0) (i := 97) bn_cX11_give_0 dop_167 6 6 (by decide +kernel)
theorem dX11_give_100 : decode cX11_give 100 = .ok (.sipush 9999, 3) := dR2s (f := Instr.sipush) (k := 0) (i := 100) bn_cX11_give_0 dop_17 9999 9999 (by decide +kernel)
theorem dX11_give_103 : decode cX11_give 103 = .ok (.if_icmp .le 10, 3) := dR2s (f := Instr.if_icmp .le) (k := 0) (i := 103) bn_cX11_give_0 dop_164 10 10 (by decide +kernel)
theorem dX11_give_106 : decode cX11_give 106 = .ok (.aload_n 0, 1) := dR0 (k := 0) (i := 106) bn_cX11_give_0 dop_42 (by decide +kernel)
theorem dX11_give_107 : decode cX11_give 107 = .ok (.ldc 75, 2) := dR1 (f := Instr.ldc) (k := 0) (i := 107) bn_cX11_give_0 dop_18 75 (by decide +kernel)
theorem dX11_give_109 : decode cX11_give 109 = .ok (.invokevirtual 64, 3) := dR2 (f := Instr.invokevirtual) (k := 0) (i := 109) bn_cX11_give_0 dop_182 64 (by decide +kernel)
theorem dX11_give_112 : decode cX11_give 112 = .ok (.ireturn, 1) := dR0 (k := 0) (i := 112) bn_cX11_give_0 dop_172 (by decide +kernel)
theorem dX11_give_113 : decode cX11_give 113 = .ok (.aload_n 0, 1) := dR0 (k := 0) (i := 113) bn_cX11_give_0 dop_42 (by decide +kernel)
theorem dX11_give_114 : decode cX11_give 114 = .ok (.iload_n 1, 1) := dR0 (k := 0) (i := 114) bn_cX11_give_0 dop_27 (by decide +kernel)
theorem dX11_give_115 : decode cX11_give 115 = .ok (.iload 4, 2) := dR1 (f := Instr.iload) (k := 0) (i := 115) bn_cX11_give_0 dop_21 4 (by decide +kernel)
theorem dX11_give_117 : decode cX11_give 117 = .ok (.aload_n 0, 1) := dR0 (k := 0) (i := 117) bn_cX11_give_0 dop_42 (by decide +kernel)
theorem dX11_give_118 : decode cX11_give 118 = .ok (.iload_n 1, 1) := dR0 (k := 0) (i := 118) bn_cX11_give_0 dop_27 (by decide +kernel)
theorem dX11_give_119 : decode cX11_give 119 = .ok (.iload 4, 2) := dR1 (f := Instr.iload) (k := 0) (i := 119) bn_cX11_give_0 dop_21 4 (by decide +kernel)
theorem dX11_give_121 : decode cX11_give 121 = .ok (.invokevirtual 124, 3) := dR2 (f := Instr.invokevirtual) (k := 0) (i := 121) bn_cX11_give_0 dop_182 124 (by decide +kernel)
theorem dX11_give_124 : decode cX11_give 124 = .ok (.iload_n 3, 1) := dR0 (k := 0) (i := 124) bn_cX11_give_0 dop_29 (by decide +kernel)
theorem dX11_give_125 : decode cX11_give 125 = .ok (.iadd, 1) := dR0 (k := 0) (i := 125) bn_cX11_give_0 dop_96 (by decide +kernel)
theorem dX11_give_126 : decode cX11_give 126 = .ok (.invokevirtual 118, 3) := dR2 (f := Instr.invokevirtual) (k := 0) (i := 126) bn_cX11_give_0 dop_182 118 (by decide +kernel)
theorem bn_cX11_give_128 : BN cX11_give 128 0xad3e8056e050b0705677 := by
  unfold BN; decide +kernel
theorem dX11_give_129 : decode cX11_give 129 = .ok (.aload_n 0, 1) := dR0 (k := 128) (i := 1) bn_cX11_give_128 dop_42 (by decide +kernel)
theorem dX11_give_130 : decode cX11_give 130 = .ok (.iload_n 1, 1) := dR0 (k := 128) (i := 2) bn_cX11_give_128 dop_27 (by decide +kernel)
theorem dX11_give_131 : decode cX11_give 131 = .ok (.iload 4, 2) := dR1 (f := Instr.iload) (k := 128) (i := 3) bn_cX11_give_128 dop_21 4 (by decide +kernel)
theorem dX11_give_133 : decode cX11_give 133 = .ok (.invokevirtual 124, 3) := dR2 (f := Instr.invokevirtual) (k := 128) (i := 5) bn_cX11_give_128 dop_182 124 (by decide +kernel)
theorem dX11_give_136 : decode cX11_give 136 = .ok (.ireturn, 1) := dR0 (k := 128) (i := 8) bn_cX11_give_128 dop_172 (by decide +kernel)
set_option maxHeartbeats 4000000 in
set_option maxRecDepth 100000 in
theorem c_X11_giveG (l : Launch) (D : va_G) (cI : ClassId) (aK aV : Nat → Nat) (k k0 k1 k2 k4 k5 k6 k7 k8 ka kb kl ko : Nat) (sz : Nat) (c3 : Int32) (c9 : Int32) (cc : Int32) (cd : Int32) (ce : Int32) (cf : Int32) (cg : Int32) (ch : Int32) (ci : Int32) (cj : Int32) (ck : Int32) (cm : Int32) (cn : Int32) (c0 : Nat → Int32) (c4 : Nat → Int32) (a0 : Int32) (a1 : Int32) (a2 : Int32) (pre0 : SIX c0 (-1)) : Met l yX11_give (gW yX11_give cX11_give 5 (some .int)) ({ frames := 2, cells := 0, slots := 0, locals := 43 } : Room) (kPreX D cI aK aV [.ref k, .int a0, .int a1, .int a2] [(k, .inr (11, [.ref k0, .ref k1, .ref k2, .int c3, .ref k4, .ref k5, .ref k6, .ref k7, .ref k8, .int c9, .ref ka, .ref kb, .int cc, .int cd, .int ce, .int cf, .int cg, .int ch, .int ci, .int cj, .int ck, .ref kl, .int cm, .int cn, .ref ko])), (k0, .inl (cI, 1201, .inl c0)), (k4, .inl (cI, 6, .inl c4))] sz) (va_Qi (fun (r : Int32) (u : (Nat → Int32) × (Nat → Int32)) => SIX u.1 (-1) ∧ r = giveR c0 a0 a1 a2 ∧ u.1 = giveS c0 a0 a1 a2) (fun u t => kWd D cI (va_A [(k, .inr (11, [.ref k0, .ref k1, .ref k2, .int c3, .ref k4, .ref k5, .ref k6, .ref k7, .ref k8, .int c9, .ref ka, .ref kb, .int cc, .int cd, .int ce, .int cf, .int cg, .int ch, .int ci, .int cj, .int ck, .ref kl, .int cm, .int cn, .ref ko])), (k0, .inl (cI, 1201, .inl c0)), (k4, .inl (cI, 6, .inl c4))] sz) [(k, .inr (11, [.ref k0, .ref k1, .ref k2, .int c3, .ref k4, .ref k5, .ref k6, .ref k7, .ref k8, .int c9, .ref ka, .ref kb, .int cc, .int cd, .int ce, .int cf, .int cg, .int ch, .int ci, .int cj, .int ck, .ref kl, .int cm, .int cn, .ref ko])), (k0, .inl (cI, 1201, .inl u.1)), (k4, .inl (cI, 6, .inl u.2))] t) (va_A [(k, .inr (11, [.ref k0, .ref k1, .ref k2, .int c3, .ref k4, .ref k5, .ref k6, .ref k7, .ref k8, .int c9, .ref ka, .ref kb, .int cc, .int cd, .int ce, .int cf, .int cg, .int ch, .int ci, .int cj, .int ck, .ref kl, .int cm, .int cn, .ref ko])), (k0, .inl (cI, 1201, .inl c0)), (k4, .inl (cI, 6, .inl c4))] sz)) 0 0 (va_A [(k, .inr (11, [.ref k0, .ref k1, .ref k2, .int c3, .ref k4, .ref k5, .ref k6, .ref k7, .ref k8, .int c9, .ref ka, .ref kb, .int cc, .int cd, .int ce, .int cf, .int cg, .int ch, .int ci, .int cj, .int ck, .ref kl, .int cm, .int cn, .ref ko])), (k0, .inl (cI, 1201, .inl c0)), (k4, .inl (cI, 6, .inl c4))] sz) := by
  refine kMetIX (own := RX11) (by decide +kernel) rfl (Nat.le_of_ble_eq_true rfl) ?_
  intro p e s m args below meth c hx hb hT hown hname hml A Q hK hP hD hS hA hN hXS hRet ls hl
  have hl : lv_has ls 5 [(0, .ref k), (1, .int a0), (2, .int a1), (3, .int a2)] := hl
  have lo_a0 := k_lo a0
  have hi_a0 := k_hi a0
  have lo_a1 := k_lo a1
  have hi_a1 := k_hi a1
  have lo_a2 := k_lo a2
  have hi_a2 := k_hi a2
  have lo_ci := k_lo ci
  have hi_ci := k_hi ci
  have pre0 : SIX c0 (-1) := pre0
  have nb_1 : 0 ≤ (c0 0).toInt ∧ (c0 0).toInt ≤ 2000 := SB.n0 (And.left pre0)
  have nb_2 : 0 ≤ (c0 1).toInt ∧ (c0 1).toInt ≤ 60 := SB.n1 (And.left pre0)
  have nb_3 : 0 ≤ (c0 2).toInt ∧ (c0 2).toInt ≤ 4 := SB.n2 (And.left pre0)
  refine lv_aload_n hx hb dX11_give_0 rfl (lv_at hl 0 rfl) ?_
  refine lv_iload_n hx hb dX11_give_1 rfl (lv_at hl 1 rfl) ?_
  refine kJi (wr := [(k4, .inl (cI, 6, .inl c4))]) (va_runV (As := [.int a0]) (rest := []) ⟨hx, hb, hml, hown, hT⟩ (c_X11_isPartyG l D cI aK aV k k0 k1 k2 k4 k5 k6 k7 k8 ka kb kl ko s.heap.size c3 c9 cc cd ce cf cg ch ci cj ck cm cn c0 a0 (And.left pre0)) (cwV 1 hT (gV_in mw_1412 mw_1409 mw_1411 mw_p5_4 mw_12) rfl rfl rfl (by decide +kernel) ⟨Nat.le_of_ble_eq_true rfl, Nat.le_of_ble_eq_true rfl⟩) (kRecvX (q0 := 0) (ci := 11) hK hP hD hN hXS hS hA rfl rfl [0, 1] rfl (by decide +kernel)) rfl rfl hl.1 rfl (lv_room (Nat.le_of_ble_eq_true rfl)) dX11_give_2 ⟨Nat.le_of_ble_eq_true rfl, Nat.le_of_ble_eq_true rfl⟩) hP hD hS hA [0, 1] [2] rfl rfl (by decide +kernel) (by decide +kernel) ?_
  clear hP hD hS
  intro r_4 u_6 H locs w_5 hP hD hS
  replace hP : va_P D vwCl [(k4, .inl (cI, 6, .inl c4)), (k, .inr (11, [.ref k0, .ref k1, .ref k2, .int c3, .ref k4, .ref k5, .ref k6, .ref k7, .ref k8, .int c9, .ref ka, .ref kb, .int cc, .int cd, .int ce, .int cf, .int cg, .int ch, .int ci, .int cj, .int ck, .ref kl, .int cm, .int cn, .ref ko])), (k0, .inl (cI, 1201, .inl c0))] H := hP
  replace hD : va_D A [(k4, .inl (cI, 6, .inl c4)), (k, .inr (11, [.ref k0, .ref k1, .ref k2, .int c3, .ref k4, .ref k5, .ref k6, .ref k7, .ref k8, .int c9, .ref ka, .ref kb, .int cc, .int cd, .int ce, .int cf, .int cg, .int ch, .int ci, .int cj, .int ck, .ref kl, .int cm, .int cn, .ref ko])), (k0, .inl (cI, 1201, .inl c0))] := hD
  rcases w_5 with ⟨hr_4, h_7, h_8⟩ | ⟨hr_4, h_9⟩
  · have h_7 : 0 ≤ a0.toInt := h_7
    have h_8 : a0.toInt < (c0 2).toInt := h_8
    obtain rfl : r_4 = 1 := hr_4.trans (by decide +kernel)
    refine b_if_eq hx hb zl_1 (tgt := 38) dX11_give_5 (by decide +kernel) (fun c_10 => by exfalso; omega) (fun c_10 => ?_)
    refine lv_iload_n hx hb dX11_give_8 rfl (lv_at hl 2 rfl) ?_
    refine lv_iconst (v := 0) hx hb dX11_give_9 (by decide +kernel) ?_
    refine lv_iconst (v := 2) hx hb dX11_give_10 (by decide +kernel) ?_
    refine kJi (wr := [(k4, .inl (cI, 6, .inl c4)), (k, .inr (11, [.ref k0, .ref k1, .ref k2, .int c3, .ref k4, .ref k5, .ref k6, .ref k7, .ref k8, .int c9, .ref ka, .ref kb, .int cc, .int cd, .int ce, .int cf, .int cg, .int ch, .int ci, .int cj, .int ck, .ref kl, .int cm, .int cn, .ref ko])), (k0, .inl (cI, 1201, .inl c0))]) (va_runS (As := [.int a1, .int 0, .int 2]) (rest := []) ⟨hx, hb, hml, hown, hT⟩ (c_X11_inG l D cI aK aV H.size a1 0 2) (cwS 3 hT (gS_in mw_1238 mw_1236 mw_1237 mw_12) rfl rfl rfl (by decide +kernel) ⟨Nat.le_of_ble_eq_true rfl, Nat.le_of_ble_eq_true rfl⟩) (kStatX hK hP hD hN hXS hS hA [] rfl (by decide +kernel)) rfl rfl hl.1 rfl (lv_room (Nat.le_of_ble_eq_true rfl)) dX11_give_11 ⟨Nat.le_of_ble_eq_true rfl, Nat.le_of_ble_eq_true rfl⟩) hP hD hS hA [] [0, 1, 2] rfl rfl (by decide +kernel) (by decide +kernel) ?_
    clear hP hD hS
    intro r_11 u_13 H locs w_12 hP hD hS
    replace hP : va_P D vwCl [(k4, .inl (cI, 6, .inl c4)), (k, .inr (11, [.ref k0, .ref k1, .ref k2, .int c3, .ref k4, .ref k5, .ref k6, .ref k7, .ref k8, .int c9, .ref ka, .ref kb, .int cc, .int cd, .int ce, .int cf, .int cg, .int ch, .int ci, .int cj, .int ck, .ref kl, .int cm, .int cn, .ref ko])), (k0, .inl (cI, 1201, .inl c0))] H := hP
    replace hD : va_D A [(k4, .inl (cI, 6, .inl c4)), (k, .inr (11, [.ref k0, .ref k1, .ref k2, .int c3, .ref k4, .ref k5, .ref k6, .ref k7, .ref k8, .int c9, .ref ka, .ref kb, .int cc, .int cd, .int ce, .int cf, .int cg, .int ch, .int ci, .int cj, .int ck, .ref kl, .int cm, .int cn, .ref ko])), (k0, .inl (cI, 1201, .inl c0))] := hD
    rcases w_12 with ⟨hr_11, h_14, h_15⟩ | ⟨hr_11, h_16⟩
    · try simp only [zl_0, zl_2] at h_14
      have h_14 : 0 ≤ a1.toInt := h_14
      try simp only [zl_0, zl_2] at h_15
      have h_15 : a1.toInt ≤ 2 := h_15
      obtain rfl : r_11 = 1 := hr_11.trans (by decide +kernel)
      refine b_if_eq hx hb zl_1 (tgt := 38) dX11_give_14 (by decide +kernel) (fun c_17 => by exfalso; omega) (fun c_17 => ?_)
      refine lv_iload_n hx hb dX11_give_17 rfl (lv_at hl 3 rfl) ?_
      refine lv_iconst (v := 1) hx hb dX11_give_18 (by decide +kernel) ?_
      refine lv_iload_n hx hb dX11_give_19 rfl (lv_at hl 2 rfl) ?_
      refine lv_iconst (v := 2) hx hb dX11_give_20 (by decide +kernel) ?_
      refine b_icmp_ne hx hb rfl zl_2 (tgt := 29) dX11_give_21 (by decide +kernel) (fun c_18 => ?_) (fun c_18 => ?_)
      · refine lv_sipush (v := 9999) hx hb dX11_give_29 (by decide +kernel) ?_
        refine kJi (wr := [(k4, .inl (cI, 6, .inl c4)), (k, .inr (11, [.ref k0, .ref k1, .ref k2, .int c3, .ref k4, .ref k5, .ref k6, .ref k7, .ref k8, .int c9, .ref ka, .ref kb, .int cc, .int cd, .int ce, .int cf, .int cg, .int ch, .int ci, .int cj, .int ck, .ref kl, .int cm, .int cn, .ref ko])), (k0, .inl (cI, 1201, .inl c0))]) (va_runS (As := [.int a2, .int 1, .int 9999]) (rest := []) ⟨hx, hb, hml, hown, hT⟩ (c_X11_inG l D cI aK aV H.size a2 1 9999) (cwS 3 hT (gS_in mw_1238 mw_1236 mw_1237 mw_12) rfl rfl rfl (by decide +kernel) ⟨Nat.le_of_ble_eq_true rfl, Nat.le_of_ble_eq_true rfl⟩) (kStatX hK hP hD hN hXS hS hA [] rfl (by decide +kernel)) rfl rfl hl.1 rfl (lv_room (Nat.le_of_ble_eq_true rfl)) dX11_give_32 ⟨Nat.le_of_ble_eq_true rfl, Nat.le_of_ble_eq_true rfl⟩) hP hD hS hA [] [0, 1, 2] rfl rfl (by decide +kernel) (by decide +kernel) ?_
        clear hP hD hS
        intro r_19 u_21 H locs w_20 hP hD hS
        replace hP : va_P D vwCl [(k4, .inl (cI, 6, .inl c4)), (k, .inr (11, [.ref k0, .ref k1, .ref k2, .int c3, .ref k4, .ref k5, .ref k6, .ref k7, .ref k8, .int c9, .ref ka, .ref kb, .int cc, .int cd, .int ce, .int cf, .int cg, .int ch, .int ci, .int cj, .int ck, .ref kl, .int cm, .int cn, .ref ko])), (k0, .inl (cI, 1201, .inl c0))] H := hP
        replace hD : va_D A [(k4, .inl (cI, 6, .inl c4)), (k, .inr (11, [.ref k0, .ref k1, .ref k2, .int c3, .ref k4, .ref k5, .ref k6, .ref k7, .ref k8, .int c9, .ref ka, .ref kb, .int cc, .int cd, .int ce, .int cf, .int cg, .int ch, .int ci, .int cj, .int ck, .ref kl, .int cm, .int cn, .ref ko])), (k0, .inl (cI, 1201, .inl c0))] := hD
        rcases w_20 with ⟨hr_19, h_22, h_23⟩ | ⟨hr_19, h_24⟩
        · try simp only [zl_1, zl_9999] at h_22
          have h_22 : 1 ≤ a2.toInt := h_22
          try simp only [zl_1, zl_9999] at h_23
          have h_23 : a2.toInt ≤ 9999 := h_23
          obtain rfl : r_19 = 1 := hr_19.trans (by decide +kernel)
          refine b_if_ne hx hb zl_1 (tgt := 45) dX11_give_35 (by decide +kernel) (fun c_25 => ?_) (fun c_25 => by exfalso; omega)
          refine lv_aload_n hx hb dX11_give_45 rfl (lv_at hl 0 rfl) ?_
          refine lv_iload_n hx hb dX11_give_46 rfl (lv_at hl 1 rfl) ?_
          refine kJi (wr := [(k4, .inl (cI, 6, .inl c4))]) (va_runV (As := [.int a0]) (rest := []) ⟨hx, hb, hml, hown, hT⟩ (c_X11_isLostG l D cI aK aV k k0 k1 k2 k4 k5 k6 k7 k8 ka kb kl ko H.size c3 c9 cc cd ce cf cg ch ci cj ck cm cn c0 a0 pre0 (by first | omega | decide | assumption | rfl) (by first | omega | decide | assumption | rfl) (by first | omega | decide | assumption | rfl)) (cwV 1 hT (gV_in mw_1424 mw_1421 mw_1423 mw_p5_6 mw_12) rfl rfl rfl (by decide +kernel) ⟨Nat.le_of_ble_eq_true rfl, Nat.le_of_ble_eq_true rfl⟩) (kRecvX (q0 := 1) (ci := 11) hK hP hD hN hXS hS hA rfl rfl [1, 2] rfl (by decide +kernel)) rfl rfl hl.1 rfl (lv_room (Nat.le_of_ble_eq_true rfl)) dX11_give_47 ⟨Nat.le_of_ble_eq_true rfl, Nat.le_of_ble_eq_true rfl⟩) hP hD hS hA [1, 2] [0] rfl rfl (by decide +kernel) (by decide +kernel) ?_
          clear hP hD hS
          intro r_26 u_28 H locs w_27 hP hD hS
          replace hP : va_P D vwCl [(k4, .inl (cI, 6, .inl c4)), (k, .inr (11, [.ref k0, .ref k1, .ref k2, .int c3, .ref k4, .ref k5, .ref k6, .ref k7, .ref k8, .int c9, .ref ka, .ref kb, .int cc, .int cd, .int ce, .int cf, .int cg, .int ch, .int ci, .int cj, .int ck, .ref kl, .int cm, .int cn, .ref ko])), (k0, .inl (cI, 1201, .inl c0))] H := hP
          replace hD : va_D A [(k4, .inl (cI, 6, .inl c4)), (k, .inr (11, [.ref k0, .ref k1, .ref k2, .int c3, .ref k4, .ref k5, .ref k6, .ref k7, .ref k8, .int c9, .ref ka, .ref kb, .int cc, .int cd, .int ce, .int cf, .int cg, .int ch, .int ci, .int cj, .int ck, .ref kl, .int cm, .int cn, .ref ko])), (k0, .inl (cI, 1201, .inl c0))] := hD
          rcases w_27 with ⟨hr_26, h_29⟩ | ⟨hr_26, h_30, h_31⟩
          · have h_29 : (pW c0 a0 8).toInt = 2 := h_29
            obtain rfl : r_26 = 1 := hr_26.trans (by decide +kernel)
            refine b_if_eq hx hb zl_1 (tgt := 60) dX11_give_50 (by decide +kernel) (fun c_32 => by exfalso; omega) (fun c_32 => ?_)
            refine lv_aload_n hx hb dX11_give_53 rfl (lv_at hl 0 rfl) ?_
            refine lv_ldc (v := (-1000003)) hx hb hown (hT _ mw_1356) dX11_give_54 ?_
            refine kJi (wr := [(k0, .inl (cI, 1201, .inl c0))]) (va_runV (As := [.int (-1000003)]) (rest := []) ⟨hx, hb, hml, hown, hT⟩ (c_X11_findingG l D cI aK aV k k0 k1 k2 k4 k5 k6 k7 k8 ka kb kl ko H.size c3 c9 cc cd ce cf cg ch ci cj ck cm cn c4 (-1000003) (by first | omega | (simp only [zl_m1000003]; first | done | omega) | decide | assumption | rfl) (by first | omega | (simp only [zl_m1000003]; first | done | omega) | decide | assumption | rfl)) (cwV 1 hT (gV_in mw_1243 mw_1240 mw_1242 mw_p3_8 mw_12) rfl rfl rfl (by decide +kernel) ⟨Nat.le_of_ble_eq_true rfl, Nat.le_of_ble_eq_true rfl⟩) (kRecvX (q0 := 1) (ci := 11) hK hP hD hN hXS hS hA rfl rfl [1, 0] rfl (by decide +kernel)) rfl rfl hl.1 rfl (lv_room (Nat.le_of_ble_eq_true rfl)) dX11_give_56 ⟨Nat.le_of_ble_eq_true rfl, Nat.le_of_ble_eq_true rfl⟩) hP hD hS hA [1, 0] [2] rfl rfl (by decide +kernel) (by decide +kernel) ?_
            clear hP hD hS
            intro r_33 sc4_35 H locs w_34 hP hD hS
            replace hP : va_P D vwCl [(k0, .inl (cI, 1201, .inl c0)), (k, .inr (11, [.ref k0, .ref k1, .ref k2, .int c3, .ref k4, .ref k5, .ref k6, .ref k7, .ref k8, .int c9, .ref ka, .ref kb, .int cc, .int cd, .int ce, .int cf, .int cg, .int ch, .int ci, .int cj, .int ck, .ref kl, .int cm, .int cn, .ref ko])), (k4, .inl (cI, 6, .inl sc4_35))] H := hP
            replace hD : va_D A [(k0, .inl (cI, 1201, .inl c0)), (k, .inr (11, [.ref k0, .ref k1, .ref k2, .int c3, .ref k4, .ref k5, .ref k6, .ref k7, .ref k8, .int c9, .ref ka, .ref kb, .int cc, .int cd, .int ce, .int cf, .int cg, .int ch, .int ci, .int cj, .int ck, .ref kl, .int cm, .int cn, .ref ko])), (k4, .inl (cI, 6, .inl sc4_35))] := hD
            have hr_33 := w_34
            obtain rfl : r_33 = (-1000003) := hr_33.trans (by decide +kernel)
            exact hRet (c0, sc4_35) [1, 0, 2] ⟨pre0, (by (try dsimp only); unfold giveR; unfold gvR; by_cases ha_ : a1.toInt = 0 <;> first | (exfalso; omega) | (repeat (first | rw [if_pos (by omega)] | rw [if_neg (by omega)]))), (by (try dsimp only); unfold giveS; unfold gvS; by_cases ha_ : a1.toInt = 0 <;> first | (exfalso; omega) | (repeat (first | rw [if_pos (by omega)] | rw [if_neg (by omega)])))⟩ hP hD (by decide +kernel) rfl hS rfl dX11_give_59
          · have h_30 : (pW c0 a0 8).toInt ≠ 2 := h_30
            have h_31 : 1 ≤ (pW c0 a0 2).toInt := h_31
            obtain rfl : r_26 = 0 := hr_26.trans (by decide +kernel)
            refine b_if_eq hx hb zl_0 (tgt := 60) dX11_give_50 (by decide +kernel) (fun c_36 => ?_) (fun c_36 => by exfalso; omega)
            refine lv_iload_n hx hb dX11_give_60 rfl (lv_at hl 2 rfl) ?_
            refine b_if_ne hx hb rfl (tgt := 68) dX11_give_61 (by decide +kernel) (fun c_37 => ?_) (fun c_37 => ?_)
            · refine lv_iload_n hx hb dX11_give_68 rfl (lv_at hl 2 rfl) ?_
              refine lv_iconst (v := 1) hx hb dX11_give_69 (by decide +kernel) ?_
              refine b_icmp_ne hx hb rfl zl_1 (tgt := 78) dX11_give_70 (by decide +kernel) (fun c_38 => by exfalso; omega) (fun c_38 => ?_)
              refine lv_bipush (v := 6) hx hb dX11_give_73 (by decide +kernel) ?_
              refine lv_goto (tgt := 79) hx hb dX11_give_75 (by decide +kernel) ?_
              refine lv_istore (lv' := [(4, .int 6), (0, .ref k), (1, .int a0), (2, .int a1), (3, .int a2)]) hx hb dX11_give_79 hl (by decide +kernel) rfl ?_
              clear hl
              intro ls hl
              refine lv_aload_n hx hb dX11_give_81 rfl (lv_at hl 1 rfl) ?_
              refine lv_iload_n hx hb dX11_give_82 rfl (lv_at hl 2 rfl) ?_
              refine lv_iload hx hb dX11_give_83 (lv_at hl 0 rfl) ?_
              refine kJi (wr := [(k4, .inl (cI, 6, .inl c4))]) (va_runV (As := [.int a0, .int 6]) (rest := []) ⟨hx, hb, hml, hown, hT⟩ (c_X11_partyG6 l D cI aK aV k k0 k1 k2 k4 k5 k6 k7 k8 ka kb kl ko H.size c3 c9 cc cd ce cf cg ch ci cj ck cm cn c0 a0 6 (by first | omega | (simp only [zl_6]; first | done | omega) | decide | assumption | rfl) (by first | omega | (simp only [zl_6]; first | done | omega) | decide | assumption | rfl) (by first | omega | (simp only [zl_6]; first | done | omega) | decide | assumption | rfl)) (cwV 2 hT (gV_in mw_1416 mw_1413 mw_1415 mw_p5_5 mw_12) rfl rfl rfl (by decide +kernel) ⟨Nat.le_of_ble_eq_true rfl, Nat.le_of_ble_eq_true rfl⟩) (kRecvX (q0 := 1) (ci := 11) hK hP hD hN hXS hS hA rfl rfl [1, 2] rfl (by decide +kernel)) rfl rfl hl.1 rfl (lv_room (Nat.le_of_ble_eq_true rfl)) dX11_give_85 ⟨Nat.le_of_ble_eq_true rfl, Nat.le_of_ble_eq_true rfl⟩) hP hD hS hA [1, 2] [0] rfl rfl (by decide +kernel) (by decide +kernel) ?_
              clear hP hD hS
              intro r_39 u_41 H locs w_40 hP hD hS
              replace hP : va_P D vwCl [(k4, .inl (cI, 6, .inl c4)), (k, .inr (11, [.ref k0, .ref k1, .ref k2, .int c3, .ref k4, .ref k5, .ref k6, .ref k7, .ref k8, .int c9, .ref ka, .ref kb, .int cc, .int cd, .int ce, .int cf, .int cg, .int ch, .int ci, .int cj, .int ck, .ref kl, .int cm, .int cn, .ref ko])), (k0, .inl (cI, 1201, .inl c0))] H := hP
              replace hD : va_D A [(k4, .inl (cI, 6, .inl c4)), (k, .inr (11, [.ref k0, .ref k1, .ref k2, .int c3, .ref k4, .ref k5, .ref k6, .ref k7, .ref k8, .int c9, .ref ka, .ref kb, .int cc, .int cd, .int ce, .int cf, .int cg, .int ch, .int ci, .int cj, .int ck, .ref kl, .int cm, .int cn, .ref ko])), (k0, .inl (cI, 1201, .inl c0))] := hD
              have h_42 := w_40
              have h_42 : r_39 = pW c0 a0 6 := h_42
              have t_43 : r_39.toInt = (pW c0 a0 6).toInt := by rw [h_42]
              have lo_r_39 := k_lo r_39
              have hi_r_39 := k_hi r_39
              refine lv_iload_n hx hb dX11_give_88 rfl (lv_at hl 4 rfl) ?_
              refine lv_iadd hx hb dX11_give_89 ?_
              refine lv_topi (fun v_44 ev_44 => ?_)
              have lo_v_44 := k_lo v_44
              have hi_v_44 := k_hi v_44
              refine lv_iload_n hx hb dX11_give_90 rfl (lv_at hl 3 rfl) ?_
              refine lv_iconst (v := 2) hx hb dX11_give_91 (by decide +kernel) ?_
              refine b_icmp_ne hx hb rfl zl_2 (tgt := 100) dX11_give_92 (by decide +kernel) (fun c_45 => ?_) (fun c_45 => by exfalso; omega)
              refine lv_sipush (v := 9999) hx hb dX11_give_100 (by decide +kernel) ?_
              refine b_icmp_le hx hb rfl zl_9999 (tgt := 113) dX11_give_103 (by decide +kernel) (fun c_46 => ?_) (fun c_46 => ?_)
              · refine lv_aload_n hx hb dX11_give_113 rfl (lv_at hl 1 rfl) ?_
                refine lv_iload_n hx hb dX11_give_114 rfl (lv_at hl 2 rfl) ?_
                refine lv_iload hx hb dX11_give_115 (lv_at hl 0 rfl) ?_
                refine lv_aload_n hx hb dX11_give_117 rfl (lv_at hl 1 rfl) ?_
                refine lv_iload_n hx hb dX11_give_118 rfl (lv_at hl 2 rfl) ?_
                refine lv_iload hx hb dX11_give_119 (lv_at hl 0 rfl) ?_
                refine kJi (wr := [(k4, .inl (cI, 6, .inl c4))]) (va_runV (As := [.int a0, .int 6]) (rest := [.int 6, .int a0, .ref k]) ⟨hx, hb, hml, hown, hT⟩ (c_X11_partyG6 l D cI aK aV k k0 k1 k2 k4 k5 k6 k7 k8 ka kb kl ko H.size c3 c9 cc cd ce cf cg ch ci cj ck cm cn c0 a0 6 (by first | omega | (simp only [zl_6]; first | done | omega) | decide | assumption | rfl) (by first | omega | (simp only [zl_6]; first | done | omega) | decide | assumption | rfl) (by first | omega | (simp only [zl_6]; first | done | omega) | decide | assumption | rfl)) (cwV 2 hT (gV_in mw_1416 mw_1413 mw_1415 mw_p5_5 mw_12) rfl rfl rfl (by decide +kernel) ⟨Nat.le_of_ble_eq_true rfl, Nat.le_of_ble_eq_true rfl⟩) (kRecvX (q0 := 1) (ci := 11) hK hP hD hN hXS hS hA rfl rfl [1, 2] rfl (by decide +kernel)) rfl rfl hl.1 rfl (lv_room (Nat.le_of_ble_eq_true rfl)) dX11_give_121 ⟨Nat.le_of_ble_eq_true rfl, Nat.le_of_ble_eq_true rfl⟩) hP hD hS hA [1, 2] [0] rfl rfl (by decide +kernel) (by decide +kernel) ?_
                clear hP hD hS
                intro r_47 u_49 H locs w_48 hP hD hS
                replace hP : va_P D vwCl [(k4, .inl (cI, 6, .inl c4)), (k, .inr (11, [.ref k0, .ref k1, .ref k2, .int c3, .ref k4, .ref k5, .ref k6, .ref k7, .ref k8, .int c9, .ref ka, .ref kb, .int cc, .int cd, .int ce, .int cf, .int cg, .int ch, .int ci, .int cj, .int ck, .ref kl, .int cm, .int cn, .ref ko])), (k0, .inl (cI, 1201, .inl c0))] H := hP
                replace hD : va_D A [(k4, .inl (cI, 6, .inl c4)), (k, .inr (11, [.ref k0, .ref k1, .ref k2, .int c3, .ref k4, .ref k5, .ref k6, .ref k7, .ref k8, .int c9, .ref ka, .ref kb, .int cc, .int cd, .int ce, .int cf, .int cg, .int ch, .int ci, .int cj, .int ck, .ref kl, .int cm, .int cn, .ref ko])), (k0, .inl (cI, 1201, .inl c0))] := hD
                have h_50 := w_48
                have h_50 : r_47 = pW c0 a0 6 := h_50
                have t_51 : r_47.toInt = (pW c0 a0 6).toInt := by rw [h_50]
                have lo_r_47 := k_lo r_47
                have hi_r_47 := k_hi r_47
                refine lv_iload_n hx hb dX11_give_124 rfl (lv_at hl 4 rfl) ?_
                refine lv_iadd hx hb dX11_give_125 ?_
                refine lv_topi (fun v_52 ev_52 => ?_)
                have lo_v_52 := k_lo v_52
                have hi_v_52 := k_hi v_52
                refine kJv (wr := [(k4, .inl (cI, 6, .inl c4))]) (va_runV (As := [.int a0, .int 6, .int v_52]) (rest := []) ⟨hx, hb, hml, hown, hT⟩ (c_X11_setPartyG6 l D cI aK aV k k0 k1 k2 k4 k5 k6 k7 k8 ka kb kl ko H.size c3 c9 cc cd ce cf cg ch ci cj ck cm cn c0 a0 6 v_52 (by first | omega | (simp only [zl_6]; first | done | omega) | decide | assumption | rfl) (by first | omega | (simp only [zl_6]; first | done | omega) | decide | assumption | rfl) (by first | omega | (simp only [zl_6]; first | done | omega) | decide | assumption | rfl)) (cwV 3 hT (gV_in mw_1404 mw_1401 mw_1403 mw_p5_3 mw_12) rfl rfl rfl (by decide +kernel) ⟨Nat.le_of_ble_eq_true rfl, Nat.le_of_ble_eq_true rfl⟩) (kRecvX (q0 := 1) (ci := 11) hK hP hD hN hXS hS hA rfl rfl [1, 2] rfl (by decide +kernel)) rfl rfl hl.1 rfl (lv_room (Nat.le_of_ble_eq_true rfl)) dX11_give_126 ⟨Nat.le_of_ble_eq_true rfl, Nat.le_of_ble_eq_true rfl⟩) hP hD hS hA [1, 2] [0] rfl rfl (by decide +kernel) (by decide +kernel) ?_
                clear hP hD hS
                intro sc0_55 H locs w_54 hP hD hS
                replace hP : va_P D vwCl [(k4, .inl (cI, 6, .inl c4)), (k, .inr (11, [.ref k0, .ref k1, .ref k2, .int c3, .ref k4, .ref k5, .ref k6, .ref k7, .ref k8, .int c9, .ref ka, .ref kb, .int cc, .int cd, .int ce, .int cf, .int cg, .int ch, .int ci, .int cj, .int ck, .ref kl, .int cm, .int cn, .ref ko])), (k0, .inl (cI, 1201, .inl sc0_55))] H := hP
                replace hD : va_D A [(k4, .inl (cI, 6, .inl c4)), (k, .inr (11, [.ref k0, .ref k1, .ref k2, .int c3, .ref k4, .ref k5, .ref k6, .ref k7, .ref k8, .int c9, .ref ka, .ref kb, .int cc, .int cd, .int ce, .int cf, .int cg, .int ch, .int ci, .int cj, .int ck, .ref kl, .int cm, .int cn, .ref ko])), (k0, .inl (cI, 1201, .inl sc0_55))] := hD
                have h_56 := w_54
                try simp only [zl_6] at h_56
                have h_56 : sc0_55 = upd c0 (459 + 9 * a0.toInt.toNat + 6) v_52 := h_56
                have h_56 : sc0_55 = upd c0 (459 + 9 * a0.toInt.toNat + 6) v_52 := h_56
                have hS_57 : SIX sc0_55 (-1) := SIX.p pre0 h_56 rfl (by omega) (by omega) (by decide +kernel) (by omega) (fun z => by omega) (fun z => by omega)
                have n_58 : (sc0_55 0).toInt = (c0 0).toInt := by rw [updN h_56 (by omega)]
                have n_59 : (sc0_55 1).toInt = (c0 1).toInt := by rw [updN h_56 (by omega)]
                have n_60 : (sc0_55 2).toInt = (c0 2).toInt := by rw [updN h_56 (by omega)]
                have n_61 : (pW sc0_55 a0 2).toInt = (pW c0 a0 2).toInt := by rw [pW_upd h_56 (by decide +kernel) (by decide +kernel) (Or.inl (by decide +kernel))]
                refine lv_aload_n hx hb dX11_give_129 rfl (lv_at hl 1 rfl) ?_
                refine lv_iload_n hx hb dX11_give_130 rfl (lv_at hl 2 rfl) ?_
                refine lv_iload hx hb dX11_give_131 (lv_at hl 0 rfl) ?_
                refine kJi (wr := [(k4, .inl (cI, 6, .inl c4))]) (va_runV (As := [.int a0, .int 6]) (rest := []) ⟨hx, hb, hml, hown, hT⟩ (c_X11_partyG6 l D cI aK aV k k0 k1 k2 k4 k5 k6 k7 k8 ka kb kl ko H.size c3 c9 cc cd ce cf cg ch ci cj ck cm cn sc0_55 a0 6 (by first | omega | (simp only [zl_6]; first | done | omega) | decide | assumption | rfl) (by first | omega | (simp only [zl_6]; first | done | omega) | decide | assumption | rfl) (by first | omega | (simp only [zl_6]; first | done | omega) | decide | assumption | rfl)) (cwV 2 hT (gV_in mw_1416 mw_1413 mw_1415 mw_p5_5 mw_12) rfl rfl rfl (by decide +kernel) ⟨Nat.le_of_ble_eq_true rfl, Nat.le_of_ble_eq_true rfl⟩) (kRecvX (q0 := 1) (ci := 11) hK hP hD hN hXS hS hA rfl rfl [1, 2] rfl (by decide +kernel)) rfl rfl hl.1 rfl (lv_room (Nat.le_of_ble_eq_true rfl)) dX11_give_133 ⟨Nat.le_of_ble_eq_true rfl, Nat.le_of_ble_eq_true rfl⟩) hP hD hS hA [1, 2] [0] rfl rfl (by decide +kernel) (by decide +kernel) ?_
                clear hP hD hS
                intro r_62 u_64 H locs w_63 hP hD hS
                replace hP : va_P D vwCl [(k4, .inl (cI, 6, .inl c4)), (k, .inr (11, [.ref k0, .ref k1, .ref k2, .int c3, .ref k4, .ref k5, .ref k6, .ref k7, .ref k8, .int c9, .ref ka, .ref kb, .int cc, .int cd, .int ce, .int cf, .int cg, .int ch, .int ci, .int cj, .int ck, .ref kl, .int cm, .int cn, .ref ko])), (k0, .inl (cI, 1201, .inl sc0_55))] H := hP
                replace hD : va_D A [(k4, .inl (cI, 6, .inl c4)), (k, .inr (11, [.ref k0, .ref k1, .ref k2, .int c3, .ref k4, .ref k5, .ref k6, .ref k7, .ref k8, .int c9, .ref ka, .ref kb, .int cc, .int cd, .int ce, .int cf, .int cg, .int ch, .int ci, .int cj, .int ck, .ref kl, .int cm, .int cn, .ref ko])), (k0, .inl (cI, 1201, .inl sc0_55))] := hD
                have h_65 := w_63
                have h_65 : r_62 = pW sc0_55 a0 6 := h_65
                have t_66 : r_62.toInt = (pW sc0_55 a0 6).toInt := by rw [h_65]
                have lo_r_62 := k_lo r_62
                have hi_r_62 := k_hi r_62
                exact hRet (sc0_55, c4) [1, 2, 0] ⟨hS_57, (by unfold giveR gvR; rw [show pW c0 a0 6 + a2 = v_44 from (by rw [ev_44, h_42])]; (repeat (first | rw [if_pos (by omega)] | rw [if_neg (by omega)])); first | done | exact (by rw [h_65, h_56]; unfold pW; rw [sp_at, ev_52, ev_44, h_50, h_42])), (by (try dsimp only); unfold giveS gvS; rw [show pW c0 a0 6 + a2 = v_44 from (by rw [ev_44, h_42])]; (repeat (first | rw [if_pos (by omega)] | rw [if_neg (by omega)])); first | done | exact (by rw [h_56, show v_52 = v_44 from (by rw [ev_52, ev_44, h_50, h_42])]))⟩ hP hD (by decide +kernel) rfl hS rfl dX11_give_136
              · refine lv_aload_n hx hb dX11_give_106 rfl (lv_at hl 1 rfl) ?_
                refine lv_ldc (v := (-1000004)) hx hb hown (hT _ mw_1256) dX11_give_107 ?_
                refine kJi (wr := [(k0, .inl (cI, 1201, .inl c0))]) (va_runV (As := [.int (-1000004)]) (rest := []) ⟨hx, hb, hml, hown, hT⟩ (c_X11_findingG l D cI aK aV k k0 k1 k2 k4 k5 k6 k7 k8 ka kb kl ko H.size c3 c9 cc cd ce cf cg ch ci cj ck cm cn c4 (-1000004) (by first | omega | (simp only [zl_m1000004]; first | done | omega) | decide | assumption | rfl) (by first | omega | (simp only [zl_m1000004]; first | done | omega) | decide | assumption | rfl)) (cwV 1 hT (gV_in mw_1243 mw_1240 mw_1242 mw_p3_8 mw_12) rfl rfl rfl (by decide +kernel) ⟨Nat.le_of_ble_eq_true rfl, Nat.le_of_ble_eq_true rfl⟩) (kRecvX (q0 := 1) (ci := 11) hK hP hD hN hXS hS hA rfl rfl [1, 0] rfl (by decide +kernel)) rfl rfl hl.1 rfl (lv_room (Nat.le_of_ble_eq_true rfl)) dX11_give_109 ⟨Nat.le_of_ble_eq_true rfl, Nat.le_of_ble_eq_true rfl⟩) hP hD hS hA [1, 0] [2] rfl rfl (by decide +kernel) (by decide +kernel) ?_
                clear hP hD hS
                intro r_67 sc4_69 H locs w_68 hP hD hS
                replace hP : va_P D vwCl [(k0, .inl (cI, 1201, .inl c0)), (k, .inr (11, [.ref k0, .ref k1, .ref k2, .int c3, .ref k4, .ref k5, .ref k6, .ref k7, .ref k8, .int c9, .ref ka, .ref kb, .int cc, .int cd, .int ce, .int cf, .int cg, .int ch, .int ci, .int cj, .int ck, .ref kl, .int cm, .int cn, .ref ko])), (k4, .inl (cI, 6, .inl sc4_69))] H := hP
                replace hD : va_D A [(k0, .inl (cI, 1201, .inl c0)), (k, .inr (11, [.ref k0, .ref k1, .ref k2, .int c3, .ref k4, .ref k5, .ref k6, .ref k7, .ref k8, .int c9, .ref ka, .ref kb, .int cc, .int cd, .int ce, .int cf, .int cg, .int ch, .int ci, .int cj, .int ck, .ref kl, .int cm, .int cn, .ref ko])), (k4, .inl (cI, 6, .inl sc4_69))] := hD
                have hr_67 := w_68
                obtain rfl : r_67 = (-1000004) := hr_67.trans (by decide +kernel)
                exact hRet (c0, sc4_69) [1, 0, 2] ⟨pre0, (by unfold giveR gvR; rw [show pW c0 a0 6 + a2 = v_44 from (by rw [ev_44, h_42])]; (repeat (first | rw [if_pos (by omega)] | rw [if_neg (by omega)]))), (by (try dsimp only); unfold giveS gvS; rw [show pW c0 a0 6 + a2 = v_44 from (by rw [ev_44, h_42])]; (repeat (first | rw [if_pos (by omega)] | rw [if_neg (by omega)])))⟩ hP hD (by decide +kernel) rfl hS rfl dX11_give_112
            · refine lv_iconst (v := 5) hx hb dX11_give_64 (by decide +kernel) ?_
              refine lv_goto (tgt := 79) hx hb dX11_give_65 (by decide +kernel) ?_
              refine lv_istore (lv' := [(4, .int 5), (0, .ref k), (1, .int a0), (2, .int a1), (3, .int a2)]) hx hb dX11_give_79 hl (by decide +kernel) rfl ?_
              clear hl
              intro ls hl
              refine lv_aload_n hx hb dX11_give_81 rfl (lv_at hl 1 rfl) ?_
              refine lv_iload_n hx hb dX11_give_82 rfl (lv_at hl 2 rfl) ?_
              refine lv_iload hx hb dX11_give_83 (lv_at hl 0 rfl) ?_
              refine kJi (wr := [(k4, .inl (cI, 6, .inl c4))]) (va_runV (As := [.int a0, .int 5]) (rest := []) ⟨hx, hb, hml, hown, hT⟩ (c_X11_partyG5 l D cI aK aV k k0 k1 k2 k4 k5 k6 k7 k8 ka kb kl ko H.size c3 c9 cc cd ce cf cg ch ci cj ck cm cn c0 a0 5 (by first | omega | (simp only [zl_5]; first | done | omega) | decide | assumption | rfl) (by first | omega | (simp only [zl_5]; first | done | omega) | decide | assumption | rfl) (by first | omega | (simp only [zl_5]; first | done | omega) | decide | assumption | rfl)) (cwV 2 hT (gV_in mw_1416 mw_1413 mw_1415 mw_p5_5 mw_12) rfl rfl rfl (by decide +kernel) ⟨Nat.le_of_ble_eq_true rfl, Nat.le_of_ble_eq_true rfl⟩) (kRecvX (q0 := 1) (ci := 11) hK hP hD hN hXS hS hA rfl rfl [1, 2] rfl (by decide +kernel)) rfl rfl hl.1 rfl (lv_room (Nat.le_of_ble_eq_true rfl)) dX11_give_85 ⟨Nat.le_of_ble_eq_true rfl, Nat.le_of_ble_eq_true rfl⟩) hP hD hS hA [1, 2] [0] rfl rfl (by decide +kernel) (by decide +kernel) ?_
              clear hP hD hS
              intro r_70 u_72 H locs w_71 hP hD hS
              replace hP : va_P D vwCl [(k4, .inl (cI, 6, .inl c4)), (k, .inr (11, [.ref k0, .ref k1, .ref k2, .int c3, .ref k4, .ref k5, .ref k6, .ref k7, .ref k8, .int c9, .ref ka, .ref kb, .int cc, .int cd, .int ce, .int cf, .int cg, .int ch, .int ci, .int cj, .int ck, .ref kl, .int cm, .int cn, .ref ko])), (k0, .inl (cI, 1201, .inl c0))] H := hP
              replace hD : va_D A [(k4, .inl (cI, 6, .inl c4)), (k, .inr (11, [.ref k0, .ref k1, .ref k2, .int c3, .ref k4, .ref k5, .ref k6, .ref k7, .ref k8, .int c9, .ref ka, .ref kb, .int cc, .int cd, .int ce, .int cf, .int cg, .int ch, .int ci, .int cj, .int ck, .ref kl, .int cm, .int cn, .ref ko])), (k0, .inl (cI, 1201, .inl c0))] := hD
              have h_73 := w_71
              have h_73 : r_70 = pW c0 a0 5 := h_73
              have t_74 : r_70.toInt = (pW c0 a0 5).toInt := by rw [h_73]
              have b_75 : 0 ≤ r_70.toInt ∧ r_70.toInt ≤ 9999 := by rw [h_73]; exact SB.p5 (And.left pre0) (by omega) (by omega)
              have lo_r_70 := k_lo r_70
              have hi_r_70 := k_hi r_70
              refine lv_iload_n hx hb dX11_give_88 rfl (lv_at hl 4 rfl) ?_
              refine lv_iadd hx hb dX11_give_89 ?_
              refine lv_topi (fun v_76 ev_76 => ?_)
              have tv_76 : v_76.toInt = r_70.toInt + a2.toInt := by rw [ev_76]; exact k_addv rfl rfl (by omega) (by omega)
              refine lv_iload_n hx hb dX11_give_90 rfl (lv_at hl 3 rfl) ?_
              refine lv_iconst (v := 2) hx hb dX11_give_91 (by decide +kernel) ?_
              refine b_icmp_ne hx hb rfl zl_2 (tgt := 100) dX11_give_92 (by decide +kernel) (fun c_77 => ?_) (fun c_77 => by exfalso; omega)
              refine lv_sipush (v := 9999) hx hb dX11_give_100 (by decide +kernel) ?_
              refine b_icmp_le hx hb rfl zl_9999 (tgt := 113) dX11_give_103 (by decide +kernel) (fun c_78 => ?_) (fun c_78 => ?_)
              · refine lv_aload_n hx hb dX11_give_113 rfl (lv_at hl 1 rfl) ?_
                refine lv_iload_n hx hb dX11_give_114 rfl (lv_at hl 2 rfl) ?_
                refine lv_iload hx hb dX11_give_115 (lv_at hl 0 rfl) ?_
                refine lv_aload_n hx hb dX11_give_117 rfl (lv_at hl 1 rfl) ?_
                refine lv_iload_n hx hb dX11_give_118 rfl (lv_at hl 2 rfl) ?_
                refine lv_iload hx hb dX11_give_119 (lv_at hl 0 rfl) ?_
                refine kJi (wr := [(k4, .inl (cI, 6, .inl c4))]) (va_runV (As := [.int a0, .int 5]) (rest := [.int 5, .int a0, .ref k]) ⟨hx, hb, hml, hown, hT⟩ (c_X11_partyG5 l D cI aK aV k k0 k1 k2 k4 k5 k6 k7 k8 ka kb kl ko H.size c3 c9 cc cd ce cf cg ch ci cj ck cm cn c0 a0 5 (by first | omega | (simp only [zl_5]; first | done | omega) | decide | assumption | rfl) (by first | omega | (simp only [zl_5]; first | done | omega) | decide | assumption | rfl) (by first | omega | (simp only [zl_5]; first | done | omega) | decide | assumption | rfl)) (cwV 2 hT (gV_in mw_1416 mw_1413 mw_1415 mw_p5_5 mw_12) rfl rfl rfl (by decide +kernel) ⟨Nat.le_of_ble_eq_true rfl, Nat.le_of_ble_eq_true rfl⟩) (kRecvX (q0 := 1) (ci := 11) hK hP hD hN hXS hS hA rfl rfl [1, 2] rfl (by decide +kernel)) rfl rfl hl.1 rfl (lv_room (Nat.le_of_ble_eq_true rfl)) dX11_give_121 ⟨Nat.le_of_ble_eq_true rfl, Nat.le_of_ble_eq_true rfl⟩) hP hD hS hA [1, 2] [0] rfl rfl (by decide +kernel) (by decide +kernel) ?_
                clear hP hD hS
                intro r_79 u_81 H locs w_80 hP hD hS
                replace hP : va_P D vwCl [(k4, .inl (cI, 6, .inl c4)), (k, .inr (11, [.ref k0, .ref k1, .ref k2, .int c3, .ref k4, .ref k5, .ref k6, .ref k7, .ref k8, .int c9, .ref ka, .ref kb, .int cc, .int cd, .int ce, .int cf, .int cg, .int ch, .int ci, .int cj, .int ck, .ref kl, .int cm, .int cn, .ref ko])), (k0, .inl (cI, 1201, .inl c0))] H := hP
                replace hD : va_D A [(k4, .inl (cI, 6, .inl c4)), (k, .inr (11, [.ref k0, .ref k1, .ref k2, .int c3, .ref k4, .ref k5, .ref k6, .ref k7, .ref k8, .int c9, .ref ka, .ref kb, .int cc, .int cd, .int ce, .int cf, .int cg, .int ch, .int ci, .int cj, .int ck, .ref kl, .int cm, .int cn, .ref ko])), (k0, .inl (cI, 1201, .inl c0))] := hD
                have h_82 := w_80
                have h_82 : r_79 = pW c0 a0 5 := h_82
                have t_83 : r_79.toInt = (pW c0 a0 5).toInt := by rw [h_82]
                have b_84 : 0 ≤ r_79.toInt ∧ r_79.toInt ≤ 9999 := by rw [h_82]; exact SB.p5 (And.left pre0) (by omega) (by omega)
                have lo_r_79 := k_lo r_79
                have hi_r_79 := k_hi r_79
                refine lv_iload_n hx hb dX11_give_124 rfl (lv_at hl 4 rfl) ?_
                refine lv_iadd hx hb dX11_give_125 ?_
                refine lv_topi (fun v_85 ev_85 => ?_)
                have tv_85 : v_85.toInt = r_79.toInt + a2.toInt := by rw [ev_85]; exact k_addv rfl rfl (by omega) (by omega)
                refine kJv (wr := [(k4, .inl (cI, 6, .inl c4))]) (va_runV (As := [.int a0, .int 5, .int v_85]) (rest := []) ⟨hx, hb, hml, hown, hT⟩ (c_X11_setPartyG5 l D cI aK aV k k0 k1 k2 k4 k5 k6 k7 k8 ka kb kl ko H.size c3 c9 cc cd ce cf cg ch ci cj ck cm cn c0 a0 5 v_85 (by first | omega | (simp only [zl_5]; first | done | omega) | decide | assumption | rfl) (by first | omega | (simp only [zl_5]; first | done | omega) | decide | assumption | rfl) (by first | omega | (simp only [zl_5]; first | done | omega) | decide | assumption | rfl)) (cwV 3 hT (gV_in mw_1404 mw_1401 mw_1403 mw_p5_3 mw_12) rfl rfl rfl (by decide +kernel) ⟨Nat.le_of_ble_eq_true rfl, Nat.le_of_ble_eq_true rfl⟩) (kRecvX (q0 := 1) (ci := 11) hK hP hD hN hXS hS hA rfl rfl [1, 2] rfl (by decide +kernel)) rfl rfl hl.1 rfl (lv_room (Nat.le_of_ble_eq_true rfl)) dX11_give_126 ⟨Nat.le_of_ble_eq_true rfl, Nat.le_of_ble_eq_true rfl⟩) hP hD hS hA [1, 2] [0] rfl rfl (by decide +kernel) (by decide +kernel) ?_
                clear hP hD hS
                intro sc0_88 H locs w_87 hP hD hS
                replace hP : va_P D vwCl [(k4, .inl (cI, 6, .inl c4)), (k, .inr (11, [.ref k0, .ref k1, .ref k2, .int c3, .ref k4, .ref k5, .ref k6, .ref k7, .ref k8, .int c9, .ref ka, .ref kb, .int cc, .int cd, .int ce, .int cf, .int cg, .int ch, .int ci, .int cj, .int ck, .ref kl, .int cm, .int cn, .ref ko])), (k0, .inl (cI, 1201, .inl sc0_88))] H := hP
                replace hD : va_D A [(k4, .inl (cI, 6, .inl c4)), (k, .inr (11, [.ref k0, .ref k1, .ref k2, .int c3, .ref k4, .ref k5, .ref k6, .ref k7, .ref k8, .int c9, .ref ka, .ref kb, .int cc, .int cd, .int ce, .int cf, .int cg, .int ch, .int ci, .int cj, .int ck, .ref kl, .int cm, .int cn, .ref ko])), (k0, .inl (cI, 1201, .inl sc0_88))] := hD
                have h_89 := w_87
                try simp only [zl_5] at h_89
                have h_89 : sc0_88 = upd c0 (459 + 9 * a0.toInt.toNat + 5) v_85 := h_89
                have h_89 : sc0_88 = upd c0 (459 + 9 * a0.toInt.toNat + 5) v_85 := h_89
                have hS_90 : SIX sc0_88 (-1) := SIX.p pre0 h_89 rfl (by omega) (by omega) (by decide +kernel) (by omega) (fun z => by omega) (fun z => by omega)
                have n_91 : (sc0_88 0).toInt = (c0 0).toInt := by rw [updN h_89 (by omega)]
                have n_92 : (sc0_88 1).toInt = (c0 1).toInt := by rw [updN h_89 (by omega)]
                have n_93 : (sc0_88 2).toInt = (c0 2).toInt := by rw [updN h_89 (by omega)]
                have n_94 : (pW sc0_88 a0 2).toInt = (pW c0 a0 2).toInt := by rw [pW_upd h_89 (by decide +kernel) (by decide +kernel) (Or.inl (by decide +kernel))]
                refine lv_aload_n hx hb dX11_give_129 rfl (lv_at hl 1 rfl) ?_
                refine lv_iload_n hx hb dX11_give_130 rfl (lv_at hl 2 rfl) ?_
                refine lv_iload hx hb dX11_give_131 (lv_at hl 0 rfl) ?_
                refine kJi (wr := [(k4, .inl (cI, 6, .inl c4))]) (va_runV (As := [.int a0, .int 5]) (rest := []) ⟨hx, hb, hml, hown, hT⟩ (c_X11_partyG5 l D cI aK aV k k0 k1 k2 k4 k5 k6 k7 k8 ka kb kl ko H.size c3 c9 cc cd ce cf cg ch ci cj ck cm cn sc0_88 a0 5 (by first | omega | (simp only [zl_5]; first | done | omega) | decide | assumption | rfl) (by first | omega | (simp only [zl_5]; first | done | omega) | decide | assumption | rfl) (by first | omega | (simp only [zl_5]; first | done | omega) | decide | assumption | rfl)) (cwV 2 hT (gV_in mw_1416 mw_1413 mw_1415 mw_p5_5 mw_12) rfl rfl rfl (by decide +kernel) ⟨Nat.le_of_ble_eq_true rfl, Nat.le_of_ble_eq_true rfl⟩) (kRecvX (q0 := 1) (ci := 11) hK hP hD hN hXS hS hA rfl rfl [1, 2] rfl (by decide +kernel)) rfl rfl hl.1 rfl (lv_room (Nat.le_of_ble_eq_true rfl)) dX11_give_133 ⟨Nat.le_of_ble_eq_true rfl, Nat.le_of_ble_eq_true rfl⟩) hP hD hS hA [1, 2] [0] rfl rfl (by decide +kernel) (by decide +kernel) ?_
                clear hP hD hS
                intro r_95 u_97 H locs w_96 hP hD hS
                replace hP : va_P D vwCl [(k4, .inl (cI, 6, .inl c4)), (k, .inr (11, [.ref k0, .ref k1, .ref k2, .int c3, .ref k4, .ref k5, .ref k6, .ref k7, .ref k8, .int c9, .ref ka, .ref kb, .int cc, .int cd, .int ce, .int cf, .int cg, .int ch, .int ci, .int cj, .int ck, .ref kl, .int cm, .int cn, .ref ko])), (k0, .inl (cI, 1201, .inl sc0_88))] H := hP
                replace hD : va_D A [(k4, .inl (cI, 6, .inl c4)), (k, .inr (11, [.ref k0, .ref k1, .ref k2, .int c3, .ref k4, .ref k5, .ref k6, .ref k7, .ref k8, .int c9, .ref ka, .ref kb, .int cc, .int cd, .int ce, .int cf, .int cg, .int ch, .int ci, .int cj, .int ck, .ref kl, .int cm, .int cn, .ref ko])), (k0, .inl (cI, 1201, .inl sc0_88))] := hD
                have h_98 := w_96
                have h_98 : r_95 = pW sc0_88 a0 5 := h_98
                have t_99 : r_95.toInt = (pW sc0_88 a0 5).toInt := by rw [h_98]
                have b_100 : 0 ≤ r_95.toInt ∧ r_95.toInt ≤ 9999 := by rw [h_98]; exact SB.p5 (And.left hS_90) (by omega) (by omega)
                have lo_r_95 := k_lo r_95
                have hi_r_95 := k_hi r_95
                exact hRet (sc0_88, c4) [1, 2, 0] ⟨hS_90, (by unfold giveR gvR; rw [show pW c0 a0 5 + a2 = v_76 from (by rw [ev_76, h_73])]; (repeat (first | rw [if_pos (by omega)] | rw [if_neg (by omega)])); first | done | exact (by rw [h_98, h_89]; unfold pW; rw [sp_at, ev_85, ev_76, h_82, h_73])), (by (try dsimp only); unfold giveS gvS; rw [show pW c0 a0 5 + a2 = v_76 from (by rw [ev_76, h_73])]; (repeat (first | rw [if_pos (by omega)] | rw [if_neg (by omega)])); first | done | exact (by rw [h_89, show v_85 = v_76 from (by rw [ev_85, ev_76, h_82, h_73])]))⟩ hP hD (by decide +kernel) rfl hS rfl dX11_give_136
              · refine lv_aload_n hx hb dX11_give_106 rfl (lv_at hl 1 rfl) ?_
                refine lv_ldc (v := (-1000004)) hx hb hown (hT _ mw_1256) dX11_give_107 ?_
                refine kJi (wr := [(k0, .inl (cI, 1201, .inl c0))]) (va_runV (As := [.int (-1000004)]) (rest := []) ⟨hx, hb, hml, hown, hT⟩ (c_X11_findingG l D cI aK aV k k0 k1 k2 k4 k5 k6 k7 k8 ka kb kl ko H.size c3 c9 cc cd ce cf cg ch ci cj ck cm cn c4 (-1000004) (by first | omega | (simp only [zl_m1000004]; first | done | omega) | decide | assumption | rfl) (by first | omega | (simp only [zl_m1000004]; first | done | omega) | decide | assumption | rfl)) (cwV 1 hT (gV_in mw_1243 mw_1240 mw_1242 mw_p3_8 mw_12) rfl rfl rfl (by decide +kernel) ⟨Nat.le_of_ble_eq_true rfl, Nat.le_of_ble_eq_true rfl⟩) (kRecvX (q0 := 1) (ci := 11) hK hP hD hN hXS hS hA rfl rfl [1, 0] rfl (by decide +kernel)) rfl rfl hl.1 rfl (lv_room (Nat.le_of_ble_eq_true rfl)) dX11_give_109 ⟨Nat.le_of_ble_eq_true rfl, Nat.le_of_ble_eq_true rfl⟩) hP hD hS hA [1, 0] [2] rfl rfl (by decide +kernel) (by decide +kernel) ?_
                clear hP hD hS
                intro r_101 sc4_103 H locs w_102 hP hD hS
                replace hP : va_P D vwCl [(k0, .inl (cI, 1201, .inl c0)), (k, .inr (11, [.ref k0, .ref k1, .ref k2, .int c3, .ref k4, .ref k5, .ref k6, .ref k7, .ref k8, .int c9, .ref ka, .ref kb, .int cc, .int cd, .int ce, .int cf, .int cg, .int ch, .int ci, .int cj, .int ck, .ref kl, .int cm, .int cn, .ref ko])), (k4, .inl (cI, 6, .inl sc4_103))] H := hP
                replace hD : va_D A [(k0, .inl (cI, 1201, .inl c0)), (k, .inr (11, [.ref k0, .ref k1, .ref k2, .int c3, .ref k4, .ref k5, .ref k6, .ref k7, .ref k8, .int c9, .ref ka, .ref kb, .int cc, .int cd, .int ce, .int cf, .int cg, .int ch, .int ci, .int cj, .int ck, .ref kl, .int cm, .int cn, .ref ko])), (k4, .inl (cI, 6, .inl sc4_103))] := hD
                have hr_101 := w_102
                obtain rfl : r_101 = (-1000004) := hr_101.trans (by decide +kernel)
                exact hRet (c0, sc4_103) [1, 0, 2] ⟨pre0, (by unfold giveR gvR; rw [show pW c0 a0 5 + a2 = v_76 from (by rw [ev_76, h_73])]; (repeat (first | rw [if_pos (by omega)] | rw [if_neg (by omega)]))), (by (try dsimp only); unfold giveS gvS; rw [show pW c0 a0 5 + a2 = v_76 from (by rw [ev_76, h_73])]; (repeat (first | rw [if_pos (by omega)] | rw [if_neg (by omega)])))⟩ hP hD (by decide +kernel) rfl hS rfl dX11_give_112
        · try simp only [zl_1, zl_9999] at h_24
          have h_24 : a2.toInt < 1 ∨ 9999 < a2.toInt := h_24
          obtain rfl : r_19 = 0 := hr_19.trans (by decide +kernel)
          refine b_if_ne hx hb zl_0 (tgt := 45) dX11_give_35 (by decide +kernel) (fun c_104 => by exfalso; omega) (fun c_104 => ?_)
          refine lv_aload_n hx hb dX11_give_38 rfl (lv_at hl 0 rfl) ?_
          refine lv_ldc (v := (-1000001)) hx hb hown (hT _ mw_1239) dX11_give_39 ?_
          refine kJi (wr := [(k0, .inl (cI, 1201, .inl c0))]) (va_runV (As := [.int (-1000001)]) (rest := []) ⟨hx, hb, hml, hown, hT⟩ (c_X11_findingG l D cI aK aV k k0 k1 k2 k4 k5 k6 k7 k8 ka kb kl ko H.size c3 c9 cc cd ce cf cg ch ci cj ck cm cn c4 (-1000001) (by first | omega | (simp only [zl_m1000001]; first | done | omega) | decide | assumption | rfl) (by first | omega | (simp only [zl_m1000001]; first | done | omega) | decide | assumption | rfl)) (cwV 1 hT (gV_in mw_1243 mw_1240 mw_1242 mw_p3_8 mw_12) rfl rfl rfl (by decide +kernel) ⟨Nat.le_of_ble_eq_true rfl, Nat.le_of_ble_eq_true rfl⟩) (kRecvX (q0 := 1) (ci := 11) hK hP hD hN hXS hS hA rfl rfl [1, 0] rfl (by decide +kernel)) rfl rfl hl.1 rfl (lv_room (Nat.le_of_ble_eq_true rfl)) dX11_give_41 ⟨Nat.le_of_ble_eq_true rfl, Nat.le_of_ble_eq_true rfl⟩) hP hD hS hA [1, 0] [2] rfl rfl (by decide +kernel) (by decide +kernel) ?_
          clear hP hD hS
          intro r_105 sc4_107 H locs w_106 hP hD hS
          replace hP : va_P D vwCl [(k0, .inl (cI, 1201, .inl c0)), (k, .inr (11, [.ref k0, .ref k1, .ref k2, .int c3, .ref k4, .ref k5, .ref k6, .ref k7, .ref k8, .int c9, .ref ka, .ref kb, .int cc, .int cd, .int ce, .int cf, .int cg, .int ch, .int ci, .int cj, .int ck, .ref kl, .int cm, .int cn, .ref ko])), (k4, .inl (cI, 6, .inl sc4_107))] H := hP
          replace hD : va_D A [(k0, .inl (cI, 1201, .inl c0)), (k, .inr (11, [.ref k0, .ref k1, .ref k2, .int c3, .ref k4, .ref k5, .ref k6, .ref k7, .ref k8, .int c9, .ref ka, .ref kb, .int cc, .int cd, .int ce, .int cf, .int cg, .int ch, .int ci, .int cj, .int ck, .ref kl, .int cm, .int cn, .ref ko])), (k4, .inl (cI, 6, .inl sc4_107))] := hD
          have hr_105 := w_106
          obtain rfl : r_105 = (-1000001) := hr_105.trans (by decide +kernel)
          exact hRet (c0, sc4_107) [1, 0, 2] ⟨pre0, (by (try dsimp only); unfold giveR; unfold gvR; by_cases ha_ : a1.toInt = 0 <;> first | (exfalso; omega) | (repeat (first | rw [if_pos (by omega)] | rw [if_neg (by omega)]))), (by (try dsimp only); unfold giveS; unfold gvS; by_cases ha_ : a1.toInt = 0 <;> first | (exfalso; omega) | (repeat (first | rw [if_pos (by omega)] | rw [if_neg (by omega)])))⟩ hP hD (by decide +kernel) rfl hS rfl dX11_give_44
      · refine lv_bipush (v := 99) hx hb dX11_give_24 (by decide +kernel) ?_
        refine lv_goto (tgt := 32) hx hb dX11_give_26 (by decide +kernel) ?_
        refine kJi (wr := [(k4, .inl (cI, 6, .inl c4)), (k, .inr (11, [.ref k0, .ref k1, .ref k2, .int c3, .ref k4, .ref k5, .ref k6, .ref k7, .ref k8, .int c9, .ref ka, .ref kb, .int cc, .int cd, .int ce, .int cf, .int cg, .int ch, .int ci, .int cj, .int ck, .ref kl, .int cm, .int cn, .ref ko])), (k0, .inl (cI, 1201, .inl c0))]) (va_runS (As := [.int a2, .int 1, .int 99]) (rest := []) ⟨hx, hb, hml, hown, hT⟩ (c_X11_inG l D cI aK aV H.size a2 1 99) (cwS 3 hT (gS_in mw_1238 mw_1236 mw_1237 mw_12) rfl rfl rfl (by decide +kernel) ⟨Nat.le_of_ble_eq_true rfl, Nat.le_of_ble_eq_true rfl⟩) (kStatX hK hP hD hN hXS hS hA [] rfl (by decide +kernel)) rfl rfl hl.1 rfl (lv_room (Nat.le_of_ble_eq_true rfl)) dX11_give_32 ⟨Nat.le_of_ble_eq_true rfl, Nat.le_of_ble_eq_true rfl⟩) hP hD hS hA [] [0, 1, 2] rfl rfl (by decide +kernel) (by decide +kernel) ?_
        clear hP hD hS
        intro r_108 u_110 H locs w_109 hP hD hS
        replace hP : va_P D vwCl [(k4, .inl (cI, 6, .inl c4)), (k, .inr (11, [.ref k0, .ref k1, .ref k2, .int c3, .ref k4, .ref k5, .ref k6, .ref k7, .ref k8, .int c9, .ref ka, .ref kb, .int cc, .int cd, .int ce, .int cf, .int cg, .int ch, .int ci, .int cj, .int ck, .ref kl, .int cm, .int cn, .ref ko])), (k0, .inl (cI, 1201, .inl c0))] H := hP
        replace hD : va_D A [(k4, .inl (cI, 6, .inl c4)), (k, .inr (11, [.ref k0, .ref k1, .ref k2, .int c3, .ref k4, .ref k5, .ref k6, .ref k7, .ref k8, .int c9, .ref ka, .ref kb, .int cc, .int cd, .int ce, .int cf, .int cg, .int ch, .int ci, .int cj, .int ck, .ref kl, .int cm, .int cn, .ref ko])), (k0, .inl (cI, 1201, .inl c0))] := hD
        rcases w_109 with ⟨hr_108, h_111, h_112⟩ | ⟨hr_108, h_113⟩
        · try simp only [zl_1, zl_99] at h_111
          have h_111 : 1 ≤ a2.toInt := h_111
          try simp only [zl_1, zl_99] at h_112
          have h_112 : a2.toInt ≤ 99 := h_112
          obtain rfl : r_108 = 1 := hr_108.trans (by decide +kernel)
          refine b_if_ne hx hb zl_1 (tgt := 45) dX11_give_35 (by decide +kernel) (fun c_114 => ?_) (fun c_114 => by exfalso; omega)
          refine lv_aload_n hx hb dX11_give_45 rfl (lv_at hl 0 rfl) ?_
          refine lv_iload_n hx hb dX11_give_46 rfl (lv_at hl 1 rfl) ?_
          refine kJi (wr := [(k4, .inl (cI, 6, .inl c4))]) (va_runV (As := [.int a0]) (rest := []) ⟨hx, hb, hml, hown, hT⟩ (c_X11_isLostG l D cI aK aV k k0 k1 k2 k4 k5 k6 k7 k8 ka kb kl ko H.size c3 c9 cc cd ce cf cg ch ci cj ck cm cn c0 a0 pre0 (by first | omega | decide | assumption | rfl) (by first | omega | decide | assumption | rfl) (by first | omega | decide | assumption | rfl)) (cwV 1 hT (gV_in mw_1424 mw_1421 mw_1423 mw_p5_6 mw_12) rfl rfl rfl (by decide +kernel) ⟨Nat.le_of_ble_eq_true rfl, Nat.le_of_ble_eq_true rfl⟩) (kRecvX (q0 := 1) (ci := 11) hK hP hD hN hXS hS hA rfl rfl [1, 2] rfl (by decide +kernel)) rfl rfl hl.1 rfl (lv_room (Nat.le_of_ble_eq_true rfl)) dX11_give_47 ⟨Nat.le_of_ble_eq_true rfl, Nat.le_of_ble_eq_true rfl⟩) hP hD hS hA [1, 2] [0] rfl rfl (by decide +kernel) (by decide +kernel) ?_
          clear hP hD hS
          intro r_115 u_117 H locs w_116 hP hD hS
          replace hP : va_P D vwCl [(k4, .inl (cI, 6, .inl c4)), (k, .inr (11, [.ref k0, .ref k1, .ref k2, .int c3, .ref k4, .ref k5, .ref k6, .ref k7, .ref k8, .int c9, .ref ka, .ref kb, .int cc, .int cd, .int ce, .int cf, .int cg, .int ch, .int ci, .int cj, .int ck, .ref kl, .int cm, .int cn, .ref ko])), (k0, .inl (cI, 1201, .inl c0))] H := hP
          replace hD : va_D A [(k4, .inl (cI, 6, .inl c4)), (k, .inr (11, [.ref k0, .ref k1, .ref k2, .int c3, .ref k4, .ref k5, .ref k6, .ref k7, .ref k8, .int c9, .ref ka, .ref kb, .int cc, .int cd, .int ce, .int cf, .int cg, .int ch, .int ci, .int cj, .int ck, .ref kl, .int cm, .int cn, .ref ko])), (k0, .inl (cI, 1201, .inl c0))] := hD
          rcases w_116 with ⟨hr_115, h_118⟩ | ⟨hr_115, h_119, h_120⟩
          · have h_118 : (pW c0 a0 8).toInt = 2 := h_118
            obtain rfl : r_115 = 1 := hr_115.trans (by decide +kernel)
            refine b_if_eq hx hb zl_1 (tgt := 60) dX11_give_50 (by decide +kernel) (fun c_121 => by exfalso; omega) (fun c_121 => ?_)
            refine lv_aload_n hx hb dX11_give_53 rfl (lv_at hl 0 rfl) ?_
            refine lv_ldc (v := (-1000003)) hx hb hown (hT _ mw_1356) dX11_give_54 ?_
            refine kJi (wr := [(k0, .inl (cI, 1201, .inl c0))]) (va_runV (As := [.int (-1000003)]) (rest := []) ⟨hx, hb, hml, hown, hT⟩ (c_X11_findingG l D cI aK aV k k0 k1 k2 k4 k5 k6 k7 k8 ka kb kl ko H.size c3 c9 cc cd ce cf cg ch ci cj ck cm cn c4 (-1000003) (by first | omega | (simp only [zl_m1000003]; first | done | omega) | decide | assumption | rfl) (by first | omega | (simp only [zl_m1000003]; first | done | omega) | decide | assumption | rfl)) (cwV 1 hT (gV_in mw_1243 mw_1240 mw_1242 mw_p3_8 mw_12) rfl rfl rfl (by decide +kernel) ⟨Nat.le_of_ble_eq_true rfl, Nat.le_of_ble_eq_true rfl⟩) (kRecvX (q0 := 1) (ci := 11) hK hP hD hN hXS hS hA rfl rfl [1, 0] rfl (by decide +kernel)) rfl rfl hl.1 rfl (lv_room (Nat.le_of_ble_eq_true rfl)) dX11_give_56 ⟨Nat.le_of_ble_eq_true rfl, Nat.le_of_ble_eq_true rfl⟩) hP hD hS hA [1, 0] [2] rfl rfl (by decide +kernel) (by decide +kernel) ?_
            clear hP hD hS
            intro r_122 sc4_124 H locs w_123 hP hD hS
            replace hP : va_P D vwCl [(k0, .inl (cI, 1201, .inl c0)), (k, .inr (11, [.ref k0, .ref k1, .ref k2, .int c3, .ref k4, .ref k5, .ref k6, .ref k7, .ref k8, .int c9, .ref ka, .ref kb, .int cc, .int cd, .int ce, .int cf, .int cg, .int ch, .int ci, .int cj, .int ck, .ref kl, .int cm, .int cn, .ref ko])), (k4, .inl (cI, 6, .inl sc4_124))] H := hP
            replace hD : va_D A [(k0, .inl (cI, 1201, .inl c0)), (k, .inr (11, [.ref k0, .ref k1, .ref k2, .int c3, .ref k4, .ref k5, .ref k6, .ref k7, .ref k8, .int c9, .ref ka, .ref kb, .int cc, .int cd, .int ce, .int cf, .int cg, .int ch, .int ci, .int cj, .int ck, .ref kl, .int cm, .int cn, .ref ko])), (k4, .inl (cI, 6, .inl sc4_124))] := hD
            have hr_122 := w_123
            obtain rfl : r_122 = (-1000003) := hr_122.trans (by decide +kernel)
            exact hRet (c0, sc4_124) [1, 0, 2] ⟨pre0, (by (try dsimp only); unfold giveR; unfold gvR; by_cases ha_ : a1.toInt = 0 <;> first | (exfalso; omega) | (repeat (first | rw [if_pos (by omega)] | rw [if_neg (by omega)]))), (by (try dsimp only); unfold giveS; unfold gvS; by_cases ha_ : a1.toInt = 0 <;> first | (exfalso; omega) | (repeat (first | rw [if_pos (by omega)] | rw [if_neg (by omega)])))⟩ hP hD (by decide +kernel) rfl hS rfl dX11_give_59
          · have h_119 : (pW c0 a0 8).toInt ≠ 2 := h_119
            have h_120 : 1 ≤ (pW c0 a0 2).toInt := h_120
            obtain rfl : r_115 = 0 := hr_115.trans (by decide +kernel)
            refine b_if_eq hx hb zl_0 (tgt := 60) dX11_give_50 (by decide +kernel) (fun c_125 => ?_) (fun c_125 => by exfalso; omega)
            refine lv_iload_n hx hb dX11_give_60 rfl (lv_at hl 2 rfl) ?_
            refine b_if_ne hx hb rfl (tgt := 68) dX11_give_61 (by decide +kernel) (fun c_126 => ?_) (fun c_126 => by exfalso; omega)
            refine lv_iload_n hx hb dX11_give_68 rfl (lv_at hl 2 rfl) ?_
            refine lv_iconst (v := 1) hx hb dX11_give_69 (by decide +kernel) ?_
            refine b_icmp_ne hx hb rfl zl_1 (tgt := 78) dX11_give_70 (by decide +kernel) (fun c_127 => ?_) (fun c_127 => by exfalso; omega)
            refine lv_iconst (v := 4) hx hb dX11_give_78 (by decide +kernel) ?_
            refine lv_istore (lv' := [(4, .int 4), (0, .ref k), (1, .int a0), (2, .int a1), (3, .int a2)]) hx hb dX11_give_79 hl (by decide +kernel) rfl ?_
            clear hl
            intro ls hl
            refine lv_aload_n hx hb dX11_give_81 rfl (lv_at hl 1 rfl) ?_
            refine lv_iload_n hx hb dX11_give_82 rfl (lv_at hl 2 rfl) ?_
            refine lv_iload hx hb dX11_give_83 (lv_at hl 0 rfl) ?_
            refine kJi (wr := [(k4, .inl (cI, 6, .inl c4))]) (va_runV (As := [.int a0, .int 4]) (rest := []) ⟨hx, hb, hml, hown, hT⟩ (c_X11_partyG4 l D cI aK aV k k0 k1 k2 k4 k5 k6 k7 k8 ka kb kl ko H.size c3 c9 cc cd ce cf cg ch ci cj ck cm cn c0 a0 4 (by first | omega | (simp only [zl_4]; first | done | omega) | decide | assumption | rfl) (by first | omega | (simp only [zl_4]; first | done | omega) | decide | assumption | rfl) (by first | omega | (simp only [zl_4]; first | done | omega) | decide | assumption | rfl)) (cwV 2 hT (gV_in mw_1416 mw_1413 mw_1415 mw_p5_5 mw_12) rfl rfl rfl (by decide +kernel) ⟨Nat.le_of_ble_eq_true rfl, Nat.le_of_ble_eq_true rfl⟩) (kRecvX (q0 := 1) (ci := 11) hK hP hD hN hXS hS hA rfl rfl [1, 2] rfl (by decide +kernel)) rfl rfl hl.1 rfl (lv_room (Nat.le_of_ble_eq_true rfl)) dX11_give_85 ⟨Nat.le_of_ble_eq_true rfl, Nat.le_of_ble_eq_true rfl⟩) hP hD hS hA [1, 2] [0] rfl rfl (by decide +kernel) (by decide +kernel) ?_
            clear hP hD hS
            intro r_128 u_130 H locs w_129 hP hD hS
            replace hP : va_P D vwCl [(k4, .inl (cI, 6, .inl c4)), (k, .inr (11, [.ref k0, .ref k1, .ref k2, .int c3, .ref k4, .ref k5, .ref k6, .ref k7, .ref k8, .int c9, .ref ka, .ref kb, .int cc, .int cd, .int ce, .int cf, .int cg, .int ch, .int ci, .int cj, .int ck, .ref kl, .int cm, .int cn, .ref ko])), (k0, .inl (cI, 1201, .inl c0))] H := hP
            replace hD : va_D A [(k4, .inl (cI, 6, .inl c4)), (k, .inr (11, [.ref k0, .ref k1, .ref k2, .int c3, .ref k4, .ref k5, .ref k6, .ref k7, .ref k8, .int c9, .ref ka, .ref kb, .int cc, .int cd, .int ce, .int cf, .int cg, .int ch, .int ci, .int cj, .int ck, .ref kl, .int cm, .int cn, .ref ko])), (k0, .inl (cI, 1201, .inl c0))] := hD
            have h_131 := w_129
            have h_131 : r_128 = pW c0 a0 4 := h_131
            have t_132 : r_128.toInt = (pW c0 a0 4).toInt := by rw [h_131]
            have lo_r_128 := k_lo r_128
            have hi_r_128 := k_hi r_128
            refine lv_iload_n hx hb dX11_give_88 rfl (lv_at hl 4 rfl) ?_
            refine lv_iadd hx hb dX11_give_89 ?_
            refine lv_topi (fun v_133 ev_133 => ?_)
            have lo_v_133 := k_lo v_133
            have hi_v_133 := k_hi v_133
            refine lv_iload_n hx hb dX11_give_90 rfl (lv_at hl 3 rfl) ?_
            refine lv_iconst (v := 2) hx hb dX11_give_91 (by decide +kernel) ?_
            refine b_icmp_ne hx hb rfl zl_2 (tgt := 100) dX11_give_92 (by decide +kernel) (fun c_134 => by exfalso; omega) (fun c_134 => ?_)
            refine lv_bipush (v := 99) hx hb dX11_give_95 (by decide +kernel) ?_
            refine lv_goto (tgt := 103) hx hb dX11_give_97 (by decide +kernel) ?_
            refine b_icmp_le hx hb rfl zl_99 (tgt := 113) dX11_give_103 (by decide +kernel) (fun c_135 => ?_) (fun c_135 => ?_)
            · refine lv_aload_n hx hb dX11_give_113 rfl (lv_at hl 1 rfl) ?_
              refine lv_iload_n hx hb dX11_give_114 rfl (lv_at hl 2 rfl) ?_
              refine lv_iload hx hb dX11_give_115 (lv_at hl 0 rfl) ?_
              refine lv_aload_n hx hb dX11_give_117 rfl (lv_at hl 1 rfl) ?_
              refine lv_iload_n hx hb dX11_give_118 rfl (lv_at hl 2 rfl) ?_
              refine lv_iload hx hb dX11_give_119 (lv_at hl 0 rfl) ?_
              refine kJi (wr := [(k4, .inl (cI, 6, .inl c4))]) (va_runV (As := [.int a0, .int 4]) (rest := [.int 4, .int a0, .ref k]) ⟨hx, hb, hml, hown, hT⟩ (c_X11_partyG4 l D cI aK aV k k0 k1 k2 k4 k5 k6 k7 k8 ka kb kl ko H.size c3 c9 cc cd ce cf cg ch ci cj ck cm cn c0 a0 4 (by first | omega | (simp only [zl_4]; first | done | omega) | decide | assumption | rfl) (by first | omega | (simp only [zl_4]; first | done | omega) | decide | assumption | rfl) (by first | omega | (simp only [zl_4]; first | done | omega) | decide | assumption | rfl)) (cwV 2 hT (gV_in mw_1416 mw_1413 mw_1415 mw_p5_5 mw_12) rfl rfl rfl (by decide +kernel) ⟨Nat.le_of_ble_eq_true rfl, Nat.le_of_ble_eq_true rfl⟩) (kRecvX (q0 := 1) (ci := 11) hK hP hD hN hXS hS hA rfl rfl [1, 2] rfl (by decide +kernel)) rfl rfl hl.1 rfl (lv_room (Nat.le_of_ble_eq_true rfl)) dX11_give_121 ⟨Nat.le_of_ble_eq_true rfl, Nat.le_of_ble_eq_true rfl⟩) hP hD hS hA [1, 2] [0] rfl rfl (by decide +kernel) (by decide +kernel) ?_
              clear hP hD hS
              intro r_136 u_138 H locs w_137 hP hD hS
              replace hP : va_P D vwCl [(k4, .inl (cI, 6, .inl c4)), (k, .inr (11, [.ref k0, .ref k1, .ref k2, .int c3, .ref k4, .ref k5, .ref k6, .ref k7, .ref k8, .int c9, .ref ka, .ref kb, .int cc, .int cd, .int ce, .int cf, .int cg, .int ch, .int ci, .int cj, .int ck, .ref kl, .int cm, .int cn, .ref ko])), (k0, .inl (cI, 1201, .inl c0))] H := hP
              replace hD : va_D A [(k4, .inl (cI, 6, .inl c4)), (k, .inr (11, [.ref k0, .ref k1, .ref k2, .int c3, .ref k4, .ref k5, .ref k6, .ref k7, .ref k8, .int c9, .ref ka, .ref kb, .int cc, .int cd, .int ce, .int cf, .int cg, .int ch, .int ci, .int cj, .int ck, .ref kl, .int cm, .int cn, .ref ko])), (k0, .inl (cI, 1201, .inl c0))] := hD
              have h_139 := w_137
              have h_139 : r_136 = pW c0 a0 4 := h_139
              have t_140 : r_136.toInt = (pW c0 a0 4).toInt := by rw [h_139]
              have lo_r_136 := k_lo r_136
              have hi_r_136 := k_hi r_136
              refine lv_iload_n hx hb dX11_give_124 rfl (lv_at hl 4 rfl) ?_
              refine lv_iadd hx hb dX11_give_125 ?_
              refine lv_topi (fun v_141 ev_141 => ?_)
              have lo_v_141 := k_lo v_141
              have hi_v_141 := k_hi v_141
              refine kJv (wr := [(k4, .inl (cI, 6, .inl c4))]) (va_runV (As := [.int a0, .int 4, .int v_141]) (rest := []) ⟨hx, hb, hml, hown, hT⟩ (c_X11_setPartyG4 l D cI aK aV k k0 k1 k2 k4 k5 k6 k7 k8 ka kb kl ko H.size c3 c9 cc cd ce cf cg ch ci cj ck cm cn c0 a0 4 v_141 (by first | omega | (simp only [zl_4]; first | done | omega) | decide | assumption | rfl) (by first | omega | (simp only [zl_4]; first | done | omega) | decide | assumption | rfl) (by first | omega | (simp only [zl_4]; first | done | omega) | decide | assumption | rfl)) (cwV 3 hT (gV_in mw_1404 mw_1401 mw_1403 mw_p5_3 mw_12) rfl rfl rfl (by decide +kernel) ⟨Nat.le_of_ble_eq_true rfl, Nat.le_of_ble_eq_true rfl⟩) (kRecvX (q0 := 1) (ci := 11) hK hP hD hN hXS hS hA rfl rfl [1, 2] rfl (by decide +kernel)) rfl rfl hl.1 rfl (lv_room (Nat.le_of_ble_eq_true rfl)) dX11_give_126 ⟨Nat.le_of_ble_eq_true rfl, Nat.le_of_ble_eq_true rfl⟩) hP hD hS hA [1, 2] [0] rfl rfl (by decide +kernel) (by decide +kernel) ?_
              clear hP hD hS
              intro sc0_144 H locs w_143 hP hD hS
              replace hP : va_P D vwCl [(k4, .inl (cI, 6, .inl c4)), (k, .inr (11, [.ref k0, .ref k1, .ref k2, .int c3, .ref k4, .ref k5, .ref k6, .ref k7, .ref k8, .int c9, .ref ka, .ref kb, .int cc, .int cd, .int ce, .int cf, .int cg, .int ch, .int ci, .int cj, .int ck, .ref kl, .int cm, .int cn, .ref ko])), (k0, .inl (cI, 1201, .inl sc0_144))] H := hP
              replace hD : va_D A [(k4, .inl (cI, 6, .inl c4)), (k, .inr (11, [.ref k0, .ref k1, .ref k2, .int c3, .ref k4, .ref k5, .ref k6, .ref k7, .ref k8, .int c9, .ref ka, .ref kb, .int cc, .int cd, .int ce, .int cf, .int cg, .int ch, .int ci, .int cj, .int ck, .ref kl, .int cm, .int cn, .ref ko])), (k0, .inl (cI, 1201, .inl sc0_144))] := hD
              have h_145 := w_143
              try simp only [zl_4] at h_145
              have h_145 : sc0_144 = upd c0 (459 + 9 * a0.toInt.toNat + 4) v_141 := h_145
              have h_145 : sc0_144 = upd c0 (459 + 9 * a0.toInt.toNat + 4) v_141 := h_145
              have hS_146 : SIX sc0_144 (-1) := SIX.p pre0 h_145 rfl (by omega) (by omega) (by decide +kernel) (by omega) (fun z => by omega) (fun z => by omega)
              have n_147 : (sc0_144 0).toInt = (c0 0).toInt := by rw [updN h_145 (by omega)]
              have n_148 : (sc0_144 1).toInt = (c0 1).toInt := by rw [updN h_145 (by omega)]
              have n_149 : (sc0_144 2).toInt = (c0 2).toInt := by rw [updN h_145 (by omega)]
              have n_150 : (pW sc0_144 a0 2).toInt = (pW c0 a0 2).toInt := by rw [pW_upd h_145 (by decide +kernel) (by decide +kernel) (Or.inl (by decide +kernel))]
              refine lv_aload_n hx hb dX11_give_129 rfl (lv_at hl 1 rfl) ?_
              refine lv_iload_n hx hb dX11_give_130 rfl (lv_at hl 2 rfl) ?_
              refine lv_iload hx hb dX11_give_131 (lv_at hl 0 rfl) ?_
              refine kJi (wr := [(k4, .inl (cI, 6, .inl c4))]) (va_runV (As := [.int a0, .int 4]) (rest := []) ⟨hx, hb, hml, hown, hT⟩ (c_X11_partyG4 l D cI aK aV k k0 k1 k2 k4 k5 k6 k7 k8 ka kb kl ko H.size c3 c9 cc cd ce cf cg ch ci cj ck cm cn sc0_144 a0 4 (by first | omega | (simp only [zl_4]; first | done | omega) | decide | assumption | rfl) (by first | omega | (simp only [zl_4]; first | done | omega) | decide | assumption | rfl) (by first | omega | (simp only [zl_4]; first | done | omega) | decide | assumption | rfl)) (cwV 2 hT (gV_in mw_1416 mw_1413 mw_1415 mw_p5_5 mw_12) rfl rfl rfl (by decide +kernel) ⟨Nat.le_of_ble_eq_true rfl, Nat.le_of_ble_eq_true rfl⟩) (kRecvX (q0 := 1) (ci := 11) hK hP hD hN hXS hS hA rfl rfl [1, 2] rfl (by decide +kernel)) rfl rfl hl.1 rfl (lv_room (Nat.le_of_ble_eq_true rfl)) dX11_give_133 ⟨Nat.le_of_ble_eq_true rfl, Nat.le_of_ble_eq_true rfl⟩) hP hD hS hA [1, 2] [0] rfl rfl (by decide +kernel) (by decide +kernel) ?_
              clear hP hD hS
              intro r_151 u_153 H locs w_152 hP hD hS
              replace hP : va_P D vwCl [(k4, .inl (cI, 6, .inl c4)), (k, .inr (11, [.ref k0, .ref k1, .ref k2, .int c3, .ref k4, .ref k5, .ref k6, .ref k7, .ref k8, .int c9, .ref ka, .ref kb, .int cc, .int cd, .int ce, .int cf, .int cg, .int ch, .int ci, .int cj, .int ck, .ref kl, .int cm, .int cn, .ref ko])), (k0, .inl (cI, 1201, .inl sc0_144))] H := hP
              replace hD : va_D A [(k4, .inl (cI, 6, .inl c4)), (k, .inr (11, [.ref k0, .ref k1, .ref k2, .int c3, .ref k4, .ref k5, .ref k6, .ref k7, .ref k8, .int c9, .ref ka, .ref kb, .int cc, .int cd, .int ce, .int cf, .int cg, .int ch, .int ci, .int cj, .int ck, .ref kl, .int cm, .int cn, .ref ko])), (k0, .inl (cI, 1201, .inl sc0_144))] := hD
              have h_154 := w_152
              have h_154 : r_151 = pW sc0_144 a0 4 := h_154
              have t_155 : r_151.toInt = (pW sc0_144 a0 4).toInt := by rw [h_154]
              have lo_r_151 := k_lo r_151
              have hi_r_151 := k_hi r_151
              exact hRet (sc0_144, c4) [1, 2, 0] ⟨hS_146, (by unfold giveR gvR; rw [show pW c0 a0 4 + a2 = v_133 from (by rw [ev_133, h_131])]; (repeat (first | rw [if_pos (by omega)] | rw [if_neg (by omega)])); first | done | exact (by rw [h_154, h_145]; unfold pW; rw [sp_at, ev_141, ev_133, h_139, h_131])), (by (try dsimp only); unfold giveS gvS; rw [show pW c0 a0 4 + a2 = v_133 from (by rw [ev_133, h_131])]; (repeat (first | rw [if_pos (by omega)] | rw [if_neg (by omega)])); first | done | exact (by rw [h_145, show v_141 = v_133 from (by rw [ev_141, ev_133, h_139, h_131])]))⟩ hP hD (by decide +kernel) rfl hS rfl dX11_give_136
            · refine lv_aload_n hx hb dX11_give_106 rfl (lv_at hl 1 rfl) ?_
              refine lv_ldc (v := (-1000004)) hx hb hown (hT _ mw_1256) dX11_give_107 ?_
              refine kJi (wr := [(k0, .inl (cI, 1201, .inl c0))]) (va_runV (As := [.int (-1000004)]) (rest := []) ⟨hx, hb, hml, hown, hT⟩ (c_X11_findingG l D cI aK aV k k0 k1 k2 k4 k5 k6 k7 k8 ka kb kl ko H.size c3 c9 cc cd ce cf cg ch ci cj ck cm cn c4 (-1000004) (by first | omega | (simp only [zl_m1000004]; first | done | omega) | decide | assumption | rfl) (by first | omega | (simp only [zl_m1000004]; first | done | omega) | decide | assumption | rfl)) (cwV 1 hT (gV_in mw_1243 mw_1240 mw_1242 mw_p3_8 mw_12) rfl rfl rfl (by decide +kernel) ⟨Nat.le_of_ble_eq_true rfl, Nat.le_of_ble_eq_true rfl⟩) (kRecvX (q0 := 1) (ci := 11) hK hP hD hN hXS hS hA rfl rfl [1, 0] rfl (by decide +kernel)) rfl rfl hl.1 rfl (lv_room (Nat.le_of_ble_eq_true rfl)) dX11_give_109 ⟨Nat.le_of_ble_eq_true rfl, Nat.le_of_ble_eq_true rfl⟩) hP hD hS hA [1, 0] [2] rfl rfl (by decide +kernel) (by decide +kernel) ?_
              clear hP hD hS
              intro r_156 sc4_158 H locs w_157 hP hD hS
              replace hP : va_P D vwCl [(k0, .inl (cI, 1201, .inl c0)), (k, .inr (11, [.ref k0, .ref k1, .ref k2, .int c3, .ref k4, .ref k5, .ref k6, .ref k7, .ref k8, .int c9, .ref ka, .ref kb, .int cc, .int cd, .int ce, .int cf, .int cg, .int ch, .int ci, .int cj, .int ck, .ref kl, .int cm, .int cn, .ref ko])), (k4, .inl (cI, 6, .inl sc4_158))] H := hP
              replace hD : va_D A [(k0, .inl (cI, 1201, .inl c0)), (k, .inr (11, [.ref k0, .ref k1, .ref k2, .int c3, .ref k4, .ref k5, .ref k6, .ref k7, .ref k8, .int c9, .ref ka, .ref kb, .int cc, .int cd, .int ce, .int cf, .int cg, .int ch, .int ci, .int cj, .int ck, .ref kl, .int cm, .int cn, .ref ko])), (k4, .inl (cI, 6, .inl sc4_158))] := hD
              have hr_156 := w_157
              obtain rfl : r_156 = (-1000004) := hr_156.trans (by decide +kernel)
              exact hRet (c0, sc4_158) [1, 0, 2] ⟨pre0, (by unfold giveR gvR; rw [show pW c0 a0 4 + a2 = v_133 from (by rw [ev_133, h_131])]; (repeat (first | rw [if_pos (by omega)] | rw [if_neg (by omega)]))), (by (try dsimp only); unfold giveS gvS; rw [show pW c0 a0 4 + a2 = v_133 from (by rw [ev_133, h_131])]; (repeat (first | rw [if_pos (by omega)] | rw [if_neg (by omega)])))⟩ hP hD (by decide +kernel) rfl hS rfl dX11_give_112
        · try simp only [zl_1, zl_99] at h_113
          have h_113 : a2.toInt < 1 ∨ 99 < a2.toInt := h_113
          obtain rfl : r_108 = 0 := hr_108.trans (by decide +kernel)
          refine b_if_ne hx hb zl_0 (tgt := 45) dX11_give_35 (by decide +kernel) (fun c_159 => by exfalso; omega) (fun c_159 => ?_)
          refine lv_aload_n hx hb dX11_give_38 rfl (lv_at hl 0 rfl) ?_
          refine lv_ldc (v := (-1000001)) hx hb hown (hT _ mw_1239) dX11_give_39 ?_
          refine kJi (wr := [(k0, .inl (cI, 1201, .inl c0))]) (va_runV (As := [.int (-1000001)]) (rest := []) ⟨hx, hb, hml, hown, hT⟩ (c_X11_findingG l D cI aK aV k k0 k1 k2 k4 k5 k6 k7 k8 ka kb kl ko H.size c3 c9 cc cd ce cf cg ch ci cj ck cm cn c4 (-1000001) (by first | omega | (simp only [zl_m1000001]; first | done | omega) | decide | assumption | rfl) (by first | omega | (simp only [zl_m1000001]; first | done | omega) | decide | assumption | rfl)) (cwV 1 hT (gV_in mw_1243 mw_1240 mw_1242 mw_p3_8 mw_12) rfl rfl rfl (by decide +kernel) ⟨Nat.le_of_ble_eq_true rfl, Nat.le_of_ble_eq_true rfl⟩) (kRecvX (q0 := 1) (ci := 11) hK hP hD hN hXS hS hA rfl rfl [1, 0] rfl (by decide +kernel)) rfl rfl hl.1 rfl (lv_room (Nat.le_of_ble_eq_true rfl)) dX11_give_41 ⟨Nat.le_of_ble_eq_true rfl, Nat.le_of_ble_eq_true rfl⟩) hP hD hS hA [1, 0] [2] rfl rfl (by decide +kernel) (by decide +kernel) ?_
          clear hP hD hS
          intro r_160 sc4_162 H locs w_161 hP hD hS
          replace hP : va_P D vwCl [(k0, .inl (cI, 1201, .inl c0)), (k, .inr (11, [.ref k0, .ref k1, .ref k2, .int c3, .ref k4, .ref k5, .ref k6, .ref k7, .ref k8, .int c9, .ref ka, .ref kb, .int cc, .int cd, .int ce, .int cf, .int cg, .int ch, .int ci, .int cj, .int ck, .ref kl, .int cm, .int cn, .ref ko])), (k4, .inl (cI, 6, .inl sc4_162))] H := hP
          replace hD : va_D A [(k0, .inl (cI, 1201, .inl c0)), (k, .inr (11, [.ref k0, .ref k1, .ref k2, .int c3, .ref k4, .ref k5, .ref k6, .ref k7, .ref k8, .int c9, .ref ka, .ref kb, .int cc, .int cd, .int ce, .int cf, .int cg, .int ch, .int ci, .int cj, .int ck, .ref kl, .int cm, .int cn, .ref ko])), (k4, .inl (cI, 6, .inl sc4_162))] := hD
          have hr_160 := w_161
          obtain rfl : r_160 = (-1000001) := hr_160.trans (by decide +kernel)
          exact hRet (c0, sc4_162) [1, 0, 2] ⟨pre0, (by (try dsimp only); unfold giveR; unfold gvR; by_cases ha_ : a1.toInt = 0 <;> first | (exfalso; omega) | (repeat (first | rw [if_pos (by omega)] | rw [if_neg (by omega)]))), (by (try dsimp only); unfold giveS; unfold gvS; by_cases ha_ : a1.toInt = 0 <;> first | (exfalso; omega) | (repeat (first | rw [if_pos (by omega)] | rw [if_neg (by omega)])))⟩ hP hD (by decide +kernel) rfl hS rfl dX11_give_44
    · try simp only [zl_0, zl_2] at h_16
      have h_16 : a1.toInt < 0 ∨ 2 < a1.toInt := h_16
      obtain rfl : r_11 = 0 := hr_11.trans (by decide +kernel)
      refine b_if_eq hx hb zl_0 (tgt := 38) dX11_give_14 (by decide +kernel) (fun c_163 => ?_) (fun c_163 => by exfalso; omega)
      refine lv_aload_n hx hb dX11_give_38 rfl (lv_at hl 0 rfl) ?_
      refine lv_ldc (v := (-1000001)) hx hb hown (hT _ mw_1239) dX11_give_39 ?_
      refine kJi (wr := [(k0, .inl (cI, 1201, .inl c0))]) (va_runV (As := [.int (-1000001)]) (rest := []) ⟨hx, hb, hml, hown, hT⟩ (c_X11_findingG l D cI aK aV k k0 k1 k2 k4 k5 k6 k7 k8 ka kb kl ko H.size c3 c9 cc cd ce cf cg ch ci cj ck cm cn c4 (-1000001) (by first | omega | (simp only [zl_m1000001]; first | done | omega) | decide | assumption | rfl) (by first | omega | (simp only [zl_m1000001]; first | done | omega) | decide | assumption | rfl)) (cwV 1 hT (gV_in mw_1243 mw_1240 mw_1242 mw_p3_8 mw_12) rfl rfl rfl (by decide +kernel) ⟨Nat.le_of_ble_eq_true rfl, Nat.le_of_ble_eq_true rfl⟩) (kRecvX (q0 := 1) (ci := 11) hK hP hD hN hXS hS hA rfl rfl [1, 0] rfl (by decide +kernel)) rfl rfl hl.1 rfl (lv_room (Nat.le_of_ble_eq_true rfl)) dX11_give_41 ⟨Nat.le_of_ble_eq_true rfl, Nat.le_of_ble_eq_true rfl⟩) hP hD hS hA [1, 0] [2] rfl rfl (by decide +kernel) (by decide +kernel) ?_
      clear hP hD hS
      intro r_164 sc4_166 H locs w_165 hP hD hS
      replace hP : va_P D vwCl [(k0, .inl (cI, 1201, .inl c0)), (k, .inr (11, [.ref k0, .ref k1, .ref k2, .int c3, .ref k4, .ref k5, .ref k6, .ref k7, .ref k8, .int c9, .ref ka, .ref kb, .int cc, .int cd, .int ce, .int cf, .int cg, .int ch, .int ci, .int cj, .int ck, .ref kl, .int cm, .int cn, .ref ko])), (k4, .inl (cI, 6, .inl sc4_166))] H := hP
      replace hD : va_D A [(k0, .inl (cI, 1201, .inl c0)), (k, .inr (11, [.ref k0, .ref k1, .ref k2, .int c3, .ref k4, .ref k5, .ref k6, .ref k7, .ref k8, .int c9, .ref ka, .ref kb, .int cc, .int cd, .int ce, .int cf, .int cg, .int ch, .int ci, .int cj, .int ck, .ref kl, .int cm, .int cn, .ref ko])), (k4, .inl (cI, 6, .inl sc4_166))] := hD
      have hr_164 := w_165
      obtain rfl : r_164 = (-1000001) := hr_164.trans (by decide +kernel)
      exact hRet (c0, sc4_166) [1, 0, 2] ⟨pre0, (by (try dsimp only); unfold giveR; unfold gvR; by_cases ha_ : a1.toInt = 0 <;> first | (exfalso; omega) | (repeat (first | rw [if_pos (by omega)] | rw [if_neg (by omega)]))), (by (try dsimp only); unfold giveS; unfold gvS; by_cases ha_ : a1.toInt = 0 <;> first | (exfalso; omega) | (repeat (first | rw [if_pos (by omega)] | rw [if_neg (by omega)])))⟩ hP hD (by decide +kernel) rfl hS rfl dX11_give_44
  · have h_9 : a0.toInt < 0 ∨ (c0 2).toInt ≤ a0.toInt := h_9
    obtain rfl : r_4 = 0 := hr_4.trans (by decide +kernel)
    refine b_if_eq hx hb zl_0 (tgt := 38) dX11_give_5 (by decide +kernel) (fun c_167 => ?_) (fun c_167 => by exfalso; omega)
    refine lv_aload_n hx hb dX11_give_38 rfl (lv_at hl 0 rfl) ?_
    refine lv_ldc (v := (-1000001)) hx hb hown (hT _ mw_1239) dX11_give_39 ?_
    refine kJi (wr := [(k0, .inl (cI, 1201, .inl c0))]) (va_runV (As := [.int (-1000001)]) (rest := []) ⟨hx, hb, hml, hown, hT⟩ (c_X11_findingG l D cI aK aV k k0 k1 k2 k4 k5 k6 k7 k8 ka kb kl ko H.size c3 c9 cc cd ce cf cg ch ci cj ck cm cn c4 (-1000001) (by first | omega | (simp only [zl_m1000001]; first | done | omega) | decide | assumption | rfl) (by first | omega | (simp only [zl_m1000001]; first | done | omega) | decide | assumption | rfl)) (cwV 1 hT (gV_in mw_1243 mw_1240 mw_1242 mw_p3_8 mw_12) rfl rfl rfl (by decide +kernel) ⟨Nat.le_of_ble_eq_true rfl, Nat.le_of_ble_eq_true rfl⟩) (kRecvX (q0 := 1) (ci := 11) hK hP hD hN hXS hS hA rfl rfl [1, 0] rfl (by decide +kernel)) rfl rfl hl.1 rfl (lv_room (Nat.le_of_ble_eq_true rfl)) dX11_give_41 ⟨Nat.le_of_ble_eq_true rfl, Nat.le_of_ble_eq_true rfl⟩) hP hD hS hA [1, 0] [2] rfl rfl (by decide +kernel) (by decide +kernel) ?_
    clear hP hD hS
    intro r_168 sc4_170 H locs w_169 hP hD hS
    replace hP : va_P D vwCl [(k0, .inl (cI, 1201, .inl c0)), (k, .inr (11, [.ref k0, .ref k1, .ref k2, .int c3, .ref k4, .ref k5, .ref k6, .ref k7, .ref k8, .int c9, .ref ka, .ref kb, .int cc, .int cd, .int ce, .int cf, .int cg, .int ch, .int ci, .int cj, .int ck, .ref kl, .int cm, .int cn, .ref ko])), (k4, .inl (cI, 6, .inl sc4_170))] H := hP
    replace hD : va_D A [(k0, .inl (cI, 1201, .inl c0)), (k, .inr (11, [.ref k0, .ref k1, .ref k2, .int c3, .ref k4, .ref k5, .ref k6, .ref k7, .ref k8, .int c9, .ref ka, .ref kb, .int cc, .int cd, .int ce, .int cf, .int cg, .int ch, .int ci, .int cj, .int ck, .ref kl, .int cm, .int cn, .ref ko])), (k4, .inl (cI, 6, .inl sc4_170))] := hD
    have hr_168 := w_169
    obtain rfl : r_168 = (-1000001) := hr_168.trans (by decide +kernel)
    exact hRet (c0, sc4_170) [1, 0, 2] ⟨pre0, (by (try dsimp only); unfold giveR; unfold gvR; by_cases ha_ : a1.toInt = 0 <;> first | (exfalso; omega) | (repeat (first | rw [if_pos (by omega)] | rw [if_neg (by omega)]))), (by (try dsimp only); unfold giveS; unfold gvS; by_cases ha_ : a1.toInt = 0 <;> first | (exfalso; omega) | (repeat (first | rw [if_pos (by omega)] | rw [if_neg (by omega)])))⟩ hP hD (by decide +kernel) rfl hS rfl dX11_give_44
theorem bn_cX11_rest_0 : BN cX11_rest 0 0xad0201402a80282002a00f0142c7700adc3c090887056051b9f402b704844382b1f8100a015401410014d0755a4100adcbe131582c029a400056e1c15ab482015b900262b05805367a00adc382b := by
  unfold BN; decide +kernel
theorem dX11_rest_0 : decode cX11_rest 0 = .ok (.aload_n 0, 1) := dR0 (k := 0) (i := 0) bn_cX11_rest_0 dop_42 (by decide +kernel)
theorem dX11_rest_1 : decode cX11_rest 1 = .ok (.iload_n 1, 1) := dR0 (k := 0) (i := 1) bn_cX11_rest_0 dop_27 (by decide +kernel)
theorem dX11_rest_2 : decode cX11_rest 2 = .ok (.invokevirtual 121, 3) := dR2 (f := Instr.invokevirtual) (k := 0) (i := 2) bn_cX11_rest_0 dop_182 121 (by decide +kernel)
theorem dX11_rest_5 : decode cX11_rest 5 = .ok (.ifCond .ne 10, 3) := dR2s (f := Instr.ifCond .ne) (k := 0) (i := 5) bn_cX11_rest_0 dop_154 10 10 (by decide +kernel)
theorem dX11_rest_8 : decode cX11_rest 8 = .ok (.aload_n 0, 1) := dR0 (k := 0) (i := 8) bn_cX11_rest_0 dop_42 (by decide +kernel)
theorem dX11_rest_9 : decode cX11_rest 9 = .ok (.ldc 63, 2) := dR1 (f := Instr.ldc) (k := 0) (i := 9) bn_cX11_rest_0 dop_18 63 (by decide +kernel)
theorem dX11_rest_11 : decode cX11_rest 11 = .ok (.invokevirtual 64, 3) := dR2 (f := Instr.invokevirtual) (k := 0) (i := 11) bn_cX11_rest_0 dop_182 64 (by decide +kernel)
theorem dX11_rest_14 : decode cX11_rest 14 = .ok (.ireturn, 1) := dR0 (k := 0) (i := 14) bn_cX11_rest_0 dop_172 (by decide +kernel)
theorem dX11_rest_15 : decode cX11_rest 15 = .ok (.aload_n 0, 1) := dR0 (k := 0) (i := 15) bn_cX11_rest_0 dop_42 (by decide +kernel)
theorem dX11_rest_16 : decode cX11_rest 16 = .ok (.iload_n 1, 1) := dR0 (k := 0) (i := 16) bn_cX11_rest_0 dop_27 (by decide +kernel)
theorem dX11_rest_17 : decode cX11_rest 17 = .ok (.invokevirtual 127, 3) := dR2 (f := Instr.invokevirtual) (k := 0) (i := 17) bn_cX11_rest_0 dop_182 127 (by decide +kernel)
theorem dX11_rest_20 : decode cX11_rest 20 = .ok (.ifCond .eq 10, 3) := dR2s (f := Instr.ifCond .eq) (k := 0) (i := 20) bn_cX11_rest_0 dop_153 10 10 (by decide +kernel)
theorem dX11_rest_23 : decode cX11_rest 23 = .ok (.aload_n 0, 1) := dR0 (k := 0) (i := 23) bn_cX11_rest_0 dop_42 (by decide +kernel)
theorem dX11_rest_24 : decode cX11_rest 24 = .ok (.ldc 94, 2) := dR1 (f := Instr.ldc) (k := 0) (i := 24) bn_cX11_rest_0 dop_18 94 (by decide +kernel)
theorem dX11_rest_26 : decode cX11_rest 26 = .ok (.invokevirtual 64, 3) := dR2 (f := Instr.invokevirtual) (k := 0) (i := 26) bn_cX11_rest_0 dop_182 64 (by decide +kernel)
theorem dX11_rest_29 : decode cX11_rest 29 = .ok (.ireturn, 1) := dR0 (k := 0) (i := 29) bn_cX11_rest_0 dop_172 (by decide +kernel)
theorem dX11_rest_30 : decode cX11_rest 30 = .ok (.iload_n 2, 1) := dR0 (k := 0) (i := 30) bn_cX11_rest_0 dop_28 (by decide +kernel)
theorem dX11_rest_31 : decode cX11_rest 31 = .ok (.ifCond .eq 7, 3) := dR2s (f := Instr.ifCond .eq) (k := 0) (i := 31) bn_cX11_rest_0 dop_153 7 7 (by decide +kernel)
theorem dX11_rest_34 : decode cX11_rest 34 = .ok (.iconst 1, 1) := dR0 (k := 0) (i := 34) bn_cX11_rest_0 dop_4 (by decide +kernel)
theorem dX11_rest_35 : decode cX11_rest 35 = .ok (.goto 4, 3) := dR2s (f := Instr.goto) (k := 0) (i := 35) bn_cX11_rest_0 dop_167 4 4 (by decide +kernel)
theorem dX11_rest_38 : decode cX11_rest 38 = .ok (.iconst 0, 1) := dR0 (k := 0) (i := 38) bn_cX11_rest_0 dop_3 (by decide +kernel)
theorem dX11_rest_39 : decode cX11_rest 39 = .ok (.istore_n 3, 1) := dR0 (k := 0) (i := 39) bn_cX11_rest_0 dop_62 (by decide +kernel)
theorem dX11_rest_40 : decode cX11_rest 40 = .ok (.aload_n 0, 1) := dR0 (k := 0) (i := 40) bn_cX11_rest_0 dop_42 (by decide +kernel)
theorem dX11_rest_41 : decode cX11_rest 41 = .ok (.iload_n 1, 1) := dR0 (k := 0) (i := 41) bn_cX11_rest_0 dop_27 (by decide +kernel)
theorem dX11_rest_42 : decode cX11_rest 42 = .ok (.bipush 8, 2) := dR1s (f := Instr.bipush) (k := 0) (i := 42) bn_cX11_rest_0 dop_16 8 8 (by decide +kernel)
theorem dX11_rest_44 : decode cX11_rest 44 = .ok (.invokevirtual 124, 3) := dR2 (f := Instr.invokevirtual) (k := 0) (i := 44) bn_cX11_rest_0 dop_182 124 (by decide +kernel)
theorem dX11_rest_47 : decode cX11_rest 47 = .ok (.istore 4, 2) := dR1 (f := Instr.istore) (k := 0) (i := 47) bn_cX11_rest_0 dop_54 4 (by decide +kernel)
theorem dX11_rest_49 : decode cX11_rest 49 = .ok (.aload_n 0, 1) := dR0 (k := 0) (i := 49) bn_cX11_rest_0 dop_42 (by decide +kernel)
theorem dX11_rest_50 : decode cX11_rest 50 = .ok (.iload_n 1, 1) := dR0 (k := 0) (i := 50) bn_cX11_rest_0 dop_27 (by decide +kernel)
theorem dX11_rest_51 : decode cX11_rest 51 = .ok (.bipush 8, 2) := dR1s (f := Instr.bipush) (k := 0) (i := 51) bn_cX11_rest_0 dop_16 8 8 (by decide +kernel)
theorem dX11_rest_53 : decode cX11_rest 53 = .ok (.iload_n 3, 1) := dR0 (k := 0) (i := 53) bn_cX11_rest_0 dop_29 (by decide +kernel)
theorem dX11_rest_54 : decode cX11_rest 54 = .ok (.invokevirtual 118, 3) := dR2 (f := Instr.invokevirtual) (k := 0) (i := 54) bn_cX11_rest_0 dop_182 118 (by decide +kernel)
theorem dX11_rest_57 : decode cX11_rest 57 = .ok (.iload 4, 2) := dR1 (f := Instr.iload) (k := 0) (i := 57) bn_cX11_rest_0 dop_21 4 (by decide +kernel)
theorem dX11_rest_59 : decode cX11_rest 59 = .ok (.iload_n 3, 1) := dR0 (k := 0) (i := 59) bn_cX11_rest_0 dop_29 (by decide +kernel)
theorem dX11_rest_60 : decode cX11_rest 60 = .ok (.if_icmp .eq 7, 3) := dR2s (f := Instr.if_icmp .eq) (k := 0) (i := 60) bn_cX11_rest_0 dop_159 7 7 (by decide +kernel)
theorem dX11_rest_63 : decode cX11_rest 63 = .ok (.iconst 1, 1) := dR0 (k := 0) (i := 63) bn_cX11_rest_0 dop_4 (by decide +kernel)
theorem dX11_rest_64 : decode cX11_rest 64 = .ok (.goto 4, 3) := dR2s (f := Instr.goto) (k := 0) (i := 64) bn_cX11_rest_0 dop_167 4 4 (by decide +kernel)
theorem dX11_rest_67 : decode cX11_rest 67 = .ok (.iconst 0, 1) := dR0 (k := 0) (i := 67) bn_cX11_rest_0 dop_3 (by decide +kernel)
theorem dX11_rest_68 : decode cX11_rest 68 = .ok (.ireturn, 1) := dR0 (k := 0) (i := 68) bn_cX11_rest_0 dop_172 (by decide +kernel)
set_option maxHeartbeats 4000000 in
set_option maxRecDepth 100000 in
theorem c_X11_restG (l : Launch) (D : va_G) (cI : ClassId) (aK aV : Nat → Nat) (k k0 k1 k2 k4 k5 k6 k7 k8 ka kb kl ko : Nat) (sz : Nat) (c3 : Int32) (c9 : Int32) (cc : Int32) (cd : Int32) (ce : Int32) (cf : Int32) (cg : Int32) (ch : Int32) (ci : Int32) (cj : Int32) (ck : Int32) (cm : Int32) (cn : Int32) (c0 : Nat → Int32) (c4 : Nat → Int32) (a0 : Int32) (a1 : Int32) (pre0 : SIX c0 (-1)) : Met l yX11_rest (gW yX11_rest cX11_rest 5 (some .int)) ({ frames := 2, cells := 0, slots := 0, locals := 43 } : Room) (kPreX D cI aK aV [.ref k, .int a0, .int a1] [(k, .inr (11, [.ref k0, .ref k1, .ref k2, .int c3, .ref k4, .ref k5, .ref k6, .ref k7, .ref k8, .int c9, .ref ka, .ref kb, .int cc, .int cd, .int ce, .int cf, .int cg, .int ch, .int ci, .int cj, .int ck, .ref kl, .int cm, .int cn, .ref ko])), (k0, .inl (cI, 1201, .inl c0)), (k4, .inl (cI, 6, .inl c4))] sz) (va_Qi (fun (r : Int32) (u : (Nat → Int32) × (Nat → Int32)) => SIX u.1 (-1) ∧ r = rstPR c0 a0 a1 ∧ u.1 = rstPS c0 a0 a1) (fun u t => kWd D cI (va_A [(k, .inr (11, [.ref k0, .ref k1, .ref k2, .int c3, .ref k4, .ref k5, .ref k6, .ref k7, .ref k8, .int c9, .ref ka, .ref kb, .int cc, .int cd, .int ce, .int cf, .int cg, .int ch, .int ci, .int cj, .int ck, .ref kl, .int cm, .int cn, .ref ko])), (k0, .inl (cI, 1201, .inl c0)), (k4, .inl (cI, 6, .inl c4))] sz) [(k, .inr (11, [.ref k0, .ref k1, .ref k2, .int c3, .ref k4, .ref k5, .ref k6, .ref k7, .ref k8, .int c9, .ref ka, .ref kb, .int cc, .int cd, .int ce, .int cf, .int cg, .int ch, .int ci, .int cj, .int ck, .ref kl, .int cm, .int cn, .ref ko])), (k0, .inl (cI, 1201, .inl u.1)), (k4, .inl (cI, 6, .inl u.2))] t) (va_A [(k, .inr (11, [.ref k0, .ref k1, .ref k2, .int c3, .ref k4, .ref k5, .ref k6, .ref k7, .ref k8, .int c9, .ref ka, .ref kb, .int cc, .int cd, .int ce, .int cf, .int cg, .int ch, .int ci, .int cj, .int ck, .ref kl, .int cm, .int cn, .ref ko])), (k0, .inl (cI, 1201, .inl c0)), (k4, .inl (cI, 6, .inl c4))] sz)) 0 0 (va_A [(k, .inr (11, [.ref k0, .ref k1, .ref k2, .int c3, .ref k4, .ref k5, .ref k6, .ref k7, .ref k8, .int c9, .ref ka, .ref kb, .int cc, .int cd, .int ce, .int cf, .int cg, .int ch, .int ci, .int cj, .int ck, .ref kl, .int cm, .int cn, .ref ko])), (k0, .inl (cI, 1201, .inl c0)), (k4, .inl (cI, 6, .inl c4))] sz) := by
  refine kMetIX (own := RX11) (by decide +kernel) rfl (Nat.le_of_ble_eq_true rfl) ?_
  intro p e s m args below meth c hx hb hT hown hname hml A Q hK hP hD hS hA hN hXS hRet ls hl
  have hl : lv_has ls 5 [(0, .ref k), (1, .int a0), (2, .int a1)] := hl
  have lo_a0 := k_lo a0
  have hi_a0 := k_hi a0
  have lo_a1 := k_lo a1
  have hi_a1 := k_hi a1
  have lo_ci := k_lo ci
  have hi_ci := k_hi ci
  have pre0 : SIX c0 (-1) := pre0
  have nb_1 : 0 ≤ (c0 0).toInt ∧ (c0 0).toInt ≤ 2000 := SB.n0 (And.left pre0)
  have nb_2 : 0 ≤ (c0 1).toInt ∧ (c0 1).toInt ≤ 60 := SB.n1 (And.left pre0)
  have nb_3 : 0 ≤ (c0 2).toInt ∧ (c0 2).toInt ≤ 4 := SB.n2 (And.left pre0)
  refine lv_aload_n hx hb dX11_rest_0 rfl (lv_at hl 0 rfl) ?_
  refine lv_iload_n hx hb dX11_rest_1 rfl (lv_at hl 1 rfl) ?_
  refine kJi (wr := [(k4, .inl (cI, 6, .inl c4))]) (va_runV (As := [.int a0]) (rest := []) ⟨hx, hb, hml, hown, hT⟩ (c_X11_isPartyG l D cI aK aV k k0 k1 k2 k4 k5 k6 k7 k8 ka kb kl ko s.heap.size c3 c9 cc cd ce cf cg ch ci cj ck cm cn c0 a0 (And.left pre0)) (cwV 1 hT (gV_in mw_1412 mw_1409 mw_1411 mw_p5_4 mw_12) rfl rfl rfl (by decide +kernel) ⟨Nat.le_of_ble_eq_true rfl, Nat.le_of_ble_eq_true rfl⟩) (kRecvX (q0 := 0) (ci := 11) hK hP hD hN hXS hS hA rfl rfl [0, 1] rfl (by decide +kernel)) rfl rfl hl.1 rfl (lv_room (Nat.le_of_ble_eq_true rfl)) dX11_rest_2 ⟨Nat.le_of_ble_eq_true rfl, Nat.le_of_ble_eq_true rfl⟩) hP hD hS hA [0, 1] [2] rfl rfl (by decide +kernel) (by decide +kernel) ?_
  clear hP hD hS
  intro r_4 u_6 H locs w_5 hP hD hS
  replace hP : va_P D vwCl [(k4, .inl (cI, 6, .inl c4)), (k, .inr (11, [.ref k0, .ref k1, .ref k2, .int c3, .ref k4, .ref k5, .ref k6, .ref k7, .ref k8, .int c9, .ref ka, .ref kb, .int cc, .int cd, .int ce, .int cf, .int cg, .int ch, .int ci, .int cj, .int ck, .ref kl, .int cm, .int cn, .ref ko])), (k0, .inl (cI, 1201, .inl c0))] H := hP
  replace hD : va_D A [(k4, .inl (cI, 6, .inl c4)), (k, .inr (11, [.ref k0, .ref k1, .ref k2, .int c3, .ref k4, .ref k5, .ref k6, .ref k7, .ref k8, .int c9, .ref ka, .ref kb, .int cc, .int cd, .int ce, .int cf, .int cg, .int ch, .int ci, .int cj, .int ck, .ref kl, .int cm, .int cn, .ref ko])), (k0, .inl (cI, 1201, .inl c0))] := hD
  rcases w_5 with ⟨hr_4, h_7, h_8⟩ | ⟨hr_4, h_9⟩
  · have h_7 : 0 ≤ a0.toInt := h_7
    have h_8 : a0.toInt < (c0 2).toInt := h_8
    obtain rfl : r_4 = 1 := hr_4.trans (by decide +kernel)
    refine b_if_ne hx hb zl_1 (tgt := 15) dX11_rest_5 (by decide +kernel) (fun c_10 => ?_) (fun c_10 => by exfalso; omega)
    refine lv_aload_n hx hb dX11_rest_15 rfl (lv_at hl 0 rfl) ?_
    refine lv_iload_n hx hb dX11_rest_16 rfl (lv_at hl 1 rfl) ?_
    refine kJi (wr := [(k4, .inl (cI, 6, .inl c4))]) (va_runV (As := [.int a0]) (rest := []) ⟨hx, hb, hml, hown, hT⟩ (c_X11_isLostG l D cI aK aV k k0 k1 k2 k4 k5 k6 k7 k8 ka kb kl ko H.size c3 c9 cc cd ce cf cg ch ci cj ck cm cn c0 a0 pre0 (by first | omega | decide | assumption | rfl) (by first | omega | decide | assumption | rfl) (by first | omega | decide | assumption | rfl)) (cwV 1 hT (gV_in mw_1424 mw_1421 mw_1423 mw_p5_6 mw_12) rfl rfl rfl (by decide +kernel) ⟨Nat.le_of_ble_eq_true rfl, Nat.le_of_ble_eq_true rfl⟩) (kRecvX (q0 := 1) (ci := 11) hK hP hD hN hXS hS hA rfl rfl [1, 2] rfl (by decide +kernel)) rfl rfl hl.1 rfl (lv_room (Nat.le_of_ble_eq_true rfl)) dX11_rest_17 ⟨Nat.le_of_ble_eq_true rfl, Nat.le_of_ble_eq_true rfl⟩) hP hD hS hA [1, 2] [0] rfl rfl (by decide +kernel) (by decide +kernel) ?_
    clear hP hD hS
    intro r_11 u_13 H locs w_12 hP hD hS
    replace hP : va_P D vwCl [(k4, .inl (cI, 6, .inl c4)), (k, .inr (11, [.ref k0, .ref k1, .ref k2, .int c3, .ref k4, .ref k5, .ref k6, .ref k7, .ref k8, .int c9, .ref ka, .ref kb, .int cc, .int cd, .int ce, .int cf, .int cg, .int ch, .int ci, .int cj, .int ck, .ref kl, .int cm, .int cn, .ref ko])), (k0, .inl (cI, 1201, .inl c0))] H := hP
    replace hD : va_D A [(k4, .inl (cI, 6, .inl c4)), (k, .inr (11, [.ref k0, .ref k1, .ref k2, .int c3, .ref k4, .ref k5, .ref k6, .ref k7, .ref k8, .int c9, .ref ka, .ref kb, .int cc, .int cd, .int ce, .int cf, .int cg, .int ch, .int ci, .int cj, .int ck, .ref kl, .int cm, .int cn, .ref ko])), (k0, .inl (cI, 1201, .inl c0))] := hD
    rcases w_12 with ⟨hr_11, h_14⟩ | ⟨hr_11, h_15, h_16⟩
    · have h_14 : (pW c0 a0 8).toInt = 2 := h_14
      obtain rfl : r_11 = 1 := hr_11.trans (by decide +kernel)
      refine b_if_eq hx hb zl_1 (tgt := 30) dX11_rest_20 (by decide +kernel) (fun c_17 => by exfalso; omega) (fun c_17 => ?_)
      refine lv_aload_n hx hb dX11_rest_23 rfl (lv_at hl 0 rfl) ?_
      refine lv_ldc (v := (-1000003)) hx hb hown (hT _ mw_1356) dX11_rest_24 ?_
      refine kJi (wr := [(k0, .inl (cI, 1201, .inl c0))]) (va_runV (As := [.int (-1000003)]) (rest := []) ⟨hx, hb, hml, hown, hT⟩ (c_X11_findingG l D cI aK aV k k0 k1 k2 k4 k5 k6 k7 k8 ka kb kl ko H.size c3 c9 cc cd ce cf cg ch ci cj ck cm cn c4 (-1000003) (by first | omega | (simp only [zl_m1000003]; first | done | omega) | decide | assumption | rfl) (by first | omega | (simp only [zl_m1000003]; first | done | omega) | decide | assumption | rfl)) (cwV 1 hT (gV_in mw_1243 mw_1240 mw_1242 mw_p3_8 mw_12) rfl rfl rfl (by decide +kernel) ⟨Nat.le_of_ble_eq_true rfl, Nat.le_of_ble_eq_true rfl⟩) (kRecvX (q0 := 1) (ci := 11) hK hP hD hN hXS hS hA rfl rfl [1, 0] rfl (by decide +kernel)) rfl rfl hl.1 rfl (lv_room (Nat.le_of_ble_eq_true rfl)) dX11_rest_26 ⟨Nat.le_of_ble_eq_true rfl, Nat.le_of_ble_eq_true rfl⟩) hP hD hS hA [1, 0] [2] rfl rfl (by decide +kernel) (by decide +kernel) ?_
      clear hP hD hS
      intro r_18 sc4_20 H locs w_19 hP hD hS
      replace hP : va_P D vwCl [(k0, .inl (cI, 1201, .inl c0)), (k, .inr (11, [.ref k0, .ref k1, .ref k2, .int c3, .ref k4, .ref k5, .ref k6, .ref k7, .ref k8, .int c9, .ref ka, .ref kb, .int cc, .int cd, .int ce, .int cf, .int cg, .int ch, .int ci, .int cj, .int ck, .ref kl, .int cm, .int cn, .ref ko])), (k4, .inl (cI, 6, .inl sc4_20))] H := hP
      replace hD : va_D A [(k0, .inl (cI, 1201, .inl c0)), (k, .inr (11, [.ref k0, .ref k1, .ref k2, .int c3, .ref k4, .ref k5, .ref k6, .ref k7, .ref k8, .int c9, .ref ka, .ref kb, .int cc, .int cd, .int ce, .int cf, .int cg, .int ch, .int ci, .int cj, .int ck, .ref kl, .int cm, .int cn, .ref ko])), (k4, .inl (cI, 6, .inl sc4_20))] := hD
      have hr_18 := w_19
      obtain rfl : r_18 = (-1000003) := hr_18.trans (by decide +kernel)
      exact hRet (c0, sc4_20) [1, 0, 2] ⟨pre0, (by (try dsimp only); unfold rstPR; (repeat (first | rw [if_pos (by omega)] | rw [if_neg (by omega)]))), (by (try dsimp only); unfold rstPS; (repeat (first | rw [if_pos (by omega)] | rw [if_neg (by omega)])))⟩ hP hD (by decide +kernel) rfl hS rfl dX11_rest_29
    · have h_15 : (pW c0 a0 8).toInt ≠ 2 := h_15
      have h_16 : 1 ≤ (pW c0 a0 2).toInt := h_16
      obtain rfl : r_11 = 0 := hr_11.trans (by decide +kernel)
      refine b_if_eq hx hb zl_0 (tgt := 30) dX11_rest_20 (by decide +kernel) (fun c_21 => ?_) (fun c_21 => by exfalso; omega)
      refine lv_iload_n hx hb dX11_rest_30 rfl (lv_at hl 2 rfl) ?_
      refine b_if_eq hx hb rfl (tgt := 38) dX11_rest_31 (by decide +kernel) (fun c_22 => ?_) (fun c_22 => ?_)
      · refine lv_iconst (v := 0) hx hb dX11_rest_38 (by decide +kernel) ?_
        refine lv_istore_n (lv' := [(3, .int 0), (0, .ref k), (1, .int a0), (2, .int a1)]) hx hb dX11_rest_39 rfl hl (by decide +kernel) rfl ?_
        clear hl
        intro ls hl
        refine lv_aload_n hx hb dX11_rest_40 rfl (lv_at hl 1 rfl) ?_
        refine lv_iload_n hx hb dX11_rest_41 rfl (lv_at hl 2 rfl) ?_
        refine lv_bipush (v := 8) hx hb dX11_rest_42 (by decide +kernel) ?_
        refine kJi (wr := [(k4, .inl (cI, 6, .inl c4))]) (va_runV (As := [.int a0, .int 8]) (rest := []) ⟨hx, hb, hml, hown, hT⟩ (c_X11_partyG8 l D cI aK aV k k0 k1 k2 k4 k5 k6 k7 k8 ka kb kl ko H.size c3 c9 cc cd ce cf cg ch ci cj ck cm cn c0 a0 8 (by first | omega | (simp only [zl_8]; first | done | omega) | decide | assumption | rfl) (by first | omega | (simp only [zl_8]; first | done | omega) | decide | assumption | rfl) (by first | omega | (simp only [zl_8]; first | done | omega) | decide | assumption | rfl)) (cwV 2 hT (gV_in mw_1416 mw_1413 mw_1415 mw_p5_5 mw_12) rfl rfl rfl (by decide +kernel) ⟨Nat.le_of_ble_eq_true rfl, Nat.le_of_ble_eq_true rfl⟩) (kRecvX (q0 := 1) (ci := 11) hK hP hD hN hXS hS hA rfl rfl [1, 2] rfl (by decide +kernel)) rfl rfl hl.1 rfl (lv_room (Nat.le_of_ble_eq_true rfl)) dX11_rest_44 ⟨Nat.le_of_ble_eq_true rfl, Nat.le_of_ble_eq_true rfl⟩) hP hD hS hA [1, 2] [0] rfl rfl (by decide +kernel) (by decide +kernel) ?_
        clear hP hD hS
        intro r_23 u_25 H locs w_24 hP hD hS
        replace hP : va_P D vwCl [(k4, .inl (cI, 6, .inl c4)), (k, .inr (11, [.ref k0, .ref k1, .ref k2, .int c3, .ref k4, .ref k5, .ref k6, .ref k7, .ref k8, .int c9, .ref ka, .ref kb, .int cc, .int cd, .int ce, .int cf, .int cg, .int ch, .int ci, .int cj, .int ck, .ref kl, .int cm, .int cn, .ref ko])), (k0, .inl (cI, 1201, .inl c0))] H := hP
        replace hD : va_D A [(k4, .inl (cI, 6, .inl c4)), (k, .inr (11, [.ref k0, .ref k1, .ref k2, .int c3, .ref k4, .ref k5, .ref k6, .ref k7, .ref k8, .int c9, .ref ka, .ref kb, .int cc, .int cd, .int ce, .int cf, .int cg, .int ch, .int ci, .int cj, .int ck, .ref kl, .int cm, .int cn, .ref ko])), (k0, .inl (cI, 1201, .inl c0))] := hD
        have h_26 := w_24
        have h_26 : r_23 = pW c0 a0 8 := h_26
        have t_27 : r_23.toInt = (pW c0 a0 8).toInt := by rw [h_26]
        have lo_r_23 := k_lo r_23
        have hi_r_23 := k_hi r_23
        refine lv_istore (lv' := [(4, .int r_23), (3, .int 0), (0, .ref k), (1, .int a0), (2, .int a1)]) hx hb dX11_rest_47 hl (by decide +kernel) rfl ?_
        clear hl
        intro ls hl
        refine lv_aload_n hx hb dX11_rest_49 rfl (lv_at hl 2 rfl) ?_
        refine lv_iload_n hx hb dX11_rest_50 rfl (lv_at hl 3 rfl) ?_
        refine lv_bipush (v := 8) hx hb dX11_rest_51 (by decide +kernel) ?_
        refine lv_iload_n hx hb dX11_rest_53 rfl (lv_at hl 1 rfl) ?_
        refine kJv (wr := [(k4, .inl (cI, 6, .inl c4))]) (va_runV (As := [.int a0, .int 8, .int 0]) (rest := []) ⟨hx, hb, hml, hown, hT⟩ (c_X11_setPartyG8 l D cI aK aV k k0 k1 k2 k4 k5 k6 k7 k8 ka kb kl ko H.size c3 c9 cc cd ce cf cg ch ci cj ck cm cn c0 a0 8 0 (by first | omega | (simp only [zl_0, zl_8]; first | done | omega) | decide | assumption | rfl) (by first | omega | (simp only [zl_0, zl_8]; first | done | omega) | decide | assumption | rfl) (by first | omega | (simp only [zl_0, zl_8]; first | done | omega) | decide | assumption | rfl)) (cwV 3 hT (gV_in mw_1404 mw_1401 mw_1403 mw_p5_3 mw_12) rfl rfl rfl (by decide +kernel) ⟨Nat.le_of_ble_eq_true rfl, Nat.le_of_ble_eq_true rfl⟩) (kRecvX (q0 := 1) (ci := 11) hK hP hD hN hXS hS hA rfl rfl [1, 2] rfl (by decide +kernel)) rfl rfl hl.1 rfl (lv_room (Nat.le_of_ble_eq_true rfl)) dX11_rest_54 ⟨Nat.le_of_ble_eq_true rfl, Nat.le_of_ble_eq_true rfl⟩) hP hD hS hA [1, 2] [0] rfl rfl (by decide +kernel) (by decide +kernel) ?_
        clear hP hD hS
        intro sc0_30 H locs w_29 hP hD hS
        replace hP : va_P D vwCl [(k4, .inl (cI, 6, .inl c4)), (k, .inr (11, [.ref k0, .ref k1, .ref k2, .int c3, .ref k4, .ref k5, .ref k6, .ref k7, .ref k8, .int c9, .ref ka, .ref kb, .int cc, .int cd, .int ce, .int cf, .int cg, .int ch, .int ci, .int cj, .int ck, .ref kl, .int cm, .int cn, .ref ko])), (k0, .inl (cI, 1201, .inl sc0_30))] H := hP
        replace hD : va_D A [(k4, .inl (cI, 6, .inl c4)), (k, .inr (11, [.ref k0, .ref k1, .ref k2, .int c3, .ref k4, .ref k5, .ref k6, .ref k7, .ref k8, .int c9, .ref ka, .ref kb, .int cc, .int cd, .int ce, .int cf, .int cg, .int ch, .int ci, .int cj, .int ck, .ref kl, .int cm, .int cn, .ref ko])), (k0, .inl (cI, 1201, .inl sc0_30))] := hD
        have h_31 := w_29
        try simp only [zl_0, zl_8] at h_31
        have h_31 : sc0_30 = upd c0 (459 + 9 * a0.toInt.toNat + 8) 0 := h_31
        have h_31 : sc0_30 = upd c0 (459 + 9 * a0.toInt.toNat + 8) 0 := h_31
        have hS_32 : SIX sc0_30 (-1) := SIX.p pre0 h_31 zl_0 (by omega) (by omega) (by decide +kernel) (by omega) (fun z => by omega) (fun _ => by omega)
        have n_33 : (sc0_30 0).toInt = (c0 0).toInt := by rw [updN h_31 (by omega)]
        have n_34 : (sc0_30 1).toInt = (c0 1).toInt := by rw [updN h_31 (by omega)]
        have n_35 : (sc0_30 2).toInt = (c0 2).toInt := by rw [updN h_31 (by omega)]
        have n_36 : (pW sc0_30 a0 2).toInt = (pW c0 a0 2).toInt := by rw [pW_upd h_31 (by decide +kernel) (by decide +kernel) (Or.inl (by decide +kernel))]
        refine lv_iload hx hb dX11_rest_57 (lv_at hl 0 rfl) ?_
        refine lv_iload_n hx hb dX11_rest_59 rfl (lv_at hl 1 rfl) ?_
        refine b_icmp_eq hx hb rfl zl_0 (tgt := 67) dX11_rest_60 (by decide +kernel) (fun c_37 => ?_) (fun c_37 => ?_)
        · refine lv_iconst (v := 0) hx hb dX11_rest_67 (by decide +kernel) ?_
          exact hRet (sc0_30, c4) [1, 2, 0] ⟨hS_32, (by (try dsimp only); unfold rstPR; (repeat (first | rw [if_pos (by omega)] | rw [if_neg (by omega)]))), (by (try dsimp only); unfold rstPS; (repeat (first | rw [if_pos (by omega)] | rw [if_neg (by omega)])); first | done | exact h_31)⟩ hP hD (by decide +kernel) rfl hS rfl dX11_rest_68
        · refine lv_iconst (v := 1) hx hb dX11_rest_63 (by decide +kernel) ?_
          refine lv_goto (tgt := 68) hx hb dX11_rest_64 (by decide +kernel) ?_
          exact hRet (sc0_30, c4) [1, 2, 0] ⟨hS_32, (by (try dsimp only); unfold rstPR; (repeat (first | rw [if_pos (by omega)] | rw [if_neg (by omega)]))), (by (try dsimp only); unfold rstPS; (repeat (first | rw [if_pos (by omega)] | rw [if_neg (by omega)])); first | done | exact h_31)⟩ hP hD (by decide +kernel) rfl hS rfl dX11_rest_68
      · refine lv_iconst (v := 1) hx hb dX11_rest_34 (by decide +kernel) ?_
        refine lv_goto (tgt := 39) hx hb dX11_rest_35 (by decide +kernel) ?_
        refine lv_istore_n (lv' := [(3, .int 1), (0, .ref k), (1, .int a0), (2, .int a1)]) hx hb dX11_rest_39 rfl hl (by decide +kernel) rfl ?_
        clear hl
        intro ls hl
        refine lv_aload_n hx hb dX11_rest_40 rfl (lv_at hl 1 rfl) ?_
        refine lv_iload_n hx hb dX11_rest_41 rfl (lv_at hl 2 rfl) ?_
        refine lv_bipush (v := 8) hx hb dX11_rest_42 (by decide +kernel) ?_
        refine kJi (wr := [(k4, .inl (cI, 6, .inl c4))]) (va_runV (As := [.int a0, .int 8]) (rest := []) ⟨hx, hb, hml, hown, hT⟩ (c_X11_partyG8 l D cI aK aV k k0 k1 k2 k4 k5 k6 k7 k8 ka kb kl ko H.size c3 c9 cc cd ce cf cg ch ci cj ck cm cn c0 a0 8 (by first | omega | (simp only [zl_8]; first | done | omega) | decide | assumption | rfl) (by first | omega | (simp only [zl_8]; first | done | omega) | decide | assumption | rfl) (by first | omega | (simp only [zl_8]; first | done | omega) | decide | assumption | rfl)) (cwV 2 hT (gV_in mw_1416 mw_1413 mw_1415 mw_p5_5 mw_12) rfl rfl rfl (by decide +kernel) ⟨Nat.le_of_ble_eq_true rfl, Nat.le_of_ble_eq_true rfl⟩) (kRecvX (q0 := 1) (ci := 11) hK hP hD hN hXS hS hA rfl rfl [1, 2] rfl (by decide +kernel)) rfl rfl hl.1 rfl (lv_room (Nat.le_of_ble_eq_true rfl)) dX11_rest_44 ⟨Nat.le_of_ble_eq_true rfl, Nat.le_of_ble_eq_true rfl⟩) hP hD hS hA [1, 2] [0] rfl rfl (by decide +kernel) (by decide +kernel) ?_
        clear hP hD hS
        intro r_38 u_40 H locs w_39 hP hD hS
        replace hP : va_P D vwCl [(k4, .inl (cI, 6, .inl c4)), (k, .inr (11, [.ref k0, .ref k1, .ref k2, .int c3, .ref k4, .ref k5, .ref k6, .ref k7, .ref k8, .int c9, .ref ka, .ref kb, .int cc, .int cd, .int ce, .int cf, .int cg, .int ch, .int ci, .int cj, .int ck, .ref kl, .int cm, .int cn, .ref ko])), (k0, .inl (cI, 1201, .inl c0))] H := hP
        replace hD : va_D A [(k4, .inl (cI, 6, .inl c4)), (k, .inr (11, [.ref k0, .ref k1, .ref k2, .int c3, .ref k4, .ref k5, .ref k6, .ref k7, .ref k8, .int c9, .ref ka, .ref kb, .int cc, .int cd, .int ce, .int cf, .int cg, .int ch, .int ci, .int cj, .int ck, .ref kl, .int cm, .int cn, .ref ko])), (k0, .inl (cI, 1201, .inl c0))] := hD
        have h_41 := w_39
        have h_41 : r_38 = pW c0 a0 8 := h_41
        have t_42 : r_38.toInt = (pW c0 a0 8).toInt := by rw [h_41]
        have lo_r_38 := k_lo r_38
        have hi_r_38 := k_hi r_38
        refine lv_istore (lv' := [(4, .int r_38), (3, .int 1), (0, .ref k), (1, .int a0), (2, .int a1)]) hx hb dX11_rest_47 hl (by decide +kernel) rfl ?_
        clear hl
        intro ls hl
        refine lv_aload_n hx hb dX11_rest_49 rfl (lv_at hl 2 rfl) ?_
        refine lv_iload_n hx hb dX11_rest_50 rfl (lv_at hl 3 rfl) ?_
        refine lv_bipush (v := 8) hx hb dX11_rest_51 (by decide +kernel) ?_
        refine lv_iload_n hx hb dX11_rest_53 rfl (lv_at hl 1 rfl) ?_
        refine kJv (wr := [(k4, .inl (cI, 6, .inl c4))]) (va_runV (As := [.int a0, .int 8, .int 1]) (rest := []) ⟨hx, hb, hml, hown, hT⟩ (c_X11_setPartyG8 l D cI aK aV k k0 k1 k2 k4 k5 k6 k7 k8 ka kb kl ko H.size c3 c9 cc cd ce cf cg ch ci cj ck cm cn c0 a0 8 1 (by first | omega | (simp only [zl_1, zl_8]; first | done | omega) | decide | assumption | rfl) (by first | omega | (simp only [zl_1, zl_8]; first | done | omega) | decide | assumption | rfl) (by first | omega | (simp only [zl_1, zl_8]; first | done | omega) | decide | assumption | rfl)) (cwV 3 hT (gV_in mw_1404 mw_1401 mw_1403 mw_p5_3 mw_12) rfl rfl rfl (by decide +kernel) ⟨Nat.le_of_ble_eq_true rfl, Nat.le_of_ble_eq_true rfl⟩) (kRecvX (q0 := 1) (ci := 11) hK hP hD hN hXS hS hA rfl rfl [1, 2] rfl (by decide +kernel)) rfl rfl hl.1 rfl (lv_room (Nat.le_of_ble_eq_true rfl)) dX11_rest_54 ⟨Nat.le_of_ble_eq_true rfl, Nat.le_of_ble_eq_true rfl⟩) hP hD hS hA [1, 2] [0] rfl rfl (by decide +kernel) (by decide +kernel) ?_
        clear hP hD hS
        intro sc0_45 H locs w_44 hP hD hS
        replace hP : va_P D vwCl [(k4, .inl (cI, 6, .inl c4)), (k, .inr (11, [.ref k0, .ref k1, .ref k2, .int c3, .ref k4, .ref k5, .ref k6, .ref k7, .ref k8, .int c9, .ref ka, .ref kb, .int cc, .int cd, .int ce, .int cf, .int cg, .int ch, .int ci, .int cj, .int ck, .ref kl, .int cm, .int cn, .ref ko])), (k0, .inl (cI, 1201, .inl sc0_45))] H := hP
        replace hD : va_D A [(k4, .inl (cI, 6, .inl c4)), (k, .inr (11, [.ref k0, .ref k1, .ref k2, .int c3, .ref k4, .ref k5, .ref k6, .ref k7, .ref k8, .int c9, .ref ka, .ref kb, .int cc, .int cd, .int ce, .int cf, .int cg, .int ch, .int ci, .int cj, .int ck, .ref kl, .int cm, .int cn, .ref ko])), (k0, .inl (cI, 1201, .inl sc0_45))] := hD
        have h_46 := w_44
        try simp only [zl_1, zl_8] at h_46
        have h_46 : sc0_45 = upd c0 (459 + 9 * a0.toInt.toNat + 8) 1 := h_46
        have h_46 : sc0_45 = upd c0 (459 + 9 * a0.toInt.toNat + 8) 1 := h_46
        have hS_47 : SIX sc0_45 (-1) := SIX.p pre0 h_46 zl_1 (by omega) (by omega) (by decide +kernel) (by omega) (fun z => by omega) (fun _ => by omega)
        have n_48 : (sc0_45 0).toInt = (c0 0).toInt := by rw [updN h_46 (by omega)]
        have n_49 : (sc0_45 1).toInt = (c0 1).toInt := by rw [updN h_46 (by omega)]
        have n_50 : (sc0_45 2).toInt = (c0 2).toInt := by rw [updN h_46 (by omega)]
        have n_51 : (pW sc0_45 a0 2).toInt = (pW c0 a0 2).toInt := by rw [pW_upd h_46 (by decide +kernel) (by decide +kernel) (Or.inl (by decide +kernel))]
        refine lv_iload hx hb dX11_rest_57 (lv_at hl 0 rfl) ?_
        refine lv_iload_n hx hb dX11_rest_59 rfl (lv_at hl 1 rfl) ?_
        refine b_icmp_eq hx hb rfl zl_1 (tgt := 67) dX11_rest_60 (by decide +kernel) (fun c_52 => ?_) (fun c_52 => ?_)
        · refine lv_iconst (v := 0) hx hb dX11_rest_67 (by decide +kernel) ?_
          exact hRet (sc0_45, c4) [1, 2, 0] ⟨hS_47, (by (try dsimp only); unfold rstPR; (repeat (first | rw [if_pos (by omega)] | rw [if_neg (by omega)]))), (by (try dsimp only); unfold rstPS; (repeat (first | rw [if_pos (by omega)] | rw [if_neg (by omega)])); first | done | exact h_46)⟩ hP hD (by decide +kernel) rfl hS rfl dX11_rest_68
        · refine lv_iconst (v := 1) hx hb dX11_rest_63 (by decide +kernel) ?_
          refine lv_goto (tgt := 68) hx hb dX11_rest_64 (by decide +kernel) ?_
          exact hRet (sc0_45, c4) [1, 2, 0] ⟨hS_47, (by (try dsimp only); unfold rstPR; (repeat (first | rw [if_pos (by omega)] | rw [if_neg (by omega)]))), (by (try dsimp only); unfold rstPS; (repeat (first | rw [if_pos (by omega)] | rw [if_neg (by omega)])); first | done | exact h_46)⟩ hP hD (by decide +kernel) rfl hS rfl dX11_rest_68
  · have h_9 : a0.toInt < 0 ∨ (c0 2).toInt ≤ a0.toInt := h_9
    obtain rfl : r_4 = 0 := hr_4.trans (by decide +kernel)
    refine b_if_ne hx hb zl_0 (tgt := 15) dX11_rest_5 (by decide +kernel) (fun c_53 => by exfalso; omega) (fun c_53 => ?_)
    refine lv_aload_n hx hb dX11_rest_8 rfl (lv_at hl 0 rfl) ?_
    refine lv_ldc (v := (-1000001)) hx hb hown (hT _ mw_1239) dX11_rest_9 ?_
    refine kJi (wr := [(k0, .inl (cI, 1201, .inl c0))]) (va_runV (As := [.int (-1000001)]) (rest := []) ⟨hx, hb, hml, hown, hT⟩ (c_X11_findingG l D cI aK aV k k0 k1 k2 k4 k5 k6 k7 k8 ka kb kl ko H.size c3 c9 cc cd ce cf cg ch ci cj ck cm cn c4 (-1000001) (by first | omega | (simp only [zl_m1000001]; first | done | omega) | decide | assumption | rfl) (by first | omega | (simp only [zl_m1000001]; first | done | omega) | decide | assumption | rfl)) (cwV 1 hT (gV_in mw_1243 mw_1240 mw_1242 mw_p3_8 mw_12) rfl rfl rfl (by decide +kernel) ⟨Nat.le_of_ble_eq_true rfl, Nat.le_of_ble_eq_true rfl⟩) (kRecvX (q0 := 1) (ci := 11) hK hP hD hN hXS hS hA rfl rfl [1, 0] rfl (by decide +kernel)) rfl rfl hl.1 rfl (lv_room (Nat.le_of_ble_eq_true rfl)) dX11_rest_11 ⟨Nat.le_of_ble_eq_true rfl, Nat.le_of_ble_eq_true rfl⟩) hP hD hS hA [1, 0] [2] rfl rfl (by decide +kernel) (by decide +kernel) ?_
    clear hP hD hS
    intro r_54 sc4_56 H locs w_55 hP hD hS
    replace hP : va_P D vwCl [(k0, .inl (cI, 1201, .inl c0)), (k, .inr (11, [.ref k0, .ref k1, .ref k2, .int c3, .ref k4, .ref k5, .ref k6, .ref k7, .ref k8, .int c9, .ref ka, .ref kb, .int cc, .int cd, .int ce, .int cf, .int cg, .int ch, .int ci, .int cj, .int ck, .ref kl, .int cm, .int cn, .ref ko])), (k4, .inl (cI, 6, .inl sc4_56))] H := hP
    replace hD : va_D A [(k0, .inl (cI, 1201, .inl c0)), (k, .inr (11, [.ref k0, .ref k1, .ref k2, .int c3, .ref k4, .ref k5, .ref k6, .ref k7, .ref k8, .int c9, .ref ka, .ref kb, .int cc, .int cd, .int ce, .int cf, .int cg, .int ch, .int ci, .int cj, .int ck, .ref kl, .int cm, .int cn, .ref ko])), (k4, .inl (cI, 6, .inl sc4_56))] := hD
    have hr_54 := w_55
    obtain rfl : r_54 = (-1000001) := hr_54.trans (by decide +kernel)
    exact hRet (c0, sc4_56) [1, 0, 2] ⟨pre0, (by (try dsimp only); unfold rstPR; (repeat (first | rw [if_pos (by omega)] | rw [if_neg (by omega)]))), (by (try dsimp only); unfold rstPS; (repeat (first | rw [if_pos (by omega)] | rw [if_neg (by omega)])))⟩ hP hD (by decide +kernel) rfl hS rfl dX11_rest_14
theorem bn_cX11_turn_0 : BN cX11_turn 0 0x15a7d00adc0a1c159dc02b73a9f402b70287056050e0ad5a4100adcbe131582c029a400056e1c15ab482015b900262b05805367a00adc382b := by
  unfold BN; decide +kernel
theorem dX11_turn_0 : decode cX11_turn 0 = .ok (.aload_n 0, 1) := dR0 (k := 0) (i := 0) bn_cX11_turn_0 dop_42 (by decide +kernel)
theorem dX11_turn_1 : decode cX11_turn 1 = .ok (.iload_n 1, 1) := dR0 (k := 0) (i := 1) bn_cX11_turn_0 dop_27 (by decide +kernel)
theorem dX11_turn_2 : decode cX11_turn 2 = .ok (.invokevirtual 121, 3) := dR2 (f := Instr.invokevirtual) (k := 0) (i := 2) bn_cX11_turn_0 dop_182 121 (by decide +kernel)
theorem dX11_turn_5 : decode cX11_turn 5 = .ok (.ifCond .ne 10, 3) := dR2s (f := Instr.ifCond .ne) (k := 0) (i := 5) bn_cX11_turn_0 dop_154 10 10 (by decide +kernel)
theorem dX11_turn_8 : decode cX11_turn 8 = .ok (.aload_n 0, 1) := dR0 (k := 0) (i := 8) bn_cX11_turn_0 dop_42 (by decide +kernel)
theorem dX11_turn_9 : decode cX11_turn 9 = .ok (.ldc 63, 2) := dR1 (f := Instr.ldc) (k := 0) (i := 9) bn_cX11_turn_0 dop_18 63 (by decide +kernel)
theorem dX11_turn_11 : decode cX11_turn 11 = .ok (.invokevirtual 64, 3) := dR2 (f := Instr.invokevirtual) (k := 0) (i := 11) bn_cX11_turn_0 dop_182 64 (by decide +kernel)
theorem dX11_turn_14 : decode cX11_turn 14 = .ok (.ireturn, 1) := dR0 (k := 0) (i := 14) bn_cX11_turn_0 dop_172 (by decide +kernel)
theorem dX11_turn_15 : decode cX11_turn 15 = .ok (.aload_n 0, 1) := dR0 (k := 0) (i := 15) bn_cX11_turn_0 dop_42 (by decide +kernel)
theorem dX11_turn_16 : decode cX11_turn 16 = .ok (.iload_n 1, 1) := dR0 (k := 0) (i := 16) bn_cX11_turn_0 dop_27 (by decide +kernel)
theorem dX11_turn_17 : decode cX11_turn 17 = .ok (.invokevirtual 127, 3) := dR2 (f := Instr.invokevirtual) (k := 0) (i := 17) bn_cX11_turn_0 dop_182 127 (by decide +kernel)
theorem dX11_turn_20 : decode cX11_turn 20 = .ok (.ifCond .eq 10, 3) := dR2s (f := Instr.ifCond .eq) (k := 0) (i := 20) bn_cX11_turn_0 dop_153 10 10 (by decide +kernel)
theorem dX11_turn_23 : decode cX11_turn 23 = .ok (.aload_n 0, 1) := dR0 (k := 0) (i := 23) bn_cX11_turn_0 dop_42 (by decide +kernel)
theorem dX11_turn_24 : decode cX11_turn 24 = .ok (.ldc 94, 2) := dR1 (f := Instr.ldc) (k := 0) (i := 24) bn_cX11_turn_0 dop_18 94 (by decide +kernel)
theorem dX11_turn_26 : decode cX11_turn 26 = .ok (.invokevirtual 64, 3) := dR2 (f := Instr.invokevirtual) (k := 0) (i := 26) bn_cX11_turn_0 dop_182 64 (by decide +kernel)
theorem dX11_turn_29 : decode cX11_turn 29 = .ok (.ireturn, 1) := dR0 (k := 0) (i := 29) bn_cX11_turn_0 dop_172 (by decide +kernel)
theorem dX11_turn_30 : decode cX11_turn 30 = .ok (.aload_n 0, 1) := dR0 (k := 0) (i := 30) bn_cX11_turn_0 dop_42 (by decide +kernel)
theorem dX11_turn_31 : decode cX11_turn 31 = .ok (.iload_n 1, 1) := dR0 (k := 0) (i := 31) bn_cX11_turn_0 dop_27 (by decide +kernel)
theorem dX11_turn_32 : decode cX11_turn 32 = .ok (.iconst 1, 1) := dR0 (k := 0) (i := 32) bn_cX11_turn_0 dop_4 (by decide +kernel)
theorem dX11_turn_33 : decode cX11_turn 33 = .ok (.aload_n 0, 1) := dR0 (k := 0) (i := 33) bn_cX11_turn_0 dop_42 (by decide +kernel)
theorem dX11_turn_34 : decode cX11_turn 34 = .ok (.iload_n 1, 1) := dR0 (k := 0) (i := 34) bn_cX11_turn_0 dop_27 (by decide +kernel)
theorem dX11_turn_35 : decode cX11_turn 35 = .ok (.iconst 1, 1) := dR0 (k := 0) (i := 35) bn_cX11_turn_0 dop_4 (by decide +kernel)
theorem dX11_turn_36 : decode cX11_turn 36 = .ok (.invokevirtual 124, 3) := dR2 (f := Instr.invokevirtual) (k := 0) (i := 36) bn_cX11_turn_0 dop_182 124 (by decide +kernel)
theorem dX11_turn_39 : decode cX11_turn 39 = .ok (.ineg, 1) := dR0 (k := 0) (i := 39) bn_cX11_turn_0 dop_116 (by decide +kernel)
theorem dX11_turn_40 : decode cX11_turn 40 = .ok (.invokevirtual 118, 3) := dR2 (f := Instr.invokevirtual) (k := 0) (i := 40) bn_cX11_turn_0 dop_182 118 (by decide +kernel)
theorem dX11_turn_43 : decode cX11_turn 43 = .ok (.aload_n 0, 1) := dR0 (k := 0) (i := 43) bn_cX11_turn_0 dop_42 (by decide +kernel)
theorem dX11_turn_44 : decode cX11_turn 44 = .ok (.iload_n 1, 1) := dR0 (k := 0) (i := 44) bn_cX11_turn_0 dop_27 (by decide +kernel)
theorem dX11_turn_45 : decode cX11_turn 45 = .ok (.iconst 1, 1) := dR0 (k := 0) (i := 45) bn_cX11_turn_0 dop_4 (by decide +kernel)
theorem dX11_turn_46 : decode cX11_turn 46 = .ok (.invokevirtual 124, 3) := dR2 (f := Instr.invokevirtual) (k := 0) (i := 46) bn_cX11_turn_0 dop_182 124 (by decide +kernel)
theorem dX11_turn_49 : decode cX11_turn 49 = .ok (.ireturn, 1) := dR0 (k := 0) (i := 49) bn_cX11_turn_0 dop_172 (by decide +kernel)
set_option maxHeartbeats 4000000 in
set_option maxRecDepth 100000 in
theorem c_X11_turnG (l : Launch) (D : va_G) (cI : ClassId) (aK aV : Nat → Nat) (k k0 k1 k2 k4 k5 k6 k7 k8 ka kb kl ko : Nat) (sz : Nat) (c3 : Int32) (c9 : Int32) (cc : Int32) (cd : Int32) (ce : Int32) (cf : Int32) (cg : Int32) (ch : Int32) (ci : Int32) (cj : Int32) (ck : Int32) (cm : Int32) (cn : Int32) (c0 : Nat → Int32) (c4 : Nat → Int32) (a0 : Int32) (pre0 : SIX c0 (-1)) : Met l yX11_turn (gW yX11_turn cX11_turn 2 (some .int)) ({ frames := 2, cells := 0, slots := 0, locals := 43 } : Room) (kPreX D cI aK aV [.ref k, .int a0] [(k, .inr (11, [.ref k0, .ref k1, .ref k2, .int c3, .ref k4, .ref k5, .ref k6, .ref k7, .ref k8, .int c9, .ref ka, .ref kb, .int cc, .int cd, .int ce, .int cf, .int cg, .int ch, .int ci, .int cj, .int ck, .ref kl, .int cm, .int cn, .ref ko])), (k0, .inl (cI, 1201, .inl c0)), (k4, .inl (cI, 6, .inl c4))] sz) (va_Qi (fun (r : Int32) (u : (Nat → Int32) × (Nat → Int32)) => SIX u.1 (-1) ∧ r = turnR c0 a0 ∧ u.1 = turnS c0 a0) (fun u t => kWd D cI (va_A [(k, .inr (11, [.ref k0, .ref k1, .ref k2, .int c3, .ref k4, .ref k5, .ref k6, .ref k7, .ref k8, .int c9, .ref ka, .ref kb, .int cc, .int cd, .int ce, .int cf, .int cg, .int ch, .int ci, .int cj, .int ck, .ref kl, .int cm, .int cn, .ref ko])), (k0, .inl (cI, 1201, .inl c0)), (k4, .inl (cI, 6, .inl c4))] sz) [(k, .inr (11, [.ref k0, .ref k1, .ref k2, .int c3, .ref k4, .ref k5, .ref k6, .ref k7, .ref k8, .int c9, .ref ka, .ref kb, .int cc, .int cd, .int ce, .int cf, .int cg, .int ch, .int ci, .int cj, .int ck, .ref kl, .int cm, .int cn, .ref ko])), (k0, .inl (cI, 1201, .inl u.1)), (k4, .inl (cI, 6, .inl u.2))] t) (va_A [(k, .inr (11, [.ref k0, .ref k1, .ref k2, .int c3, .ref k4, .ref k5, .ref k6, .ref k7, .ref k8, .int c9, .ref ka, .ref kb, .int cc, .int cd, .int ce, .int cf, .int cg, .int ch, .int ci, .int cj, .int ck, .ref kl, .int cm, .int cn, .ref ko])), (k0, .inl (cI, 1201, .inl c0)), (k4, .inl (cI, 6, .inl c4))] sz)) 0 0 (va_A [(k, .inr (11, [.ref k0, .ref k1, .ref k2, .int c3, .ref k4, .ref k5, .ref k6, .ref k7, .ref k8, .int c9, .ref ka, .ref kb, .int cc, .int cd, .int ce, .int cf, .int cg, .int ch, .int ci, .int cj, .int ck, .ref kl, .int cm, .int cn, .ref ko])), (k0, .inl (cI, 1201, .inl c0)), (k4, .inl (cI, 6, .inl c4))] sz) := by
  refine kMetIX (own := RX11) (by decide +kernel) rfl (Nat.le_of_ble_eq_true rfl) ?_
  intro p e s m args below meth c hx hb hT hown hname hml A Q hK hP hD hS hA hN hXS hRet ls hl
  have hl : lv_has ls 2 [(0, .ref k), (1, .int a0)] := hl
  have lo_a0 := k_lo a0
  have hi_a0 := k_hi a0
  have lo_ci := k_lo ci
  have hi_ci := k_hi ci
  have pre0 : SIX c0 (-1) := pre0
  have nb_1 : 0 ≤ (c0 0).toInt ∧ (c0 0).toInt ≤ 2000 := SB.n0 (And.left pre0)
  have nb_2 : 0 ≤ (c0 1).toInt ∧ (c0 1).toInt ≤ 60 := SB.n1 (And.left pre0)
  have nb_3 : 0 ≤ (c0 2).toInt ∧ (c0 2).toInt ≤ 4 := SB.n2 (And.left pre0)
  refine lv_aload_n hx hb dX11_turn_0 rfl (lv_at hl 0 rfl) ?_
  refine lv_iload_n hx hb dX11_turn_1 rfl (lv_at hl 1 rfl) ?_
  refine kJi (wr := [(k4, .inl (cI, 6, .inl c4))]) (va_runV (As := [.int a0]) (rest := []) ⟨hx, hb, hml, hown, hT⟩ (c_X11_isPartyG l D cI aK aV k k0 k1 k2 k4 k5 k6 k7 k8 ka kb kl ko s.heap.size c3 c9 cc cd ce cf cg ch ci cj ck cm cn c0 a0 (And.left pre0)) (cwV 1 hT (gV_in mw_1412 mw_1409 mw_1411 mw_p5_4 mw_12) rfl rfl rfl (by decide +kernel) ⟨Nat.le_of_ble_eq_true rfl, Nat.le_of_ble_eq_true rfl⟩) (kRecvX (q0 := 0) (ci := 11) hK hP hD hN hXS hS hA rfl rfl [0, 1] rfl (by decide +kernel)) rfl rfl hl.1 rfl (lv_room (Nat.le_of_ble_eq_true rfl)) dX11_turn_2 ⟨Nat.le_of_ble_eq_true rfl, Nat.le_of_ble_eq_true rfl⟩) hP hD hS hA [0, 1] [2] rfl rfl (by decide +kernel) (by decide +kernel) ?_
  clear hP hD hS
  intro r_4 u_6 H locs w_5 hP hD hS
  replace hP : va_P D vwCl [(k4, .inl (cI, 6, .inl c4)), (k, .inr (11, [.ref k0, .ref k1, .ref k2, .int c3, .ref k4, .ref k5, .ref k6, .ref k7, .ref k8, .int c9, .ref ka, .ref kb, .int cc, .int cd, .int ce, .int cf, .int cg, .int ch, .int ci, .int cj, .int ck, .ref kl, .int cm, .int cn, .ref ko])), (k0, .inl (cI, 1201, .inl c0))] H := hP
  replace hD : va_D A [(k4, .inl (cI, 6, .inl c4)), (k, .inr (11, [.ref k0, .ref k1, .ref k2, .int c3, .ref k4, .ref k5, .ref k6, .ref k7, .ref k8, .int c9, .ref ka, .ref kb, .int cc, .int cd, .int ce, .int cf, .int cg, .int ch, .int ci, .int cj, .int ck, .ref kl, .int cm, .int cn, .ref ko])), (k0, .inl (cI, 1201, .inl c0))] := hD
  rcases w_5 with ⟨hr_4, h_7, h_8⟩ | ⟨hr_4, h_9⟩
  · have h_7 : 0 ≤ a0.toInt := h_7
    have h_8 : a0.toInt < (c0 2).toInt := h_8
    obtain rfl : r_4 = 1 := hr_4.trans (by decide +kernel)
    refine b_if_ne hx hb zl_1 (tgt := 15) dX11_turn_5 (by decide +kernel) (fun c_10 => ?_) (fun c_10 => by exfalso; omega)
    refine lv_aload_n hx hb dX11_turn_15 rfl (lv_at hl 0 rfl) ?_
    refine lv_iload_n hx hb dX11_turn_16 rfl (lv_at hl 1 rfl) ?_
    refine kJi (wr := [(k4, .inl (cI, 6, .inl c4))]) (va_runV (As := [.int a0]) (rest := []) ⟨hx, hb, hml, hown, hT⟩ (c_X11_isLostG l D cI aK aV k k0 k1 k2 k4 k5 k6 k7 k8 ka kb kl ko H.size c3 c9 cc cd ce cf cg ch ci cj ck cm cn c0 a0 pre0 (by first | omega | decide | assumption | rfl) (by first | omega | decide | assumption | rfl) (by first | omega | decide | assumption | rfl)) (cwV 1 hT (gV_in mw_1424 mw_1421 mw_1423 mw_p5_6 mw_12) rfl rfl rfl (by decide +kernel) ⟨Nat.le_of_ble_eq_true rfl, Nat.le_of_ble_eq_true rfl⟩) (kRecvX (q0 := 1) (ci := 11) hK hP hD hN hXS hS hA rfl rfl [1, 2] rfl (by decide +kernel)) rfl rfl hl.1 rfl (lv_room (Nat.le_of_ble_eq_true rfl)) dX11_turn_17 ⟨Nat.le_of_ble_eq_true rfl, Nat.le_of_ble_eq_true rfl⟩) hP hD hS hA [1, 2] [0] rfl rfl (by decide +kernel) (by decide +kernel) ?_
    clear hP hD hS
    intro r_11 u_13 H locs w_12 hP hD hS
    replace hP : va_P D vwCl [(k4, .inl (cI, 6, .inl c4)), (k, .inr (11, [.ref k0, .ref k1, .ref k2, .int c3, .ref k4, .ref k5, .ref k6, .ref k7, .ref k8, .int c9, .ref ka, .ref kb, .int cc, .int cd, .int ce, .int cf, .int cg, .int ch, .int ci, .int cj, .int ck, .ref kl, .int cm, .int cn, .ref ko])), (k0, .inl (cI, 1201, .inl c0))] H := hP
    replace hD : va_D A [(k4, .inl (cI, 6, .inl c4)), (k, .inr (11, [.ref k0, .ref k1, .ref k2, .int c3, .ref k4, .ref k5, .ref k6, .ref k7, .ref k8, .int c9, .ref ka, .ref kb, .int cc, .int cd, .int ce, .int cf, .int cg, .int ch, .int ci, .int cj, .int ck, .ref kl, .int cm, .int cn, .ref ko])), (k0, .inl (cI, 1201, .inl c0))] := hD
    rcases w_12 with ⟨hr_11, h_14⟩ | ⟨hr_11, h_15, h_16⟩
    · have h_14 : (pW c0 a0 8).toInt = 2 := h_14
      obtain rfl : r_11 = 1 := hr_11.trans (by decide +kernel)
      refine b_if_eq hx hb zl_1 (tgt := 30) dX11_turn_20 (by decide +kernel) (fun c_17 => by exfalso; omega) (fun c_17 => ?_)
      refine lv_aload_n hx hb dX11_turn_23 rfl (lv_at hl 0 rfl) ?_
      refine lv_ldc (v := (-1000003)) hx hb hown (hT _ mw_1356) dX11_turn_24 ?_
      refine kJi (wr := [(k0, .inl (cI, 1201, .inl c0))]) (va_runV (As := [.int (-1000003)]) (rest := []) ⟨hx, hb, hml, hown, hT⟩ (c_X11_findingG l D cI aK aV k k0 k1 k2 k4 k5 k6 k7 k8 ka kb kl ko H.size c3 c9 cc cd ce cf cg ch ci cj ck cm cn c4 (-1000003) (by first | omega | (simp only [zl_m1000003]; first | done | omega) | decide | assumption | rfl) (by first | omega | (simp only [zl_m1000003]; first | done | omega) | decide | assumption | rfl)) (cwV 1 hT (gV_in mw_1243 mw_1240 mw_1242 mw_p3_8 mw_12) rfl rfl rfl (by decide +kernel) ⟨Nat.le_of_ble_eq_true rfl, Nat.le_of_ble_eq_true rfl⟩) (kRecvX (q0 := 1) (ci := 11) hK hP hD hN hXS hS hA rfl rfl [1, 0] rfl (by decide +kernel)) rfl rfl hl.1 rfl (lv_room (Nat.le_of_ble_eq_true rfl)) dX11_turn_26 ⟨Nat.le_of_ble_eq_true rfl, Nat.le_of_ble_eq_true rfl⟩) hP hD hS hA [1, 0] [2] rfl rfl (by decide +kernel) (by decide +kernel) ?_
      clear hP hD hS
      intro r_18 sc4_20 H locs w_19 hP hD hS
      replace hP : va_P D vwCl [(k0, .inl (cI, 1201, .inl c0)), (k, .inr (11, [.ref k0, .ref k1, .ref k2, .int c3, .ref k4, .ref k5, .ref k6, .ref k7, .ref k8, .int c9, .ref ka, .ref kb, .int cc, .int cd, .int ce, .int cf, .int cg, .int ch, .int ci, .int cj, .int ck, .ref kl, .int cm, .int cn, .ref ko])), (k4, .inl (cI, 6, .inl sc4_20))] H := hP
      replace hD : va_D A [(k0, .inl (cI, 1201, .inl c0)), (k, .inr (11, [.ref k0, .ref k1, .ref k2, .int c3, .ref k4, .ref k5, .ref k6, .ref k7, .ref k8, .int c9, .ref ka, .ref kb, .int cc, .int cd, .int ce, .int cf, .int cg, .int ch, .int ci, .int cj, .int ck, .ref kl, .int cm, .int cn, .ref ko])), (k4, .inl (cI, 6, .inl sc4_20))] := hD
      have hr_18 := w_19
      obtain rfl : r_18 = (-1000003) := hr_18.trans (by decide +kernel)
      exact hRet (c0, sc4_20) [1, 0, 2] ⟨pre0, (by (try dsimp only); unfold turnR; (repeat (first | rw [if_pos (by omega)] | rw [if_neg (by omega)]))), (by (try dsimp only); unfold turnS; (repeat (first | rw [if_pos (by omega)] | rw [if_neg (by omega)])))⟩ hP hD (by decide +kernel) rfl hS rfl dX11_turn_29
    · have h_15 : (pW c0 a0 8).toInt ≠ 2 := h_15
      have h_16 : 1 ≤ (pW c0 a0 2).toInt := h_16
      obtain rfl : r_11 = 0 := hr_11.trans (by decide +kernel)
      refine b_if_eq hx hb zl_0 (tgt := 30) dX11_turn_20 (by decide +kernel) (fun c_21 => ?_) (fun c_21 => by exfalso; omega)
      refine lv_aload_n hx hb dX11_turn_30 rfl (lv_at hl 0 rfl) ?_
      refine lv_iload_n hx hb dX11_turn_31 rfl (lv_at hl 1 rfl) ?_
      refine lv_iconst (v := 1) hx hb dX11_turn_32 (by decide +kernel) ?_
      refine lv_aload_n hx hb dX11_turn_33 rfl (lv_at hl 0 rfl) ?_
      refine lv_iload_n hx hb dX11_turn_34 rfl (lv_at hl 1 rfl) ?_
      refine lv_iconst (v := 1) hx hb dX11_turn_35 (by decide +kernel) ?_
      refine kJi (wr := [(k4, .inl (cI, 6, .inl c4))]) (va_runV (As := [.int a0, .int 1]) (rest := [.int 1, .int a0, .ref k]) ⟨hx, hb, hml, hown, hT⟩ (c_X11_partyG1 l D cI aK aV k k0 k1 k2 k4 k5 k6 k7 k8 ka kb kl ko H.size c3 c9 cc cd ce cf cg ch ci cj ck cm cn c0 a0 1 (by first | omega | (simp only [zl_1]; first | done | omega) | decide | assumption | rfl) (by first | omega | (simp only [zl_1]; first | done | omega) | decide | assumption | rfl) (by first | omega | (simp only [zl_1]; first | done | omega) | decide | assumption | rfl)) (cwV 2 hT (gV_in mw_1416 mw_1413 mw_1415 mw_p5_5 mw_12) rfl rfl rfl (by decide +kernel) ⟨Nat.le_of_ble_eq_true rfl, Nat.le_of_ble_eq_true rfl⟩) (kRecvX (q0 := 1) (ci := 11) hK hP hD hN hXS hS hA rfl rfl [1, 2] rfl (by decide +kernel)) rfl rfl hl.1 rfl (lv_room (Nat.le_of_ble_eq_true rfl)) dX11_turn_36 ⟨Nat.le_of_ble_eq_true rfl, Nat.le_of_ble_eq_true rfl⟩) hP hD hS hA [1, 2] [0] rfl rfl (by decide +kernel) (by decide +kernel) ?_
      clear hP hD hS
      intro r_22 u_24 H locs w_23 hP hD hS
      replace hP : va_P D vwCl [(k4, .inl (cI, 6, .inl c4)), (k, .inr (11, [.ref k0, .ref k1, .ref k2, .int c3, .ref k4, .ref k5, .ref k6, .ref k7, .ref k8, .int c9, .ref ka, .ref kb, .int cc, .int cd, .int ce, .int cf, .int cg, .int ch, .int ci, .int cj, .int ck, .ref kl, .int cm, .int cn, .ref ko])), (k0, .inl (cI, 1201, .inl c0))] H := hP
      replace hD : va_D A [(k4, .inl (cI, 6, .inl c4)), (k, .inr (11, [.ref k0, .ref k1, .ref k2, .int c3, .ref k4, .ref k5, .ref k6, .ref k7, .ref k8, .int c9, .ref ka, .ref kb, .int cc, .int cd, .int ce, .int cf, .int cg, .int ch, .int ci, .int cj, .int ck, .ref kl, .int cm, .int cn, .ref ko])), (k0, .inl (cI, 1201, .inl c0))] := hD
      have h_25 := w_23
      have h_25 : r_22 = pW c0 a0 1 := h_25
      have t_26 : r_22.toInt = (pW c0 a0 1).toInt := by rw [h_25]
      have lo_r_22 := k_lo r_22
      have hi_r_22 := k_hi r_22
      refine lv_ineg hx hb dX11_turn_39 ?_
      refine lv_topi (fun v_27 ev_27 => ?_)
      have lo_v_27 := k_lo v_27
      have hi_v_27 := k_hi v_27
      refine kJv (wr := [(k4, .inl (cI, 6, .inl c4))]) (va_runV (As := [.int a0, .int 1, .int v_27]) (rest := []) ⟨hx, hb, hml, hown, hT⟩ (c_X11_setPartyG1 l D cI aK aV k k0 k1 k2 k4 k5 k6 k7 k8 ka kb kl ko H.size c3 c9 cc cd ce cf cg ch ci cj ck cm cn c0 a0 1 v_27 (by first | omega | (simp only [zl_1]; first | done | omega) | decide | assumption | rfl) (by first | omega | (simp only [zl_1]; first | done | omega) | decide | assumption | rfl) (by first | omega | (simp only [zl_1]; first | done | omega) | decide | assumption | rfl)) (cwV 3 hT (gV_in mw_1404 mw_1401 mw_1403 mw_p5_3 mw_12) rfl rfl rfl (by decide +kernel) ⟨Nat.le_of_ble_eq_true rfl, Nat.le_of_ble_eq_true rfl⟩) (kRecvX (q0 := 1) (ci := 11) hK hP hD hN hXS hS hA rfl rfl [1, 2] rfl (by decide +kernel)) rfl rfl hl.1 rfl (lv_room (Nat.le_of_ble_eq_true rfl)) dX11_turn_40 ⟨Nat.le_of_ble_eq_true rfl, Nat.le_of_ble_eq_true rfl⟩) hP hD hS hA [1, 2] [0] rfl rfl (by decide +kernel) (by decide +kernel) ?_
      clear hP hD hS
      intro sc0_30 H locs w_29 hP hD hS
      replace hP : va_P D vwCl [(k4, .inl (cI, 6, .inl c4)), (k, .inr (11, [.ref k0, .ref k1, .ref k2, .int c3, .ref k4, .ref k5, .ref k6, .ref k7, .ref k8, .int c9, .ref ka, .ref kb, .int cc, .int cd, .int ce, .int cf, .int cg, .int ch, .int ci, .int cj, .int ck, .ref kl, .int cm, .int cn, .ref ko])), (k0, .inl (cI, 1201, .inl sc0_30))] H := hP
      replace hD : va_D A [(k4, .inl (cI, 6, .inl c4)), (k, .inr (11, [.ref k0, .ref k1, .ref k2, .int c3, .ref k4, .ref k5, .ref k6, .ref k7, .ref k8, .int c9, .ref ka, .ref kb, .int cc, .int cd, .int ce, .int cf, .int cg, .int ch, .int ci, .int cj, .int ck, .ref kl, .int cm, .int cn, .ref ko])), (k0, .inl (cI, 1201, .inl sc0_30))] := hD
      have h_31 := w_29
      try simp only [zl_1] at h_31
      have h_31 : sc0_30 = upd c0 (459 + 9 * a0.toInt.toNat + 1) v_27 := h_31
      have h_31 : sc0_30 = upd c0 (459 + 9 * a0.toInt.toNat + 1) v_27 := h_31
      have hS_32 : SIX sc0_30 (-1) := SIX.p pre0 h_31 rfl (by omega) (by omega) (by decide +kernel) (by omega) (fun z => by omega) (fun z => by omega)
      have n_33 : (sc0_30 0).toInt = (c0 0).toInt := by rw [updN h_31 (by omega)]
      have n_34 : (sc0_30 1).toInt = (c0 1).toInt := by rw [updN h_31 (by omega)]
      have n_35 : (sc0_30 2).toInt = (c0 2).toInt := by rw [updN h_31 (by omega)]
      have n_36 : (pW sc0_30 a0 2).toInt = (pW c0 a0 2).toInt := by rw [pW_upd h_31 (by decide +kernel) (by decide +kernel) (Or.inl (by decide +kernel))]
      refine lv_aload_n hx hb dX11_turn_43 rfl (lv_at hl 0 rfl) ?_
      refine lv_iload_n hx hb dX11_turn_44 rfl (lv_at hl 1 rfl) ?_
      refine lv_iconst (v := 1) hx hb dX11_turn_45 (by decide +kernel) ?_
      refine kJi (wr := [(k4, .inl (cI, 6, .inl c4))]) (va_runV (As := [.int a0, .int 1]) (rest := []) ⟨hx, hb, hml, hown, hT⟩ (c_X11_partyG1 l D cI aK aV k k0 k1 k2 k4 k5 k6 k7 k8 ka kb kl ko H.size c3 c9 cc cd ce cf cg ch ci cj ck cm cn sc0_30 a0 1 (by first | omega | (simp only [zl_1]; first | done | omega) | decide | assumption | rfl) (by first | omega | (simp only [zl_1]; first | done | omega) | decide | assumption | rfl) (by first | omega | (simp only [zl_1]; first | done | omega) | decide | assumption | rfl)) (cwV 2 hT (gV_in mw_1416 mw_1413 mw_1415 mw_p5_5 mw_12) rfl rfl rfl (by decide +kernel) ⟨Nat.le_of_ble_eq_true rfl, Nat.le_of_ble_eq_true rfl⟩) (kRecvX (q0 := 1) (ci := 11) hK hP hD hN hXS hS hA rfl rfl [1, 2] rfl (by decide +kernel)) rfl rfl hl.1 rfl (lv_room (Nat.le_of_ble_eq_true rfl)) dX11_turn_46 ⟨Nat.le_of_ble_eq_true rfl, Nat.le_of_ble_eq_true rfl⟩) hP hD hS hA [1, 2] [0] rfl rfl (by decide +kernel) (by decide +kernel) ?_
      clear hP hD hS
      intro r_37 u_39 H locs w_38 hP hD hS
      replace hP : va_P D vwCl [(k4, .inl (cI, 6, .inl c4)), (k, .inr (11, [.ref k0, .ref k1, .ref k2, .int c3, .ref k4, .ref k5, .ref k6, .ref k7, .ref k8, .int c9, .ref ka, .ref kb, .int cc, .int cd, .int ce, .int cf, .int cg, .int ch, .int ci, .int cj, .int ck, .ref kl, .int cm, .int cn, .ref ko])), (k0, .inl (cI, 1201, .inl sc0_30))] H := hP
      replace hD : va_D A [(k4, .inl (cI, 6, .inl c4)), (k, .inr (11, [.ref k0, .ref k1, .ref k2, .int c3, .ref k4, .ref k5, .ref k6, .ref k7, .ref k8, .int c9, .ref ka, .ref kb, .int cc, .int cd, .int ce, .int cf, .int cg, .int ch, .int ci, .int cj, .int ck, .ref kl, .int cm, .int cn, .ref ko])), (k0, .inl (cI, 1201, .inl sc0_30))] := hD
      have h_40 := w_38
      have h_40 : r_37 = pW sc0_30 a0 1 := h_40
      have t_41 : r_37.toInt = (pW sc0_30 a0 1).toInt := by rw [h_40]
      have lo_r_37 := k_lo r_37
      have hi_r_37 := k_hi r_37
      exact hRet (sc0_30, c4) [1, 2, 0] ⟨hS_32, (by (try dsimp only); unfold turnR; (repeat (first | rw [if_pos (by omega)] | rw [if_neg (by omega)])); first | done | exact (by rw [h_40, h_31]; unfold pW; rw [sp_at, ev_27, h_25]; rfl)), (by (try dsimp only); unfold turnS; (repeat (first | rw [if_pos (by omega)] | rw [if_neg (by omega)])); first | done | exact (by rw [h_31, ev_27, h_25]))⟩ hP hD (by decide +kernel) rfl hS rfl dX11_turn_49
  · have h_9 : a0.toInt < 0 ∨ (c0 2).toInt ≤ a0.toInt := h_9
    obtain rfl : r_4 = 0 := hr_4.trans (by decide +kernel)
    refine b_if_ne hx hb zl_0 (tgt := 15) dX11_turn_5 (by decide +kernel) (fun c_42 => by exfalso; omega) (fun c_42 => ?_)
    refine lv_aload_n hx hb dX11_turn_8 rfl (lv_at hl 0 rfl) ?_
    refine lv_ldc (v := (-1000001)) hx hb hown (hT _ mw_1239) dX11_turn_9 ?_
    refine kJi (wr := [(k0, .inl (cI, 1201, .inl c0))]) (va_runV (As := [.int (-1000001)]) (rest := []) ⟨hx, hb, hml, hown, hT⟩ (c_X11_findingG l D cI aK aV k k0 k1 k2 k4 k5 k6 k7 k8 ka kb kl ko H.size c3 c9 cc cd ce cf cg ch ci cj ck cm cn c4 (-1000001) (by first | omega | (simp only [zl_m1000001]; first | done | omega) | decide | assumption | rfl) (by first | omega | (simp only [zl_m1000001]; first | done | omega) | decide | assumption | rfl)) (cwV 1 hT (gV_in mw_1243 mw_1240 mw_1242 mw_p3_8 mw_12) rfl rfl rfl (by decide +kernel) ⟨Nat.le_of_ble_eq_true rfl, Nat.le_of_ble_eq_true rfl⟩) (kRecvX (q0 := 1) (ci := 11) hK hP hD hN hXS hS hA rfl rfl [1, 0] rfl (by decide +kernel)) rfl rfl hl.1 rfl (lv_room (Nat.le_of_ble_eq_true rfl)) dX11_turn_11 ⟨Nat.le_of_ble_eq_true rfl, Nat.le_of_ble_eq_true rfl⟩) hP hD hS hA [1, 0] [2] rfl rfl (by decide +kernel) (by decide +kernel) ?_
    clear hP hD hS
    intro r_43 sc4_45 H locs w_44 hP hD hS
    replace hP : va_P D vwCl [(k0, .inl (cI, 1201, .inl c0)), (k, .inr (11, [.ref k0, .ref k1, .ref k2, .int c3, .ref k4, .ref k5, .ref k6, .ref k7, .ref k8, .int c9, .ref ka, .ref kb, .int cc, .int cd, .int ce, .int cf, .int cg, .int ch, .int ci, .int cj, .int ck, .ref kl, .int cm, .int cn, .ref ko])), (k4, .inl (cI, 6, .inl sc4_45))] H := hP
    replace hD : va_D A [(k0, .inl (cI, 1201, .inl c0)), (k, .inr (11, [.ref k0, .ref k1, .ref k2, .int c3, .ref k4, .ref k5, .ref k6, .ref k7, .ref k8, .int c9, .ref ka, .ref kb, .int cc, .int cd, .int ce, .int cf, .int cg, .int ch, .int ci, .int cj, .int ck, .ref kl, .int cm, .int cn, .ref ko])), (k4, .inl (cI, 6, .inl sc4_45))] := hD
    have hr_43 := w_44
    obtain rfl : r_43 = (-1000001) := hr_43.trans (by decide +kernel)
    exact hRet (c0, sc4_45) [1, 0, 2] ⟨pre0, (by (try dsimp only); unfold turnR; (repeat (first | rw [if_pos (by omega)] | rw [if_neg (by omega)]))), (by (try dsimp only); unfold turnS; (repeat (first | rw [if_pos (by omega)] | rw [if_neg (by omega)])))⟩ hP hD (by decide +kernel) rfl hS rfl dX11_turn_14
theorem bn_cX11_hand_0 : BN cX11_hand 0 0x3b8056e610f1f402b70307456060e8acee015b9943c7d00adc0c1c15818382b5690402b72604c560b00a94661130878fa015b8183a2b5690402b72f84c560b00a8cc2050f1f402b703070561000a84fa015b8103a2b3e8056e040e0ac3e014da0002b70e8ac4e014da0002b70e0ad5a4100adc80131582c029b180057233088143c0e00a803a1c09805347a00adc3a2b0d805347a00adc382b := by
  unfold BN; decide +kernel
theorem dX11_hand_0 : decode cX11_hand 0 = .ok (.aload_n 0, 1) := dR0 (k := 0) (i := 0) bn_cX11_hand_0 dop_42 (by decide +kernel)
theorem dX11_hand_1 : decode cX11_hand 1 = .ok (.iload_n 1, 1) := dR0 (k := 0) (i := 1) bn_cX11_hand_0 dop_27 (by decide +kernel)
theorem dX11_hand_2 : decode cX11_hand 2 = .ok (.invokevirtual 121, 3) := dR2 (f := Instr.invokevirtual) (k := 0) (i := 2) bn_cX11_hand_0 dop_182 121 (by decide +kernel)
theorem dX11_hand_5 : decode cX11_hand 5 = .ok (.ifCond .eq 26, 3) := dR2s (f := Instr.ifCond .eq) (k := 0) (i := 5) bn_cX11_hand_0 dop_153 26 26 (by decide +kernel)
theorem dX11_hand_8 : decode cX11_hand 8 = .ok (.aload_n 0, 1) := dR0 (k := 0) (i := 8) bn_cX11_hand_0 dop_42 (by decide +kernel)
theorem dX11_hand_9 : decode cX11_hand 9 = .ok (.iload_n 2, 1) := dR0 (k := 0) (i := 9) bn_cX11_hand_0 dop_28 (by decide +kernel)
theorem dX11_hand_10 : decode cX11_hand 10 = .ok (.invokevirtual 121, 3) := dR2 (f := Instr.invokevirtual) (k := 0) (i := 10) bn_cX11_hand_0 dop_182 121 (by decide +kernel)
theorem dX11_hand_13 : decode cX11_hand 13 = .ok (.ifCond .eq 18, 3) := dR2s (f := Instr.ifCond .eq) (k := 0) (i := 13) bn_cX11_hand_0 dop_153 18 18 (by decide +kernel)
theorem dX11_hand_16 : decode cX11_hand 16 = .ok (.iload_n 1, 1) := dR0 (k := 0) (i := 16) bn_cX11_hand_0 dop_27 (by decide +kernel)
theorem dX11_hand_17 : decode cX11_hand 17 = .ok (.iload_n 2, 1) := dR0 (k := 0) (i := 17) bn_cX11_hand_0 dop_28 (by decide +kernel)
theorem dX11_hand_18 : decode cX11_hand 18 = .ok (.if_icmp .eq 13, 3) := dR2s (f := Instr.if_icmp .eq) (k := 0) (i := 18) bn_cX11_hand_0 dop_159 13 13 (by decide +kernel)
theorem dX11_hand_21 : decode cX11_hand 21 = .ok (.iload_n 3, 1) := dR0 (k := 0) (i := 21) bn_cX11_hand_0 dop_29 (by decide +kernel)
theorem dX11_hand_22 : decode cX11_hand 22 = .ok (.iconst 1, 1) := dR0 (k := 0) (i := 22) bn_cX11_hand_0 dop_4 (by decide +kernel)
theorem dX11_hand_23 : decode cX11_hand 23 = .ok (.bipush 50, 2) := dR1s (f := Instr.bipush) (k := 0) (i := 23) bn_cX11_hand_0 dop_16 50 50 (by decide +kernel)
theorem dX11_hand_25 : decode cX11_hand 25 = .ok (.invokestatic 47, 3) := dR2 (f := Instr.invokestatic) (k := 0) (i := 25) bn_cX11_hand_0 dop_184 47 (by decide +kernel)
theorem dX11_hand_28 : decode cX11_hand 28 = .ok (.ifCond .ne 10, 3) := dR2s (f := Instr.ifCond .ne) (k := 0) (i := 28) bn_cX11_hand_0 dop_154 10 10 (by decide +kernel)
theorem dX11_hand_31 : decode cX11_hand 31 = .ok (.aload_n 0, 1) := dR0 (k := 0) (i := 31) bn_cX11_hand_0 dop_42 (by decide +kernel)
theorem dX11_hand_32 : decode cX11_hand 32 = .ok (.ldc 63, 2) := dR1 (f := Instr.ldc) (k := 0) (i := 32) bn_cX11_hand_0 dop_18 63 (by decide +kernel)
theorem dX11_hand_34 : decode cX11_hand 34 = .ok (.invokevirtual 64, 3) := dR2 (f := Instr.invokevirtual) (k := 0) (i := 34) bn_cX11_hand_0 dop_182 64 (by decide +kernel)
theorem dX11_hand_37 : decode cX11_hand 37 = .ok (.ireturn, 1) := dR0 (k := 0) (i := 37) bn_cX11_hand_0 dop_172 (by decide +kernel)
theorem dX11_hand_38 : decode cX11_hand 38 = .ok (.aload_n 0, 1) := dR0 (k := 0) (i := 38) bn_cX11_hand_0 dop_42 (by decide +kernel)
theorem dX11_hand_39 : decode cX11_hand 39 = .ok (.iload_n 1, 1) := dR0 (k := 0) (i := 39) bn_cX11_hand_0 dop_27 (by decide +kernel)
theorem dX11_hand_40 : decode cX11_hand 40 = .ok (.invokevirtual 127, 3) := dR2 (f := Instr.invokevirtual) (k := 0) (i := 40) bn_cX11_hand_0 dop_182 127 (by decide +kernel)
theorem dX11_hand_43 : decode cX11_hand 43 = .ok (.ifCond .ne 38, 3) := dR2s (f := Instr.ifCond .ne) (k := 0) (i := 43) bn_cX11_hand_0 dop_154 38 38 (by decide +kernel)
theorem dX11_hand_46 : decode cX11_hand 46 = .ok (.aload_n 0, 1) := dR0 (k := 0) (i := 46) bn_cX11_hand_0 dop_42 (by decide +kernel)
theorem dX11_hand_47 : decode cX11_hand 47 = .ok (.iload_n 2, 1) := dR0 (k := 0) (i := 47) bn_cX11_hand_0 dop_28 (by decide +kernel)
theorem dX11_hand_48 : decode cX11_hand 48 = .ok (.invokevirtual 127, 3) := dR2 (f := Instr.invokevirtual) (k := 0) (i := 48) bn_cX11_hand_0 dop_182 127 (by decide +kernel)
theorem dX11_hand_51 : decode cX11_hand 51 = .ok (.ifCond .ne 30, 3) := dR2s (f := Instr.ifCond .ne) (k := 0) (i := 51) bn_cX11_hand_0 dop_154 30 30 (by decide +kernel)
theorem dX11_hand_54 : decode cX11_hand 54 = .ok (.aload_n 0, 1) := dR0 (k := 0) (i := 54) bn_cX11_hand_0 dop_42 (by decide +kernel)
theorem dX11_hand_55 : decode cX11_hand 55 = .ok (.iload_n 1, 1) := dR0 (k := 0) (i := 55) bn_cX11_hand_0 dop_27 (by decide +kernel)
theorem dX11_hand_56 : decode cX11_hand 56 = .ok (.iconst 0, 1) := dR0 (k := 0) (i := 56) bn_cX11_hand_0 dop_3 (by decide +kernel)
theorem dX11_hand_57 : decode cX11_hand 57 = .ok (.invokevirtual 124, 3) := dR2 (f := Instr.invokevirtual) (k := 0) (i := 57) bn_cX11_hand_0 dop_182 124 (by decide +kernel)
theorem dX11_hand_60 : decode cX11_hand 60 = .ok (.aload_n 0, 1) := dR0 (k := 0) (i := 60) bn_cX11_hand_0 dop_42 (by decide +kernel)
theorem dX11_hand_61 : decode cX11_hand 61 = .ok (.iload_n 2, 1) := dR0 (k := 0) (i := 61) bn_cX11_hand_0 dop_28 (by decide +kernel)
theorem dX11_hand_62 : decode cX11_hand 62 = .ok (.iconst 0, 1) := dR0 (k := 0) (i := 62) bn_cX11_hand_0 dop_3 (by decide +kernel)
theorem dX11_hand_63 : decode cX11_hand 63 = .ok (.invokevirtual 124, 3) := dR2 (f := Instr.invokevirtual) (k := 0) (i := 63) bn_cX11_hand_0 dop_182 124 (by decide +kernel)
theorem dX11_hand_66 : decode cX11_hand 66 = .ok (.if_icmp .ne 15, 3) := dR2s (f := Instr.if_icmp .ne) (k := 0) (i := 66) bn_cX11_hand_0 dop_160 15 15 (by decide +kernel)
theorem dX11_hand_69 : decode cX11_hand 69 = .ok (.aload_n 0, 1) := dR0 (k := 0) (i := 69) bn_cX11_hand_0 dop_42 (by decide +kernel)
theorem dX11_hand_70 : decode cX11_hand 70 = .ok (.iload_n 1, 1) := dR0 (k := 0) (i := 70) bn_cX11_hand_0 dop_27 (by decide +kernel)
theorem dX11_hand_71 : decode cX11_hand 71 = .ok (.iconst 2, 1) := dR0 (k := 0) (i := 71) bn_cX11_hand_0 dop_5 (by decide +kernel)
theorem dX11_hand_72 : decode cX11_hand 72 = .ok (.invokevirtual 124, 3) := dR2 (f := Instr.invokevirtual) (k := 0) (i := 72) bn_cX11_hand_0 dop_182 124 (by decide +kernel)
theorem dX11_hand_75 : decode cX11_hand 75 = .ok (.iload_n 3, 1) := dR0 (k := 0) (i := 75) bn_cX11_hand_0 dop_29 (by decide +kernel)
theorem dX11_hand_76 : decode cX11_hand 76 = .ok (.iconst 1, 1) := dR0 (k := 0) (i := 76) bn_cX11_hand_0 dop_4 (by decide +kernel)
theorem dX11_hand_77 : decode cX11_hand 77 = .ok (.iadd, 1) := dR0 (k := 0) (i := 77) bn_cX11_hand_0 dop_96 (by decide +kernel)
theorem dX11_hand_78 : decode cX11_hand 78 = .ok (.if_icmp .ge 10, 3) := dR2s (f := Instr.if_icmp .ge) (k := 0) (i := 78) bn_cX11_hand_0 dop_162 10 10 (by decide +kernel)
theorem dX11_hand_81 : decode cX11_hand 81 = .ok (.aload_n 0, 1) := dR0 (k := 0) (i := 81) bn_cX11_hand_0 dop_42 (by decide +kernel)
theorem dX11_hand_82 : decode cX11_hand 82 = .ok (.ldc 94, 2) := dR1 (f := Instr.ldc) (k := 0) (i := 82) bn_cX11_hand_0 dop_18 94 (by decide +kernel)
theorem dX11_hand_84 : decode cX11_hand 84 = .ok (.invokevirtual 64, 3) := dR2 (f := Instr.invokevirtual) (k := 0) (i := 84) bn_cX11_hand_0 dop_182 64 (by decide +kernel)
theorem dX11_hand_87 : decode cX11_hand 87 = .ok (.ireturn, 1) := dR0 (k := 0) (i := 87) bn_cX11_hand_0 dop_172 (by decide +kernel)
theorem dX11_hand_88 : decode cX11_hand 88 = .ok (.aload_n 0, 1) := dR0 (k := 0) (i := 88) bn_cX11_hand_0 dop_42 (by decide +kernel)
theorem dX11_hand_89 : decode cX11_hand 89 = .ok (.iload_n 2, 1) := dR0 (k := 0) (i := 89) bn_cX11_hand_0 dop_28 (by decide +kernel)
theorem dX11_hand_90 : decode cX11_hand 90 = .ok (.iconst 2, 1) := dR0 (k := 0) (i := 90) bn_cX11_hand_0 dop_5 (by decide +kernel)
theorem dX11_hand_91 : decode cX11_hand 91 = .ok (.invokevirtual 124, 3) := dR2 (f := Instr.invokevirtual) (k := 0) (i := 91) bn_cX11_hand_0 dop_182 124 (by decide +kernel)
theorem dX11_hand_94 : decode cX11_hand 94 = .ok (.iload_n 3, 1) := dR0 (k := 0) (i := 94) bn_cX11_hand_0 dop_29 (by decide +kernel)
theorem dX11_hand_95 : decode cX11_hand 95 = .ok (.iadd, 1) := dR0 (k := 0) (i := 95) bn_cX11_hand_0 dop_96 (by decide +kernel)
theorem dX11_hand_96 : decode cX11_hand 96 = .ok (.bipush 50, 2) := dR1s (f := Instr.bipush) (k := 0) (i := 96) bn_cX11_hand_0 dop_16 50 50 (by decide +kernel)
theorem dX11_hand_98 : decode cX11_hand 98 = .ok (.if_icmp .le 10, 3) := dR2s (f := Instr.if_icmp .le) (k := 0) (i := 98) bn_cX11_hand_0 dop_164 10 10 (by decide +kernel)
theorem dX11_hand_101 : decode cX11_hand 101 = .ok (.aload_n 0, 1) := dR0 (k := 0) (i := 101) bn_cX11_hand_0 dop_42 (by decide +kernel)
theorem dX11_hand_102 : decode cX11_hand 102 = .ok (.ldc 75, 2) := dR1 (f := Instr.ldc) (k := 0) (i := 102) bn_cX11_hand_0 dop_18 75 (by decide +kernel)
theorem dX11_hand_104 : decode cX11_hand 104 = .ok (.invokevirtual 64, 3) := dR2 (f := Instr.invokevirtual) (k := 0) (i := 104) bn_cX11_hand_0 dop_182 64 (by decide +kernel)
theorem dX11_hand_107 : decode cX11_hand 107 = .ok (.ireturn, 1) := dR0 (k := 0) (i := 107) bn_cX11_hand_0 dop_172 (by decide +kernel)
theorem dX11_hand_108 : decode cX11_hand 108 = .ok (.aload_n 0, 1) := dR0 (k := 0) (i := 108) bn_cX11_hand_0 dop_42 (by decide +kernel)
theorem dX11_hand_109 : decode cX11_hand 109 = .ok (.iload_n 1, 1) := dR0 (k := 0) (i := 109) bn_cX11_hand_0 dop_27 (by decide +kernel)
theorem dX11_hand_110 : decode cX11_hand 110 = .ok (.iconst 2, 1) := dR0 (k := 0) (i := 110) bn_cX11_hand_0 dop_5 (by decide +kernel)
theorem dX11_hand_111 : decode cX11_hand 111 = .ok (.aload_n 0, 1) := dR0 (k := 0) (i := 111) bn_cX11_hand_0 dop_42 (by decide +kernel)
theorem dX11_hand_112 : decode cX11_hand 112 = .ok (.iload_n 1, 1) := dR0 (k := 0) (i := 112) bn_cX11_hand_0 dop_27 (by decide +kernel)
theorem dX11_hand_113 : decode cX11_hand 113 = .ok (.iconst 2, 1) := dR0 (k := 0) (i := 113) bn_cX11_hand_0 dop_5 (by decide +kernel)
theorem dX11_hand_114 : decode cX11_hand 114 = .ok (.invokevirtual 124, 3) := dR2 (f := Instr.invokevirtual) (k := 0) (i := 114) bn_cX11_hand_0 dop_182 124 (by decide +kernel)
theorem dX11_hand_117 : decode cX11_hand 117 = .ok (.iload_n 3, 1) := dR0 (k := 0) (i := 117) bn_cX11_hand_0 dop_29 (by decide +kernel)
theorem dX11_hand_118 : decode cX11_hand 118 = .ok (.isub, 1) := dR0 (k := 0) (i := 118) bn_cX11_hand_0 dop_100 (by decide +kernel)
theorem dX11_hand_119 : decode cX11_hand 119 = .ok (.invokevirtual 118, 3) := dR2 (f := Instr.invokevirtual) (k := 0) (i := 119) bn_cX11_hand_0 dop_182 118 (by decide +kernel)
theorem dX11_hand_122 : decode cX11_hand 122 = .ok (.aload_n 0, 1) := dR0 (k := 0) (i := 122) bn_cX11_hand_0 dop_42 (by decide +kernel)
theorem dX11_hand_123 : decode cX11_hand 123 = .ok (.iload_n 2, 1) := dR0 (k := 0) (i := 123) bn_cX11_hand_0 dop_28 (by decide +kernel)
theorem dX11_hand_124 : decode cX11_hand 124 = .ok (.iconst 2, 1) := dR0 (k := 0) (i := 124) bn_cX11_hand_0 dop_5 (by decide +kernel)
theorem dX11_hand_125 : decode cX11_hand 125 = .ok (.aload_n 0, 1) := dR0 (k := 0) (i := 125) bn_cX11_hand_0 dop_42 (by decide +kernel)
theorem dX11_hand_126 : decode cX11_hand 126 = .ok (.iload_n 2, 1) := dR0 (k := 0) (i := 126) bn_cX11_hand_0 dop_28 (by decide +kernel)
theorem dX11_hand_127 : decode cX11_hand 127 = .ok (.iconst 2, 1) := dR0 (k := 0) (i := 127) bn_cX11_hand_0 dop_5 (by decide +kernel)
theorem bn_cX11_hand_128 : BN cX11_hand 128 0x2b4fa015b8183a2b3b8056e610f1f402b7 := by
  unfold BN; decide +kernel
theorem dX11_hand_128 : decode cX11_hand 128 = .ok (.invokevirtual 124, 3) := dR2 (f := Instr.invokevirtual) (k := 128) (i := 0) bn_cX11_hand_128 dop_182 124 (by decide +kernel)
theorem dX11_hand_131 : decode cX11_hand 131 = .ok (.iload_n 3, 1) := dR0 (k := 128) (i := 3) bn_cX11_hand_128 dop_29 (by decide +kernel)
theorem dX11_hand_132 : decode cX11_hand 132 = .ok (.iadd, 1) := dR0 (k := 128) (i := 4) bn_cX11_hand_128 dop_96 (by decide +kernel)
theorem dX11_hand_133 : decode cX11_hand 133 = .ok (.invokevirtual 118, 3) := dR2 (f := Instr.invokevirtual) (k := 128) (i := 5) bn_cX11_hand_128 dop_182 118 (by decide +kernel)
theorem dX11_hand_136 : decode cX11_hand 136 = .ok (.aload_n 0, 1) := dR0 (k := 128) (i := 8) bn_cX11_hand_128 dop_42 (by decide +kernel)
theorem dX11_hand_137 : decode cX11_hand 137 = .ok (.iload_n 2, 1) := dR0 (k := 128) (i := 9) bn_cX11_hand_128 dop_28 (by decide +kernel)
theorem dX11_hand_138 : decode cX11_hand 138 = .ok (.iconst 2, 1) := dR0 (k := 128) (i := 10) bn_cX11_hand_128 dop_5 (by decide +kernel)
theorem dX11_hand_139 : decode cX11_hand 139 = .ok (.invokevirtual 124, 3) := dR2 (f := Instr.invokevirtual) (k := 128) (i := 11) bn_cX11_hand_128 dop_182 124 (by decide +kernel)
theorem dX11_hand_142 : decode cX11_hand 142 = .ok (.ireturn, 1) := dR0 (k := 128) (i := 14) bn_cX11_hand_128 dop_172 (by decide +kernel)
set_option maxHeartbeats 4000000 in
set_option maxRecDepth 100000 in
theorem c_X11_handG (l : Launch) (D : va_G) (cI : ClassId) (aK aV : Nat → Nat) (k k0 k1 k2 k4 k5 k6 k7 k8 ka kb kl ko : Nat) (sz : Nat) (c3 : Int32) (c9 : Int32) (cc : Int32) (cd : Int32) (ce : Int32) (cf : Int32) (cg : Int32) (ch : Int32) (ci : Int32) (cj : Int32) (ck : Int32) (cm : Int32) (cn : Int32) (c0 : Nat → Int32) (c4 : Nat → Int32) (a0 : Int32) (a1 : Int32) (a2 : Int32) (pre0 : SIX c0 (-1)) : Met l yX11_hand (gW yX11_hand cX11_hand 4 (some .int)) ({ frames := 2, cells := 0, slots := 0, locals := 43 } : Room) (kPreX D cI aK aV [.ref k, .int a0, .int a1, .int a2] [(k, .inr (11, [.ref k0, .ref k1, .ref k2, .int c3, .ref k4, .ref k5, .ref k6, .ref k7, .ref k8, .int c9, .ref ka, .ref kb, .int cc, .int cd, .int ce, .int cf, .int cg, .int ch, .int ci, .int cj, .int ck, .ref kl, .int cm, .int cn, .ref ko])), (k0, .inl (cI, 1201, .inl c0)), (k4, .inl (cI, 6, .inl c4))] sz) (va_Qi (fun (r : Int32) (u : (Nat → Int32) × (Nat → Int32)) => SIX u.1 (-1) ∧ r = handR c0 a0 a1 a2 ∧ u.1 = handS c0 a0 a1 a2) (fun u t => kWd D cI (va_A [(k, .inr (11, [.ref k0, .ref k1, .ref k2, .int c3, .ref k4, .ref k5, .ref k6, .ref k7, .ref k8, .int c9, .ref ka, .ref kb, .int cc, .int cd, .int ce, .int cf, .int cg, .int ch, .int ci, .int cj, .int ck, .ref kl, .int cm, .int cn, .ref ko])), (k0, .inl (cI, 1201, .inl c0)), (k4, .inl (cI, 6, .inl c4))] sz) [(k, .inr (11, [.ref k0, .ref k1, .ref k2, .int c3, .ref k4, .ref k5, .ref k6, .ref k7, .ref k8, .int c9, .ref ka, .ref kb, .int cc, .int cd, .int ce, .int cf, .int cg, .int ch, .int ci, .int cj, .int ck, .ref kl, .int cm, .int cn, .ref ko])), (k0, .inl (cI, 1201, .inl u.1)), (k4, .inl (cI, 6, .inl u.2))] t) (va_A [(k, .inr (11, [.ref k0, .ref k1, .ref k2, .int c3, .ref k4, .ref k5, .ref k6, .ref k7, .ref k8, .int c9, .ref ka, .ref kb, .int cc, .int cd, .int ce, .int cf, .int cg, .int ch, .int ci, .int cj, .int ck, .ref kl, .int cm, .int cn, .ref ko])), (k0, .inl (cI, 1201, .inl c0)), (k4, .inl (cI, 6, .inl c4))] sz)) 0 0 (va_A [(k, .inr (11, [.ref k0, .ref k1, .ref k2, .int c3, .ref k4, .ref k5, .ref k6, .ref k7, .ref k8, .int c9, .ref ka, .ref kb, .int cc, .int cd, .int ce, .int cf, .int cg, .int ch, .int ci, .int cj, .int ck, .ref kl, .int cm, .int cn, .ref ko])), (k0, .inl (cI, 1201, .inl c0)), (k4, .inl (cI, 6, .inl c4))] sz) := by
  refine kMetIX (own := RX11) (by decide +kernel) rfl (Nat.le_of_ble_eq_true rfl) ?_
  intro p e s m args below meth c hx hb hT hown hname hml A Q hK hP hD hS hA hN hXS hRet ls hl
  have hl : lv_has ls 4 [(0, .ref k), (1, .int a0), (2, .int a1), (3, .int a2)] := hl
  have lo_a0 := k_lo a0
  have hi_a0 := k_hi a0
  have lo_a1 := k_lo a1
  have hi_a1 := k_hi a1
  have lo_a2 := k_lo a2
  have hi_a2 := k_hi a2
  have lo_ci := k_lo ci
  have hi_ci := k_hi ci
  have pre0 : SIX c0 (-1) := pre0
  have nb_1 : 0 ≤ (c0 0).toInt ∧ (c0 0).toInt ≤ 2000 := SB.n0 (And.left pre0)
  have nb_2 : 0 ≤ (c0 1).toInt ∧ (c0 1).toInt ≤ 60 := SB.n1 (And.left pre0)
  have nb_3 : 0 ≤ (c0 2).toInt ∧ (c0 2).toInt ≤ 4 := SB.n2 (And.left pre0)
  refine lv_aload_n hx hb dX11_hand_0 rfl (lv_at hl 0 rfl) ?_
  refine lv_iload_n hx hb dX11_hand_1 rfl (lv_at hl 1 rfl) ?_
  refine kJi (wr := [(k4, .inl (cI, 6, .inl c4))]) (va_runV (As := [.int a0]) (rest := []) ⟨hx, hb, hml, hown, hT⟩ (c_X11_isPartyG l D cI aK aV k k0 k1 k2 k4 k5 k6 k7 k8 ka kb kl ko s.heap.size c3 c9 cc cd ce cf cg ch ci cj ck cm cn c0 a0 (And.left pre0)) (cwV 1 hT (gV_in mw_1412 mw_1409 mw_1411 mw_p5_4 mw_12) rfl rfl rfl (by decide +kernel) ⟨Nat.le_of_ble_eq_true rfl, Nat.le_of_ble_eq_true rfl⟩) (kRecvX (q0 := 0) (ci := 11) hK hP hD hN hXS hS hA rfl rfl [0, 1] rfl (by decide +kernel)) rfl rfl hl.1 rfl (lv_room (Nat.le_of_ble_eq_true rfl)) dX11_hand_2 ⟨Nat.le_of_ble_eq_true rfl, Nat.le_of_ble_eq_true rfl⟩) hP hD hS hA [0, 1] [2] rfl rfl (by decide +kernel) (by decide +kernel) ?_
  clear hP hD hS
  intro r_4 u_6 H locs w_5 hP hD hS
  replace hP : va_P D vwCl [(k4, .inl (cI, 6, .inl c4)), (k, .inr (11, [.ref k0, .ref k1, .ref k2, .int c3, .ref k4, .ref k5, .ref k6, .ref k7, .ref k8, .int c9, .ref ka, .ref kb, .int cc, .int cd, .int ce, .int cf, .int cg, .int ch, .int ci, .int cj, .int ck, .ref kl, .int cm, .int cn, .ref ko])), (k0, .inl (cI, 1201, .inl c0))] H := hP
  replace hD : va_D A [(k4, .inl (cI, 6, .inl c4)), (k, .inr (11, [.ref k0, .ref k1, .ref k2, .int c3, .ref k4, .ref k5, .ref k6, .ref k7, .ref k8, .int c9, .ref ka, .ref kb, .int cc, .int cd, .int ce, .int cf, .int cg, .int ch, .int ci, .int cj, .int ck, .ref kl, .int cm, .int cn, .ref ko])), (k0, .inl (cI, 1201, .inl c0))] := hD
  rcases w_5 with ⟨hr_4, h_7, h_8⟩ | ⟨hr_4, h_9⟩
  · have h_7 : 0 ≤ a0.toInt := h_7
    have h_8 : a0.toInt < (c0 2).toInt := h_8
    obtain rfl : r_4 = 1 := hr_4.trans (by decide +kernel)
    refine b_if_eq hx hb zl_1 (tgt := 31) dX11_hand_5 (by decide +kernel) (fun c_10 => by exfalso; omega) (fun c_10 => ?_)
    refine lv_aload_n hx hb dX11_hand_8 rfl (lv_at hl 0 rfl) ?_
    refine lv_iload_n hx hb dX11_hand_9 rfl (lv_at hl 2 rfl) ?_
    refine kJi (wr := [(k4, .inl (cI, 6, .inl c4))]) (va_runV (As := [.int a1]) (rest := []) ⟨hx, hb, hml, hown, hT⟩ (c_X11_isPartyG l D cI aK aV k k0 k1 k2 k4 k5 k6 k7 k8 ka kb kl ko H.size c3 c9 cc cd ce cf cg ch ci cj ck cm cn c0 a1 (And.left pre0)) (cwV 1 hT (gV_in mw_1412 mw_1409 mw_1411 mw_p5_4 mw_12) rfl rfl rfl (by decide +kernel) ⟨Nat.le_of_ble_eq_true rfl, Nat.le_of_ble_eq_true rfl⟩) (kRecvX (q0 := 1) (ci := 11) hK hP hD hN hXS hS hA rfl rfl [1, 2] rfl (by decide +kernel)) rfl rfl hl.1 rfl (lv_room (Nat.le_of_ble_eq_true rfl)) dX11_hand_10 ⟨Nat.le_of_ble_eq_true rfl, Nat.le_of_ble_eq_true rfl⟩) hP hD hS hA [1, 2] [0] rfl rfl (by decide +kernel) (by decide +kernel) ?_
    clear hP hD hS
    intro r_11 u_13 H locs w_12 hP hD hS
    replace hP : va_P D vwCl [(k4, .inl (cI, 6, .inl c4)), (k, .inr (11, [.ref k0, .ref k1, .ref k2, .int c3, .ref k4, .ref k5, .ref k6, .ref k7, .ref k8, .int c9, .ref ka, .ref kb, .int cc, .int cd, .int ce, .int cf, .int cg, .int ch, .int ci, .int cj, .int ck, .ref kl, .int cm, .int cn, .ref ko])), (k0, .inl (cI, 1201, .inl c0))] H := hP
    replace hD : va_D A [(k4, .inl (cI, 6, .inl c4)), (k, .inr (11, [.ref k0, .ref k1, .ref k2, .int c3, .ref k4, .ref k5, .ref k6, .ref k7, .ref k8, .int c9, .ref ka, .ref kb, .int cc, .int cd, .int ce, .int cf, .int cg, .int ch, .int ci, .int cj, .int ck, .ref kl, .int cm, .int cn, .ref ko])), (k0, .inl (cI, 1201, .inl c0))] := hD
    rcases w_12 with ⟨hr_11, h_14, h_15⟩ | ⟨hr_11, h_16⟩
    · have h_14 : 0 ≤ a1.toInt := h_14
      have h_15 : a1.toInt < (c0 2).toInt := h_15
      obtain rfl : r_11 = 1 := hr_11.trans (by decide +kernel)
      refine b_if_eq hx hb zl_1 (tgt := 31) dX11_hand_13 (by decide +kernel) (fun c_17 => by exfalso; omega) (fun c_17 => ?_)
      refine lv_iload_n hx hb dX11_hand_16 rfl (lv_at hl 1 rfl) ?_
      refine lv_iload_n hx hb dX11_hand_17 rfl (lv_at hl 2 rfl) ?_
      refine b_icmp_eq hx hb rfl rfl (tgt := 31) dX11_hand_18 (by decide +kernel) (fun c_18 => ?_) (fun c_18 => ?_)
      · refine lv_aload_n hx hb dX11_hand_31 rfl (lv_at hl 0 rfl) ?_
        refine lv_ldc (v := (-1000001)) hx hb hown (hT _ mw_1239) dX11_hand_32 ?_
        refine kJi (wr := [(k0, .inl (cI, 1201, .inl c0))]) (va_runV (As := [.int (-1000001)]) (rest := []) ⟨hx, hb, hml, hown, hT⟩ (c_X11_findingG l D cI aK aV k k0 k1 k2 k4 k5 k6 k7 k8 ka kb kl ko H.size c3 c9 cc cd ce cf cg ch ci cj ck cm cn c4 (-1000001) (by first | omega | (simp only [zl_m1000001]; first | done | omega) | decide | assumption | rfl) (by first | omega | (simp only [zl_m1000001]; first | done | omega) | decide | assumption | rfl)) (cwV 1 hT (gV_in mw_1243 mw_1240 mw_1242 mw_p3_8 mw_12) rfl rfl rfl (by decide +kernel) ⟨Nat.le_of_ble_eq_true rfl, Nat.le_of_ble_eq_true rfl⟩) (kRecvX (q0 := 1) (ci := 11) hK hP hD hN hXS hS hA rfl rfl [1, 0] rfl (by decide +kernel)) rfl rfl hl.1 rfl (lv_room (Nat.le_of_ble_eq_true rfl)) dX11_hand_34 ⟨Nat.le_of_ble_eq_true rfl, Nat.le_of_ble_eq_true rfl⟩) hP hD hS hA [1, 0] [2] rfl rfl (by decide +kernel) (by decide +kernel) ?_
        clear hP hD hS
        intro r_19 sc4_21 H locs w_20 hP hD hS
        replace hP : va_P D vwCl [(k0, .inl (cI, 1201, .inl c0)), (k, .inr (11, [.ref k0, .ref k1, .ref k2, .int c3, .ref k4, .ref k5, .ref k6, .ref k7, .ref k8, .int c9, .ref ka, .ref kb, .int cc, .int cd, .int ce, .int cf, .int cg, .int ch, .int ci, .int cj, .int ck, .ref kl, .int cm, .int cn, .ref ko])), (k4, .inl (cI, 6, .inl sc4_21))] H := hP
        replace hD : va_D A [(k0, .inl (cI, 1201, .inl c0)), (k, .inr (11, [.ref k0, .ref k1, .ref k2, .int c3, .ref k4, .ref k5, .ref k6, .ref k7, .ref k8, .int c9, .ref ka, .ref kb, .int cc, .int cd, .int ce, .int cf, .int cg, .int ch, .int ci, .int cj, .int ck, .ref kl, .int cm, .int cn, .ref ko])), (k4, .inl (cI, 6, .inl sc4_21))] := hD
        have hr_19 := w_20
        obtain rfl : r_19 = (-1000001) := hr_19.trans (by decide +kernel)
        exact hRet (c0, sc4_21) [1, 0, 2] ⟨pre0, (by (try dsimp only); unfold handR; (repeat (first | rw [if_pos (by omega)] | rw [if_neg (by omega)]))), (by (try dsimp only); unfold handS; (repeat (first | rw [if_pos (by omega)] | rw [if_neg (by omega)])))⟩ hP hD (by decide +kernel) rfl hS rfl dX11_hand_37
      · refine lv_iload_n hx hb dX11_hand_21 rfl (lv_at hl 3 rfl) ?_
        refine lv_iconst (v := 1) hx hb dX11_hand_22 (by decide +kernel) ?_
        refine lv_bipush (v := 50) hx hb dX11_hand_23 (by decide +kernel) ?_
        refine kJi (wr := [(k4, .inl (cI, 6, .inl c4)), (k, .inr (11, [.ref k0, .ref k1, .ref k2, .int c3, .ref k4, .ref k5, .ref k6, .ref k7, .ref k8, .int c9, .ref ka, .ref kb, .int cc, .int cd, .int ce, .int cf, .int cg, .int ch, .int ci, .int cj, .int ck, .ref kl, .int cm, .int cn, .ref ko])), (k0, .inl (cI, 1201, .inl c0))]) (va_runS (As := [.int a2, .int 1, .int 50]) (rest := []) ⟨hx, hb, hml, hown, hT⟩ (c_X11_inG l D cI aK aV H.size a2 1 50) (cwS 3 hT (gS_in mw_1238 mw_1236 mw_1237 mw_12) rfl rfl rfl (by decide +kernel) ⟨Nat.le_of_ble_eq_true rfl, Nat.le_of_ble_eq_true rfl⟩) (kStatX hK hP hD hN hXS hS hA [] rfl (by decide +kernel)) rfl rfl hl.1 rfl (lv_room (Nat.le_of_ble_eq_true rfl)) dX11_hand_25 ⟨Nat.le_of_ble_eq_true rfl, Nat.le_of_ble_eq_true rfl⟩) hP hD hS hA [] [0, 1, 2] rfl rfl (by decide +kernel) (by decide +kernel) ?_
        clear hP hD hS
        intro r_22 u_24 H locs w_23 hP hD hS
        replace hP : va_P D vwCl [(k4, .inl (cI, 6, .inl c4)), (k, .inr (11, [.ref k0, .ref k1, .ref k2, .int c3, .ref k4, .ref k5, .ref k6, .ref k7, .ref k8, .int c9, .ref ka, .ref kb, .int cc, .int cd, .int ce, .int cf, .int cg, .int ch, .int ci, .int cj, .int ck, .ref kl, .int cm, .int cn, .ref ko])), (k0, .inl (cI, 1201, .inl c0))] H := hP
        replace hD : va_D A [(k4, .inl (cI, 6, .inl c4)), (k, .inr (11, [.ref k0, .ref k1, .ref k2, .int c3, .ref k4, .ref k5, .ref k6, .ref k7, .ref k8, .int c9, .ref ka, .ref kb, .int cc, .int cd, .int ce, .int cf, .int cg, .int ch, .int ci, .int cj, .int ck, .ref kl, .int cm, .int cn, .ref ko])), (k0, .inl (cI, 1201, .inl c0))] := hD
        rcases w_23 with ⟨hr_22, h_25, h_26⟩ | ⟨hr_22, h_27⟩
        · try simp only [zl_1, zl_50] at h_25
          have h_25 : 1 ≤ a2.toInt := h_25
          try simp only [zl_1, zl_50] at h_26
          have h_26 : a2.toInt ≤ 50 := h_26
          obtain rfl : r_22 = 1 := hr_22.trans (by decide +kernel)
          refine b_if_ne hx hb zl_1 (tgt := 38) dX11_hand_28 (by decide +kernel) (fun c_28 => ?_) (fun c_28 => by exfalso; omega)
          refine lv_aload_n hx hb dX11_hand_38 rfl (lv_at hl 0 rfl) ?_
          refine lv_iload_n hx hb dX11_hand_39 rfl (lv_at hl 1 rfl) ?_
          refine kJi (wr := [(k4, .inl (cI, 6, .inl c4))]) (va_runV (As := [.int a0]) (rest := []) ⟨hx, hb, hml, hown, hT⟩ (c_X11_isLostG l D cI aK aV k k0 k1 k2 k4 k5 k6 k7 k8 ka kb kl ko H.size c3 c9 cc cd ce cf cg ch ci cj ck cm cn c0 a0 pre0 (by first | omega | decide | assumption | rfl) (by first | omega | decide | assumption | rfl) (by first | omega | decide | assumption | rfl)) (cwV 1 hT (gV_in mw_1424 mw_1421 mw_1423 mw_p5_6 mw_12) rfl rfl rfl (by decide +kernel) ⟨Nat.le_of_ble_eq_true rfl, Nat.le_of_ble_eq_true rfl⟩) (kRecvX (q0 := 1) (ci := 11) hK hP hD hN hXS hS hA rfl rfl [1, 2] rfl (by decide +kernel)) rfl rfl hl.1 rfl (lv_room (Nat.le_of_ble_eq_true rfl)) dX11_hand_40 ⟨Nat.le_of_ble_eq_true rfl, Nat.le_of_ble_eq_true rfl⟩) hP hD hS hA [1, 2] [0] rfl rfl (by decide +kernel) (by decide +kernel) ?_
          clear hP hD hS
          intro r_29 u_31 H locs w_30 hP hD hS
          replace hP : va_P D vwCl [(k4, .inl (cI, 6, .inl c4)), (k, .inr (11, [.ref k0, .ref k1, .ref k2, .int c3, .ref k4, .ref k5, .ref k6, .ref k7, .ref k8, .int c9, .ref ka, .ref kb, .int cc, .int cd, .int ce, .int cf, .int cg, .int ch, .int ci, .int cj, .int ck, .ref kl, .int cm, .int cn, .ref ko])), (k0, .inl (cI, 1201, .inl c0))] H := hP
          replace hD : va_D A [(k4, .inl (cI, 6, .inl c4)), (k, .inr (11, [.ref k0, .ref k1, .ref k2, .int c3, .ref k4, .ref k5, .ref k6, .ref k7, .ref k8, .int c9, .ref ka, .ref kb, .int cc, .int cd, .int ce, .int cf, .int cg, .int ch, .int ci, .int cj, .int ck, .ref kl, .int cm, .int cn, .ref ko])), (k0, .inl (cI, 1201, .inl c0))] := hD
          rcases w_30 with ⟨hr_29, h_32⟩ | ⟨hr_29, h_33, h_34⟩
          · have h_32 : (pW c0 a0 8).toInt = 2 := h_32
            obtain rfl : r_29 = 1 := hr_29.trans (by decide +kernel)
            refine b_if_ne hx hb zl_1 (tgt := 81) dX11_hand_43 (by decide +kernel) (fun c_35 => ?_) (fun c_35 => by exfalso; omega)
            refine lv_aload_n hx hb dX11_hand_81 rfl (lv_at hl 0 rfl) ?_
            refine lv_ldc (v := (-1000003)) hx hb hown (hT _ mw_1356) dX11_hand_82 ?_
            refine kJi (wr := [(k0, .inl (cI, 1201, .inl c0))]) (va_runV (As := [.int (-1000003)]) (rest := []) ⟨hx, hb, hml, hown, hT⟩ (c_X11_findingG l D cI aK aV k k0 k1 k2 k4 k5 k6 k7 k8 ka kb kl ko H.size c3 c9 cc cd ce cf cg ch ci cj ck cm cn c4 (-1000003) (by first | omega | (simp only [zl_m1000003]; first | done | omega) | decide | assumption | rfl) (by first | omega | (simp only [zl_m1000003]; first | done | omega) | decide | assumption | rfl)) (cwV 1 hT (gV_in mw_1243 mw_1240 mw_1242 mw_p3_8 mw_12) rfl rfl rfl (by decide +kernel) ⟨Nat.le_of_ble_eq_true rfl, Nat.le_of_ble_eq_true rfl⟩) (kRecvX (q0 := 1) (ci := 11) hK hP hD hN hXS hS hA rfl rfl [1, 0] rfl (by decide +kernel)) rfl rfl hl.1 rfl (lv_room (Nat.le_of_ble_eq_true rfl)) dX11_hand_84 ⟨Nat.le_of_ble_eq_true rfl, Nat.le_of_ble_eq_true rfl⟩) hP hD hS hA [1, 0] [2] rfl rfl (by decide +kernel) (by decide +kernel) ?_
            clear hP hD hS
            intro r_36 sc4_38 H locs w_37 hP hD hS
            replace hP : va_P D vwCl [(k0, .inl (cI, 1201, .inl c0)), (k, .inr (11, [.ref k0, .ref k1, .ref k2, .int c3, .ref k4, .ref k5, .ref k6, .ref k7, .ref k8, .int c9, .ref ka, .ref kb, .int cc, .int cd, .int ce, .int cf, .int cg, .int ch, .int ci, .int cj, .int ck, .ref kl, .int cm, .int cn, .ref ko])), (k4, .inl (cI, 6, .inl sc4_38))] H := hP
            replace hD : va_D A [(k0, .inl (cI, 1201, .inl c0)), (k, .inr (11, [.ref k0, .ref k1, .ref k2, .int c3, .ref k4, .ref k5, .ref k6, .ref k7, .ref k8, .int c9, .ref ka, .ref kb, .int cc, .int cd, .int ce, .int cf, .int cg, .int ch, .int ci, .int cj, .int ck, .ref kl, .int cm, .int cn, .ref ko])), (k4, .inl (cI, 6, .inl sc4_38))] := hD
            have hr_36 := w_37
            obtain rfl : r_36 = (-1000003) := hr_36.trans (by decide +kernel)
            exact hRet (c0, sc4_38) [1, 0, 2] ⟨pre0, (by (try dsimp only); unfold handR; (repeat (first | rw [if_pos (by omega)] | rw [if_neg (by omega)]))), (by (try dsimp only); unfold handS; (repeat (first | rw [if_pos (by omega)] | rw [if_neg (by omega)])))⟩ hP hD (by decide +kernel) rfl hS rfl dX11_hand_87
          · have h_33 : (pW c0 a0 8).toInt ≠ 2 := h_33
            have h_34 : 1 ≤ (pW c0 a0 2).toInt := h_34
            obtain rfl : r_29 = 0 := hr_29.trans (by decide +kernel)
            refine b_if_ne hx hb zl_0 (tgt := 81) dX11_hand_43 (by decide +kernel) (fun c_39 => by exfalso; omega) (fun c_39 => ?_)
            refine lv_aload_n hx hb dX11_hand_46 rfl (lv_at hl 0 rfl) ?_
            refine lv_iload_n hx hb dX11_hand_47 rfl (lv_at hl 2 rfl) ?_
            refine kJi (wr := [(k4, .inl (cI, 6, .inl c4))]) (va_runV (As := [.int a1]) (rest := []) ⟨hx, hb, hml, hown, hT⟩ (c_X11_isLostG l D cI aK aV k k0 k1 k2 k4 k5 k6 k7 k8 ka kb kl ko H.size c3 c9 cc cd ce cf cg ch ci cj ck cm cn c0 a1 pre0 (by first | omega | decide | assumption | rfl) (by first | omega | decide | assumption | rfl) (by first | omega | decide | assumption | rfl)) (cwV 1 hT (gV_in mw_1424 mw_1421 mw_1423 mw_p5_6 mw_12) rfl rfl rfl (by decide +kernel) ⟨Nat.le_of_ble_eq_true rfl, Nat.le_of_ble_eq_true rfl⟩) (kRecvX (q0 := 1) (ci := 11) hK hP hD hN hXS hS hA rfl rfl [1, 2] rfl (by decide +kernel)) rfl rfl hl.1 rfl (lv_room (Nat.le_of_ble_eq_true rfl)) dX11_hand_48 ⟨Nat.le_of_ble_eq_true rfl, Nat.le_of_ble_eq_true rfl⟩) hP hD hS hA [1, 2] [0] rfl rfl (by decide +kernel) (by decide +kernel) ?_
            clear hP hD hS
            intro r_40 u_42 H locs w_41 hP hD hS
            replace hP : va_P D vwCl [(k4, .inl (cI, 6, .inl c4)), (k, .inr (11, [.ref k0, .ref k1, .ref k2, .int c3, .ref k4, .ref k5, .ref k6, .ref k7, .ref k8, .int c9, .ref ka, .ref kb, .int cc, .int cd, .int ce, .int cf, .int cg, .int ch, .int ci, .int cj, .int ck, .ref kl, .int cm, .int cn, .ref ko])), (k0, .inl (cI, 1201, .inl c0))] H := hP
            replace hD : va_D A [(k4, .inl (cI, 6, .inl c4)), (k, .inr (11, [.ref k0, .ref k1, .ref k2, .int c3, .ref k4, .ref k5, .ref k6, .ref k7, .ref k8, .int c9, .ref ka, .ref kb, .int cc, .int cd, .int ce, .int cf, .int cg, .int ch, .int ci, .int cj, .int ck, .ref kl, .int cm, .int cn, .ref ko])), (k0, .inl (cI, 1201, .inl c0))] := hD
            rcases w_41 with ⟨hr_40, h_43⟩ | ⟨hr_40, h_44, h_45⟩
            · have h_43 : (pW c0 a1 8).toInt = 2 := h_43
              obtain rfl : r_40 = 1 := hr_40.trans (by decide +kernel)
              refine b_if_ne hx hb zl_1 (tgt := 81) dX11_hand_51 (by decide +kernel) (fun c_46 => ?_) (fun c_46 => by exfalso; omega)
              refine lv_aload_n hx hb dX11_hand_81 rfl (lv_at hl 0 rfl) ?_
              refine lv_ldc (v := (-1000003)) hx hb hown (hT _ mw_1356) dX11_hand_82 ?_
              refine kJi (wr := [(k0, .inl (cI, 1201, .inl c0))]) (va_runV (As := [.int (-1000003)]) (rest := []) ⟨hx, hb, hml, hown, hT⟩ (c_X11_findingG l D cI aK aV k k0 k1 k2 k4 k5 k6 k7 k8 ka kb kl ko H.size c3 c9 cc cd ce cf cg ch ci cj ck cm cn c4 (-1000003) (by first | omega | (simp only [zl_m1000003]; first | done | omega) | decide | assumption | rfl) (by first | omega | (simp only [zl_m1000003]; first | done | omega) | decide | assumption | rfl)) (cwV 1 hT (gV_in mw_1243 mw_1240 mw_1242 mw_p3_8 mw_12) rfl rfl rfl (by decide +kernel) ⟨Nat.le_of_ble_eq_true rfl, Nat.le_of_ble_eq_true rfl⟩) (kRecvX (q0 := 1) (ci := 11) hK hP hD hN hXS hS hA rfl rfl [1, 0] rfl (by decide +kernel)) rfl rfl hl.1 rfl (lv_room (Nat.le_of_ble_eq_true rfl)) dX11_hand_84 ⟨Nat.le_of_ble_eq_true rfl, Nat.le_of_ble_eq_true rfl⟩) hP hD hS hA [1, 0] [2] rfl rfl (by decide +kernel) (by decide +kernel) ?_
              clear hP hD hS
              intro r_47 sc4_49 H locs w_48 hP hD hS
              replace hP : va_P D vwCl [(k0, .inl (cI, 1201, .inl c0)), (k, .inr (11, [.ref k0, .ref k1, .ref k2, .int c3, .ref k4, .ref k5, .ref k6, .ref k7, .ref k8, .int c9, .ref ka, .ref kb, .int cc, .int cd, .int ce, .int cf, .int cg, .int ch, .int ci, .int cj, .int ck, .ref kl, .int cm, .int cn, .ref ko])), (k4, .inl (cI, 6, .inl sc4_49))] H := hP
              replace hD : va_D A [(k0, .inl (cI, 1201, .inl c0)), (k, .inr (11, [.ref k0, .ref k1, .ref k2, .int c3, .ref k4, .ref k5, .ref k6, .ref k7, .ref k8, .int c9, .ref ka, .ref kb, .int cc, .int cd, .int ce, .int cf, .int cg, .int ch, .int ci, .int cj, .int ck, .ref kl, .int cm, .int cn, .ref ko])), (k4, .inl (cI, 6, .inl sc4_49))] := hD
              have hr_47 := w_48
              obtain rfl : r_47 = (-1000003) := hr_47.trans (by decide +kernel)
              exact hRet (c0, sc4_49) [1, 0, 2] ⟨pre0, (by (try dsimp only); unfold handR; (repeat (first | rw [if_pos (by omega)] | rw [if_neg (by omega)]))), (by (try dsimp only); unfold handS; (repeat (first | rw [if_pos (by omega)] | rw [if_neg (by omega)])))⟩ hP hD (by decide +kernel) rfl hS rfl dX11_hand_87
            · have h_44 : (pW c0 a1 8).toInt ≠ 2 := h_44
              have h_45 : 1 ≤ (pW c0 a1 2).toInt := h_45
              obtain rfl : r_40 = 0 := hr_40.trans (by decide +kernel)
              refine b_if_ne hx hb zl_0 (tgt := 81) dX11_hand_51 (by decide +kernel) (fun c_50 => by exfalso; omega) (fun c_50 => ?_)
              refine lv_aload_n hx hb dX11_hand_54 rfl (lv_at hl 0 rfl) ?_
              refine lv_iload_n hx hb dX11_hand_55 rfl (lv_at hl 1 rfl) ?_
              refine lv_iconst (v := 0) hx hb dX11_hand_56 (by decide +kernel) ?_
              refine kJi (wr := [(k4, .inl (cI, 6, .inl c4))]) (va_runV (As := [.int a0, .int 0]) (rest := []) ⟨hx, hb, hml, hown, hT⟩ (c_X11_partyG0 l D cI aK aV k k0 k1 k2 k4 k5 k6 k7 k8 ka kb kl ko H.size c3 c9 cc cd ce cf cg ch ci cj ck cm cn c0 a0 0 (by first | omega | (simp only [zl_0]; first | done | omega) | decide | assumption | rfl) (by first | omega | (simp only [zl_0]; first | done | omega) | decide | assumption | rfl) (by first | omega | (simp only [zl_0]; first | done | omega) | decide | assumption | rfl)) (cwV 2 hT (gV_in mw_1416 mw_1413 mw_1415 mw_p5_5 mw_12) rfl rfl rfl (by decide +kernel) ⟨Nat.le_of_ble_eq_true rfl, Nat.le_of_ble_eq_true rfl⟩) (kRecvX (q0 := 1) (ci := 11) hK hP hD hN hXS hS hA rfl rfl [1, 2] rfl (by decide +kernel)) rfl rfl hl.1 rfl (lv_room (Nat.le_of_ble_eq_true rfl)) dX11_hand_57 ⟨Nat.le_of_ble_eq_true rfl, Nat.le_of_ble_eq_true rfl⟩) hP hD hS hA [1, 2] [0] rfl rfl (by decide +kernel) (by decide +kernel) ?_
              clear hP hD hS
              intro r_51 u_53 H locs w_52 hP hD hS
              replace hP : va_P D vwCl [(k4, .inl (cI, 6, .inl c4)), (k, .inr (11, [.ref k0, .ref k1, .ref k2, .int c3, .ref k4, .ref k5, .ref k6, .ref k7, .ref k8, .int c9, .ref ka, .ref kb, .int cc, .int cd, .int ce, .int cf, .int cg, .int ch, .int ci, .int cj, .int ck, .ref kl, .int cm, .int cn, .ref ko])), (k0, .inl (cI, 1201, .inl c0))] H := hP
              replace hD : va_D A [(k4, .inl (cI, 6, .inl c4)), (k, .inr (11, [.ref k0, .ref k1, .ref k2, .int c3, .ref k4, .ref k5, .ref k6, .ref k7, .ref k8, .int c9, .ref ka, .ref kb, .int cc, .int cd, .int ce, .int cf, .int cg, .int ch, .int ci, .int cj, .int ck, .ref kl, .int cm, .int cn, .ref ko])), (k0, .inl (cI, 1201, .inl c0))] := hD
              have h_54 := w_52
              have h_54 : r_51 = pW c0 a0 0 := h_54
              have t_55 : r_51.toInt = (pW c0 a0 0).toInt := by rw [h_54]
              have b_56 : 0 ≤ r_51.toInt ∧ r_51.toInt ≤ 39 := by rw [h_54]; exact SB.p0 (And.left pre0) (by omega) (by omega)
              have lo_r_51 := k_lo r_51
              have hi_r_51 := k_hi r_51
              refine lv_aload_n hx hb dX11_hand_60 rfl (lv_at hl 0 rfl) ?_
              refine lv_iload_n hx hb dX11_hand_61 rfl (lv_at hl 2 rfl) ?_
              refine lv_iconst (v := 0) hx hb dX11_hand_62 (by decide +kernel) ?_
              refine kJi (wr := [(k4, .inl (cI, 6, .inl c4))]) (va_runV (As := [.int a1, .int 0]) (rest := [.int r_51]) ⟨hx, hb, hml, hown, hT⟩ (c_X11_partyG0 l D cI aK aV k k0 k1 k2 k4 k5 k6 k7 k8 ka kb kl ko H.size c3 c9 cc cd ce cf cg ch ci cj ck cm cn c0 a1 0 (by first | omega | (simp only [zl_0]; first | done | omega) | decide | assumption | rfl) (by first | omega | (simp only [zl_0]; first | done | omega) | decide | assumption | rfl) (by first | omega | (simp only [zl_0]; first | done | omega) | decide | assumption | rfl)) (cwV 2 hT (gV_in mw_1416 mw_1413 mw_1415 mw_p5_5 mw_12) rfl rfl rfl (by decide +kernel) ⟨Nat.le_of_ble_eq_true rfl, Nat.le_of_ble_eq_true rfl⟩) (kRecvX (q0 := 1) (ci := 11) hK hP hD hN hXS hS hA rfl rfl [1, 2] rfl (by decide +kernel)) rfl rfl hl.1 rfl (lv_room (Nat.le_of_ble_eq_true rfl)) dX11_hand_63 ⟨Nat.le_of_ble_eq_true rfl, Nat.le_of_ble_eq_true rfl⟩) hP hD hS hA [1, 2] [0] rfl rfl (by decide +kernel) (by decide +kernel) ?_
              clear hP hD hS
              intro r_57 u_59 H locs w_58 hP hD hS
              replace hP : va_P D vwCl [(k4, .inl (cI, 6, .inl c4)), (k, .inr (11, [.ref k0, .ref k1, .ref k2, .int c3, .ref k4, .ref k5, .ref k6, .ref k7, .ref k8, .int c9, .ref ka, .ref kb, .int cc, .int cd, .int ce, .int cf, .int cg, .int ch, .int ci, .int cj, .int ck, .ref kl, .int cm, .int cn, .ref ko])), (k0, .inl (cI, 1201, .inl c0))] H := hP
              replace hD : va_D A [(k4, .inl (cI, 6, .inl c4)), (k, .inr (11, [.ref k0, .ref k1, .ref k2, .int c3, .ref k4, .ref k5, .ref k6, .ref k7, .ref k8, .int c9, .ref ka, .ref kb, .int cc, .int cd, .int ce, .int cf, .int cg, .int ch, .int ci, .int cj, .int ck, .ref kl, .int cm, .int cn, .ref ko])), (k0, .inl (cI, 1201, .inl c0))] := hD
              have h_60 := w_58
              have h_60 : r_57 = pW c0 a1 0 := h_60
              have t_61 : r_57.toInt = (pW c0 a1 0).toInt := by rw [h_60]
              have b_62 : 0 ≤ r_57.toInt ∧ r_57.toInt ≤ 39 := by rw [h_60]; exact SB.p0 (And.left pre0) (by omega) (by omega)
              have lo_r_57 := k_lo r_57
              have hi_r_57 := k_hi r_57
              refine b_icmp_ne hx hb rfl rfl (tgt := 81) dX11_hand_66 (by decide +kernel) (fun c_63 => ?_) (fun c_63 => ?_)
              · refine lv_aload_n hx hb dX11_hand_81 rfl (lv_at hl 0 rfl) ?_
                refine lv_ldc (v := (-1000003)) hx hb hown (hT _ mw_1356) dX11_hand_82 ?_
                refine kJi (wr := [(k0, .inl (cI, 1201, .inl c0))]) (va_runV (As := [.int (-1000003)]) (rest := []) ⟨hx, hb, hml, hown, hT⟩ (c_X11_findingG l D cI aK aV k k0 k1 k2 k4 k5 k6 k7 k8 ka kb kl ko H.size c3 c9 cc cd ce cf cg ch ci cj ck cm cn c4 (-1000003) (by first | omega | (simp only [zl_m1000003]; first | done | omega) | decide | assumption | rfl) (by first | omega | (simp only [zl_m1000003]; first | done | omega) | decide | assumption | rfl)) (cwV 1 hT (gV_in mw_1243 mw_1240 mw_1242 mw_p3_8 mw_12) rfl rfl rfl (by decide +kernel) ⟨Nat.le_of_ble_eq_true rfl, Nat.le_of_ble_eq_true rfl⟩) (kRecvX (q0 := 1) (ci := 11) hK hP hD hN hXS hS hA rfl rfl [1, 0] rfl (by decide +kernel)) rfl rfl hl.1 rfl (lv_room (Nat.le_of_ble_eq_true rfl)) dX11_hand_84 ⟨Nat.le_of_ble_eq_true rfl, Nat.le_of_ble_eq_true rfl⟩) hP hD hS hA [1, 0] [2] rfl rfl (by decide +kernel) (by decide +kernel) ?_
                clear hP hD hS
                intro r_64 sc4_66 H locs w_65 hP hD hS
                replace hP : va_P D vwCl [(k0, .inl (cI, 1201, .inl c0)), (k, .inr (11, [.ref k0, .ref k1, .ref k2, .int c3, .ref k4, .ref k5, .ref k6, .ref k7, .ref k8, .int c9, .ref ka, .ref kb, .int cc, .int cd, .int ce, .int cf, .int cg, .int ch, .int ci, .int cj, .int ck, .ref kl, .int cm, .int cn, .ref ko])), (k4, .inl (cI, 6, .inl sc4_66))] H := hP
                replace hD : va_D A [(k0, .inl (cI, 1201, .inl c0)), (k, .inr (11, [.ref k0, .ref k1, .ref k2, .int c3, .ref k4, .ref k5, .ref k6, .ref k7, .ref k8, .int c9, .ref ka, .ref kb, .int cc, .int cd, .int ce, .int cf, .int cg, .int ch, .int ci, .int cj, .int ck, .ref kl, .int cm, .int cn, .ref ko])), (k4, .inl (cI, 6, .inl sc4_66))] := hD
                have hr_64 := w_65
                obtain rfl : r_64 = (-1000003) := hr_64.trans (by decide +kernel)
                exact hRet (c0, sc4_66) [1, 0, 2] ⟨pre0, (by (try dsimp only); unfold handR; (repeat (first | rw [if_pos (by omega)] | rw [if_neg (by omega)]))), (by (try dsimp only); unfold handS; (repeat (first | rw [if_pos (by omega)] | rw [if_neg (by omega)])))⟩ hP hD (by decide +kernel) rfl hS rfl dX11_hand_87
              · refine lv_aload_n hx hb dX11_hand_69 rfl (lv_at hl 0 rfl) ?_
                refine lv_iload_n hx hb dX11_hand_70 rfl (lv_at hl 1 rfl) ?_
                refine lv_iconst (v := 2) hx hb dX11_hand_71 (by decide +kernel) ?_
                refine kJi (wr := [(k4, .inl (cI, 6, .inl c4))]) (va_runV (As := [.int a0, .int 2]) (rest := []) ⟨hx, hb, hml, hown, hT⟩ (c_X11_partyG2 l D cI aK aV k k0 k1 k2 k4 k5 k6 k7 k8 ka kb kl ko H.size c3 c9 cc cd ce cf cg ch ci cj ck cm cn c0 a0 2 (by first | omega | (simp only [zl_2]; first | done | omega) | decide | assumption | rfl) (by first | omega | (simp only [zl_2]; first | done | omega) | decide | assumption | rfl) (by first | omega | (simp only [zl_2]; first | done | omega) | decide | assumption | rfl)) (cwV 2 hT (gV_in mw_1416 mw_1413 mw_1415 mw_p5_5 mw_12) rfl rfl rfl (by decide +kernel) ⟨Nat.le_of_ble_eq_true rfl, Nat.le_of_ble_eq_true rfl⟩) (kRecvX (q0 := 1) (ci := 11) hK hP hD hN hXS hS hA rfl rfl [1, 2] rfl (by decide +kernel)) rfl rfl hl.1 rfl (lv_room (Nat.le_of_ble_eq_true rfl)) dX11_hand_72 ⟨Nat.le_of_ble_eq_true rfl, Nat.le_of_ble_eq_true rfl⟩) hP hD hS hA [1, 2] [0] rfl rfl (by decide +kernel) (by decide +kernel) ?_
                clear hP hD hS
                intro r_67 u_69 H locs w_68 hP hD hS
                replace hP : va_P D vwCl [(k4, .inl (cI, 6, .inl c4)), (k, .inr (11, [.ref k0, .ref k1, .ref k2, .int c3, .ref k4, .ref k5, .ref k6, .ref k7, .ref k8, .int c9, .ref ka, .ref kb, .int cc, .int cd, .int ce, .int cf, .int cg, .int ch, .int ci, .int cj, .int ck, .ref kl, .int cm, .int cn, .ref ko])), (k0, .inl (cI, 1201, .inl c0))] H := hP
                replace hD : va_D A [(k4, .inl (cI, 6, .inl c4)), (k, .inr (11, [.ref k0, .ref k1, .ref k2, .int c3, .ref k4, .ref k5, .ref k6, .ref k7, .ref k8, .int c9, .ref ka, .ref kb, .int cc, .int cd, .int ce, .int cf, .int cg, .int ch, .int ci, .int cj, .int ck, .ref kl, .int cm, .int cn, .ref ko])), (k0, .inl (cI, 1201, .inl c0))] := hD
                have h_70 := w_68
                have h_70 : r_67 = pW c0 a0 2 := h_70
                have t_71 : r_67.toInt = (pW c0 a0 2).toInt := by rw [h_70]
                have b_72 : 0 ≤ r_67.toInt ∧ r_67.toInt ≤ 50 := by rw [h_70]; exact SB.p2 (And.left pre0) (by omega) (by omega)
                have lo_r_67 := k_lo r_67
                have hi_r_67 := k_hi r_67
                refine lv_iload_n hx hb dX11_hand_75 rfl (lv_at hl 3 rfl) ?_
                refine lv_iconst (v := 1) hx hb dX11_hand_76 (by decide +kernel) ?_
                refine lv_iadd hx hb dX11_hand_77 ?_
                refine lv_topi (fun v_73 ev_73 => ?_)
                have tv_73 : v_73.toInt = a2.toInt + 1 := by rw [ev_73]; exact k_addv rfl zl_1 (by omega) (by omega)
                refine b_icmp_ge hx hb rfl rfl (tgt := 88) dX11_hand_78 (by decide +kernel) (fun c_74 => ?_) (fun c_74 => ?_)
                · refine lv_aload_n hx hb dX11_hand_88 rfl (lv_at hl 0 rfl) ?_
                  refine lv_iload_n hx hb dX11_hand_89 rfl (lv_at hl 2 rfl) ?_
                  refine lv_iconst (v := 2) hx hb dX11_hand_90 (by decide +kernel) ?_
                  refine kJi (wr := [(k4, .inl (cI, 6, .inl c4))]) (va_runV (As := [.int a1, .int 2]) (rest := []) ⟨hx, hb, hml, hown, hT⟩ (c_X11_partyG2 l D cI aK aV k k0 k1 k2 k4 k5 k6 k7 k8 ka kb kl ko H.size c3 c9 cc cd ce cf cg ch ci cj ck cm cn c0 a1 2 (by first | omega | (simp only [zl_2]; first | done | omega) | decide | assumption | rfl) (by first | omega | (simp only [zl_2]; first | done | omega) | decide | assumption | rfl) (by first | omega | (simp only [zl_2]; first | done | omega) | decide | assumption | rfl)) (cwV 2 hT (gV_in mw_1416 mw_1413 mw_1415 mw_p5_5 mw_12) rfl rfl rfl (by decide +kernel) ⟨Nat.le_of_ble_eq_true rfl, Nat.le_of_ble_eq_true rfl⟩) (kRecvX (q0 := 1) (ci := 11) hK hP hD hN hXS hS hA rfl rfl [1, 2] rfl (by decide +kernel)) rfl rfl hl.1 rfl (lv_room (Nat.le_of_ble_eq_true rfl)) dX11_hand_91 ⟨Nat.le_of_ble_eq_true rfl, Nat.le_of_ble_eq_true rfl⟩) hP hD hS hA [1, 2] [0] rfl rfl (by decide +kernel) (by decide +kernel) ?_
                  clear hP hD hS
                  intro r_75 u_77 H locs w_76 hP hD hS
                  replace hP : va_P D vwCl [(k4, .inl (cI, 6, .inl c4)), (k, .inr (11, [.ref k0, .ref k1, .ref k2, .int c3, .ref k4, .ref k5, .ref k6, .ref k7, .ref k8, .int c9, .ref ka, .ref kb, .int cc, .int cd, .int ce, .int cf, .int cg, .int ch, .int ci, .int cj, .int ck, .ref kl, .int cm, .int cn, .ref ko])), (k0, .inl (cI, 1201, .inl c0))] H := hP
                  replace hD : va_D A [(k4, .inl (cI, 6, .inl c4)), (k, .inr (11, [.ref k0, .ref k1, .ref k2, .int c3, .ref k4, .ref k5, .ref k6, .ref k7, .ref k8, .int c9, .ref ka, .ref kb, .int cc, .int cd, .int ce, .int cf, .int cg, .int ch, .int ci, .int cj, .int ck, .ref kl, .int cm, .int cn, .ref ko])), (k0, .inl (cI, 1201, .inl c0))] := hD
                  have h_78 := w_76
                  have h_78 : r_75 = pW c0 a1 2 := h_78
                  have t_79 : r_75.toInt = (pW c0 a1 2).toInt := by rw [h_78]
                  have b_80 : 0 ≤ r_75.toInt ∧ r_75.toInt ≤ 50 := by rw [h_78]; exact SB.p2 (And.left pre0) (by omega) (by omega)
                  have lo_r_75 := k_lo r_75
                  have hi_r_75 := k_hi r_75
                  refine lv_iload_n hx hb dX11_hand_94 rfl (lv_at hl 3 rfl) ?_
                  refine lv_iadd hx hb dX11_hand_95 ?_
                  refine lv_topi (fun v_81 ev_81 => ?_)
                  have tv_81 : v_81.toInt = r_75.toInt + a2.toInt := by rw [ev_81]; exact k_addv rfl rfl (by omega) (by omega)
                  refine lv_bipush (v := 50) hx hb dX11_hand_96 (by decide +kernel) ?_
                  refine b_icmp_le hx hb rfl zl_50 (tgt := 108) dX11_hand_98 (by decide +kernel) (fun c_82 => ?_) (fun c_82 => ?_)
                  · refine lv_aload_n hx hb dX11_hand_108 rfl (lv_at hl 0 rfl) ?_
                    refine lv_iload_n hx hb dX11_hand_109 rfl (lv_at hl 1 rfl) ?_
                    refine lv_iconst (v := 2) hx hb dX11_hand_110 (by decide +kernel) ?_
                    refine lv_aload_n hx hb dX11_hand_111 rfl (lv_at hl 0 rfl) ?_
                    refine lv_iload_n hx hb dX11_hand_112 rfl (lv_at hl 1 rfl) ?_
                    refine lv_iconst (v := 2) hx hb dX11_hand_113 (by decide +kernel) ?_
                    refine kJi (wr := [(k4, .inl (cI, 6, .inl c4))]) (va_runV (As := [.int a0, .int 2]) (rest := [.int 2, .int a0, .ref k]) ⟨hx, hb, hml, hown, hT⟩ (c_X11_partyG2 l D cI aK aV k k0 k1 k2 k4 k5 k6 k7 k8 ka kb kl ko H.size c3 c9 cc cd ce cf cg ch ci cj ck cm cn c0 a0 2 (by first | omega | (simp only [zl_2]; first | done | omega) | decide | assumption | rfl) (by first | omega | (simp only [zl_2]; first | done | omega) | decide | assumption | rfl) (by first | omega | (simp only [zl_2]; first | done | omega) | decide | assumption | rfl)) (cwV 2 hT (gV_in mw_1416 mw_1413 mw_1415 mw_p5_5 mw_12) rfl rfl rfl (by decide +kernel) ⟨Nat.le_of_ble_eq_true rfl, Nat.le_of_ble_eq_true rfl⟩) (kRecvX (q0 := 1) (ci := 11) hK hP hD hN hXS hS hA rfl rfl [1, 2] rfl (by decide +kernel)) rfl rfl hl.1 rfl (lv_room (Nat.le_of_ble_eq_true rfl)) dX11_hand_114 ⟨Nat.le_of_ble_eq_true rfl, Nat.le_of_ble_eq_true rfl⟩) hP hD hS hA [1, 2] [0] rfl rfl (by decide +kernel) (by decide +kernel) ?_
                    clear hP hD hS
                    intro r_83 u_85 H locs w_84 hP hD hS
                    replace hP : va_P D vwCl [(k4, .inl (cI, 6, .inl c4)), (k, .inr (11, [.ref k0, .ref k1, .ref k2, .int c3, .ref k4, .ref k5, .ref k6, .ref k7, .ref k8, .int c9, .ref ka, .ref kb, .int cc, .int cd, .int ce, .int cf, .int cg, .int ch, .int ci, .int cj, .int ck, .ref kl, .int cm, .int cn, .ref ko])), (k0, .inl (cI, 1201, .inl c0))] H := hP
                    replace hD : va_D A [(k4, .inl (cI, 6, .inl c4)), (k, .inr (11, [.ref k0, .ref k1, .ref k2, .int c3, .ref k4, .ref k5, .ref k6, .ref k7, .ref k8, .int c9, .ref ka, .ref kb, .int cc, .int cd, .int ce, .int cf, .int cg, .int ch, .int ci, .int cj, .int ck, .ref kl, .int cm, .int cn, .ref ko])), (k0, .inl (cI, 1201, .inl c0))] := hD
                    have h_86 := w_84
                    have h_86 : r_83 = pW c0 a0 2 := h_86
                    have t_87 : r_83.toInt = (pW c0 a0 2).toInt := by rw [h_86]
                    have b_88 : 0 ≤ r_83.toInt ∧ r_83.toInt ≤ 50 := by rw [h_86]; exact SB.p2 (And.left pre0) (by omega) (by omega)
                    have lo_r_83 := k_lo r_83
                    have hi_r_83 := k_hi r_83
                    refine lv_iload_n hx hb dX11_hand_117 rfl (lv_at hl 3 rfl) ?_
                    refine lv_isub hx hb dX11_hand_118 ?_
                    refine lv_topi (fun v_89 ev_89 => ?_)
                    have tv_89 : v_89.toInt = r_83.toInt - a2.toInt := by rw [ev_89]; exact k_subv rfl rfl (by omega) (by omega)
                    refine kJv (wr := [(k4, .inl (cI, 6, .inl c4))]) (va_runV (As := [.int a0, .int 2, .int v_89]) (rest := []) ⟨hx, hb, hml, hown, hT⟩ (c_X11_setPartyG2 l D cI aK aV k k0 k1 k2 k4 k5 k6 k7 k8 ka kb kl ko H.size c3 c9 cc cd ce cf cg ch ci cj ck cm cn c0 a0 2 v_89 (by first | omega | (simp only [zl_2]; first | done | omega) | decide | assumption | rfl) (by first | omega | (simp only [zl_2]; first | done | omega) | decide | assumption | rfl) (by first | omega | (simp only [zl_2]; first | done | omega) | decide | assumption | rfl)) (cwV 3 hT (gV_in mw_1404 mw_1401 mw_1403 mw_p5_3 mw_12) rfl rfl rfl (by decide +kernel) ⟨Nat.le_of_ble_eq_true rfl, Nat.le_of_ble_eq_true rfl⟩) (kRecvX (q0 := 1) (ci := 11) hK hP hD hN hXS hS hA rfl rfl [1, 2] rfl (by decide +kernel)) rfl rfl hl.1 rfl (lv_room (Nat.le_of_ble_eq_true rfl)) dX11_hand_119 ⟨Nat.le_of_ble_eq_true rfl, Nat.le_of_ble_eq_true rfl⟩) hP hD hS hA [1, 2] [0] rfl rfl (by decide +kernel) (by decide +kernel) ?_
                    clear hP hD hS
                    intro sc0_92 H locs w_91 hP hD hS
                    replace hP : va_P D vwCl [(k4, .inl (cI, 6, .inl c4)), (k, .inr (11, [.ref k0, .ref k1, .ref k2, .int c3, .ref k4, .ref k5, .ref k6, .ref k7, .ref k8, .int c9, .ref ka, .ref kb, .int cc, .int cd, .int ce, .int cf, .int cg, .int ch, .int ci, .int cj, .int ck, .ref kl, .int cm, .int cn, .ref ko])), (k0, .inl (cI, 1201, .inl sc0_92))] H := hP
                    replace hD : va_D A [(k4, .inl (cI, 6, .inl c4)), (k, .inr (11, [.ref k0, .ref k1, .ref k2, .int c3, .ref k4, .ref k5, .ref k6, .ref k7, .ref k8, .int c9, .ref ka, .ref kb, .int cc, .int cd, .int ce, .int cf, .int cg, .int ch, .int ci, .int cj, .int ck, .ref kl, .int cm, .int cn, .ref ko])), (k0, .inl (cI, 1201, .inl sc0_92))] := hD
                    have h_93 := w_91
                    try simp only [zl_2] at h_93
                    have h_93 : sc0_92 = upd c0 (459 + 9 * a0.toInt.toNat + 2) v_89 := h_93
                    have h_93 : sc0_92 = upd c0 (459 + 9 * a0.toInt.toNat + 2) v_89 := h_93
                    have hS_94 : SIX sc0_92 (-1) := SIX.p pre0 h_93 rfl (by omega) (by omega) (by decide +kernel) (by omega) (fun _ => Or.inl (by omega)) (fun z => by omega)
                    have n_95 : (sc0_92 0).toInt = (c0 0).toInt := by rw [updN h_93 (by omega)]
                    have n_96 : (sc0_92 1).toInt = (c0 1).toInt := by rw [updN h_93 (by omega)]
                    have n_97 : (sc0_92 2).toInt = (c0 2).toInt := by rw [updN h_93 (by omega)]
                    have n_99 : (pW sc0_92 a1 2).toInt = (pW c0 a1 2).toInt := by rw [pW_upd h_93 (by decide +kernel) (by decide +kernel) (Or.inr (by omega))]
                    refine lv_aload_n hx hb dX11_hand_122 rfl (lv_at hl 0 rfl) ?_
                    refine lv_iload_n hx hb dX11_hand_123 rfl (lv_at hl 2 rfl) ?_
                    refine lv_iconst (v := 2) hx hb dX11_hand_124 (by decide +kernel) ?_
                    refine lv_aload_n hx hb dX11_hand_125 rfl (lv_at hl 0 rfl) ?_
                    refine lv_iload_n hx hb dX11_hand_126 rfl (lv_at hl 2 rfl) ?_
                    refine lv_iconst (v := 2) hx hb dX11_hand_127 (by decide +kernel) ?_
                    refine kJi (wr := [(k4, .inl (cI, 6, .inl c4))]) (va_runV (As := [.int a1, .int 2]) (rest := [.int 2, .int a1, .ref k]) ⟨hx, hb, hml, hown, hT⟩ (c_X11_partyG2 l D cI aK aV k k0 k1 k2 k4 k5 k6 k7 k8 ka kb kl ko H.size c3 c9 cc cd ce cf cg ch ci cj ck cm cn sc0_92 a1 2 (by first | omega | (simp only [zl_2]; first | done | omega) | decide | assumption | rfl) (by first | omega | (simp only [zl_2]; first | done | omega) | decide | assumption | rfl) (by first | omega | (simp only [zl_2]; first | done | omega) | decide | assumption | rfl)) (cwV 2 hT (gV_in mw_1416 mw_1413 mw_1415 mw_p5_5 mw_12) rfl rfl rfl (by decide +kernel) ⟨Nat.le_of_ble_eq_true rfl, Nat.le_of_ble_eq_true rfl⟩) (kRecvX (q0 := 1) (ci := 11) hK hP hD hN hXS hS hA rfl rfl [1, 2] rfl (by decide +kernel)) rfl rfl hl.1 rfl (lv_room (Nat.le_of_ble_eq_true rfl)) dX11_hand_128 ⟨Nat.le_of_ble_eq_true rfl, Nat.le_of_ble_eq_true rfl⟩) hP hD hS hA [1, 2] [0] rfl rfl (by decide +kernel) (by decide +kernel) ?_
                    clear hP hD hS
                    intro r_100 u_102 H locs w_101 hP hD hS
                    replace hP : va_P D vwCl [(k4, .inl (cI, 6, .inl c4)), (k, .inr (11, [.ref k0, .ref k1, .ref k2, .int c3, .ref k4, .ref k5, .ref k6, .ref k7, .ref k8, .int c9, .ref ka, .ref kb, .int cc, .int cd, .int ce, .int cf, .int cg, .int ch, .int ci, .int cj, .int ck, .ref kl, .int cm, .int cn, .ref ko])), (k0, .inl (cI, 1201, .inl sc0_92))] H := hP
                    replace hD : va_D A [(k4, .inl (cI, 6, .inl c4)), (k, .inr (11, [.ref k0, .ref k1, .ref k2, .int c3, .ref k4, .ref k5, .ref k6, .ref k7, .ref k8, .int c9, .ref ka, .ref kb, .int cc, .int cd, .int ce, .int cf, .int cg, .int ch, .int ci, .int cj, .int ck, .ref kl, .int cm, .int cn, .ref ko])), (k0, .inl (cI, 1201, .inl sc0_92))] := hD
                    have h_103 := w_101
                    have h_103 : r_100 = pW sc0_92 a1 2 := h_103
                    have t_104 : r_100.toInt = (pW sc0_92 a1 2).toInt := by rw [h_103]
                    have b_105 : 0 ≤ r_100.toInt ∧ r_100.toInt ≤ 50 := by rw [h_103]; exact SB.p2 (And.left hS_94) (by omega) (by omega)
                    have lo_r_100 := k_lo r_100
                    have hi_r_100 := k_hi r_100
                    refine lv_iload_n hx hb dX11_hand_131 rfl (lv_at hl 3 rfl) ?_
                    refine lv_iadd hx hb dX11_hand_132 ?_
                    refine lv_topi (fun v_106 ev_106 => ?_)
                    have tv_106 : v_106.toInt = r_100.toInt + a2.toInt := by rw [ev_106]; exact k_addv rfl rfl (by omega) (by omega)
                    refine kJv (wr := [(k4, .inl (cI, 6, .inl c4))]) (va_runV (As := [.int a1, .int 2, .int v_106]) (rest := []) ⟨hx, hb, hml, hown, hT⟩ (c_X11_setPartyG2 l D cI aK aV k k0 k1 k2 k4 k5 k6 k7 k8 ka kb kl ko H.size c3 c9 cc cd ce cf cg ch ci cj ck cm cn sc0_92 a1 2 v_106 (by first | omega | (simp only [zl_2]; first | done | omega) | decide | assumption | rfl) (by first | omega | (simp only [zl_2]; first | done | omega) | decide | assumption | rfl) (by first | omega | (simp only [zl_2]; first | done | omega) | decide | assumption | rfl)) (cwV 3 hT (gV_in mw_1404 mw_1401 mw_1403 mw_p5_3 mw_12) rfl rfl rfl (by decide +kernel) ⟨Nat.le_of_ble_eq_true rfl, Nat.le_of_ble_eq_true rfl⟩) (kRecvX (q0 := 1) (ci := 11) hK hP hD hN hXS hS hA rfl rfl [1, 2] rfl (by decide +kernel)) rfl rfl hl.1 rfl (lv_room (Nat.le_of_ble_eq_true rfl)) dX11_hand_133 ⟨Nat.le_of_ble_eq_true rfl, Nat.le_of_ble_eq_true rfl⟩) hP hD hS hA [1, 2] [0] rfl rfl (by decide +kernel) (by decide +kernel) ?_
                    clear hP hD hS
                    intro sc0_109 H locs w_108 hP hD hS
                    replace hP : va_P D vwCl [(k4, .inl (cI, 6, .inl c4)), (k, .inr (11, [.ref k0, .ref k1, .ref k2, .int c3, .ref k4, .ref k5, .ref k6, .ref k7, .ref k8, .int c9, .ref ka, .ref kb, .int cc, .int cd, .int ce, .int cf, .int cg, .int ch, .int ci, .int cj, .int ck, .ref kl, .int cm, .int cn, .ref ko])), (k0, .inl (cI, 1201, .inl sc0_109))] H := hP
                    replace hD : va_D A [(k4, .inl (cI, 6, .inl c4)), (k, .inr (11, [.ref k0, .ref k1, .ref k2, .int c3, .ref k4, .ref k5, .ref k6, .ref k7, .ref k8, .int c9, .ref ka, .ref kb, .int cc, .int cd, .int ce, .int cf, .int cg, .int ch, .int ci, .int cj, .int ck, .ref kl, .int cm, .int cn, .ref ko])), (k0, .inl (cI, 1201, .inl sc0_109))] := hD
                    have h_110 := w_108
                    try simp only [zl_2] at h_110
                    have h_110 : sc0_109 = upd sc0_92 (459 + 9 * a1.toInt.toNat + 2) v_106 := h_110
                    have h_110 : sc0_109 = upd sc0_92 (459 + 9 * a1.toInt.toNat + 2) v_106 := h_110
                    have hS_111 : SIX sc0_109 (-1) := SIX.p hS_94 h_110 rfl (by omega) (by omega) (by decide +kernel) (by omega) (fun _ => Or.inl (by omega)) (fun z => by omega)
                    have n_112 : (sc0_109 0).toInt = (sc0_92 0).toInt := by rw [updN h_110 (by omega)]
                    have n_113 : (sc0_109 1).toInt = (sc0_92 1).toInt := by rw [updN h_110 (by omega)]
                    have n_114 : (sc0_109 2).toInt = (sc0_92 2).toInt := by rw [updN h_110 (by omega)]
                    refine lv_aload_n hx hb dX11_hand_136 rfl (lv_at hl 0 rfl) ?_
                    refine lv_iload_n hx hb dX11_hand_137 rfl (lv_at hl 2 rfl) ?_
                    refine lv_iconst (v := 2) hx hb dX11_hand_138 (by decide +kernel) ?_
                    refine kJi (wr := [(k4, .inl (cI, 6, .inl c4))]) (va_runV (As := [.int a1, .int 2]) (rest := []) ⟨hx, hb, hml, hown, hT⟩ (c_X11_partyG2 l D cI aK aV k k0 k1 k2 k4 k5 k6 k7 k8 ka kb kl ko H.size c3 c9 cc cd ce cf cg ch ci cj ck cm cn sc0_109 a1 2 (by first | omega | (simp only [zl_2]; first | done | omega) | decide | assumption | rfl) (by first | omega | (simp only [zl_2]; first | done | omega) | decide | assumption | rfl) (by first | omega | (simp only [zl_2]; first | done | omega) | decide | assumption | rfl)) (cwV 2 hT (gV_in mw_1416 mw_1413 mw_1415 mw_p5_5 mw_12) rfl rfl rfl (by decide +kernel) ⟨Nat.le_of_ble_eq_true rfl, Nat.le_of_ble_eq_true rfl⟩) (kRecvX (q0 := 1) (ci := 11) hK hP hD hN hXS hS hA rfl rfl [1, 2] rfl (by decide +kernel)) rfl rfl hl.1 rfl (lv_room (Nat.le_of_ble_eq_true rfl)) dX11_hand_139 ⟨Nat.le_of_ble_eq_true rfl, Nat.le_of_ble_eq_true rfl⟩) hP hD hS hA [1, 2] [0] rfl rfl (by decide +kernel) (by decide +kernel) ?_
                    clear hP hD hS
                    intro r_116 u_118 H locs w_117 hP hD hS
                    replace hP : va_P D vwCl [(k4, .inl (cI, 6, .inl c4)), (k, .inr (11, [.ref k0, .ref k1, .ref k2, .int c3, .ref k4, .ref k5, .ref k6, .ref k7, .ref k8, .int c9, .ref ka, .ref kb, .int cc, .int cd, .int ce, .int cf, .int cg, .int ch, .int ci, .int cj, .int ck, .ref kl, .int cm, .int cn, .ref ko])), (k0, .inl (cI, 1201, .inl sc0_109))] H := hP
                    replace hD : va_D A [(k4, .inl (cI, 6, .inl c4)), (k, .inr (11, [.ref k0, .ref k1, .ref k2, .int c3, .ref k4, .ref k5, .ref k6, .ref k7, .ref k8, .int c9, .ref ka, .ref kb, .int cc, .int cd, .int ce, .int cf, .int cg, .int ch, .int ci, .int cj, .int ck, .ref kl, .int cm, .int cn, .ref ko])), (k0, .inl (cI, 1201, .inl sc0_109))] := hD
                    have h_119 := w_117
                    have h_119 : r_116 = pW sc0_109 a1 2 := h_119
                    have t_120 : r_116.toInt = (pW sc0_109 a1 2).toInt := by rw [h_119]
                    have b_121 : 0 ≤ r_116.toInt ∧ r_116.toInt ≤ 50 := by rw [h_119]; exact SB.p2 (And.left hS_111) (by omega) (by omega)
                    have lo_r_116 := k_lo r_116
                    have hi_r_116 := k_hi r_116
                    exact hRet (sc0_109, c4) [1, 2, 0] ⟨hS_111, (by (try dsimp only); unfold handR; (repeat (first | rw [if_pos (by omega)] | rw [if_neg (by omega)])); first | done | exact (by rw [h_119, h_110]; unfold pW; rw [sp_at]; exact (show v_106 = pW c0 a1 2 + a2 from (by rw [ev_106, h_103, hnd_v (f := c0) (n := a2) (by omega) (by omega) (by omega) h_93])))), (by (try dsimp only); unfold handS; (repeat (first | rw [if_pos (by omega)] | rw [if_neg (by omega)])); first | done | exact (by rw [h_110, show v_106 = pW c0 a1 2 + a2 from (by rw [ev_106, h_103, hnd_v (f := c0) (n := a2) (by omega) (by omega) (by omega) h_93]), h_93, show v_89 = pW c0 a0 2 - a2 from (by rw [ev_89, h_86])]))⟩ hP hD (by decide +kernel) rfl hS rfl dX11_hand_142
                  · refine lv_aload_n hx hb dX11_hand_101 rfl (lv_at hl 0 rfl) ?_
                    refine lv_ldc (v := (-1000004)) hx hb hown (hT _ mw_1256) dX11_hand_102 ?_
                    refine kJi (wr := [(k0, .inl (cI, 1201, .inl c0))]) (va_runV (As := [.int (-1000004)]) (rest := []) ⟨hx, hb, hml, hown, hT⟩ (c_X11_findingG l D cI aK aV k k0 k1 k2 k4 k5 k6 k7 k8 ka kb kl ko H.size c3 c9 cc cd ce cf cg ch ci cj ck cm cn c4 (-1000004) (by first | omega | (simp only [zl_m1000004]; first | done | omega) | decide | assumption | rfl) (by first | omega | (simp only [zl_m1000004]; first | done | omega) | decide | assumption | rfl)) (cwV 1 hT (gV_in mw_1243 mw_1240 mw_1242 mw_p3_8 mw_12) rfl rfl rfl (by decide +kernel) ⟨Nat.le_of_ble_eq_true rfl, Nat.le_of_ble_eq_true rfl⟩) (kRecvX (q0 := 1) (ci := 11) hK hP hD hN hXS hS hA rfl rfl [1, 0] rfl (by decide +kernel)) rfl rfl hl.1 rfl (lv_room (Nat.le_of_ble_eq_true rfl)) dX11_hand_104 ⟨Nat.le_of_ble_eq_true rfl, Nat.le_of_ble_eq_true rfl⟩) hP hD hS hA [1, 0] [2] rfl rfl (by decide +kernel) (by decide +kernel) ?_
                    clear hP hD hS
                    intro r_122 sc4_124 H locs w_123 hP hD hS
                    replace hP : va_P D vwCl [(k0, .inl (cI, 1201, .inl c0)), (k, .inr (11, [.ref k0, .ref k1, .ref k2, .int c3, .ref k4, .ref k5, .ref k6, .ref k7, .ref k8, .int c9, .ref ka, .ref kb, .int cc, .int cd, .int ce, .int cf, .int cg, .int ch, .int ci, .int cj, .int ck, .ref kl, .int cm, .int cn, .ref ko])), (k4, .inl (cI, 6, .inl sc4_124))] H := hP
                    replace hD : va_D A [(k0, .inl (cI, 1201, .inl c0)), (k, .inr (11, [.ref k0, .ref k1, .ref k2, .int c3, .ref k4, .ref k5, .ref k6, .ref k7, .ref k8, .int c9, .ref ka, .ref kb, .int cc, .int cd, .int ce, .int cf, .int cg, .int ch, .int ci, .int cj, .int ck, .ref kl, .int cm, .int cn, .ref ko])), (k4, .inl (cI, 6, .inl sc4_124))] := hD
                    have hr_122 := w_123
                    obtain rfl : r_122 = (-1000004) := hr_122.trans (by decide +kernel)
                    exact hRet (c0, sc4_124) [1, 0, 2] ⟨pre0, (by (try dsimp only); unfold handR; (repeat (first | rw [if_pos (by omega)] | rw [if_neg (by omega)]))), (by (try dsimp only); unfold handS; (repeat (first | rw [if_pos (by omega)] | rw [if_neg (by omega)])))⟩ hP hD (by decide +kernel) rfl hS rfl dX11_hand_107
                · refine lv_aload_n hx hb dX11_hand_81 rfl (lv_at hl 0 rfl) ?_
                  refine lv_ldc (v := (-1000003)) hx hb hown (hT _ mw_1356) dX11_hand_82 ?_
                  refine kJi (wr := [(k0, .inl (cI, 1201, .inl c0))]) (va_runV (As := [.int (-1000003)]) (rest := []) ⟨hx, hb, hml, hown, hT⟩ (c_X11_findingG l D cI aK aV k k0 k1 k2 k4 k5 k6 k7 k8 ka kb kl ko H.size c3 c9 cc cd ce cf cg ch ci cj ck cm cn c4 (-1000003) (by first | omega | (simp only [zl_m1000003]; first | done | omega) | decide | assumption | rfl) (by first | omega | (simp only [zl_m1000003]; first | done | omega) | decide | assumption | rfl)) (cwV 1 hT (gV_in mw_1243 mw_1240 mw_1242 mw_p3_8 mw_12) rfl rfl rfl (by decide +kernel) ⟨Nat.le_of_ble_eq_true rfl, Nat.le_of_ble_eq_true rfl⟩) (kRecvX (q0 := 1) (ci := 11) hK hP hD hN hXS hS hA rfl rfl [1, 0] rfl (by decide +kernel)) rfl rfl hl.1 rfl (lv_room (Nat.le_of_ble_eq_true rfl)) dX11_hand_84 ⟨Nat.le_of_ble_eq_true rfl, Nat.le_of_ble_eq_true rfl⟩) hP hD hS hA [1, 0] [2] rfl rfl (by decide +kernel) (by decide +kernel) ?_
                  clear hP hD hS
                  intro r_125 sc4_127 H locs w_126 hP hD hS
                  replace hP : va_P D vwCl [(k0, .inl (cI, 1201, .inl c0)), (k, .inr (11, [.ref k0, .ref k1, .ref k2, .int c3, .ref k4, .ref k5, .ref k6, .ref k7, .ref k8, .int c9, .ref ka, .ref kb, .int cc, .int cd, .int ce, .int cf, .int cg, .int ch, .int ci, .int cj, .int ck, .ref kl, .int cm, .int cn, .ref ko])), (k4, .inl (cI, 6, .inl sc4_127))] H := hP
                  replace hD : va_D A [(k0, .inl (cI, 1201, .inl c0)), (k, .inr (11, [.ref k0, .ref k1, .ref k2, .int c3, .ref k4, .ref k5, .ref k6, .ref k7, .ref k8, .int c9, .ref ka, .ref kb, .int cc, .int cd, .int ce, .int cf, .int cg, .int ch, .int ci, .int cj, .int ck, .ref kl, .int cm, .int cn, .ref ko])), (k4, .inl (cI, 6, .inl sc4_127))] := hD
                  have hr_125 := w_126
                  obtain rfl : r_125 = (-1000003) := hr_125.trans (by decide +kernel)
                  exact hRet (c0, sc4_127) [1, 0, 2] ⟨pre0, (by (try dsimp only); unfold handR; (repeat (first | rw [if_pos (by omega)] | rw [if_neg (by omega)]))), (by (try dsimp only); unfold handS; (repeat (first | rw [if_pos (by omega)] | rw [if_neg (by omega)])))⟩ hP hD (by decide +kernel) rfl hS rfl dX11_hand_87
        · try simp only [zl_1, zl_50] at h_27
          have h_27 : a2.toInt < 1 ∨ 50 < a2.toInt := h_27
          obtain rfl : r_22 = 0 := hr_22.trans (by decide +kernel)
          refine b_if_ne hx hb zl_0 (tgt := 38) dX11_hand_28 (by decide +kernel) (fun c_128 => by exfalso; omega) (fun c_128 => ?_)
          refine lv_aload_n hx hb dX11_hand_31 rfl (lv_at hl 0 rfl) ?_
          refine lv_ldc (v := (-1000001)) hx hb hown (hT _ mw_1239) dX11_hand_32 ?_
          refine kJi (wr := [(k0, .inl (cI, 1201, .inl c0))]) (va_runV (As := [.int (-1000001)]) (rest := []) ⟨hx, hb, hml, hown, hT⟩ (c_X11_findingG l D cI aK aV k k0 k1 k2 k4 k5 k6 k7 k8 ka kb kl ko H.size c3 c9 cc cd ce cf cg ch ci cj ck cm cn c4 (-1000001) (by first | omega | (simp only [zl_m1000001]; first | done | omega) | decide | assumption | rfl) (by first | omega | (simp only [zl_m1000001]; first | done | omega) | decide | assumption | rfl)) (cwV 1 hT (gV_in mw_1243 mw_1240 mw_1242 mw_p3_8 mw_12) rfl rfl rfl (by decide +kernel) ⟨Nat.le_of_ble_eq_true rfl, Nat.le_of_ble_eq_true rfl⟩) (kRecvX (q0 := 1) (ci := 11) hK hP hD hN hXS hS hA rfl rfl [1, 0] rfl (by decide +kernel)) rfl rfl hl.1 rfl (lv_room (Nat.le_of_ble_eq_true rfl)) dX11_hand_34 ⟨Nat.le_of_ble_eq_true rfl, Nat.le_of_ble_eq_true rfl⟩) hP hD hS hA [1, 0] [2] rfl rfl (by decide +kernel) (by decide +kernel) ?_
          clear hP hD hS
          intro r_129 sc4_131 H locs w_130 hP hD hS
          replace hP : va_P D vwCl [(k0, .inl (cI, 1201, .inl c0)), (k, .inr (11, [.ref k0, .ref k1, .ref k2, .int c3, .ref k4, .ref k5, .ref k6, .ref k7, .ref k8, .int c9, .ref ka, .ref kb, .int cc, .int cd, .int ce, .int cf, .int cg, .int ch, .int ci, .int cj, .int ck, .ref kl, .int cm, .int cn, .ref ko])), (k4, .inl (cI, 6, .inl sc4_131))] H := hP
          replace hD : va_D A [(k0, .inl (cI, 1201, .inl c0)), (k, .inr (11, [.ref k0, .ref k1, .ref k2, .int c3, .ref k4, .ref k5, .ref k6, .ref k7, .ref k8, .int c9, .ref ka, .ref kb, .int cc, .int cd, .int ce, .int cf, .int cg, .int ch, .int ci, .int cj, .int ck, .ref kl, .int cm, .int cn, .ref ko])), (k4, .inl (cI, 6, .inl sc4_131))] := hD
          have hr_129 := w_130
          obtain rfl : r_129 = (-1000001) := hr_129.trans (by decide +kernel)
          exact hRet (c0, sc4_131) [1, 0, 2] ⟨pre0, (by (try dsimp only); unfold handR; (repeat (first | rw [if_pos (by omega)] | rw [if_neg (by omega)]))), (by (try dsimp only); unfold handS; (repeat (first | rw [if_pos (by omega)] | rw [if_neg (by omega)])))⟩ hP hD (by decide +kernel) rfl hS rfl dX11_hand_37
    · have h_16 : a1.toInt < 0 ∨ (c0 2).toInt ≤ a1.toInt := h_16
      obtain rfl : r_11 = 0 := hr_11.trans (by decide +kernel)
      refine b_if_eq hx hb zl_0 (tgt := 31) dX11_hand_13 (by decide +kernel) (fun c_132 => ?_) (fun c_132 => by exfalso; omega)
      refine lv_aload_n hx hb dX11_hand_31 rfl (lv_at hl 0 rfl) ?_
      refine lv_ldc (v := (-1000001)) hx hb hown (hT _ mw_1239) dX11_hand_32 ?_
      refine kJi (wr := [(k0, .inl (cI, 1201, .inl c0))]) (va_runV (As := [.int (-1000001)]) (rest := []) ⟨hx, hb, hml, hown, hT⟩ (c_X11_findingG l D cI aK aV k k0 k1 k2 k4 k5 k6 k7 k8 ka kb kl ko H.size c3 c9 cc cd ce cf cg ch ci cj ck cm cn c4 (-1000001) (by first | omega | (simp only [zl_m1000001]; first | done | omega) | decide | assumption | rfl) (by first | omega | (simp only [zl_m1000001]; first | done | omega) | decide | assumption | rfl)) (cwV 1 hT (gV_in mw_1243 mw_1240 mw_1242 mw_p3_8 mw_12) rfl rfl rfl (by decide +kernel) ⟨Nat.le_of_ble_eq_true rfl, Nat.le_of_ble_eq_true rfl⟩) (kRecvX (q0 := 1) (ci := 11) hK hP hD hN hXS hS hA rfl rfl [1, 0] rfl (by decide +kernel)) rfl rfl hl.1 rfl (lv_room (Nat.le_of_ble_eq_true rfl)) dX11_hand_34 ⟨Nat.le_of_ble_eq_true rfl, Nat.le_of_ble_eq_true rfl⟩) hP hD hS hA [1, 0] [2] rfl rfl (by decide +kernel) (by decide +kernel) ?_
      clear hP hD hS
      intro r_133 sc4_135 H locs w_134 hP hD hS
      replace hP : va_P D vwCl [(k0, .inl (cI, 1201, .inl c0)), (k, .inr (11, [.ref k0, .ref k1, .ref k2, .int c3, .ref k4, .ref k5, .ref k6, .ref k7, .ref k8, .int c9, .ref ka, .ref kb, .int cc, .int cd, .int ce, .int cf, .int cg, .int ch, .int ci, .int cj, .int ck, .ref kl, .int cm, .int cn, .ref ko])), (k4, .inl (cI, 6, .inl sc4_135))] H := hP
      replace hD : va_D A [(k0, .inl (cI, 1201, .inl c0)), (k, .inr (11, [.ref k0, .ref k1, .ref k2, .int c3, .ref k4, .ref k5, .ref k6, .ref k7, .ref k8, .int c9, .ref ka, .ref kb, .int cc, .int cd, .int ce, .int cf, .int cg, .int ch, .int ci, .int cj, .int ck, .ref kl, .int cm, .int cn, .ref ko])), (k4, .inl (cI, 6, .inl sc4_135))] := hD
      have hr_133 := w_134
      obtain rfl : r_133 = (-1000001) := hr_133.trans (by decide +kernel)
      exact hRet (c0, sc4_135) [1, 0, 2] ⟨pre0, (by (try dsimp only); unfold handR; (repeat (first | rw [if_pos (by omega)] | rw [if_neg (by omega)]))), (by (try dsimp only); unfold handS; (repeat (first | rw [if_pos (by omega)] | rw [if_neg (by omega)])))⟩ hP hD (by decide +kernel) rfl hS rfl dX11_hand_37
  · have h_9 : a0.toInt < 0 ∨ (c0 2).toInt ≤ a0.toInt := h_9
    obtain rfl : r_4 = 0 := hr_4.trans (by decide +kernel)
    refine b_if_eq hx hb zl_0 (tgt := 31) dX11_hand_5 (by decide +kernel) (fun c_136 => ?_) (fun c_136 => by exfalso; omega)
    refine lv_aload_n hx hb dX11_hand_31 rfl (lv_at hl 0 rfl) ?_
    refine lv_ldc (v := (-1000001)) hx hb hown (hT _ mw_1239) dX11_hand_32 ?_
    refine kJi (wr := [(k0, .inl (cI, 1201, .inl c0))]) (va_runV (As := [.int (-1000001)]) (rest := []) ⟨hx, hb, hml, hown, hT⟩ (c_X11_findingG l D cI aK aV k k0 k1 k2 k4 k5 k6 k7 k8 ka kb kl ko H.size c3 c9 cc cd ce cf cg ch ci cj ck cm cn c4 (-1000001) (by first | omega | (simp only [zl_m1000001]; first | done | omega) | decide | assumption | rfl) (by first | omega | (simp only [zl_m1000001]; first | done | omega) | decide | assumption | rfl)) (cwV 1 hT (gV_in mw_1243 mw_1240 mw_1242 mw_p3_8 mw_12) rfl rfl rfl (by decide +kernel) ⟨Nat.le_of_ble_eq_true rfl, Nat.le_of_ble_eq_true rfl⟩) (kRecvX (q0 := 1) (ci := 11) hK hP hD hN hXS hS hA rfl rfl [1, 0] rfl (by decide +kernel)) rfl rfl hl.1 rfl (lv_room (Nat.le_of_ble_eq_true rfl)) dX11_hand_34 ⟨Nat.le_of_ble_eq_true rfl, Nat.le_of_ble_eq_true rfl⟩) hP hD hS hA [1, 0] [2] rfl rfl (by decide +kernel) (by decide +kernel) ?_
    clear hP hD hS
    intro r_137 sc4_139 H locs w_138 hP hD hS
    replace hP : va_P D vwCl [(k0, .inl (cI, 1201, .inl c0)), (k, .inr (11, [.ref k0, .ref k1, .ref k2, .int c3, .ref k4, .ref k5, .ref k6, .ref k7, .ref k8, .int c9, .ref ka, .ref kb, .int cc, .int cd, .int ce, .int cf, .int cg, .int ch, .int ci, .int cj, .int ck, .ref kl, .int cm, .int cn, .ref ko])), (k4, .inl (cI, 6, .inl sc4_139))] H := hP
    replace hD : va_D A [(k0, .inl (cI, 1201, .inl c0)), (k, .inr (11, [.ref k0, .ref k1, .ref k2, .int c3, .ref k4, .ref k5, .ref k6, .ref k7, .ref k8, .int c9, .ref ka, .ref kb, .int cc, .int cd, .int ce, .int cf, .int cg, .int ch, .int ci, .int cj, .int ck, .ref kl, .int cm, .int cn, .ref ko])), (k4, .inl (cI, 6, .inl sc4_139))] := hD
    have hr_137 := w_138
    obtain rfl : r_137 = (-1000001) := hr_137.trans (by decide +kernel)
    exact hRet (c0, sc4_139) [1, 0, 2] ⟨pre0, (by (try dsimp only); unfold handR; (repeat (first | rw [if_pos (by omega)] | rw [if_neg (by omega)]))), (by (try dsimp only); unfold handS; (repeat (first | rw [if_pos (by omega)] | rw [if_neg (by omega)])))⟩ hP hD (by decide +kernel) rfl hS rfl dX11_hand_37
theorem bn_cX11_slip_0 : BN cX11_slip 0 0x1591c02a3030581216048dc08081b80c0e37022b482015b97c262b0580540060b0bc381a00ad456ad208056e73098ac16014d8182c061ba1802b70f074560a00aa0080800a6c5e1c0b8056a2b5690402b72a04c560b00a800e3800adc081e1583802a1038e002b70207456ad208056e40098ac16015180c0a1605005401e0e83c029a288056e1e1585c029a288056e1d1587c029a38005721c := by
  unfold BN; decide +kernel
theorem dX11_slip_0 : decode cX11_slip 0 = .ok (.iload_n 1, 1) := dR0 (k := 0) (i := 0) bn_cX11_slip_0 dop_27 (by decide +kernel)
theorem dX11_slip_1 : decode cX11_slip 1 = .ok (.invokestatic 111, 3) := dR2 (f := Instr.invokestatic) (k := 0) (i := 1) bn_cX11_slip_0 dop_184 111 (by decide +kernel)
theorem dX11_slip_4 : decode cX11_slip 4 = .ok (.ifCond .eq 30, 3) := dR2s (f := Instr.ifCond .eq) (k := 0) (i := 4) bn_cX11_slip_0 dop_153 30 30 (by decide +kernel)
theorem dX11_slip_7 : decode cX11_slip 7 = .ok (.aload_n 0, 1) := dR0 (k := 0) (i := 7) bn_cX11_slip_0 dop_42 (by decide +kernel)
theorem dX11_slip_8 : decode cX11_slip 8 = .ok (.iload_n 2, 1) := dR0 (k := 0) (i := 8) bn_cX11_slip_0 dop_28 (by decide +kernel)
theorem dX11_slip_9 : decode cX11_slip 9 = .ok (.invokevirtual 80, 3) := dR2 (f := Instr.invokevirtual) (k := 0) (i := 9) bn_cX11_slip_0 dop_182 80 (by decide +kernel)
theorem dX11_slip_12 : decode cX11_slip 12 = .ok (.ifCond .eq 22, 3) := dR2s (f := Instr.ifCond .eq) (k := 0) (i := 12) bn_cX11_slip_0 dop_153 22 22 (by decide +kernel)
theorem dX11_slip_15 : decode cX11_slip 15 = .ok (.aload_n 0, 1) := dR0 (k := 0) (i := 15) bn_cX11_slip_0 dop_42 (by decide +kernel)
theorem dX11_slip_16 : decode cX11_slip 16 = .ok (.iload_n 3, 1) := dR0 (k := 0) (i := 16) bn_cX11_slip_0 dop_29 (by decide +kernel)
theorem dX11_slip_17 : decode cX11_slip 17 = .ok (.invokevirtual 80, 3) := dR2 (f := Instr.invokevirtual) (k := 0) (i := 17) bn_cX11_slip_0 dop_182 80 (by decide +kernel)
theorem dX11_slip_20 : decode cX11_slip 20 = .ok (.ifCond .eq 14, 3) := dR2s (f := Instr.ifCond .eq) (k := 0) (i := 20) bn_cX11_slip_0 dop_153 14 14 (by decide +kernel)
theorem dX11_slip_23 : decode cX11_slip 23 = .ok (.iload_n 2, 1) := dR0 (k := 0) (i := 23) bn_cX11_slip_0 dop_28 (by decide +kernel)
theorem dX11_slip_24 : decode cX11_slip 24 = .ok (.iload_n 3, 1) := dR0 (k := 0) (i := 24) bn_cX11_slip_0 dop_29 (by decide +kernel)
theorem dX11_slip_25 : decode cX11_slip 25 = .ok (.if_icmp .eq 9, 3) := dR2s (f := Instr.if_icmp .eq) (k := 0) (i := 25) bn_cX11_slip_0 dop_159 9 9 (by decide +kernel)
theorem dX11_slip_28 : decode cX11_slip 28 = .ok (.iload 4, 2) := dR1 (f := Instr.iload) (k := 0) (i := 28) bn_cX11_slip_0 dop_21 4 (by decide +kernel)
theorem dX11_slip_30 : decode cX11_slip 30 = .ok (.iconst (-1), 1) := dR0 (k := 0) (i := 30) bn_cX11_slip_0 dop_2 (by decide +kernel)
theorem dX11_slip_31 : decode cX11_slip 31 = .ok (.if_icmp .ge 10, 3) := dR2s (f := Instr.if_icmp .ge) (k := 0) (i := 31) bn_cX11_slip_0 dop_162 10 10 (by decide +kernel)
theorem dX11_slip_34 : decode cX11_slip 34 = .ok (.aload_n 0, 1) := dR0 (k := 0) (i := 34) bn_cX11_slip_0 dop_42 (by decide +kernel)
theorem dX11_slip_35 : decode cX11_slip 35 = .ok (.ldc 63, 2) := dR1 (f := Instr.ldc) (k := 0) (i := 35) bn_cX11_slip_0 dop_18 63 (by decide +kernel)
theorem dX11_slip_37 : decode cX11_slip 37 = .ok (.invokevirtual 64, 3) := dR2 (f := Instr.invokevirtual) (k := 0) (i := 37) bn_cX11_slip_0 dop_182 64 (by decide +kernel)
theorem dX11_slip_40 : decode cX11_slip 40 = .ok (.ireturn, 1) := dR0 (k := 0) (i := 40) bn_cX11_slip_0 dop_172 (by decide +kernel)
theorem dX11_slip_41 : decode cX11_slip 41 = .ok (.aload_n 0, 1) := dR0 (k := 0) (i := 41) bn_cX11_slip_0 dop_42 (by decide +kernel)
theorem dX11_slip_42 : decode cX11_slip 42 = .ok (.iload_n 2, 1) := dR0 (k := 0) (i := 42) bn_cX11_slip_0 dop_28 (by decide +kernel)
theorem dX11_slip_43 : decode cX11_slip 43 = .ok (.iconst 0, 1) := dR0 (k := 0) (i := 43) bn_cX11_slip_0 dop_3 (by decide +kernel)
theorem dX11_slip_44 : decode cX11_slip 44 = .ok (.invokevirtual 55, 3) := dR2 (f := Instr.invokevirtual) (k := 0) (i := 44) bn_cX11_slip_0 dop_182 55 (by decide +kernel)
theorem dX11_slip_47 : decode cX11_slip 47 = .ok (.iconst 3, 1) := dR0 (k := 0) (i := 47) bn_cX11_slip_0 dop_6 (by decide +kernel)
theorem dX11_slip_48 : decode cX11_slip 48 = .ok (.if_icmp .ne 13, 3) := dR2s (f := Instr.if_icmp .ne) (k := 0) (i := 48) bn_cX11_slip_0 dop_160 13 13 (by decide +kernel)
theorem dX11_slip_51 : decode cX11_slip 51 = .ok (.aload_n 0, 1) := dR0 (k := 0) (i := 51) bn_cX11_slip_0 dop_42 (by decide +kernel)
theorem dX11_slip_52 : decode cX11_slip 52 = .ok (.iload_n 3, 1) := dR0 (k := 0) (i := 52) bn_cX11_slip_0 dop_29 (by decide +kernel)
theorem dX11_slip_53 : decode cX11_slip 53 = .ok (.iconst 0, 1) := dR0 (k := 0) (i := 53) bn_cX11_slip_0 dop_3 (by decide +kernel)
theorem dX11_slip_54 : decode cX11_slip 54 = .ok (.invokevirtual 55, 3) := dR2 (f := Instr.invokevirtual) (k := 0) (i := 54) bn_cX11_slip_0 dop_182 55 (by decide +kernel)
theorem dX11_slip_57 : decode cX11_slip 57 = .ok (.iconst 3, 1) := dR0 (k := 0) (i := 57) bn_cX11_slip_0 dop_6 (by decide +kernel)
theorem dX11_slip_58 : decode cX11_slip 58 = .ok (.if_icmp .eq 10, 3) := dR2s (f := Instr.if_icmp .eq) (k := 0) (i := 58) bn_cX11_slip_0 dop_159 10 10 (by decide +kernel)
theorem dX11_slip_61 : decode cX11_slip 61 = .ok (.aload_n 0, 1) := dR0 (k := 0) (i := 61) bn_cX11_slip_0 dop_42 (by decide +kernel)
theorem dX11_slip_62 : decode cX11_slip 62 = .ok (.ldc 83, 2) := dR1 (f := Instr.ldc) (k := 0) (i := 62) bn_cX11_slip_0 dop_18 83 (by decide +kernel)
theorem dX11_slip_64 : decode cX11_slip 64 = .ok (.invokevirtual 64, 3) := dR2 (f := Instr.invokevirtual) (k := 0) (i := 64) bn_cX11_slip_0 dop_182 64 (by decide +kernel)
theorem dX11_slip_67 : decode cX11_slip 67 = .ok (.ireturn, 1) := dR0 (k := 0) (i := 67) bn_cX11_slip_0 dop_172 (by decide +kernel)
theorem dX11_slip_68 : decode cX11_slip 68 = .ok (.aload_n 0, 1) := dR0 (k := 0) (i := 68) bn_cX11_slip_0 dop_42 (by decide +kernel)
theorem dX11_slip_69 : decode cX11_slip 69 = .ok (.getfield 22, 3) := dR2 (f := Instr.getfield) (k := 0) (i := 69) bn_cX11_slip_0 dop_180 22 (by decide +kernel)
theorem dX11_slip_72 : decode cX11_slip 72 = .ok (.iload_n 1, 1) := dR0 (k := 0) (i := 72) bn_cX11_slip_0 dop_27 (by decide +kernel)
theorem dX11_slip_73 : decode cX11_slip 73 = .ok (.iaload, 1) := dR0 (k := 0) (i := 73) bn_cX11_slip_0 dop_46 (by decide +kernel)
theorem dX11_slip_74 : decode cX11_slip 74 = .ok (.ifCond .ne 7, 3) := dR2s (f := Instr.ifCond .ne) (k := 0) (i := 74) bn_cX11_slip_0 dop_154 7 7 (by decide +kernel)
theorem dX11_slip_77 : decode cX11_slip 77 = .ok (.iconst 0, 1) := dR0 (k := 0) (i := 77) bn_cX11_slip_0 dop_3 (by decide +kernel)
theorem dX11_slip_78 : decode cX11_slip 78 = .ok (.goto 9, 3) := dR2s (f := Instr.goto) (k := 0) (i := 78) bn_cX11_slip_0 dop_167 9 9 (by decide +kernel)
theorem dX11_slip_81 : decode cX11_slip 81 = .ok (.aload_n 0, 1) := dR0 (k := 0) (i := 81) bn_cX11_slip_0 dop_42 (by decide +kernel)
theorem dX11_slip_82 : decode cX11_slip 82 = .ok (.iload_n 2, 1) := dR0 (k := 0) (i := 82) bn_cX11_slip_0 dop_28 (by decide +kernel)
theorem dX11_slip_83 : decode cX11_slip 83 = .ok (.iload_n 3, 1) := dR0 (k := 0) (i := 83) bn_cX11_slip_0 dop_29 (by decide +kernel)
theorem dX11_slip_84 : decode cX11_slip 84 = .ok (.invokevirtual 133, 3) := dR2 (f := Instr.invokevirtual) (k := 0) (i := 84) bn_cX11_slip_0 dop_182 133 (by decide +kernel)
theorem dX11_slip_87 : decode cX11_slip 87 = .ok (.istore 5, 2) := dR1 (f := Instr.istore) (k := 0) (i := 87) bn_cX11_slip_0 dop_54 5 (by decide +kernel)
theorem dX11_slip_89 : decode cX11_slip 89 = .ok (.iload 5, 2) := dR1 (f := Instr.iload) (k := 0) (i := 89) bn_cX11_slip_0 dop_21 5 (by decide +kernel)
theorem dX11_slip_91 : decode cX11_slip 91 = .ok (.ifCond .ne 10, 3) := dR2s (f := Instr.ifCond .ne) (k := 0) (i := 91) bn_cX11_slip_0 dop_154 10 10 (by decide +kernel)
theorem dX11_slip_94 : decode cX11_slip 94 = .ok (.aload_n 0, 1) := dR0 (k := 0) (i := 94) bn_cX11_slip_0 dop_42 (by decide +kernel)
theorem dX11_slip_95 : decode cX11_slip 95 = .ok (.ldc 114, 2) := dR1 (f := Instr.ldc) (k := 0) (i := 95) bn_cX11_slip_0 dop_18 114 (by decide +kernel)
theorem dX11_slip_97 : decode cX11_slip 97 = .ok (.invokevirtual 64, 3) := dR2 (f := Instr.invokevirtual) (k := 0) (i := 97) bn_cX11_slip_0 dop_182 64 (by decide +kernel)
theorem dX11_slip_100 : decode cX11_slip 100 = .ok (.ireturn, 1) := dR0 (k := 0) (i := 100) bn_cX11_slip_0 dop_172 (by decide +kernel)
theorem dX11_slip_101 : decode cX11_slip 101 = .ok (.aload_n 0, 1) := dR0 (k := 0) (i := 101) bn_cX11_slip_0 dop_42 (by decide +kernel)
theorem dX11_slip_102 : decode cX11_slip 102 = .ok (.getfield 25, 3) := dR2 (f := Instr.getfield) (k := 0) (i := 102) bn_cX11_slip_0 dop_180 25 (by decide +kernel)
theorem dX11_slip_105 : decode cX11_slip 105 = .ok (.iload_n 1, 1) := dR0 (k := 0) (i := 105) bn_cX11_slip_0 dop_27 (by decide +kernel)
theorem dX11_slip_106 : decode cX11_slip 106 = .ok (.iaload, 1) := dR0 (k := 0) (i := 106) bn_cX11_slip_0 dop_46 (by decide +kernel)
theorem dX11_slip_107 : decode cX11_slip 107 = .ok (.iload 5, 2) := dR1 (f := Instr.iload) (k := 0) (i := 107) bn_cX11_slip_0 dop_21 5 (by decide +kernel)
theorem dX11_slip_109 : decode cX11_slip 109 = .ok (.if_icmp .eq 10, 3) := dR2s (f := Instr.if_icmp .eq) (k := 0) (i := 109) bn_cX11_slip_0 dop_159 10 10 (by decide +kernel)
theorem dX11_slip_112 : decode cX11_slip 112 = .ok (.aload_n 0, 1) := dR0 (k := 0) (i := 112) bn_cX11_slip_0 dop_42 (by decide +kernel)
theorem dX11_slip_113 : decode cX11_slip 113 = .ok (.ldc 94, 2) := dR1 (f := Instr.ldc) (k := 0) (i := 113) bn_cX11_slip_0 dop_18 94 (by decide +kernel)
theorem dX11_slip_115 : decode cX11_slip 115 = .ok (.invokevirtual 64, 3) := dR2 (f := Instr.invokevirtual) (k := 0) (i := 115) bn_cX11_slip_0 dop_182 64 (by decide +kernel)
theorem dX11_slip_118 : decode cX11_slip 118 = .ok (.ireturn, 1) := dR0 (k := 0) (i := 118) bn_cX11_slip_0 dop_172 (by decide +kernel)
theorem dX11_slip_119 : decode cX11_slip 119 = .ok (.iconst 0, 1) := dR0 (k := 0) (i := 119) bn_cX11_slip_0 dop_3 (by decide +kernel)
theorem dX11_slip_120 : decode cX11_slip 120 = .ok (.istore 6, 2) := dR1 (f := Instr.istore) (k := 0) (i := 120) bn_cX11_slip_0 dop_54 6 (by decide +kernel)
theorem dX11_slip_122 : decode cX11_slip 122 = .ok (.iconst (-1), 1) := dR0 (k := 0) (i := 122) bn_cX11_slip_0 dop_2 (by decide +kernel)
theorem dX11_slip_123 : decode cX11_slip 123 = .ok (.istore 7, 2) := dR1 (f := Instr.istore) (k := 0) (i := 123) bn_cX11_slip_0 dop_54 7 (by decide +kernel)
theorem dX11_slip_125 : decode cX11_slip 125 = .ok (.iconst 0, 1) := dR0 (k := 0) (i := 125) bn_cX11_slip_0 dop_3 (by decide +kernel)
theorem dX11_slip_126 : decode cX11_slip 126 = .ok (.istore 8, 2) := dR1 (f := Instr.istore) (k := 0) (i := 126) bn_cX11_slip_0 dop_54 8 (by decide +kernel)
theorem bn_cX11_slip_128 : BN cX11_slip 128 0x5690402b73984c560a00aa00e16048054203028597500540081285040dc12160101d0aad308242c69308141016328441e01508142c070b06402a03a0056e090b070567400adc10160e0ac54014e0202c3300aa00e015080ce8015b8242c1c1591c02a3030581216 := by
  unfold BN; decide +kernel
theorem dX11_slip_128 : decode cX11_slip 128 = .ok (.iload 8, 2) := dR1 (f := Instr.iload) (k := 128) (i := 0) bn_cX11_slip_128 dop_21 8 (by decide +kernel)
theorem dX11_slip_130 : decode cX11_slip 130 = .ok (.iload 5, 2) := dR1 (f := Instr.iload) (k := 128) (i := 2) bn_cX11_slip_128 dop_21 5 (by decide +kernel)
theorem dX11_slip_132 : decode cX11_slip 132 = .ok (.if_icmp .ge 70, 3) := dR2s (f := Instr.if_icmp .ge) (k := 128) (i := 4) bn_cX11_slip_128 dop_162 70 70 (by decide +kernel)
theorem dX11_slip_135 : decode cX11_slip 135 = .ok (.aload_n 0, 1) := dR0 (k := 128) (i := 7) bn_cX11_slip_128 dop_42 (by decide +kernel)
theorem dX11_slip_136 : decode cX11_slip 136 = .ok (.iload_n 1, 1) := dR0 (k := 128) (i := 8) bn_cX11_slip_128 dop_27 (by decide +kernel)
theorem dX11_slip_137 : decode cX11_slip 137 = .ok (.iload 8, 2) := dR1 (f := Instr.iload) (k := 128) (i := 9) bn_cX11_slip_128 dop_21 8 (by decide +kernel)
theorem dX11_slip_139 : decode cX11_slip 139 = .ok (.invokevirtual 115, 3) := dR2 (f := Instr.invokevirtual) (k := 128) (i := 11) bn_cX11_slip_128 dop_182 115 (by decide +kernel)
theorem dX11_slip_142 : decode cX11_slip 142 = .ok (.iconst (-1), 1) := dR0 (k := 128) (i := 14) bn_cX11_slip_128 dop_2 (by decide +kernel)
theorem dX11_slip_143 : decode cX11_slip 143 = .ok (.if_icmp .ne 6, 3) := dR2s (f := Instr.if_icmp .ne) (k := 128) (i := 15) bn_cX11_slip_128 dop_160 6 6 (by decide +kernel)
theorem dX11_slip_146 : decode cX11_slip 146 = .ok (.goto 50, 3) := dR2s (f := Instr.goto) (k := 128) (i := 18) bn_cX11_slip_128 dop_167 50 50 (by decide +kernel)
theorem dX11_slip_149 : decode cX11_slip 149 = .ok (.iload 7, 2) := dR1 (f := Instr.iload) (k := 128) (i := 21) bn_cX11_slip_128 dop_21 7 (by decide +kernel)
theorem dX11_slip_151 : decode cX11_slip 151 = .ok (.ifCond .lt 41, 3) := dR2s (f := Instr.ifCond .lt) (k := 128) (i := 23) bn_cX11_slip_128 dop_155 41 41 (by decide +kernel)
theorem dX11_slip_154 : decode cX11_slip 154 = .ok (.aload_n 0, 1) := dR0 (k := 128) (i := 26) bn_cX11_slip_128 dop_42 (by decide +kernel)
theorem dX11_slip_155 : decode cX11_slip 155 = .ok (.iload_n 1, 1) := dR0 (k := 128) (i := 27) bn_cX11_slip_128 dop_27 (by decide +kernel)
theorem dX11_slip_156 : decode cX11_slip 156 = .ok (.iload 7, 2) := dR1 (f := Instr.iload) (k := 128) (i := 28) bn_cX11_slip_128 dop_21 7 (by decide +kernel)
theorem dX11_slip_158 : decode cX11_slip 158 = .ok (.invokevirtual 115, 3) := dR2 (f := Instr.invokevirtual) (k := 128) (i := 30) bn_cX11_slip_128 dop_182 115 (by decide +kernel)
theorem dX11_slip_161 : decode cX11_slip 161 = .ok (.aload_n 0, 1) := dR0 (k := 128) (i := 33) bn_cX11_slip_128 dop_42 (by decide +kernel)
theorem dX11_slip_162 : decode cX11_slip 162 = .ok (.iload_n 1, 1) := dR0 (k := 128) (i := 34) bn_cX11_slip_128 dop_27 (by decide +kernel)
theorem dX11_slip_163 : decode cX11_slip 163 = .ok (.iload 8, 2) := dR1 (f := Instr.iload) (k := 128) (i := 35) bn_cX11_slip_128 dop_21 8 (by decide +kernel)
theorem dX11_slip_165 : decode cX11_slip 165 = .ok (.invokevirtual 115, 3) := dR2 (f := Instr.invokevirtual) (k := 128) (i := 37) bn_cX11_slip_128 dop_182 115 (by decide +kernel)
theorem dX11_slip_168 : decode cX11_slip 168 = .ok (.if_icmp .eq 24, 3) := dR2s (f := Instr.if_icmp .eq) (k := 128) (i := 40) bn_cX11_slip_128 dop_159 24 24 (by decide +kernel)
theorem dX11_slip_171 : decode cX11_slip 171 = .ok (.iload 6, 2) := dR1 (f := Instr.iload) (k := 128) (i := 43) bn_cX11_slip_128 dop_21 6 (by decide +kernel)
theorem dX11_slip_173 : decode cX11_slip 173 = .ok (.iload 4, 2) := dR1 (f := Instr.iload) (k := 128) (i := 45) bn_cX11_slip_128 dop_21 4 (by decide +kernel)
theorem dX11_slip_175 : decode cX11_slip 175 = .ok (.if_icmp .ne 14, 3) := dR2s (f := Instr.if_icmp .ne) (k := 128) (i := 47) bn_cX11_slip_128 dop_160 14 14 (by decide +kernel)
theorem dX11_slip_178 : decode cX11_slip 178 = .ok (.bipush 100, 2) := dR1s (f := Instr.bipush) (k := 128) (i := 50) bn_cX11_slip_128 dop_16 100 100 (by decide +kernel)
theorem dX11_slip_180 : decode cX11_slip 180 = .ok (.iload 7, 2) := dR1 (f := Instr.iload) (k := 128) (i := 52) bn_cX11_slip_128 dop_21 7 (by decide +kernel)
theorem dX11_slip_182 : decode cX11_slip 182 = .ok (.iconst 1, 1) := dR0 (k := 128) (i := 54) bn_cX11_slip_128 dop_4 (by decide +kernel)
theorem dX11_slip_183 : decode cX11_slip 183 = .ok (.iadd, 1) := dR0 (k := 128) (i := 55) bn_cX11_slip_128 dop_96 (by decide +kernel)
theorem dX11_slip_184 : decode cX11_slip 184 = .ok (.imul, 1) := dR0 (k := 128) (i := 56) bn_cX11_slip_128 dop_104 (by decide +kernel)
theorem dX11_slip_185 : decode cX11_slip 185 = .ok (.iload 8, 2) := dR1 (f := Instr.iload) (k := 128) (i := 57) bn_cX11_slip_128 dop_21 8 (by decide +kernel)
theorem dX11_slip_187 : decode cX11_slip 187 = .ok (.iadd, 1) := dR0 (k := 128) (i := 59) bn_cX11_slip_128 dop_96 (by decide +kernel)
theorem dX11_slip_188 : decode cX11_slip 188 = .ok (.ireturn, 1) := dR0 (k := 128) (i := 60) bn_cX11_slip_128 dop_172 (by decide +kernel)
theorem dX11_slip_189 : decode cX11_slip 189 = .ok (.iinc 6 1, 3) := dRii (f := Instr.iinc) (k := 128) (i := 61) bn_cX11_slip_128 dop_132 6 1 1 (by decide +kernel)
theorem dX11_slip_192 : decode cX11_slip 192 = .ok (.iload 8, 2) := dR1 (f := Instr.iload) (k := 128) (i := 64) bn_cX11_slip_128 dop_21 8 (by decide +kernel)
theorem dX11_slip_194 : decode cX11_slip 194 = .ok (.istore 7, 2) := dR1 (f := Instr.istore) (k := 128) (i := 66) bn_cX11_slip_128 dop_54 7 (by decide +kernel)
theorem dX11_slip_196 : decode cX11_slip 196 = .ok (.iinc 8 1, 3) := dRii (f := Instr.iinc) (k := 128) (i := 68) bn_cX11_slip_128 dop_132 8 1 1 (by decide +kernel)
theorem dX11_slip_199 : decode cX11_slip 199 = .ok (.goto (-71), 3) := dR2s (f := Instr.goto) (k := 128) (i := 71) bn_cX11_slip_128 dop_167 65465 (-71) (by decide +kernel)
theorem dX11_slip_202 : decode cX11_slip 202 = .ok (.iload 4, 2) := dR1 (f := Instr.iload) (k := 128) (i := 74) bn_cX11_slip_128 dop_21 4 (by decide +kernel)
theorem dX11_slip_204 : decode cX11_slip 204 = .ok (.iconst (-1), 1) := dR0 (k := 128) (i := 76) bn_cX11_slip_128 dop_2 (by decide +kernel)
theorem dX11_slip_205 : decode cX11_slip 205 = .ok (.if_icmp .ne 8, 3) := dR2s (f := Instr.if_icmp .ne) (k := 128) (i := 77) bn_cX11_slip_128 dop_160 8 8 (by decide +kernel)
theorem dX11_slip_208 : decode cX11_slip 208 = .ok (.iload 6, 2) := dR1 (f := Instr.iload) (k := 128) (i := 80) bn_cX11_slip_128 dop_21 6 (by decide +kernel)
theorem dX11_slip_210 : decode cX11_slip 210 = .ok (.goto 9, 3) := dR2s (f := Instr.goto) (k := 128) (i := 82) bn_cX11_slip_128 dop_167 9 9 (by decide +kernel)
theorem dX11_slip_213 : decode cX11_slip 213 = .ok (.aload_n 0, 1) := dR0 (k := 128) (i := 85) bn_cX11_slip_128 dop_42 (by decide +kernel)
theorem dX11_slip_214 : decode cX11_slip 214 = .ok (.ldc 114, 2) := dR1 (f := Instr.ldc) (k := 128) (i := 86) bn_cX11_slip_128 dop_18 114 (by decide +kernel)
theorem dX11_slip_216 : decode cX11_slip 216 = .ok (.invokevirtual 64, 3) := dR2 (f := Instr.invokevirtual) (k := 128) (i := 88) bn_cX11_slip_128 dop_182 64 (by decide +kernel)
theorem dX11_slip_219 : decode cX11_slip 219 = .ok (.ireturn, 1) := dR0 (k := 128) (i := 91) bn_cX11_slip_128 dop_172 (by decide +kernel)
set_option maxHeartbeats 4000000 in
set_option maxRecDepth 100000 in
theorem c_X11_slipG (l : Launch) (D : va_G) (cI : ClassId) (aK aV : Nat → Nat) (k k0 k1 k2 k4 k5 k6 k7 k8 ka kb kl ko : Nat) (sz : Nat) (c3 : Int32) (c9 : Int32) (cc : Int32) (cd : Int32) (ce : Int32) (cf : Int32) (cg : Int32) (ch : Int32) (ci : Int32) (cj : Int32) (ck : Int32) (cm : Int32) (cn : Int32) (c0 : Nat → Int32) (c4 : Nat → Int32) (c5 : Nat → Int32) (c6 : Nat → Int32) (c7 : Nat → Int32) (ca : Nat → Int32) (cb : Nat → Int32) (a0 : Int32) (a1 : Int32) (a2 : Int32) (a3 : Int32) (pre0 : SB c0) (pre1 : ∀ k : Nat, k < 4 → 0 ≤ (c6 k).toInt ∧ (c6 k).toInt ≤ 36) : Met l yX11_slip (gW yX11_slip cX11_slip 9 (some .int)) ({ frames := 6, cells := 0, slots := 0, locals := 141 } : Room) (kPreX D cI aK aV [.ref k, .int a0, .int a1, .int a2, .int a3] [(k, .inr (11, [.ref k0, .ref k1, .ref k2, .int c3, .ref k4, .ref k5, .ref k6, .ref k7, .ref k8, .int c9, .ref ka, .ref kb, .int cc, .int cd, .int ce, .int cf, .int cg, .int ch, .int ci, .int cj, .int ck, .ref kl, .int cm, .int cn, .ref ko])), (k0, .inl (cI, 1201, .inl c0)), (k4, .inl (cI, 6, .inl c4)), (k5, .inl (cI, 4, .inl c5)), (k6, .inl (cI, 4, .inl c6)), (k7, .inl (cI, 144, .inl c7)), (ka, .inl (cI, 60, .inl ca)), (kb, .inl (cI, 60, .inl cb))] sz) (va_Qi (fun (r : Int32) (u : (Nat → Int32) × (Nat → Int32) × (Nat → Int32)) => True) (fun u t => kWd D cI (va_A [(k, .inr (11, [.ref k0, .ref k1, .ref k2, .int c3, .ref k4, .ref k5, .ref k6, .ref k7, .ref k8, .int c9, .ref ka, .ref kb, .int cc, .int cd, .int ce, .int cf, .int cg, .int ch, .int ci, .int cj, .int ck, .ref kl, .int cm, .int cn, .ref ko])), (k0, .inl (cI, 1201, .inl c0)), (k4, .inl (cI, 6, .inl c4)), (k5, .inl (cI, 4, .inl c5)), (k6, .inl (cI, 4, .inl c6)), (k7, .inl (cI, 144, .inl c7)), (ka, .inl (cI, 60, .inl ca)), (kb, .inl (cI, 60, .inl cb))] sz) [(k, .inr (11, [.ref k0, .ref k1, .ref k2, .int c3, .ref k4, .ref k5, .ref k6, .ref k7, .ref k8, .int c9, .ref ka, .ref kb, .int cc, .int cd, .int ce, .int cf, .int cg, .int ch, .int ci, .int cj, .int ck, .ref kl, .int cm, .int cn, .ref ko])), (k0, .inl (cI, 1201, .inl c0)), (k4, .inl (cI, 6, .inl u.1)), (k5, .inl (cI, 4, .inl c5)), (k6, .inl (cI, 4, .inl c6)), (k7, .inl (cI, 144, .inl c7)), (ka, .inl (cI, 60, .inl u.2.1)), (kb, .inl (cI, 60, .inl u.2.2))] t) (va_A [(k, .inr (11, [.ref k0, .ref k1, .ref k2, .int c3, .ref k4, .ref k5, .ref k6, .ref k7, .ref k8, .int c9, .ref ka, .ref kb, .int cc, .int cd, .int ce, .int cf, .int cg, .int ch, .int ci, .int cj, .int ck, .ref kl, .int cm, .int cn, .ref ko])), (k0, .inl (cI, 1201, .inl c0)), (k4, .inl (cI, 6, .inl c4)), (k5, .inl (cI, 4, .inl c5)), (k6, .inl (cI, 4, .inl c6)), (k7, .inl (cI, 144, .inl c7)), (ka, .inl (cI, 60, .inl ca)), (kb, .inl (cI, 60, .inl cb))] sz)) 0 0 (va_A [(k, .inr (11, [.ref k0, .ref k1, .ref k2, .int c3, .ref k4, .ref k5, .ref k6, .ref k7, .ref k8, .int c9, .ref ka, .ref kb, .int cc, .int cd, .int ce, .int cf, .int cg, .int ch, .int ci, .int cj, .int ck, .ref kl, .int cm, .int cn, .ref ko])), (k0, .inl (cI, 1201, .inl c0)), (k4, .inl (cI, 6, .inl c4)), (k5, .inl (cI, 4, .inl c5)), (k6, .inl (cI, 4, .inl c6)), (k7, .inl (cI, 144, .inl c7)), (ka, .inl (cI, 60, .inl ca)), (kb, .inl (cI, 60, .inl cb))] sz) := by
  refine kMetIX (own := RX11) (by decide +kernel) rfl (Nat.le_of_ble_eq_true rfl) ?_
  intro p e s m args below meth c hx hb hT hown hname hml A Q hK hP hD hS hA hN hXS hRet ls hl
  have hl : lv_has ls 9 [(0, .ref k), (1, .int a0), (2, .int a1), (3, .int a2), (4, .int a3)] := hl
  have lo_a0 := k_lo a0
  have hi_a0 := k_hi a0
  have lo_a1 := k_lo a1
  have hi_a1 := k_hi a1
  have lo_a2 := k_lo a2
  have hi_a2 := k_hi a2
  have lo_a3 := k_lo a3
  have hi_a3 := k_hi a3
  have lo_ci := k_lo ci
  have hi_ci := k_hi ci
  have pre0 : SB c0 := pre0
  have nb_1 : 0 ≤ (c0 0).toInt ∧ (c0 0).toInt ≤ 2000 := SB.n0 pre0
  have nb_2 : 0 ≤ (c0 1).toInt ∧ (c0 1).toInt ≤ 60 := SB.n1 pre0
  have nb_3 : 0 ≤ (c0 2).toInt ∧ (c0 2).toInt ≤ 4 := SB.n2 pre0
  refine lv_iload_n hx hb dX11_slip_0 rfl (lv_at hl 1 rfl) ?_
  refine kJi (wr := [(k, .inr (11, [.ref k0, .ref k1, .ref k2, .int c3, .ref k4, .ref k5, .ref k6, .ref k7, .ref k8, .int c9, .ref ka, .ref kb, .int cc, .int cd, .int ce, .int cf, .int cg, .int ch, .int ci, .int cj, .int ck, .ref kl, .int cm, .int cn, .ref ko])), (k0, .inl (cI, 1201, .inl c0)), (k4, .inl (cI, 6, .inl c4)), (k5, .inl (cI, 4, .inl c5)), (k6, .inl (cI, 4, .inl c6)), (k7, .inl (cI, 144, .inl c7)), (ka, .inl (cI, 60, .inl ca)), (kb, .inl (cI, 60, .inl cb))]) (va_runS (As := [.int a0]) (rest := []) ⟨hx, hb, hml, hown, hT⟩ (c_X11_isSheetG l D cI aK aV s.heap.size a0) (cwS 1 hT (gS_in mw_1391 mw_1389 mw_1390 mw_12) rfl rfl rfl (by decide +kernel) ⟨Nat.le_of_ble_eq_true rfl, Nat.le_of_ble_eq_true rfl⟩) (kStatX hK hP hD hN hXS hS hA [] rfl (by decide +kernel)) rfl rfl hl.1 rfl (lv_room (Nat.le_of_ble_eq_true rfl)) dX11_slip_1 ⟨Nat.le_of_ble_eq_true rfl, Nat.le_of_ble_eq_true rfl⟩) hP hD hS hA [] [0, 1, 2, 3, 4, 5, 6, 7] rfl rfl (by decide +kernel) (by decide +kernel) ?_
  clear hP hD hS
  intro r_4 u_6 H locs w_5 hP hD hS
  replace hP : va_P D vwCl [(k, .inr (11, [.ref k0, .ref k1, .ref k2, .int c3, .ref k4, .ref k5, .ref k6, .ref k7, .ref k8, .int c9, .ref ka, .ref kb, .int cc, .int cd, .int ce, .int cf, .int cg, .int ch, .int ci, .int cj, .int ck, .ref kl, .int cm, .int cn, .ref ko])), (k0, .inl (cI, 1201, .inl c0)), (k4, .inl (cI, 6, .inl c4)), (k5, .inl (cI, 4, .inl c5)), (k6, .inl (cI, 4, .inl c6)), (k7, .inl (cI, 144, .inl c7)), (ka, .inl (cI, 60, .inl ca)), (kb, .inl (cI, 60, .inl cb))] H := hP
  replace hD : va_D A [(k, .inr (11, [.ref k0, .ref k1, .ref k2, .int c3, .ref k4, .ref k5, .ref k6, .ref k7, .ref k8, .int c9, .ref ka, .ref kb, .int cc, .int cd, .int ce, .int cf, .int cg, .int ch, .int ci, .int cj, .int ck, .ref kl, .int cm, .int cn, .ref ko])), (k0, .inl (cI, 1201, .inl c0)), (k4, .inl (cI, 6, .inl c4)), (k5, .inl (cI, 4, .inl c5)), (k6, .inl (cI, 4, .inl c6)), (k7, .inl (cI, 144, .inl c7)), (ka, .inl (cI, 60, .inl ca)), (kb, .inl (cI, 60, .inl cb))] := hD
  rcases w_5 with ⟨hr_4, h_7, h_8⟩ | ⟨hr_4, h_9⟩
  · have h_7 : 0 ≤ a0.toInt := h_7
    have h_8 : a0.toInt ≤ 3 := h_8
    obtain rfl : r_4 = 1 := hr_4.trans (by decide +kernel)
    refine b_if_eq hx hb zl_1 (tgt := 34) dX11_slip_4 (by decide +kernel) (fun c_10 => by exfalso; omega) (fun c_10 => ?_)
    refine lv_aload_n hx hb dX11_slip_7 rfl (lv_at hl 0 rfl) ?_
    refine lv_iload_n hx hb dX11_slip_8 rfl (lv_at hl 2 rfl) ?_
    refine kJi (wr := [(k4, .inl (cI, 6, .inl c4)), (k5, .inl (cI, 4, .inl c5)), (k6, .inl (cI, 4, .inl c6)), (k7, .inl (cI, 144, .inl c7)), (ka, .inl (cI, 60, .inl ca)), (kb, .inl (cI, 60, .inl cb))]) (va_runV (As := [.int a1]) (rest := []) ⟨hx, hb, hml, hown, hT⟩ (c_X11_isWorkG l D cI aK aV k k0 k1 k2 k4 k5 k6 k7 k8 ka kb kl ko H.size c3 c9 cc cd ce cf cg ch ci cj ck cm cn c0 a1 pre0) (cwV 1 hT (gV_in mw_1272 mw_1269 mw_1271 mw_p3_11 mw_12) rfl rfl rfl (by decide +kernel) ⟨Nat.le_of_ble_eq_true rfl, Nat.le_of_ble_eq_true rfl⟩) (kRecvX (q0 := 0) (ci := 11) hK hP hD hN hXS hS hA rfl rfl [0, 1] rfl (by decide +kernel)) rfl rfl hl.1 rfl (lv_room (Nat.le_of_ble_eq_true rfl)) dX11_slip_9 ⟨Nat.le_of_ble_eq_true rfl, Nat.le_of_ble_eq_true rfl⟩) hP hD hS hA [0, 1] [2, 3, 4, 5, 6, 7] rfl rfl (by decide +kernel) (by decide +kernel) ?_
    clear hP hD hS
    intro r_11 u_13 H locs w_12 hP hD hS
    replace hP : va_P D vwCl [(k4, .inl (cI, 6, .inl c4)), (k5, .inl (cI, 4, .inl c5)), (k6, .inl (cI, 4, .inl c6)), (k7, .inl (cI, 144, .inl c7)), (ka, .inl (cI, 60, .inl ca)), (kb, .inl (cI, 60, .inl cb)), (k, .inr (11, [.ref k0, .ref k1, .ref k2, .int c3, .ref k4, .ref k5, .ref k6, .ref k7, .ref k8, .int c9, .ref ka, .ref kb, .int cc, .int cd, .int ce, .int cf, .int cg, .int ch, .int ci, .int cj, .int ck, .ref kl, .int cm, .int cn, .ref ko])), (k0, .inl (cI, 1201, .inl c0))] H := hP
    replace hD : va_D A [(k4, .inl (cI, 6, .inl c4)), (k5, .inl (cI, 4, .inl c5)), (k6, .inl (cI, 4, .inl c6)), (k7, .inl (cI, 144, .inl c7)), (ka, .inl (cI, 60, .inl ca)), (kb, .inl (cI, 60, .inl cb)), (k, .inr (11, [.ref k0, .ref k1, .ref k2, .int c3, .ref k4, .ref k5, .ref k6, .ref k7, .ref k8, .int c9, .ref ka, .ref kb, .int cc, .int cd, .int ce, .int cf, .int cg, .int ch, .int ci, .int cj, .int ck, .ref kl, .int cm, .int cn, .ref ko])), (k0, .inl (cI, 1201, .inl c0))] := hD
    rcases w_12 with ⟨hr_11, h_14, h_15⟩ | ⟨hr_11, h_16⟩
    · have h_14 : 0 ≤ a1.toInt := h_14
      have h_15 : a1.toInt < (c0 1).toInt := h_15
      obtain rfl : r_11 = 1 := hr_11.trans (by decide +kernel)
      refine b_if_eq hx hb zl_1 (tgt := 34) dX11_slip_12 (by decide +kernel) (fun c_17 => by exfalso; omega) (fun c_17 => ?_)
      refine lv_aload_n hx hb dX11_slip_15 rfl (lv_at hl 0 rfl) ?_
      refine lv_iload_n hx hb dX11_slip_16 rfl (lv_at hl 3 rfl) ?_
      refine kJi (wr := [(k4, .inl (cI, 6, .inl c4)), (k5, .inl (cI, 4, .inl c5)), (k6, .inl (cI, 4, .inl c6)), (k7, .inl (cI, 144, .inl c7)), (ka, .inl (cI, 60, .inl ca)), (kb, .inl (cI, 60, .inl cb))]) (va_runV (As := [.int a2]) (rest := []) ⟨hx, hb, hml, hown, hT⟩ (c_X11_isWorkG l D cI aK aV k k0 k1 k2 k4 k5 k6 k7 k8 ka kb kl ko H.size c3 c9 cc cd ce cf cg ch ci cj ck cm cn c0 a2 pre0) (cwV 1 hT (gV_in mw_1272 mw_1269 mw_1271 mw_p3_11 mw_12) rfl rfl rfl (by decide +kernel) ⟨Nat.le_of_ble_eq_true rfl, Nat.le_of_ble_eq_true rfl⟩) (kRecvX (q0 := 6) (ci := 11) hK hP hD hN hXS hS hA rfl rfl [6, 7] rfl (by decide +kernel)) rfl rfl hl.1 rfl (lv_room (Nat.le_of_ble_eq_true rfl)) dX11_slip_17 ⟨Nat.le_of_ble_eq_true rfl, Nat.le_of_ble_eq_true rfl⟩) hP hD hS hA [6, 7] [0, 1, 2, 3, 4, 5] rfl rfl (by decide +kernel) (by decide +kernel) ?_
      clear hP hD hS
      intro r_18 u_20 H locs w_19 hP hD hS
      replace hP : va_P D vwCl [(k4, .inl (cI, 6, .inl c4)), (k5, .inl (cI, 4, .inl c5)), (k6, .inl (cI, 4, .inl c6)), (k7, .inl (cI, 144, .inl c7)), (ka, .inl (cI, 60, .inl ca)), (kb, .inl (cI, 60, .inl cb)), (k, .inr (11, [.ref k0, .ref k1, .ref k2, .int c3, .ref k4, .ref k5, .ref k6, .ref k7, .ref k8, .int c9, .ref ka, .ref kb, .int cc, .int cd, .int ce, .int cf, .int cg, .int ch, .int ci, .int cj, .int ck, .ref kl, .int cm, .int cn, .ref ko])), (k0, .inl (cI, 1201, .inl c0))] H := hP
      replace hD : va_D A [(k4, .inl (cI, 6, .inl c4)), (k5, .inl (cI, 4, .inl c5)), (k6, .inl (cI, 4, .inl c6)), (k7, .inl (cI, 144, .inl c7)), (ka, .inl (cI, 60, .inl ca)), (kb, .inl (cI, 60, .inl cb)), (k, .inr (11, [.ref k0, .ref k1, .ref k2, .int c3, .ref k4, .ref k5, .ref k6, .ref k7, .ref k8, .int c9, .ref ka, .ref kb, .int cc, .int cd, .int ce, .int cf, .int cg, .int ch, .int ci, .int cj, .int ck, .ref kl, .int cm, .int cn, .ref ko])), (k0, .inl (cI, 1201, .inl c0))] := hD
      rcases w_19 with ⟨hr_18, h_21, h_22⟩ | ⟨hr_18, h_23⟩
      · have h_21 : 0 ≤ a2.toInt := h_21
        have h_22 : a2.toInt < (c0 1).toInt := h_22
        obtain rfl : r_18 = 1 := hr_18.trans (by decide +kernel)
        refine b_if_eq hx hb zl_1 (tgt := 34) dX11_slip_20 (by decide +kernel) (fun c_24 => by exfalso; omega) (fun c_24 => ?_)
        refine lv_iload_n hx hb dX11_slip_23 rfl (lv_at hl 2 rfl) ?_
        refine lv_iload_n hx hb dX11_slip_24 rfl (lv_at hl 3 rfl) ?_
        refine b_icmp_eq hx hb rfl rfl (tgt := 34) dX11_slip_25 (by decide +kernel) (fun c_25 => ?_) (fun c_25 => ?_)
        · refine lv_aload_n hx hb dX11_slip_34 rfl (lv_at hl 0 rfl) ?_
          refine lv_ldc (v := (-1000001)) hx hb hown (hT _ mw_1239) dX11_slip_35 ?_
          refine kJi (wr := [(k5, .inl (cI, 4, .inl c5)), (k6, .inl (cI, 4, .inl c6)), (k7, .inl (cI, 144, .inl c7)), (ka, .inl (cI, 60, .inl ca)), (kb, .inl (cI, 60, .inl cb)), (k0, .inl (cI, 1201, .inl c0))]) (va_runV (As := [.int (-1000001)]) (rest := []) ⟨hx, hb, hml, hown, hT⟩ (c_X11_findingG l D cI aK aV k k0 k1 k2 k4 k5 k6 k7 k8 ka kb kl ko H.size c3 c9 cc cd ce cf cg ch ci cj ck cm cn c4 (-1000001) (by first | omega | (simp only [zl_m1000001]; first | done | omega) | decide | assumption | rfl) (by first | omega | (simp only [zl_m1000001]; first | done | omega) | decide | assumption | rfl)) (cwV 1 hT (gV_in mw_1243 mw_1240 mw_1242 mw_p3_8 mw_12) rfl rfl rfl (by decide +kernel) ⟨Nat.le_of_ble_eq_true rfl, Nat.le_of_ble_eq_true rfl⟩) (kRecvX (q0 := 6) (ci := 11) hK hP hD hN hXS hS hA rfl rfl [6, 0] rfl (by decide +kernel)) rfl rfl hl.1 rfl (lv_room (Nat.le_of_ble_eq_true rfl)) dX11_slip_37 ⟨Nat.le_of_ble_eq_true rfl, Nat.le_of_ble_eq_true rfl⟩) hP hD hS hA [6, 0] [1, 2, 3, 4, 5, 7] rfl rfl (by decide +kernel) (by decide +kernel) ?_
          clear hP hD hS
          intro r_26 sc4_28 H locs w_27 hP hD hS
          replace hP : va_P D vwCl [(k5, .inl (cI, 4, .inl c5)), (k6, .inl (cI, 4, .inl c6)), (k7, .inl (cI, 144, .inl c7)), (ka, .inl (cI, 60, .inl ca)), (kb, .inl (cI, 60, .inl cb)), (k0, .inl (cI, 1201, .inl c0)), (k, .inr (11, [.ref k0, .ref k1, .ref k2, .int c3, .ref k4, .ref k5, .ref k6, .ref k7, .ref k8, .int c9, .ref ka, .ref kb, .int cc, .int cd, .int ce, .int cf, .int cg, .int ch, .int ci, .int cj, .int ck, .ref kl, .int cm, .int cn, .ref ko])), (k4, .inl (cI, 6, .inl sc4_28))] H := hP
          replace hD : va_D A [(k5, .inl (cI, 4, .inl c5)), (k6, .inl (cI, 4, .inl c6)), (k7, .inl (cI, 144, .inl c7)), (ka, .inl (cI, 60, .inl ca)), (kb, .inl (cI, 60, .inl cb)), (k0, .inl (cI, 1201, .inl c0)), (k, .inr (11, [.ref k0, .ref k1, .ref k2, .int c3, .ref k4, .ref k5, .ref k6, .ref k7, .ref k8, .int c9, .ref ka, .ref kb, .int cc, .int cd, .int ce, .int cf, .int cg, .int ch, .int ci, .int cj, .int ck, .ref kl, .int cm, .int cn, .ref ko])), (k4, .inl (cI, 6, .inl sc4_28))] := hD
          have hr_26 := w_27
          obtain rfl : r_26 = (-1000001) := hr_26.trans (by decide +kernel)
          exact hRet (sc4_28, ca, cb) [6, 5, 7, 0, 1, 2, 3, 4] trivial hP hD (by decide +kernel) rfl hS rfl dX11_slip_40
        · refine lv_iload hx hb dX11_slip_28 (lv_at hl 4 rfl) ?_
          refine lv_iconst (v := (-1)) hx hb dX11_slip_30 (by decide +kernel) ?_
          refine b_icmp_ge hx hb rfl zl_m1 (tgt := 41) dX11_slip_31 (by decide +kernel) (fun c_29 => ?_) (fun c_29 => ?_)
          · refine lv_aload_n hx hb dX11_slip_41 rfl (lv_at hl 0 rfl) ?_
            refine lv_iload_n hx hb dX11_slip_42 rfl (lv_at hl 2 rfl) ?_
            refine lv_iconst (v := 0) hx hb dX11_slip_43 (by decide +kernel) ?_
            refine kJi (wr := [(k4, .inl (cI, 6, .inl c4)), (k5, .inl (cI, 4, .inl c5)), (k6, .inl (cI, 4, .inl c6)), (k7, .inl (cI, 144, .inl c7)), (ka, .inl (cI, 60, .inl ca)), (kb, .inl (cI, 60, .inl cb))]) (va_runV (As := [.int a1, .int 0]) (rest := []) ⟨hx, hb, hml, hown, hT⟩ (c_X11_workG0 l D cI aK aV k k0 k1 k2 k4 k5 k6 k7 k8 ka kb kl ko H.size c3 c9 cc cd ce cf cg ch ci cj ck cm cn c0 a1 0 (by first | omega | (simp only [zl_0]; first | done | omega) | decide | assumption | rfl) (by first | omega | (simp only [zl_0]; first | done | omega) | decide | assumption | rfl) (by first | omega | (simp only [zl_0]; first | done | omega) | decide | assumption | rfl)) (cwV 2 hT (gV_in mw_1276 mw_1273 mw_1275 mw_p3_12 mw_12) rfl rfl rfl (by decide +kernel) ⟨Nat.le_of_ble_eq_true rfl, Nat.le_of_ble_eq_true rfl⟩) (kRecvX (q0 := 6) (ci := 11) hK hP hD hN hXS hS hA rfl rfl [6, 7] rfl (by decide +kernel)) rfl rfl hl.1 rfl (lv_room (Nat.le_of_ble_eq_true rfl)) dX11_slip_44 ⟨Nat.le_of_ble_eq_true rfl, Nat.le_of_ble_eq_true rfl⟩) hP hD hS hA [6, 7] [0, 1, 2, 3, 4, 5] rfl rfl (by decide +kernel) (by decide +kernel) ?_
            clear hP hD hS
            intro r_30 u_32 H locs w_31 hP hD hS
            replace hP : va_P D vwCl [(k4, .inl (cI, 6, .inl c4)), (k5, .inl (cI, 4, .inl c5)), (k6, .inl (cI, 4, .inl c6)), (k7, .inl (cI, 144, .inl c7)), (ka, .inl (cI, 60, .inl ca)), (kb, .inl (cI, 60, .inl cb)), (k, .inr (11, [.ref k0, .ref k1, .ref k2, .int c3, .ref k4, .ref k5, .ref k6, .ref k7, .ref k8, .int c9, .ref ka, .ref kb, .int cc, .int cd, .int ce, .int cf, .int cg, .int ch, .int ci, .int cj, .int ck, .ref kl, .int cm, .int cn, .ref ko])), (k0, .inl (cI, 1201, .inl c0))] H := hP
            replace hD : va_D A [(k4, .inl (cI, 6, .inl c4)), (k5, .inl (cI, 4, .inl c5)), (k6, .inl (cI, 4, .inl c6)), (k7, .inl (cI, 144, .inl c7)), (ka, .inl (cI, 60, .inl ca)), (kb, .inl (cI, 60, .inl cb)), (k, .inr (11, [.ref k0, .ref k1, .ref k2, .int c3, .ref k4, .ref k5, .ref k6, .ref k7, .ref k8, .int c9, .ref ka, .ref kb, .int cc, .int cd, .int ce, .int cf, .int cg, .int ch, .int ci, .int cj, .int ck, .ref kl, .int cm, .int cn, .ref ko])), (k0, .inl (cI, 1201, .inl c0))] := hD
            have h_33 := w_31
            have h_33 : r_30 = wW c0 a1 0 := h_33
            have t_34 : r_30.toInt = (wW c0 a1 0).toInt := by rw [h_33]
            have b_35 : 0 ≤ r_30.toInt ∧ r_30.toInt ≤ 5 := by rw [h_33]; exact SB.w0 pre0 (by omega) (by omega)
            have lo_r_30 := k_lo r_30
            have hi_r_30 := k_hi r_30
            refine lv_iconst (v := 3) hx hb dX11_slip_47 (by decide +kernel) ?_
            refine b_icmp_ne hx hb rfl zl_3 (tgt := 61) dX11_slip_48 (by decide +kernel) (fun c_36 => ?_) (fun c_36 => ?_)
            · refine lv_aload_n hx hb dX11_slip_61 rfl (lv_at hl 0 rfl) ?_
              refine lv_ldc (v := (-1000005)) hx hb hown (hT _ mw_1283) dX11_slip_62 ?_
              refine kJi (wr := [(k5, .inl (cI, 4, .inl c5)), (k6, .inl (cI, 4, .inl c6)), (k7, .inl (cI, 144, .inl c7)), (ka, .inl (cI, 60, .inl ca)), (kb, .inl (cI, 60, .inl cb)), (k0, .inl (cI, 1201, .inl c0))]) (va_runV (As := [.int (-1000005)]) (rest := []) ⟨hx, hb, hml, hown, hT⟩ (c_X11_findingG l D cI aK aV k k0 k1 k2 k4 k5 k6 k7 k8 ka kb kl ko H.size c3 c9 cc cd ce cf cg ch ci cj ck cm cn c4 (-1000005) (by first | omega | (simp only [zl_m1000005]; first | done | omega) | decide | assumption | rfl) (by first | omega | (simp only [zl_m1000005]; first | done | omega) | decide | assumption | rfl)) (cwV 1 hT (gV_in mw_1243 mw_1240 mw_1242 mw_p3_8 mw_12) rfl rfl rfl (by decide +kernel) ⟨Nat.le_of_ble_eq_true rfl, Nat.le_of_ble_eq_true rfl⟩) (kRecvX (q0 := 6) (ci := 11) hK hP hD hN hXS hS hA rfl rfl [6, 0] rfl (by decide +kernel)) rfl rfl hl.1 rfl (lv_room (Nat.le_of_ble_eq_true rfl)) dX11_slip_64 ⟨Nat.le_of_ble_eq_true rfl, Nat.le_of_ble_eq_true rfl⟩) hP hD hS hA [6, 0] [1, 2, 3, 4, 5, 7] rfl rfl (by decide +kernel) (by decide +kernel) ?_
              clear hP hD hS
              intro r_37 sc4_39 H locs w_38 hP hD hS
              replace hP : va_P D vwCl [(k5, .inl (cI, 4, .inl c5)), (k6, .inl (cI, 4, .inl c6)), (k7, .inl (cI, 144, .inl c7)), (ka, .inl (cI, 60, .inl ca)), (kb, .inl (cI, 60, .inl cb)), (k0, .inl (cI, 1201, .inl c0)), (k, .inr (11, [.ref k0, .ref k1, .ref k2, .int c3, .ref k4, .ref k5, .ref k6, .ref k7, .ref k8, .int c9, .ref ka, .ref kb, .int cc, .int cd, .int ce, .int cf, .int cg, .int ch, .int ci, .int cj, .int ck, .ref kl, .int cm, .int cn, .ref ko])), (k4, .inl (cI, 6, .inl sc4_39))] H := hP
              replace hD : va_D A [(k5, .inl (cI, 4, .inl c5)), (k6, .inl (cI, 4, .inl c6)), (k7, .inl (cI, 144, .inl c7)), (ka, .inl (cI, 60, .inl ca)), (kb, .inl (cI, 60, .inl cb)), (k0, .inl (cI, 1201, .inl c0)), (k, .inr (11, [.ref k0, .ref k1, .ref k2, .int c3, .ref k4, .ref k5, .ref k6, .ref k7, .ref k8, .int c9, .ref ka, .ref kb, .int cc, .int cd, .int ce, .int cf, .int cg, .int ch, .int ci, .int cj, .int ck, .ref kl, .int cm, .int cn, .ref ko])), (k4, .inl (cI, 6, .inl sc4_39))] := hD
              have hr_37 := w_38
              obtain rfl : r_37 = (-1000005) := hr_37.trans (by decide +kernel)
              exact hRet (sc4_39, ca, cb) [6, 5, 7, 0, 1, 2, 3, 4] trivial hP hD (by decide +kernel) rfl hS rfl dX11_slip_67
            · refine lv_aload_n hx hb dX11_slip_51 rfl (lv_at hl 0 rfl) ?_
              refine lv_iload_n hx hb dX11_slip_52 rfl (lv_at hl 3 rfl) ?_
              refine lv_iconst (v := 0) hx hb dX11_slip_53 (by decide +kernel) ?_
              refine kJi (wr := [(k4, .inl (cI, 6, .inl c4)), (k5, .inl (cI, 4, .inl c5)), (k6, .inl (cI, 4, .inl c6)), (k7, .inl (cI, 144, .inl c7)), (ka, .inl (cI, 60, .inl ca)), (kb, .inl (cI, 60, .inl cb))]) (va_runV (As := [.int a2, .int 0]) (rest := []) ⟨hx, hb, hml, hown, hT⟩ (c_X11_workG0 l D cI aK aV k k0 k1 k2 k4 k5 k6 k7 k8 ka kb kl ko H.size c3 c9 cc cd ce cf cg ch ci cj ck cm cn c0 a2 0 (by first | omega | (simp only [zl_0]; first | done | omega) | decide | assumption | rfl) (by first | omega | (simp only [zl_0]; first | done | omega) | decide | assumption | rfl) (by first | omega | (simp only [zl_0]; first | done | omega) | decide | assumption | rfl)) (cwV 2 hT (gV_in mw_1276 mw_1273 mw_1275 mw_p3_12 mw_12) rfl rfl rfl (by decide +kernel) ⟨Nat.le_of_ble_eq_true rfl, Nat.le_of_ble_eq_true rfl⟩) (kRecvX (q0 := 6) (ci := 11) hK hP hD hN hXS hS hA rfl rfl [6, 7] rfl (by decide +kernel)) rfl rfl hl.1 rfl (lv_room (Nat.le_of_ble_eq_true rfl)) dX11_slip_54 ⟨Nat.le_of_ble_eq_true rfl, Nat.le_of_ble_eq_true rfl⟩) hP hD hS hA [6, 7] [0, 1, 2, 3, 4, 5] rfl rfl (by decide +kernel) (by decide +kernel) ?_
              clear hP hD hS
              intro r_40 u_42 H locs w_41 hP hD hS
              replace hP : va_P D vwCl [(k4, .inl (cI, 6, .inl c4)), (k5, .inl (cI, 4, .inl c5)), (k6, .inl (cI, 4, .inl c6)), (k7, .inl (cI, 144, .inl c7)), (ka, .inl (cI, 60, .inl ca)), (kb, .inl (cI, 60, .inl cb)), (k, .inr (11, [.ref k0, .ref k1, .ref k2, .int c3, .ref k4, .ref k5, .ref k6, .ref k7, .ref k8, .int c9, .ref ka, .ref kb, .int cc, .int cd, .int ce, .int cf, .int cg, .int ch, .int ci, .int cj, .int ck, .ref kl, .int cm, .int cn, .ref ko])), (k0, .inl (cI, 1201, .inl c0))] H := hP
              replace hD : va_D A [(k4, .inl (cI, 6, .inl c4)), (k5, .inl (cI, 4, .inl c5)), (k6, .inl (cI, 4, .inl c6)), (k7, .inl (cI, 144, .inl c7)), (ka, .inl (cI, 60, .inl ca)), (kb, .inl (cI, 60, .inl cb)), (k, .inr (11, [.ref k0, .ref k1, .ref k2, .int c3, .ref k4, .ref k5, .ref k6, .ref k7, .ref k8, .int c9, .ref ka, .ref kb, .int cc, .int cd, .int ce, .int cf, .int cg, .int ch, .int ci, .int cj, .int ck, .ref kl, .int cm, .int cn, .ref ko])), (k0, .inl (cI, 1201, .inl c0))] := hD
              have h_43 := w_41
              have h_43 : r_40 = wW c0 a2 0 := h_43
              have t_44 : r_40.toInt = (wW c0 a2 0).toInt := by rw [h_43]
              have b_45 : 0 ≤ r_40.toInt ∧ r_40.toInt ≤ 5 := by rw [h_43]; exact SB.w0 pre0 (by omega) (by omega)
              have lo_r_40 := k_lo r_40
              have hi_r_40 := k_hi r_40
              refine lv_iconst (v := 3) hx hb dX11_slip_57 (by decide +kernel) ?_
              refine b_icmp_eq hx hb rfl zl_3 (tgt := 68) dX11_slip_58 (by decide +kernel) (fun c_46 => ?_) (fun c_46 => ?_)
              · refine lv_aload_n hx hb dX11_slip_68 rfl (lv_at hl 0 rfl) ?_
                refine va_get (D := D) (ci := 11) (v := .ref k5) (C := RX11) (T := TX11) (N := 25) hx hb hT giX11 hown hK hP 6 rfl rfl 5 (by decide +kernel) (hT (Cond.fieldLink RX11 22 "DesertWireModel" "bits" "[I") mw_1161) (fun _ h9 => h9) rfl dX11_slip_69 ?_
                refine lv_iload_n hx hb dX11_slip_72 rfl (lv_at hl 1 rfl) ?_
                refine k_iald (v := (c5 a0.toNatClampNeg)) hx hb hK hP 1 0 rfl rfl (k_in (by omega) (by omega)) rfl dX11_slip_73 ?_
                refine lv_topi (fun v_47 ev_47 => ?_)
                have lo_v_47 := k_lo v_47
                have hi_v_47 := k_hi v_47
                have tv_47 : v_47.toInt = (c5 a0.toNatClampNeg).toInt := by rw [ev_47]
                refine b_if_ne hx hb rfl (tgt := 81) dX11_slip_74 (by decide +kernel) (fun c_48 => ?_) (fun c_48 => ?_)
                · refine lv_aload_n hx hb dX11_slip_81 rfl (lv_at hl 0 rfl) ?_
                  refine lv_iload_n hx hb dX11_slip_82 rfl (lv_at hl 2 rfl) ?_
                  refine lv_iload_n hx hb dX11_slip_83 rfl (lv_at hl 3 rfl) ?_
                  refine kJi (wr := [(k4, .inl (cI, 6, .inl c4)), (k5, .inl (cI, 4, .inl c5)), (k6, .inl (cI, 4, .inl c6)), (k7, .inl (cI, 144, .inl c7))]) (va_runV (As := [.int a1, .int a2]) (rest := []) ⟨hx, hb, hml, hown, hT⟩ (c_X11_findHandsG l D cI aK aV k k0 k1 k2 k4 k5 k6 k7 k8 ka kb kl ko H.size c3 c9 cc cd ce cf cg ch ci cj ck cm cn c0 ca cb a1 a2 pre0 (by first | omega | decide | assumption | rfl) (by first | omega | decide | assumption | rfl) (by first | omega | decide | assumption | rfl) (by first | omega | decide | assumption | rfl)) (cwV 2 hT (gV_in mw_1456 mw_1453 mw_1455 mw_p5_8 mw_12) rfl rfl rfl (by decide +kernel) ⟨Nat.le_of_ble_eq_true rfl, Nat.le_of_ble_eq_true rfl⟩) (kRecvX (q0 := 6) (ci := 11) hK hP hD hN hXS hS hA rfl rfl [6, 7, 4, 5] rfl (by decide +kernel)) rfl rfl hl.1 rfl (lv_room (Nat.le_of_ble_eq_true rfl)) dX11_slip_84 ⟨Nat.le_of_ble_eq_true rfl, Nat.le_of_ble_eq_true rfl⟩) hP hD hS hA [6, 7, 4, 5] [0, 1, 2, 3] rfl rfl (by decide +kernel) (by decide +kernel) ?_
                  clear hP hD hS
                  intro r_49 u_53 H locs w_50 hP hD hS
                  obtain ⟨sca_51, scb_52⟩ := u_53
                  replace hP : va_P D vwCl [(k4, .inl (cI, 6, .inl c4)), (k5, .inl (cI, 4, .inl c5)), (k6, .inl (cI, 4, .inl c6)), (k7, .inl (cI, 144, .inl c7)), (k, .inr (11, [.ref k0, .ref k1, .ref k2, .int c3, .ref k4, .ref k5, .ref k6, .ref k7, .ref k8, .int c9, .ref ka, .ref kb, .int cc, .int cd, .int ce, .int cf, .int cg, .int ch, .int ci, .int cj, .int ck, .ref kl, .int cm, .int cn, .ref ko])), (k0, .inl (cI, 1201, .inl c0)), (ka, .inl (cI, 60, .inl sca_51)), (kb, .inl (cI, 60, .inl scb_52))] H := hP
                  replace hD : va_D A [(k4, .inl (cI, 6, .inl c4)), (k5, .inl (cI, 4, .inl c5)), (k6, .inl (cI, 4, .inl c6)), (k7, .inl (cI, 144, .inl c7)), (k, .inr (11, [.ref k0, .ref k1, .ref k2, .int c3, .ref k4, .ref k5, .ref k6, .ref k7, .ref k8, .int c9, .ref ka, .ref kb, .int cc, .int cd, .int ce, .int cf, .int cg, .int ch, .int ci, .int cj, .int ck, .ref kl, .int cm, .int cn, .ref ko])), (k0, .inl (cI, 1201, .inl c0)), (ka, .inl (cI, 60, .inl sca_51)), (kb, .inl (cI, 60, .inl scb_52))] := hD
                  obtain ⟨h_54, h_55⟩ := w_50
                  have h_54 : 0 ≤ r_49.toInt := h_54
                  have h_55 : r_49.toInt ≤ 60 := h_55
                  have lo_r_49 := k_lo r_49
                  have hi_r_49 := k_hi r_49
                  refine lv_istore (lv' := [(5, .int r_49), (0, .ref k), (1, .int a0), (2, .int a1), (3, .int a2), (4, .int a3)]) hx hb dX11_slip_87 hl (by decide +kernel) rfl ?_
                  clear hl
                  intro ls hl
                  refine lv_iload hx hb dX11_slip_89 (lv_at hl 0 rfl) ?_
                  refine b_if_ne hx hb rfl (tgt := 101) dX11_slip_91 (by decide +kernel) (fun c_56 => ?_) (fun c_56 => ?_)
                  · refine lv_aload_n hx hb dX11_slip_101 rfl (lv_at hl 1 rfl) ?_
                    refine va_get (D := D) (ci := 11) (v := .ref k6) (C := RX11) (T := TX11) (N := 25) hx hb hT giX11 hown hK hP 4 rfl rfl 6 (by decide +kernel) (hT (Cond.fieldLink RX11 25 "DesertWireModel" "size" "[I") mw_1162) (fun _ h9 => h9) rfl dX11_slip_102 ?_
                    refine lv_iload_n hx hb dX11_slip_105 rfl (lv_at hl 2 rfl) ?_
                    refine k_iald (v := (c6 a0.toNatClampNeg)) hx hb hK hP 2 0 rfl rfl (k_in (by omega) (by omega)) rfl dX11_slip_106 ?_
                    refine lv_topi (fun v_57 ev_57 => ?_)
                    have lo_v_57 := k_lo v_57
                    have hi_v_57 := k_hi v_57
                    have tv_57 : v_57.toInt = (c6 a0.toNatClampNeg).toInt := by rw [ev_57]
                    have b_58 : 0 ≤ v_57.toInt ∧ v_57.toInt ≤ 36 := by rw [tv_57]; exact pre1 a0.toNatClampNeg (by rw [k_clamp]; omega)
                    refine lv_iload hx hb dX11_slip_107 (lv_at hl 0 rfl) ?_
                    refine b_icmp_eq hx hb rfl rfl (tgt := 119) dX11_slip_109 (by decide +kernel) (fun c_59 => ?_) (fun c_59 => ?_)
                    · refine lv_iconst (v := 0) hx hb dX11_slip_119 (by decide +kernel) ?_
                      refine lv_istore (lv' := [(6, .int 0), (5, .int r_49), (0, .ref k), (1, .int a0), (2, .int a1), (3, .int a2), (4, .int a3)]) hx hb dX11_slip_120 hl (by decide +kernel) rfl ?_
                      clear hl
                      intro ls hl
                      refine lv_iconst (v := (-1)) hx hb dX11_slip_122 (by decide +kernel) ?_
                      refine lv_istore (lv' := [(7, .int (-1)), (6, .int 0), (5, .int r_49), (0, .ref k), (1, .int a0), (2, .int a1), (3, .int a2), (4, .int a3)]) hx hb dX11_slip_123 hl (by decide +kernel) rfl ?_
                      clear hl
                      intro ls hl
                      refine lv_iconst (v := 0) hx hb dX11_slip_125 (by decide +kernel) ?_
                      refine lv_istore (lv' := [(8, .int 0), (7, .int (-1)), (6, .int 0), (5, .int r_49), (0, .ref k), (1, .int a0), (2, .int a1), (3, .int a2), (4, .int a3)]) hx hb dX11_slip_126 hl (by decide +kernel) rfl ?_
                      clear hl
                      intro ls hl
                      have hloop_128 : ∀ (fu_ : Nat) (l128_6 : Int32) (l128_7 : Int32) (l128_8 : Int32), (-1) ≤ l128_7.toInt → 0 ≤ l128_8.toInt → l128_7.toInt < l128_8.toInt → (r_49.toInt - l128_8.toInt).toNat < fu_ → ∀ (ls : Array Slot) (H : Heap) (locs : List Loc), lv_has ls 9 [(8, .int l128_8), (7, .int l128_7), (6, .int l128_6), (5, .int r_49), (0, .ref k), (1, .int a0), (2, .int a1), (3, .int a2), (4, .int a3)] → va_P D vwCl [(k4, .inl (cI, 6, .inl c4)), (k5, .inl (cI, 4, .inl c5)), (k6, .inl (cI, 4, .inl c6)), (k7, .inl (cI, 144, .inl c7)), (k, .inr (11, [.ref k0, .ref k1, .ref k2, .int c3, .ref k4, .ref k5, .ref k6, .ref k7, .ref k8, .int c9, .ref ka, .ref kb, .int cc, .int cd, .int ce, .int cf, .int cg, .int ch, .int ci, .int cj, .int ck, .ref kl, .int cm, .int cn, .ref ko])), (k0, .inl (cI, 1201, .inl c0)), (ka, .inl (cI, 60, .inl sca_51)), (kb, .inl (cI, 60, .inl scb_52))] H → va_D A [(k4, .inl (cI, 6, .inl c4)), (k5, .inl (cI, 4, .inl c5)), (k6, .inl (cI, 4, .inl c6)), (k7, .inl (cI, 144, .inl c7)), (k, .inr (11, [.ref k0, .ref k1, .ref k2, .int c3, .ref k4, .ref k5, .ref k6, .ref k7, .ref k8, .int c9, .ref ka, .ref kb, .int cc, .int cd, .int ce, .int cf, .int cg, .int ch, .int ci, .int cj, .int ck, .ref kl, .int cm, .int cn, .ref ko])), (k0, .inl (cI, 1201, .inl c0)), (ka, .inl (cI, 60, .inl sca_51)), (kb, .inl (cI, 60, .inl scb_52))] → va_S A s.heap H locs → W p l e ({ frames := 6, cells := 0, slots := 0, locals := 141 } : Room) s m args below meth c H locs 0 0 Q (F0 m 128 ls []) := by
                        intro fu_; induction fu_ with
                        | zero => intro l128_6 l128_7 l128_8 i128_0 i128_1 i128_2 hm; exact absurd hm (by omega)
                        | succ fu_ ih128 =>
                            intro l128_6 l128_7 l128_8 i128_0 i128_1 i128_2 hm ls H locs hl hP hD hS
                            have lo_l128_6 := k_lo l128_6
                            have hi_l128_6 := k_hi l128_6
                            have lo_l128_7 := k_lo l128_7
                            have hi_l128_7 := k_hi l128_7
                            have lo_l128_8 := k_lo l128_8
                            have hi_l128_8 := k_hi l128_8
                            refine lv_iload hx hb dX11_slip_128 (lv_at hl 0 rfl) ?_
                            refine lv_iload hx hb dX11_slip_130 (lv_at hl 3 rfl) ?_
                            refine b_icmp_ge hx hb rfl rfl (tgt := 202) dX11_slip_132 (by decide +kernel) (fun c_60 => ?_) (fun c_60 => ?_)
                            · refine lv_iload hx hb dX11_slip_202 (lv_at hl 8 rfl) ?_
                              refine lv_iconst (v := (-1)) hx hb dX11_slip_204 (by decide +kernel) ?_
                              refine b_icmp_ne hx hb rfl zl_m1 (tgt := 213) dX11_slip_205 (by decide +kernel) (fun c_61 => ?_) (fun c_61 => ?_)
                              · refine lv_aload_n hx hb dX11_slip_213 rfl (lv_at hl 4 rfl) ?_
                                refine lv_ldc (v := (-1000002)) hx hb hown (hT _ mw_1392) dX11_slip_214 ?_
                                refine kJi (wr := [(k5, .inl (cI, 4, .inl c5)), (k6, .inl (cI, 4, .inl c6)), (k7, .inl (cI, 144, .inl c7)), (k0, .inl (cI, 1201, .inl c0)), (ka, .inl (cI, 60, .inl sca_51)), (kb, .inl (cI, 60, .inl scb_52))]) (va_runV (As := [.int (-1000002)]) (rest := []) ⟨hx, hb, hml, hown, hT⟩ (c_X11_findingG l D cI aK aV k k0 k1 k2 k4 k5 k6 k7 k8 ka kb kl ko H.size c3 c9 cc cd ce cf cg ch ci cj ck cm cn c4 (-1000002) (by first | omega | (simp only [zl_m1000002]; first | done | omega) | decide | assumption | rfl) (by first | omega | (simp only [zl_m1000002]; first | done | omega) | decide | assumption | rfl)) (cwV 1 hT (gV_in mw_1243 mw_1240 mw_1242 mw_p3_8 mw_12) rfl rfl rfl (by decide +kernel) ⟨Nat.le_of_ble_eq_true rfl, Nat.le_of_ble_eq_true rfl⟩) (kRecvX (q0 := 4) (ci := 11) hK hP hD hN hXS hS hA rfl rfl [4, 0] rfl (by decide +kernel)) rfl rfl hl.1 rfl (lv_room (Nat.le_of_ble_eq_true rfl)) dX11_slip_216 ⟨Nat.le_of_ble_eq_true rfl, Nat.le_of_ble_eq_true rfl⟩) hP hD hS hA [4, 0] [1, 2, 3, 5, 6, 7] rfl rfl (by decide +kernel) (by decide +kernel) ?_
                                clear hP hD hS
                                intro r_62 sc4_64 H locs w_63 hP hD hS
                                replace hP : va_P D vwCl [(k5, .inl (cI, 4, .inl c5)), (k6, .inl (cI, 4, .inl c6)), (k7, .inl (cI, 144, .inl c7)), (k0, .inl (cI, 1201, .inl c0)), (ka, .inl (cI, 60, .inl sca_51)), (kb, .inl (cI, 60, .inl scb_52)), (k, .inr (11, [.ref k0, .ref k1, .ref k2, .int c3, .ref k4, .ref k5, .ref k6, .ref k7, .ref k8, .int c9, .ref ka, .ref kb, .int cc, .int cd, .int ce, .int cf, .int cg, .int ch, .int ci, .int cj, .int ck, .ref kl, .int cm, .int cn, .ref ko])), (k4, .inl (cI, 6, .inl sc4_64))] H := hP
                                replace hD : va_D A [(k5, .inl (cI, 4, .inl c5)), (k6, .inl (cI, 4, .inl c6)), (k7, .inl (cI, 144, .inl c7)), (k0, .inl (cI, 1201, .inl c0)), (ka, .inl (cI, 60, .inl sca_51)), (kb, .inl (cI, 60, .inl scb_52)), (k, .inr (11, [.ref k0, .ref k1, .ref k2, .int c3, .ref k4, .ref k5, .ref k6, .ref k7, .ref k8, .int c9, .ref ka, .ref kb, .int cc, .int cd, .int ce, .int cf, .int cg, .int ch, .int ci, .int cj, .int ck, .ref kl, .int cm, .int cn, .ref ko])), (k4, .inl (cI, 6, .inl sc4_64))] := hD
                                have hr_62 := w_63
                                obtain rfl : r_62 = (-1000002) := hr_62.trans (by decide +kernel)
                                exact hRet (sc4_64, sca_51, scb_52) [6, 3, 7, 0, 1, 2, 4, 5] trivial hP hD (by decide +kernel) rfl hS rfl dX11_slip_219
                              · refine lv_iload hx hb dX11_slip_208 (lv_at hl 2 rfl) ?_
                                refine lv_goto (tgt := 219) hx hb dX11_slip_210 (by decide +kernel) ?_
                                exact hRet (c4, sca_51, scb_52) [4, 5, 0, 1, 2, 3, 6, 7] trivial hP hD (by decide +kernel) rfl hS rfl dX11_slip_219
                            · refine lv_aload_n hx hb dX11_slip_135 rfl (lv_at hl 4 rfl) ?_
                              refine lv_iload_n hx hb dX11_slip_136 rfl (lv_at hl 5 rfl) ?_
                              refine lv_iload hx hb dX11_slip_137 (lv_at hl 0 rfl) ?_
                              refine kJi (wr := [(k4, .inl (cI, 6, .inl c4)), (k5, .inl (cI, 4, .inl c5)), (k6, .inl (cI, 4, .inl c6)), (k0, .inl (cI, 1201, .inl c0)), (ka, .inl (cI, 60, .inl sca_51)), (kb, .inl (cI, 60, .inl scb_52))]) (va_runV (As := [.int a0, .int l128_8]) (rest := []) ⟨hx, hb, hml, hown, hT⟩ (c_X11_atG l D cI aK aV k k0 k1 k2 k4 k5 k6 k7 k8 ka kb kl ko H.size c3 c9 cc cd ce cf cg ch ci cj ck cm cn c7 a0 l128_8 (by first | omega | decide | assumption | rfl) (by first | omega | decide | assumption | rfl) (by first | omega | decide | assumption | rfl) (by first | omega | decide | assumption | rfl)) (cwV 2 hT (gV_in mw_1396 mw_1393 mw_1395 mw_p5_2 mw_12) rfl rfl rfl (by decide +kernel) ⟨Nat.le_of_ble_eq_true rfl, Nat.le_of_ble_eq_true rfl⟩) (kRecvX (q0 := 4) (ci := 11) hK hP hD hN hXS hS hA rfl rfl [4, 3] rfl (by decide +kernel)) rfl rfl hl.1 rfl (lv_room (Nat.le_of_ble_eq_true rfl)) dX11_slip_139 ⟨Nat.le_of_ble_eq_true rfl, Nat.le_of_ble_eq_true rfl⟩) hP hD hS hA [4, 3] [0, 1, 2, 5, 6, 7] rfl rfl (by decide +kernel) (by decide +kernel) ?_
                              clear hP hD hS
                              intro r_65 u_67 H locs w_66 hP hD hS
                              replace hP : va_P D vwCl [(k4, .inl (cI, 6, .inl c4)), (k5, .inl (cI, 4, .inl c5)), (k6, .inl (cI, 4, .inl c6)), (k0, .inl (cI, 1201, .inl c0)), (ka, .inl (cI, 60, .inl sca_51)), (kb, .inl (cI, 60, .inl scb_52)), (k, .inr (11, [.ref k0, .ref k1, .ref k2, .int c3, .ref k4, .ref k5, .ref k6, .ref k7, .ref k8, .int c9, .ref ka, .ref kb, .int cc, .int cd, .int ce, .int cf, .int cg, .int ch, .int ci, .int cj, .int ck, .ref kl, .int cm, .int cn, .ref ko])), (k7, .inl (cI, 144, .inl c7))] H := hP
                              replace hD : va_D A [(k4, .inl (cI, 6, .inl c4)), (k5, .inl (cI, 4, .inl c5)), (k6, .inl (cI, 4, .inl c6)), (k0, .inl (cI, 1201, .inl c0)), (ka, .inl (cI, 60, .inl sca_51)), (kb, .inl (cI, 60, .inl scb_52)), (k, .inr (11, [.ref k0, .ref k1, .ref k2, .int c3, .ref k4, .ref k5, .ref k6, .ref k7, .ref k8, .int c9, .ref ka, .ref kb, .int cc, .int cd, .int ce, .int cf, .int cg, .int ch, .int ci, .int cj, .int ck, .ref kl, .int cm, .int cn, .ref ko])), (k7, .inl (cI, 144, .inl c7))] := hD
                              have h_68 := w_66
                              have h_68 : r_65 = c7 (36 * a0.toInt.toNat + l128_8.toInt.toNat) := h_68
                              have h_68 : r_65 = c7 (36 * a0.toInt.toNat + l128_8.toInt.toNat) := h_68
                              have lo_r_65 := k_lo r_65
                              have hi_r_65 := k_hi r_65
                              refine lv_iconst (v := (-1)) hx hb dX11_slip_142 (by decide +kernel) ?_
                              refine b_icmp_ne hx hb rfl zl_m1 (tgt := 149) dX11_slip_143 (by decide +kernel) (fun c_69 => ?_) (fun c_69 => ?_)
                              · refine lv_iload hx hb dX11_slip_149 (lv_at hl 1 rfl) ?_
                                refine b_if_lt hx hb rfl (tgt := 192) dX11_slip_151 (by decide +kernel) (fun c_70 => ?_) (fun c_70 => ?_)
                                · refine lv_iload hx hb dX11_slip_192 (lv_at hl 0 rfl) ?_
                                  refine lv_istore (lv' := [(7, .int l128_8), (8, .int l128_8), (6, .int l128_6), (5, .int r_49), (0, .ref k), (1, .int a0), (2, .int a1), (3, .int a2), (4, .int a3)]) hx hb dX11_slip_194 hl (by decide +kernel) rfl ?_
                                  clear hl
                                  intro ls hl
                                  obtain ⟨v_71, ev_71⟩ : ∃ y : Int32, y = l128_8 + 1 := ⟨_, rfl⟩
                                  have tv_71 : v_71.toInt = l128_8.toInt + 1 := by rw [ev_71]; exact k_addv rfl zl_1 (by omega) (by omega)
                                  refine lv_iinc (v := v_71) (lv' := [(8, .int v_71), (7, .int l128_8), (6, .int l128_6), (5, .int r_49), (0, .ref k), (1, .int a0), (2, .int a1), (3, .int a2), (4, .int a3)]) hx hb dX11_slip_196 hl (k := 1) rfl (by rw [ev_71]; rfl) (by decide +kernel) rfl ?_
                                  clear hl
                                  intro ls hl
                                  refine lv_goto (tgt := 128) hx hb dX11_slip_199 (by decide +kernel) ?_
                                  exact ih128 l128_6 l128_8 v_71 (by first | omega | decide | assumption | rfl) (by first | omega | decide | assumption | rfl) (by first | omega | decide | assumption | rfl) (by omega) ls _ _ (lv_sub hl [0, 1, 2, 3, 4, 5, 6, 7, 8] rfl) (hP.sub [0, 1, 2, 7, 6, 3, 4, 5] rfl) (hD.sub [0, 1, 2, 7, 6, 3, 4, 5] (by decide +kernel) rfl) hS
                                · refine lv_aload_n hx hb dX11_slip_154 rfl (lv_at hl 4 rfl) ?_
                                  refine lv_iload_n hx hb dX11_slip_155 rfl (lv_at hl 5 rfl) ?_
                                  refine lv_iload hx hb dX11_slip_156 (lv_at hl 1 rfl) ?_
                                  refine kJi (wr := [(k4, .inl (cI, 6, .inl c4)), (k5, .inl (cI, 4, .inl c5)), (k6, .inl (cI, 4, .inl c6)), (k0, .inl (cI, 1201, .inl c0)), (ka, .inl (cI, 60, .inl sca_51)), (kb, .inl (cI, 60, .inl scb_52))]) (va_runV (As := [.int a0, .int l128_7]) (rest := []) ⟨hx, hb, hml, hown, hT⟩ (c_X11_atG l D cI aK aV k k0 k1 k2 k4 k5 k6 k7 k8 ka kb kl ko H.size c3 c9 cc cd ce cf cg ch ci cj ck cm cn c7 a0 l128_7 (by first | omega | decide | assumption | rfl) (by first | omega | decide | assumption | rfl) (by first | omega | decide | assumption | rfl) (by first | omega | decide | assumption | rfl)) (cwV 2 hT (gV_in mw_1396 mw_1393 mw_1395 mw_p5_2 mw_12) rfl rfl rfl (by decide +kernel) ⟨Nat.le_of_ble_eq_true rfl, Nat.le_of_ble_eq_true rfl⟩) (kRecvX (q0 := 6) (ci := 11) hK hP hD hN hXS hS hA rfl rfl [6, 7] rfl (by decide +kernel)) rfl rfl hl.1 rfl (lv_room (Nat.le_of_ble_eq_true rfl)) dX11_slip_158 ⟨Nat.le_of_ble_eq_true rfl, Nat.le_of_ble_eq_true rfl⟩) hP hD hS hA [6, 7] [0, 1, 2, 3, 4, 5] rfl rfl (by decide +kernel) (by decide +kernel) ?_
                                  clear hP hD hS
                                  intro r_72 u_74 H locs w_73 hP hD hS
                                  replace hP : va_P D vwCl [(k4, .inl (cI, 6, .inl c4)), (k5, .inl (cI, 4, .inl c5)), (k6, .inl (cI, 4, .inl c6)), (k0, .inl (cI, 1201, .inl c0)), (ka, .inl (cI, 60, .inl sca_51)), (kb, .inl (cI, 60, .inl scb_52)), (k, .inr (11, [.ref k0, .ref k1, .ref k2, .int c3, .ref k4, .ref k5, .ref k6, .ref k7, .ref k8, .int c9, .ref ka, .ref kb, .int cc, .int cd, .int ce, .int cf, .int cg, .int ch, .int ci, .int cj, .int ck, .ref kl, .int cm, .int cn, .ref ko])), (k7, .inl (cI, 144, .inl c7))] H := hP
                                  replace hD : va_D A [(k4, .inl (cI, 6, .inl c4)), (k5, .inl (cI, 4, .inl c5)), (k6, .inl (cI, 4, .inl c6)), (k0, .inl (cI, 1201, .inl c0)), (ka, .inl (cI, 60, .inl sca_51)), (kb, .inl (cI, 60, .inl scb_52)), (k, .inr (11, [.ref k0, .ref k1, .ref k2, .int c3, .ref k4, .ref k5, .ref k6, .ref k7, .ref k8, .int c9, .ref ka, .ref kb, .int cc, .int cd, .int ce, .int cf, .int cg, .int ch, .int ci, .int cj, .int ck, .ref kl, .int cm, .int cn, .ref ko])), (k7, .inl (cI, 144, .inl c7))] := hD
                                  have h_75 := w_73
                                  have h_75 : r_72 = c7 (36 * a0.toInt.toNat + l128_7.toInt.toNat) := h_75
                                  have h_75 : r_72 = c7 (36 * a0.toInt.toNat + l128_7.toInt.toNat) := h_75
                                  have lo_r_72 := k_lo r_72
                                  have hi_r_72 := k_hi r_72
                                  refine lv_aload_n hx hb dX11_slip_161 rfl (lv_at hl 4 rfl) ?_
                                  refine lv_iload_n hx hb dX11_slip_162 rfl (lv_at hl 5 rfl) ?_
                                  refine lv_iload hx hb dX11_slip_163 (lv_at hl 0 rfl) ?_
                                  refine kJi (wr := [(k4, .inl (cI, 6, .inl c4)), (k5, .inl (cI, 4, .inl c5)), (k6, .inl (cI, 4, .inl c6)), (k0, .inl (cI, 1201, .inl c0)), (ka, .inl (cI, 60, .inl sca_51)), (kb, .inl (cI, 60, .inl scb_52))]) (va_runV (As := [.int a0, .int l128_8]) (rest := [.int r_72]) ⟨hx, hb, hml, hown, hT⟩ (c_X11_atG l D cI aK aV k k0 k1 k2 k4 k5 k6 k7 k8 ka kb kl ko H.size c3 c9 cc cd ce cf cg ch ci cj ck cm cn c7 a0 l128_8 (by first | omega | decide | assumption | rfl) (by first | omega | decide | assumption | rfl) (by first | omega | decide | assumption | rfl) (by first | omega | decide | assumption | rfl)) (cwV 2 hT (gV_in mw_1396 mw_1393 mw_1395 mw_p5_2 mw_12) rfl rfl rfl (by decide +kernel) ⟨Nat.le_of_ble_eq_true rfl, Nat.le_of_ble_eq_true rfl⟩) (kRecvX (q0 := 6) (ci := 11) hK hP hD hN hXS hS hA rfl rfl [6, 7] rfl (by decide +kernel)) rfl rfl hl.1 rfl (lv_room (Nat.le_of_ble_eq_true rfl)) dX11_slip_165 ⟨Nat.le_of_ble_eq_true rfl, Nat.le_of_ble_eq_true rfl⟩) hP hD hS hA [6, 7] [0, 1, 2, 3, 4, 5] rfl rfl (by decide +kernel) (by decide +kernel) ?_
                                  clear hP hD hS
                                  intro r_76 u_78 H locs w_77 hP hD hS
                                  replace hP : va_P D vwCl [(k4, .inl (cI, 6, .inl c4)), (k5, .inl (cI, 4, .inl c5)), (k6, .inl (cI, 4, .inl c6)), (k0, .inl (cI, 1201, .inl c0)), (ka, .inl (cI, 60, .inl sca_51)), (kb, .inl (cI, 60, .inl scb_52)), (k, .inr (11, [.ref k0, .ref k1, .ref k2, .int c3, .ref k4, .ref k5, .ref k6, .ref k7, .ref k8, .int c9, .ref ka, .ref kb, .int cc, .int cd, .int ce, .int cf, .int cg, .int ch, .int ci, .int cj, .int ck, .ref kl, .int cm, .int cn, .ref ko])), (k7, .inl (cI, 144, .inl c7))] H := hP
                                  replace hD : va_D A [(k4, .inl (cI, 6, .inl c4)), (k5, .inl (cI, 4, .inl c5)), (k6, .inl (cI, 4, .inl c6)), (k0, .inl (cI, 1201, .inl c0)), (ka, .inl (cI, 60, .inl sca_51)), (kb, .inl (cI, 60, .inl scb_52)), (k, .inr (11, [.ref k0, .ref k1, .ref k2, .int c3, .ref k4, .ref k5, .ref k6, .ref k7, .ref k8, .int c9, .ref ka, .ref kb, .int cc, .int cd, .int ce, .int cf, .int cg, .int ch, .int ci, .int cj, .int ck, .ref kl, .int cm, .int cn, .ref ko])), (k7, .inl (cI, 144, .inl c7))] := hD
                                  have h_79 := w_77
                                  have h_79 : r_76 = c7 (36 * a0.toInt.toNat + l128_8.toInt.toNat) := h_79
                                  have h_79 : r_76 = c7 (36 * a0.toInt.toNat + l128_8.toInt.toNat) := h_79
                                  have q_80 : r_76.toInt = r_65.toInt := by rw [h_79, h_68]
                                  have lo_r_76 := k_lo r_76
                                  have hi_r_76 := k_hi r_76
                                  refine b_icmp_eq hx hb rfl rfl (tgt := 192) dX11_slip_168 (by decide +kernel) (fun c_81 => ?_) (fun c_81 => ?_)
                                  · refine lv_iload hx hb dX11_slip_192 (lv_at hl 0 rfl) ?_
                                    refine lv_istore (lv' := [(7, .int l128_8), (8, .int l128_8), (6, .int l128_6), (5, .int r_49), (0, .ref k), (1, .int a0), (2, .int a1), (3, .int a2), (4, .int a3)]) hx hb dX11_slip_194 hl (by decide +kernel) rfl ?_
                                    clear hl
                                    intro ls hl
                                    obtain ⟨v_82, ev_82⟩ : ∃ y : Int32, y = l128_8 + 1 := ⟨_, rfl⟩
                                    have tv_82 : v_82.toInt = l128_8.toInt + 1 := by rw [ev_82]; exact k_addv rfl zl_1 (by omega) (by omega)
                                    refine lv_iinc (v := v_82) (lv' := [(8, .int v_82), (7, .int l128_8), (6, .int l128_6), (5, .int r_49), (0, .ref k), (1, .int a0), (2, .int a1), (3, .int a2), (4, .int a3)]) hx hb dX11_slip_196 hl (k := 1) rfl (by rw [ev_82]; rfl) (by decide +kernel) rfl ?_
                                    clear hl
                                    intro ls hl
                                    refine lv_goto (tgt := 128) hx hb dX11_slip_199 (by decide +kernel) ?_
                                    exact ih128 l128_6 l128_8 v_82 (by first | omega | decide | assumption | rfl) (by first | omega | decide | assumption | rfl) (by first | omega | decide | assumption | rfl) (by omega) ls _ _ (lv_sub hl [0, 1, 2, 3, 4, 5, 6, 7, 8] rfl) (hP.sub [0, 1, 2, 7, 6, 3, 4, 5] rfl) (hD.sub [0, 1, 2, 7, 6, 3, 4, 5] (by decide +kernel) rfl) hS
                                  · refine lv_iload hx hb dX11_slip_171 (lv_at hl 2 rfl) ?_
                                    refine lv_iload hx hb dX11_slip_173 (lv_at hl 8 rfl) ?_
                                    refine b_icmp_ne hx hb rfl rfl (tgt := 189) dX11_slip_175 (by decide +kernel) (fun c_83 => ?_) (fun c_83 => ?_)
                                    · obtain ⟨v_84, ev_84⟩ : ∃ y : Int32, y = l128_6 + 1 := ⟨_, rfl⟩
                                      have lo_v_84 := k_lo v_84
                                      have hi_v_84 := k_hi v_84
                                      refine lv_iinc (v := v_84) (lv' := [(6, .int v_84), (8, .int l128_8), (7, .int l128_7), (5, .int r_49), (0, .ref k), (1, .int a0), (2, .int a1), (3, .int a2), (4, .int a3)]) hx hb dX11_slip_189 hl (k := 2) rfl (by rw [ev_84]; rfl) (by decide +kernel) rfl ?_
                                      clear hl
                                      intro ls hl
                                      refine lv_iload hx hb dX11_slip_192 (lv_at hl 1 rfl) ?_
                                      refine lv_istore (lv' := [(7, .int l128_8), (6, .int v_84), (8, .int l128_8), (5, .int r_49), (0, .ref k), (1, .int a0), (2, .int a1), (3, .int a2), (4, .int a3)]) hx hb dX11_slip_194 hl (by decide +kernel) rfl ?_
                                      clear hl
                                      intro ls hl
                                      obtain ⟨v_85, ev_85⟩ : ∃ y : Int32, y = l128_8 + 1 := ⟨_, rfl⟩
                                      have tv_85 : v_85.toInt = l128_8.toInt + 1 := by rw [ev_85]; exact k_addv rfl zl_1 (by omega) (by omega)
                                      refine lv_iinc (v := v_85) (lv' := [(8, .int v_85), (7, .int l128_8), (6, .int v_84), (5, .int r_49), (0, .ref k), (1, .int a0), (2, .int a1), (3, .int a2), (4, .int a3)]) hx hb dX11_slip_196 hl (k := 2) rfl (by rw [ev_85]; rfl) (by decide +kernel) rfl ?_
                                      clear hl
                                      intro ls hl
                                      refine lv_goto (tgt := 128) hx hb dX11_slip_199 (by decide +kernel) ?_
                                      exact ih128 v_84 l128_8 v_85 (by first | omega | decide | assumption | rfl) (by first | omega | decide | assumption | rfl) (by first | omega | decide | assumption | rfl) (by omega) ls _ _ (lv_sub hl [0, 1, 2, 3, 4, 5, 6, 7, 8] rfl) (hP.sub [0, 1, 2, 7, 6, 3, 4, 5] rfl) (hD.sub [0, 1, 2, 7, 6, 3, 4, 5] (by decide +kernel) rfl) hS
                                    · refine lv_bipush (v := 100) hx hb dX11_slip_178 (by decide +kernel) ?_
                                      refine lv_iload hx hb dX11_slip_180 (lv_at hl 1 rfl) ?_
                                      refine lv_iconst (v := 1) hx hb dX11_slip_182 (by decide +kernel) ?_
                                      refine lv_iadd hx hb dX11_slip_183 ?_
                                      refine lv_topi (fun v_86 ev_86 => ?_)
                                      have tv_86 : v_86.toInt = l128_7.toInt + 1 := by rw [ev_86]; exact k_addv rfl zl_1 (by omega) (by omega)
                                      refine lv_imul hx hb dX11_slip_184 ?_
                                      refine lv_topi (fun v_87 ev_87 => ?_)
                                      have tv_87 : v_87.toInt = 100 * v_86.toInt := by rw [ev_87]; exact k_mulv zl_100 rfl (by omega) (by omega)
                                      refine lv_iload hx hb dX11_slip_185 (lv_at hl 0 rfl) ?_
                                      refine lv_iadd hx hb dX11_slip_187 ?_
                                      refine lv_topi (fun v_88 ev_88 => ?_)
                                      have tv_88 : v_88.toInt = v_87.toInt + l128_8.toInt := by rw [ev_88]; exact k_addv rfl rfl (by omega) (by omega)
                                      exact hRet (c4, sca_51, scb_52) [6, 3, 0, 1, 2, 7, 4, 5] trivial hP hD (by decide +kernel) rfl hS rfl dX11_slip_188
                              · refine lv_goto (tgt := 196) hx hb dX11_slip_146 (by decide +kernel) ?_
                                obtain ⟨v_89, ev_89⟩ : ∃ y : Int32, y = l128_8 + 1 := ⟨_, rfl⟩
                                have tv_89 : v_89.toInt = l128_8.toInt + 1 := by rw [ev_89]; exact k_addv rfl zl_1 (by omega) (by omega)
                                refine lv_iinc (v := v_89) (lv' := [(8, .int v_89), (7, .int l128_7), (6, .int l128_6), (5, .int r_49), (0, .ref k), (1, .int a0), (2, .int a1), (3, .int a2), (4, .int a3)]) hx hb dX11_slip_196 hl (k := 0) rfl (by rw [ev_89]; rfl) (by decide +kernel) rfl ?_
                                clear hl
                                intro ls hl
                                refine lv_goto (tgt := 128) hx hb dX11_slip_199 (by decide +kernel) ?_
                                exact ih128 l128_6 l128_7 v_89 (by first | omega | decide | assumption | rfl) (by first | omega | decide | assumption | rfl) (by first | omega | decide | assumption | rfl) (by omega) ls _ _ (lv_sub hl [0, 1, 2, 3, 4, 5, 6, 7, 8] rfl) (hP.sub [0, 1, 2, 7, 6, 3, 4, 5] rfl) (hD.sub [0, 1, 2, 7, 6, 3, 4, 5] (by decide +kernel) rfl) hS
                      exact hloop_128 _ 0 (-1) 0 (by first | omega | (simp only [zl_m1, zl_0]; first | done | omega) | decide | assumption | rfl) (by first | omega | (simp only [zl_m1, zl_0]; first | done | omega) | decide | assumption | rfl) (by first | omega | (simp only [zl_m1, zl_0]; first | done | omega) | decide | assumption | rfl) (Nat.lt_succ_self _) ls _ _ (lv_sub hl [0, 1, 2, 3, 4, 5, 6, 7, 8] rfl) hP hD hS
                    · refine lv_aload_n hx hb dX11_slip_112 rfl (lv_at hl 1 rfl) ?_
                      refine lv_ldc (v := (-1000003)) hx hb hown (hT _ mw_1356) dX11_slip_113 ?_
                      refine kJi (wr := [(k5, .inl (cI, 4, .inl c5)), (k6, .inl (cI, 4, .inl c6)), (k7, .inl (cI, 144, .inl c7)), (k0, .inl (cI, 1201, .inl c0)), (ka, .inl (cI, 60, .inl sca_51)), (kb, .inl (cI, 60, .inl scb_52))]) (va_runV (As := [.int (-1000003)]) (rest := []) ⟨hx, hb, hml, hown, hT⟩ (c_X11_findingG l D cI aK aV k k0 k1 k2 k4 k5 k6 k7 k8 ka kb kl ko H.size c3 c9 cc cd ce cf cg ch ci cj ck cm cn c4 (-1000003) (by first | omega | (simp only [zl_m1000003]; first | done | omega) | decide | assumption | rfl) (by first | omega | (simp only [zl_m1000003]; first | done | omega) | decide | assumption | rfl)) (cwV 1 hT (gV_in mw_1243 mw_1240 mw_1242 mw_p3_8 mw_12) rfl rfl rfl (by decide +kernel) ⟨Nat.le_of_ble_eq_true rfl, Nat.le_of_ble_eq_true rfl⟩) (kRecvX (q0 := 4) (ci := 11) hK hP hD hN hXS hS hA rfl rfl [4, 0] rfl (by decide +kernel)) rfl rfl hl.1 rfl (lv_room (Nat.le_of_ble_eq_true rfl)) dX11_slip_115 ⟨Nat.le_of_ble_eq_true rfl, Nat.le_of_ble_eq_true rfl⟩) hP hD hS hA [4, 0] [1, 2, 3, 5, 6, 7] rfl rfl (by decide +kernel) (by decide +kernel) ?_
                      clear hP hD hS
                      intro r_90 sc4_92 H locs w_91 hP hD hS
                      replace hP : va_P D vwCl [(k5, .inl (cI, 4, .inl c5)), (k6, .inl (cI, 4, .inl c6)), (k7, .inl (cI, 144, .inl c7)), (k0, .inl (cI, 1201, .inl c0)), (ka, .inl (cI, 60, .inl sca_51)), (kb, .inl (cI, 60, .inl scb_52)), (k, .inr (11, [.ref k0, .ref k1, .ref k2, .int c3, .ref k4, .ref k5, .ref k6, .ref k7, .ref k8, .int c9, .ref ka, .ref kb, .int cc, .int cd, .int ce, .int cf, .int cg, .int ch, .int ci, .int cj, .int ck, .ref kl, .int cm, .int cn, .ref ko])), (k4, .inl (cI, 6, .inl sc4_92))] H := hP
                      replace hD : va_D A [(k5, .inl (cI, 4, .inl c5)), (k6, .inl (cI, 4, .inl c6)), (k7, .inl (cI, 144, .inl c7)), (k0, .inl (cI, 1201, .inl c0)), (ka, .inl (cI, 60, .inl sca_51)), (kb, .inl (cI, 60, .inl scb_52)), (k, .inr (11, [.ref k0, .ref k1, .ref k2, .int c3, .ref k4, .ref k5, .ref k6, .ref k7, .ref k8, .int c9, .ref ka, .ref kb, .int cc, .int cd, .int ce, .int cf, .int cg, .int ch, .int ci, .int cj, .int ck, .ref kl, .int cm, .int cn, .ref ko])), (k4, .inl (cI, 6, .inl sc4_92))] := hD
                      have hr_90 := w_91
                      obtain rfl : r_90 = (-1000003) := hr_90.trans (by decide +kernel)
                      exact hRet (sc4_92, sca_51, scb_52) [6, 3, 7, 0, 1, 2, 4, 5] trivial hP hD (by decide +kernel) rfl hS rfl dX11_slip_118
                  · refine lv_aload_n hx hb dX11_slip_94 rfl (lv_at hl 1 rfl) ?_
                    refine lv_ldc (v := (-1000002)) hx hb hown (hT _ mw_1392) dX11_slip_95 ?_
                    refine kJi (wr := [(k5, .inl (cI, 4, .inl c5)), (k6, .inl (cI, 4, .inl c6)), (k7, .inl (cI, 144, .inl c7)), (k0, .inl (cI, 1201, .inl c0)), (ka, .inl (cI, 60, .inl sca_51)), (kb, .inl (cI, 60, .inl scb_52))]) (va_runV (As := [.int (-1000002)]) (rest := []) ⟨hx, hb, hml, hown, hT⟩ (c_X11_findingG l D cI aK aV k k0 k1 k2 k4 k5 k6 k7 k8 ka kb kl ko H.size c3 c9 cc cd ce cf cg ch ci cj ck cm cn c4 (-1000002) (by first | omega | (simp only [zl_m1000002]; first | done | omega) | decide | assumption | rfl) (by first | omega | (simp only [zl_m1000002]; first | done | omega) | decide | assumption | rfl)) (cwV 1 hT (gV_in mw_1243 mw_1240 mw_1242 mw_p3_8 mw_12) rfl rfl rfl (by decide +kernel) ⟨Nat.le_of_ble_eq_true rfl, Nat.le_of_ble_eq_true rfl⟩) (kRecvX (q0 := 4) (ci := 11) hK hP hD hN hXS hS hA rfl rfl [4, 0] rfl (by decide +kernel)) rfl rfl hl.1 rfl (lv_room (Nat.le_of_ble_eq_true rfl)) dX11_slip_97 ⟨Nat.le_of_ble_eq_true rfl, Nat.le_of_ble_eq_true rfl⟩) hP hD hS hA [4, 0] [1, 2, 3, 5, 6, 7] rfl rfl (by decide +kernel) (by decide +kernel) ?_
                    clear hP hD hS
                    intro r_93 sc4_95 H locs w_94 hP hD hS
                    replace hP : va_P D vwCl [(k5, .inl (cI, 4, .inl c5)), (k6, .inl (cI, 4, .inl c6)), (k7, .inl (cI, 144, .inl c7)), (k0, .inl (cI, 1201, .inl c0)), (ka, .inl (cI, 60, .inl sca_51)), (kb, .inl (cI, 60, .inl scb_52)), (k, .inr (11, [.ref k0, .ref k1, .ref k2, .int c3, .ref k4, .ref k5, .ref k6, .ref k7, .ref k8, .int c9, .ref ka, .ref kb, .int cc, .int cd, .int ce, .int cf, .int cg, .int ch, .int ci, .int cj, .int ck, .ref kl, .int cm, .int cn, .ref ko])), (k4, .inl (cI, 6, .inl sc4_95))] H := hP
                    replace hD : va_D A [(k5, .inl (cI, 4, .inl c5)), (k6, .inl (cI, 4, .inl c6)), (k7, .inl (cI, 144, .inl c7)), (k0, .inl (cI, 1201, .inl c0)), (ka, .inl (cI, 60, .inl sca_51)), (kb, .inl (cI, 60, .inl scb_52)), (k, .inr (11, [.ref k0, .ref k1, .ref k2, .int c3, .ref k4, .ref k5, .ref k6, .ref k7, .ref k8, .int c9, .ref ka, .ref kb, .int cc, .int cd, .int ce, .int cf, .int cg, .int ch, .int ci, .int cj, .int ck, .ref kl, .int cm, .int cn, .ref ko])), (k4, .inl (cI, 6, .inl sc4_95))] := hD
                    have hr_93 := w_94
                    obtain rfl : r_93 = (-1000002) := hr_93.trans (by decide +kernel)
                    exact hRet (sc4_95, sca_51, scb_52) [6, 3, 7, 0, 1, 2, 4, 5] trivial hP hD (by decide +kernel) rfl hS rfl dX11_slip_100
                · refine lv_iconst (v := 0) hx hb dX11_slip_77 (by decide +kernel) ?_
                  refine lv_goto (tgt := 87) hx hb dX11_slip_78 (by decide +kernel) ?_
                  refine lv_istore (lv' := [(5, .int 0), (0, .ref k), (1, .int a0), (2, .int a1), (3, .int a2), (4, .int a3)]) hx hb dX11_slip_87 hl (by decide +kernel) rfl ?_
                  clear hl
                  intro ls hl
                  refine lv_iload hx hb dX11_slip_89 (lv_at hl 0 rfl) ?_
                  refine b_if_ne hx hb zl_0 (tgt := 101) dX11_slip_91 (by decide +kernel) (fun c_96 => by exfalso; omega) (fun c_96 => ?_)
                  refine lv_aload_n hx hb dX11_slip_94 rfl (lv_at hl 1 rfl) ?_
                  refine lv_ldc (v := (-1000002)) hx hb hown (hT _ mw_1392) dX11_slip_95 ?_
                  refine kJi (wr := [(k5, .inl (cI, 4, .inl c5)), (k6, .inl (cI, 4, .inl c6)), (k7, .inl (cI, 144, .inl c7)), (ka, .inl (cI, 60, .inl ca)), (kb, .inl (cI, 60, .inl cb)), (k0, .inl (cI, 1201, .inl c0))]) (va_runV (As := [.int (-1000002)]) (rest := []) ⟨hx, hb, hml, hown, hT⟩ (c_X11_findingG l D cI aK aV k k0 k1 k2 k4 k5 k6 k7 k8 ka kb kl ko H.size c3 c9 cc cd ce cf cg ch ci cj ck cm cn c4 (-1000002) (by first | omega | (simp only [zl_m1000002]; first | done | omega) | decide | assumption | rfl) (by first | omega | (simp only [zl_m1000002]; first | done | omega) | decide | assumption | rfl)) (cwV 1 hT (gV_in mw_1243 mw_1240 mw_1242 mw_p3_8 mw_12) rfl rfl rfl (by decide +kernel) ⟨Nat.le_of_ble_eq_true rfl, Nat.le_of_ble_eq_true rfl⟩) (kRecvX (q0 := 6) (ci := 11) hK hP hD hN hXS hS hA rfl rfl [6, 0] rfl (by decide +kernel)) rfl rfl hl.1 rfl (lv_room (Nat.le_of_ble_eq_true rfl)) dX11_slip_97 ⟨Nat.le_of_ble_eq_true rfl, Nat.le_of_ble_eq_true rfl⟩) hP hD hS hA [6, 0] [1, 2, 3, 4, 5, 7] rfl rfl (by decide +kernel) (by decide +kernel) ?_
                  clear hP hD hS
                  intro r_97 sc4_99 H locs w_98 hP hD hS
                  replace hP : va_P D vwCl [(k5, .inl (cI, 4, .inl c5)), (k6, .inl (cI, 4, .inl c6)), (k7, .inl (cI, 144, .inl c7)), (ka, .inl (cI, 60, .inl ca)), (kb, .inl (cI, 60, .inl cb)), (k0, .inl (cI, 1201, .inl c0)), (k, .inr (11, [.ref k0, .ref k1, .ref k2, .int c3, .ref k4, .ref k5, .ref k6, .ref k7, .ref k8, .int c9, .ref ka, .ref kb, .int cc, .int cd, .int ce, .int cf, .int cg, .int ch, .int ci, .int cj, .int ck, .ref kl, .int cm, .int cn, .ref ko])), (k4, .inl (cI, 6, .inl sc4_99))] H := hP
                  replace hD : va_D A [(k5, .inl (cI, 4, .inl c5)), (k6, .inl (cI, 4, .inl c6)), (k7, .inl (cI, 144, .inl c7)), (ka, .inl (cI, 60, .inl ca)), (kb, .inl (cI, 60, .inl cb)), (k0, .inl (cI, 1201, .inl c0)), (k, .inr (11, [.ref k0, .ref k1, .ref k2, .int c3, .ref k4, .ref k5, .ref k6, .ref k7, .ref k8, .int c9, .ref ka, .ref kb, .int cc, .int cd, .int ce, .int cf, .int cg, .int ch, .int ci, .int cj, .int ck, .ref kl, .int cm, .int cn, .ref ko])), (k4, .inl (cI, 6, .inl sc4_99))] := hD
                  have hr_97 := w_98
                  obtain rfl : r_97 = (-1000002) := hr_97.trans (by decide +kernel)
                  exact hRet (sc4_99, ca, cb) [6, 5, 7, 0, 1, 2, 3, 4] trivial hP hD (by decide +kernel) rfl hS rfl dX11_slip_100
              · refine lv_aload_n hx hb dX11_slip_61 rfl (lv_at hl 0 rfl) ?_
                refine lv_ldc (v := (-1000005)) hx hb hown (hT _ mw_1283) dX11_slip_62 ?_
                refine kJi (wr := [(k5, .inl (cI, 4, .inl c5)), (k6, .inl (cI, 4, .inl c6)), (k7, .inl (cI, 144, .inl c7)), (ka, .inl (cI, 60, .inl ca)), (kb, .inl (cI, 60, .inl cb)), (k0, .inl (cI, 1201, .inl c0))]) (va_runV (As := [.int (-1000005)]) (rest := []) ⟨hx, hb, hml, hown, hT⟩ (c_X11_findingG l D cI aK aV k k0 k1 k2 k4 k5 k6 k7 k8 ka kb kl ko H.size c3 c9 cc cd ce cf cg ch ci cj ck cm cn c4 (-1000005) (by first | omega | (simp only [zl_m1000005]; first | done | omega) | decide | assumption | rfl) (by first | omega | (simp only [zl_m1000005]; first | done | omega) | decide | assumption | rfl)) (cwV 1 hT (gV_in mw_1243 mw_1240 mw_1242 mw_p3_8 mw_12) rfl rfl rfl (by decide +kernel) ⟨Nat.le_of_ble_eq_true rfl, Nat.le_of_ble_eq_true rfl⟩) (kRecvX (q0 := 6) (ci := 11) hK hP hD hN hXS hS hA rfl rfl [6, 0] rfl (by decide +kernel)) rfl rfl hl.1 rfl (lv_room (Nat.le_of_ble_eq_true rfl)) dX11_slip_64 ⟨Nat.le_of_ble_eq_true rfl, Nat.le_of_ble_eq_true rfl⟩) hP hD hS hA [6, 0] [1, 2, 3, 4, 5, 7] rfl rfl (by decide +kernel) (by decide +kernel) ?_
                clear hP hD hS
                intro r_100 sc4_102 H locs w_101 hP hD hS
                replace hP : va_P D vwCl [(k5, .inl (cI, 4, .inl c5)), (k6, .inl (cI, 4, .inl c6)), (k7, .inl (cI, 144, .inl c7)), (ka, .inl (cI, 60, .inl ca)), (kb, .inl (cI, 60, .inl cb)), (k0, .inl (cI, 1201, .inl c0)), (k, .inr (11, [.ref k0, .ref k1, .ref k2, .int c3, .ref k4, .ref k5, .ref k6, .ref k7, .ref k8, .int c9, .ref ka, .ref kb, .int cc, .int cd, .int ce, .int cf, .int cg, .int ch, .int ci, .int cj, .int ck, .ref kl, .int cm, .int cn, .ref ko])), (k4, .inl (cI, 6, .inl sc4_102))] H := hP
                replace hD : va_D A [(k5, .inl (cI, 4, .inl c5)), (k6, .inl (cI, 4, .inl c6)), (k7, .inl (cI, 144, .inl c7)), (ka, .inl (cI, 60, .inl ca)), (kb, .inl (cI, 60, .inl cb)), (k0, .inl (cI, 1201, .inl c0)), (k, .inr (11, [.ref k0, .ref k1, .ref k2, .int c3, .ref k4, .ref k5, .ref k6, .ref k7, .ref k8, .int c9, .ref ka, .ref kb, .int cc, .int cd, .int ce, .int cf, .int cg, .int ch, .int ci, .int cj, .int ck, .ref kl, .int cm, .int cn, .ref ko])), (k4, .inl (cI, 6, .inl sc4_102))] := hD
                have hr_100 := w_101
                obtain rfl : r_100 = (-1000005) := hr_100.trans (by decide +kernel)
                exact hRet (sc4_102, ca, cb) [6, 5, 7, 0, 1, 2, 3, 4] trivial hP hD (by decide +kernel) rfl hS rfl dX11_slip_67
          · refine lv_aload_n hx hb dX11_slip_34 rfl (lv_at hl 0 rfl) ?_
            refine lv_ldc (v := (-1000001)) hx hb hown (hT _ mw_1239) dX11_slip_35 ?_
            refine kJi (wr := [(k5, .inl (cI, 4, .inl c5)), (k6, .inl (cI, 4, .inl c6)), (k7, .inl (cI, 144, .inl c7)), (ka, .inl (cI, 60, .inl ca)), (kb, .inl (cI, 60, .inl cb)), (k0, .inl (cI, 1201, .inl c0))]) (va_runV (As := [.int (-1000001)]) (rest := []) ⟨hx, hb, hml, hown, hT⟩ (c_X11_findingG l D cI aK aV k k0 k1 k2 k4 k5 k6 k7 k8 ka kb kl ko H.size c3 c9 cc cd ce cf cg ch ci cj ck cm cn c4 (-1000001) (by first | omega | (simp only [zl_m1000001]; first | done | omega) | decide | assumption | rfl) (by first | omega | (simp only [zl_m1000001]; first | done | omega) | decide | assumption | rfl)) (cwV 1 hT (gV_in mw_1243 mw_1240 mw_1242 mw_p3_8 mw_12) rfl rfl rfl (by decide +kernel) ⟨Nat.le_of_ble_eq_true rfl, Nat.le_of_ble_eq_true rfl⟩) (kRecvX (q0 := 6) (ci := 11) hK hP hD hN hXS hS hA rfl rfl [6, 0] rfl (by decide +kernel)) rfl rfl hl.1 rfl (lv_room (Nat.le_of_ble_eq_true rfl)) dX11_slip_37 ⟨Nat.le_of_ble_eq_true rfl, Nat.le_of_ble_eq_true rfl⟩) hP hD hS hA [6, 0] [1, 2, 3, 4, 5, 7] rfl rfl (by decide +kernel) (by decide +kernel) ?_
            clear hP hD hS
            intro r_103 sc4_105 H locs w_104 hP hD hS
            replace hP : va_P D vwCl [(k5, .inl (cI, 4, .inl c5)), (k6, .inl (cI, 4, .inl c6)), (k7, .inl (cI, 144, .inl c7)), (ka, .inl (cI, 60, .inl ca)), (kb, .inl (cI, 60, .inl cb)), (k0, .inl (cI, 1201, .inl c0)), (k, .inr (11, [.ref k0, .ref k1, .ref k2, .int c3, .ref k4, .ref k5, .ref k6, .ref k7, .ref k8, .int c9, .ref ka, .ref kb, .int cc, .int cd, .int ce, .int cf, .int cg, .int ch, .int ci, .int cj, .int ck, .ref kl, .int cm, .int cn, .ref ko])), (k4, .inl (cI, 6, .inl sc4_105))] H := hP
            replace hD : va_D A [(k5, .inl (cI, 4, .inl c5)), (k6, .inl (cI, 4, .inl c6)), (k7, .inl (cI, 144, .inl c7)), (ka, .inl (cI, 60, .inl ca)), (kb, .inl (cI, 60, .inl cb)), (k0, .inl (cI, 1201, .inl c0)), (k, .inr (11, [.ref k0, .ref k1, .ref k2, .int c3, .ref k4, .ref k5, .ref k6, .ref k7, .ref k8, .int c9, .ref ka, .ref kb, .int cc, .int cd, .int ce, .int cf, .int cg, .int ch, .int ci, .int cj, .int ck, .ref kl, .int cm, .int cn, .ref ko])), (k4, .inl (cI, 6, .inl sc4_105))] := hD
            have hr_103 := w_104
            obtain rfl : r_103 = (-1000001) := hr_103.trans (by decide +kernel)
            exact hRet (sc4_105, ca, cb) [6, 5, 7, 0, 1, 2, 3, 4] trivial hP hD (by decide +kernel) rfl hS rfl dX11_slip_40
      · have h_23 : a2.toInt < 0 ∨ (c0 1).toInt ≤ a2.toInt := h_23
        obtain rfl : r_18 = 0 := hr_18.trans (by decide +kernel)
        refine b_if_eq hx hb zl_0 (tgt := 34) dX11_slip_20 (by decide +kernel) (fun c_106 => ?_) (fun c_106 => by exfalso; omega)
        refine lv_aload_n hx hb dX11_slip_34 rfl (lv_at hl 0 rfl) ?_
        refine lv_ldc (v := (-1000001)) hx hb hown (hT _ mw_1239) dX11_slip_35 ?_
        refine kJi (wr := [(k5, .inl (cI, 4, .inl c5)), (k6, .inl (cI, 4, .inl c6)), (k7, .inl (cI, 144, .inl c7)), (ka, .inl (cI, 60, .inl ca)), (kb, .inl (cI, 60, .inl cb)), (k0, .inl (cI, 1201, .inl c0))]) (va_runV (As := [.int (-1000001)]) (rest := []) ⟨hx, hb, hml, hown, hT⟩ (c_X11_findingG l D cI aK aV k k0 k1 k2 k4 k5 k6 k7 k8 ka kb kl ko H.size c3 c9 cc cd ce cf cg ch ci cj ck cm cn c4 (-1000001) (by first | omega | (simp only [zl_m1000001]; first | done | omega) | decide | assumption | rfl) (by first | omega | (simp only [zl_m1000001]; first | done | omega) | decide | assumption | rfl)) (cwV 1 hT (gV_in mw_1243 mw_1240 mw_1242 mw_p3_8 mw_12) rfl rfl rfl (by decide +kernel) ⟨Nat.le_of_ble_eq_true rfl, Nat.le_of_ble_eq_true rfl⟩) (kRecvX (q0 := 6) (ci := 11) hK hP hD hN hXS hS hA rfl rfl [6, 0] rfl (by decide +kernel)) rfl rfl hl.1 rfl (lv_room (Nat.le_of_ble_eq_true rfl)) dX11_slip_37 ⟨Nat.le_of_ble_eq_true rfl, Nat.le_of_ble_eq_true rfl⟩) hP hD hS hA [6, 0] [1, 2, 3, 4, 5, 7] rfl rfl (by decide +kernel) (by decide +kernel) ?_
        clear hP hD hS
        intro r_107 sc4_109 H locs w_108 hP hD hS
        replace hP : va_P D vwCl [(k5, .inl (cI, 4, .inl c5)), (k6, .inl (cI, 4, .inl c6)), (k7, .inl (cI, 144, .inl c7)), (ka, .inl (cI, 60, .inl ca)), (kb, .inl (cI, 60, .inl cb)), (k0, .inl (cI, 1201, .inl c0)), (k, .inr (11, [.ref k0, .ref k1, .ref k2, .int c3, .ref k4, .ref k5, .ref k6, .ref k7, .ref k8, .int c9, .ref ka, .ref kb, .int cc, .int cd, .int ce, .int cf, .int cg, .int ch, .int ci, .int cj, .int ck, .ref kl, .int cm, .int cn, .ref ko])), (k4, .inl (cI, 6, .inl sc4_109))] H := hP
        replace hD : va_D A [(k5, .inl (cI, 4, .inl c5)), (k6, .inl (cI, 4, .inl c6)), (k7, .inl (cI, 144, .inl c7)), (ka, .inl (cI, 60, .inl ca)), (kb, .inl (cI, 60, .inl cb)), (k0, .inl (cI, 1201, .inl c0)), (k, .inr (11, [.ref k0, .ref k1, .ref k2, .int c3, .ref k4, .ref k5, .ref k6, .ref k7, .ref k8, .int c9, .ref ka, .ref kb, .int cc, .int cd, .int ce, .int cf, .int cg, .int ch, .int ci, .int cj, .int ck, .ref kl, .int cm, .int cn, .ref ko])), (k4, .inl (cI, 6, .inl sc4_109))] := hD
        have hr_107 := w_108
        obtain rfl : r_107 = (-1000001) := hr_107.trans (by decide +kernel)
        exact hRet (sc4_109, ca, cb) [6, 5, 7, 0, 1, 2, 3, 4] trivial hP hD (by decide +kernel) rfl hS rfl dX11_slip_40
    · have h_16 : a1.toInt < 0 ∨ (c0 1).toInt ≤ a1.toInt := h_16
      obtain rfl : r_11 = 0 := hr_11.trans (by decide +kernel)
      refine b_if_eq hx hb zl_0 (tgt := 34) dX11_slip_12 (by decide +kernel) (fun c_110 => ?_) (fun c_110 => by exfalso; omega)
      refine lv_aload_n hx hb dX11_slip_34 rfl (lv_at hl 0 rfl) ?_
      refine lv_ldc (v := (-1000001)) hx hb hown (hT _ mw_1239) dX11_slip_35 ?_
      refine kJi (wr := [(k5, .inl (cI, 4, .inl c5)), (k6, .inl (cI, 4, .inl c6)), (k7, .inl (cI, 144, .inl c7)), (ka, .inl (cI, 60, .inl ca)), (kb, .inl (cI, 60, .inl cb)), (k0, .inl (cI, 1201, .inl c0))]) (va_runV (As := [.int (-1000001)]) (rest := []) ⟨hx, hb, hml, hown, hT⟩ (c_X11_findingG l D cI aK aV k k0 k1 k2 k4 k5 k6 k7 k8 ka kb kl ko H.size c3 c9 cc cd ce cf cg ch ci cj ck cm cn c4 (-1000001) (by first | omega | (simp only [zl_m1000001]; first | done | omega) | decide | assumption | rfl) (by first | omega | (simp only [zl_m1000001]; first | done | omega) | decide | assumption | rfl)) (cwV 1 hT (gV_in mw_1243 mw_1240 mw_1242 mw_p3_8 mw_12) rfl rfl rfl (by decide +kernel) ⟨Nat.le_of_ble_eq_true rfl, Nat.le_of_ble_eq_true rfl⟩) (kRecvX (q0 := 6) (ci := 11) hK hP hD hN hXS hS hA rfl rfl [6, 0] rfl (by decide +kernel)) rfl rfl hl.1 rfl (lv_room (Nat.le_of_ble_eq_true rfl)) dX11_slip_37 ⟨Nat.le_of_ble_eq_true rfl, Nat.le_of_ble_eq_true rfl⟩) hP hD hS hA [6, 0] [1, 2, 3, 4, 5, 7] rfl rfl (by decide +kernel) (by decide +kernel) ?_
      clear hP hD hS
      intro r_111 sc4_113 H locs w_112 hP hD hS
      replace hP : va_P D vwCl [(k5, .inl (cI, 4, .inl c5)), (k6, .inl (cI, 4, .inl c6)), (k7, .inl (cI, 144, .inl c7)), (ka, .inl (cI, 60, .inl ca)), (kb, .inl (cI, 60, .inl cb)), (k0, .inl (cI, 1201, .inl c0)), (k, .inr (11, [.ref k0, .ref k1, .ref k2, .int c3, .ref k4, .ref k5, .ref k6, .ref k7, .ref k8, .int c9, .ref ka, .ref kb, .int cc, .int cd, .int ce, .int cf, .int cg, .int ch, .int ci, .int cj, .int ck, .ref kl, .int cm, .int cn, .ref ko])), (k4, .inl (cI, 6, .inl sc4_113))] H := hP
      replace hD : va_D A [(k5, .inl (cI, 4, .inl c5)), (k6, .inl (cI, 4, .inl c6)), (k7, .inl (cI, 144, .inl c7)), (ka, .inl (cI, 60, .inl ca)), (kb, .inl (cI, 60, .inl cb)), (k0, .inl (cI, 1201, .inl c0)), (k, .inr (11, [.ref k0, .ref k1, .ref k2, .int c3, .ref k4, .ref k5, .ref k6, .ref k7, .ref k8, .int c9, .ref ka, .ref kb, .int cc, .int cd, .int ce, .int cf, .int cg, .int ch, .int ci, .int cj, .int ck, .ref kl, .int cm, .int cn, .ref ko])), (k4, .inl (cI, 6, .inl sc4_113))] := hD
      have hr_111 := w_112
      obtain rfl : r_111 = (-1000001) := hr_111.trans (by decide +kernel)
      exact hRet (sc4_113, ca, cb) [6, 5, 7, 0, 1, 2, 3, 4] trivial hP hD (by decide +kernel) rfl hS rfl dX11_slip_40
  · have h_9 : a0.toInt < 0 ∨ 3 < a0.toInt := h_9
    obtain rfl : r_4 = 0 := hr_4.trans (by decide +kernel)
    refine b_if_eq hx hb zl_0 (tgt := 34) dX11_slip_4 (by decide +kernel) (fun c_114 => ?_) (fun c_114 => by exfalso; omega)
    refine lv_aload_n hx hb dX11_slip_34 rfl (lv_at hl 0 rfl) ?_
    refine lv_ldc (v := (-1000001)) hx hb hown (hT _ mw_1239) dX11_slip_35 ?_
    refine kJi (wr := [(k0, .inl (cI, 1201, .inl c0)), (k5, .inl (cI, 4, .inl c5)), (k6, .inl (cI, 4, .inl c6)), (k7, .inl (cI, 144, .inl c7)), (ka, .inl (cI, 60, .inl ca)), (kb, .inl (cI, 60, .inl cb))]) (va_runV (As := [.int (-1000001)]) (rest := []) ⟨hx, hb, hml, hown, hT⟩ (c_X11_findingG l D cI aK aV k k0 k1 k2 k4 k5 k6 k7 k8 ka kb kl ko H.size c3 c9 cc cd ce cf cg ch ci cj ck cm cn c4 (-1000001) (by first | omega | (simp only [zl_m1000001]; first | done | omega) | decide | assumption | rfl) (by first | omega | (simp only [zl_m1000001]; first | done | omega) | decide | assumption | rfl)) (cwV 1 hT (gV_in mw_1243 mw_1240 mw_1242 mw_p3_8 mw_12) rfl rfl rfl (by decide +kernel) ⟨Nat.le_of_ble_eq_true rfl, Nat.le_of_ble_eq_true rfl⟩) (kRecvX (q0 := 0) (ci := 11) hK hP hD hN hXS hS hA rfl rfl [0, 2] rfl (by decide +kernel)) rfl rfl hl.1 rfl (lv_room (Nat.le_of_ble_eq_true rfl)) dX11_slip_37 ⟨Nat.le_of_ble_eq_true rfl, Nat.le_of_ble_eq_true rfl⟩) hP hD hS hA [0, 2] [1, 3, 4, 5, 6, 7] rfl rfl (by decide +kernel) (by decide +kernel) ?_
    clear hP hD hS
    intro r_115 sc4_117 H locs w_116 hP hD hS
    replace hP : va_P D vwCl [(k0, .inl (cI, 1201, .inl c0)), (k5, .inl (cI, 4, .inl c5)), (k6, .inl (cI, 4, .inl c6)), (k7, .inl (cI, 144, .inl c7)), (ka, .inl (cI, 60, .inl ca)), (kb, .inl (cI, 60, .inl cb)), (k, .inr (11, [.ref k0, .ref k1, .ref k2, .int c3, .ref k4, .ref k5, .ref k6, .ref k7, .ref k8, .int c9, .ref ka, .ref kb, .int cc, .int cd, .int ce, .int cf, .int cg, .int ch, .int ci, .int cj, .int ck, .ref kl, .int cm, .int cn, .ref ko])), (k4, .inl (cI, 6, .inl sc4_117))] H := hP
    replace hD : va_D A [(k0, .inl (cI, 1201, .inl c0)), (k5, .inl (cI, 4, .inl c5)), (k6, .inl (cI, 4, .inl c6)), (k7, .inl (cI, 144, .inl c7)), (ka, .inl (cI, 60, .inl ca)), (kb, .inl (cI, 60, .inl cb)), (k, .inr (11, [.ref k0, .ref k1, .ref k2, .int c3, .ref k4, .ref k5, .ref k6, .ref k7, .ref k8, .int c9, .ref ka, .ref kb, .int cc, .int cd, .int ce, .int cf, .int cg, .int ch, .int ci, .int cj, .int ck, .ref kl, .int cm, .int cn, .ref ko])), (k4, .inl (cI, 6, .inl sc4_117))] := hD
    have hr_115 := w_116
    obtain rfl : r_115 = (-1000001) := hr_115.trans (by decide +kernel)
    exact hRet (sc4_117, ca, cb) [6, 0, 7, 1, 2, 3, 4, 5] trivial hP hD (by decide +kernel) rfl hS rfl dX11_slip_40
theorem bn_cX11_broke_0 : BN cX11_broke 0 0xa741016654015002052141237050581037040580c01540282c0900a7410160b005343000ae40e1603058ca0a0b0142c2500a6860015c8783a650e0282c3700a900a160505814370e0246e03040dc06ad208056e40098ac16014d8c002b9140440c160385820014d11002b90305830014d0c002b9140443a1e11005344400ae43a2900a8c0a160e0bc029a2200572050b0dc029a22005721c := by
  unfold BN; decide +kernel
theorem dX11_broke_0 : decode cX11_broke 0 = .ok (.iload_n 1, 1) := dR0 (k := 0) (i := 0) bn_cX11_broke_0 dop_27 (by decide +kernel)
theorem dX11_broke_1 : decode cX11_broke 1 = .ok (.invokestatic 67, 3) := dR2 (f := Instr.invokestatic) (k := 0) (i := 1) bn_cX11_broke_0 dop_184 67 (by decide +kernel)
theorem dX11_broke_4 : decode cX11_broke 4 = .ok (.ifCond .eq 54, 3) := dR2s (f := Instr.ifCond .eq) (k := 0) (i := 4) bn_cX11_broke_0 dop_153 54 54 (by decide +kernel)
theorem dX11_broke_7 : decode cX11_broke 7 = .ok (.iload 4, 2) := dR1 (f := Instr.iload) (k := 0) (i := 7) bn_cX11_broke_0 dop_21 4 (by decide +kernel)
theorem dX11_broke_9 : decode cX11_broke 9 = .ok (.invokestatic 67, 3) := dR2 (f := Instr.invokestatic) (k := 0) (i := 9) bn_cX11_broke_0 dop_184 67 (by decide +kernel)
theorem dX11_broke_12 : decode cX11_broke 12 = .ok (.ifCond .eq 46, 3) := dR2s (f := Instr.ifCond .eq) (k := 0) (i := 12) bn_cX11_broke_0 dop_153 46 46 (by decide +kernel)
theorem dX11_broke_15 : decode cX11_broke 15 = .ok (.iload_n 1, 1) := dR0 (k := 0) (i := 15) bn_cX11_broke_0 dop_27 (by decide +kernel)
theorem dX11_broke_16 : decode cX11_broke 16 = .ok (.iload 4, 2) := dR1 (f := Instr.iload) (k := 0) (i := 16) bn_cX11_broke_0 dop_21 4 (by decide +kernel)
theorem dX11_broke_18 : decode cX11_broke 18 = .ok (.if_icmp .ge 40, 3) := dR2s (f := Instr.if_icmp .ge) (k := 0) (i := 18) bn_cX11_broke_0 dop_162 40 40 (by decide +kernel)
theorem dX11_broke_21 : decode cX11_broke 21 = .ok (.iload_n 2, 1) := dR0 (k := 0) (i := 21) bn_cX11_broke_0 dop_28 (by decide +kernel)
theorem dX11_broke_22 : decode cX11_broke 22 = .ok (.invokestatic 67, 3) := dR2 (f := Instr.invokestatic) (k := 0) (i := 22) bn_cX11_broke_0 dop_184 67 (by decide +kernel)
theorem dX11_broke_25 : decode cX11_broke 25 = .ok (.ifCond .eq 33, 3) := dR2s (f := Instr.ifCond .eq) (k := 0) (i := 25) bn_cX11_broke_0 dop_153 33 33 (by decide +kernel)
theorem dX11_broke_28 : decode cX11_broke 28 = .ok (.iload_n 3, 1) := dR0 (k := 0) (i := 28) bn_cX11_broke_0 dop_29 (by decide +kernel)
theorem dX11_broke_29 : decode cX11_broke 29 = .ok (.iload_n 2, 1) := dR0 (k := 0) (i := 29) bn_cX11_broke_0 dop_28 (by decide +kernel)
theorem dX11_broke_30 : decode cX11_broke 30 = .ok (.bipush 39, 2) := dR1s (f := Instr.bipush) (k := 0) (i := 30) bn_cX11_broke_0 dop_16 39 39 (by decide +kernel)
theorem dX11_broke_32 : decode cX11_broke 32 = .ok (.invokestatic 47, 3) := dR2 (f := Instr.invokestatic) (k := 0) (i := 32) bn_cX11_broke_0 dop_184 47 (by decide +kernel)
theorem dX11_broke_35 : decode cX11_broke 35 = .ok (.ifCond .eq 23, 3) := dR2s (f := Instr.ifCond .eq) (k := 0) (i := 35) bn_cX11_broke_0 dop_153 23 23 (by decide +kernel)
theorem dX11_broke_38 : decode cX11_broke 38 = .ok (.iload 5, 2) := dR1 (f := Instr.iload) (k := 0) (i := 38) bn_cX11_broke_0 dop_21 5 (by decide +kernel)
theorem dX11_broke_40 : decode cX11_broke 40 = .ok (.invokestatic 67, 3) := dR2 (f := Instr.invokestatic) (k := 0) (i := 40) bn_cX11_broke_0 dop_184 67 (by decide +kernel)
theorem dX11_broke_43 : decode cX11_broke 43 = .ok (.ifCond .eq 15, 3) := dR2s (f := Instr.ifCond .eq) (k := 0) (i := 43) bn_cX11_broke_0 dop_153 15 15 (by decide +kernel)
theorem dX11_broke_46 : decode cX11_broke 46 = .ok (.iload 6, 2) := dR1 (f := Instr.iload) (k := 0) (i := 46) bn_cX11_broke_0 dop_21 6 (by decide +kernel)
theorem dX11_broke_48 : decode cX11_broke 48 = .ok (.iload 5, 2) := dR1 (f := Instr.iload) (k := 0) (i := 48) bn_cX11_broke_0 dop_21 5 (by decide +kernel)
theorem dX11_broke_50 : decode cX11_broke 50 = .ok (.bipush 39, 2) := dR1s (f := Instr.bipush) (k := 0) (i := 50) bn_cX11_broke_0 dop_16 39 39 (by decide +kernel)
theorem dX11_broke_52 : decode cX11_broke 52 = .ok (.invokestatic 47, 3) := dR2 (f := Instr.invokestatic) (k := 0) (i := 52) bn_cX11_broke_0 dop_184 47 (by decide +kernel)
theorem dX11_broke_55 : decode cX11_broke 55 = .ok (.ifCond .ne 10, 3) := dR2s (f := Instr.ifCond .ne) (k := 0) (i := 55) bn_cX11_broke_0 dop_154 10 10 (by decide +kernel)
theorem dX11_broke_58 : decode cX11_broke 58 = .ok (.aload_n 0, 1) := dR0 (k := 0) (i := 58) bn_cX11_broke_0 dop_42 (by decide +kernel)
theorem dX11_broke_59 : decode cX11_broke 59 = .ok (.ldc 63, 2) := dR1 (f := Instr.ldc) (k := 0) (i := 59) bn_cX11_broke_0 dop_18 63 (by decide +kernel)
theorem dX11_broke_61 : decode cX11_broke 61 = .ok (.invokevirtual 64, 3) := dR2 (f := Instr.invokevirtual) (k := 0) (i := 61) bn_cX11_broke_0 dop_182 64 (by decide +kernel)
theorem dX11_broke_64 : decode cX11_broke 64 = .ok (.ireturn, 1) := dR0 (k := 0) (i := 64) bn_cX11_broke_0 dop_172 (by decide +kernel)
theorem dX11_broke_65 : decode cX11_broke 65 = .ok (.iconst (-1), 1) := dR0 (k := 0) (i := 65) bn_cX11_broke_0 dop_2 (by decide +kernel)
theorem dX11_broke_66 : decode cX11_broke 66 = .ok (.istore 7, 2) := dR1 (f := Instr.istore) (k := 0) (i := 66) bn_cX11_broke_0 dop_54 7 (by decide +kernel)
theorem dX11_broke_68 : decode cX11_broke 68 = .ok (.iconst (-1), 1) := dR0 (k := 0) (i := 68) bn_cX11_broke_0 dop_2 (by decide +kernel)
theorem dX11_broke_69 : decode cX11_broke 69 = .ok (.istore 8, 2) := dR1 (f := Instr.istore) (k := 0) (i := 69) bn_cX11_broke_0 dop_54 8 (by decide +kernel)
theorem dX11_broke_71 : decode cX11_broke 71 = .ok (.iload_n 1, 1) := dR0 (k := 0) (i := 71) bn_cX11_broke_0 dop_27 (by decide +kernel)
theorem dX11_broke_72 : decode cX11_broke 72 = .ok (.istore 9, 2) := dR1 (f := Instr.istore) (k := 0) (i := 72) bn_cX11_broke_0 dop_54 9 (by decide +kernel)
theorem dX11_broke_74 : decode cX11_broke 74 = .ok (.iload 9, 2) := dR1 (f := Instr.iload) (k := 0) (i := 74) bn_cX11_broke_0 dop_21 9 (by decide +kernel)
theorem dX11_broke_76 : decode cX11_broke 76 = .ok (.iload 4, 2) := dR1 (f := Instr.iload) (k := 0) (i := 76) bn_cX11_broke_0 dop_21 4 (by decide +kernel)
theorem dX11_broke_78 : decode cX11_broke 78 = .ok (.if_icmp .gt 54, 3) := dR2s (f := Instr.if_icmp .gt) (k := 0) (i := 78) bn_cX11_broke_0 dop_163 54 54 (by decide +kernel)
theorem dX11_broke_81 : decode cX11_broke 81 = .ok (.iload 9, 2) := dR1 (f := Instr.iload) (k := 0) (i := 81) bn_cX11_broke_0 dop_21 9 (by decide +kernel)
theorem dX11_broke_83 : decode cX11_broke 83 = .ok (.iload_n 1, 1) := dR0 (k := 0) (i := 83) bn_cX11_broke_0 dop_27 (by decide +kernel)
theorem dX11_broke_84 : decode cX11_broke 84 = .ok (.isub, 1) := dR0 (k := 0) (i := 84) bn_cX11_broke_0 dop_100 (by decide +kernel)
theorem dX11_broke_85 : decode cX11_broke 85 = .ok (.iload_n 2, 1) := dR0 (k := 0) (i := 85) bn_cX11_broke_0 dop_28 (by decide +kernel)
theorem dX11_broke_86 : decode cX11_broke 86 = .ok (.iload_n 3, 1) := dR0 (k := 0) (i := 86) bn_cX11_broke_0 dop_29 (by decide +kernel)
theorem dX11_broke_87 : decode cX11_broke 87 = .ok (.invokestatic 47, 3) := dR2 (f := Instr.invokestatic) (k := 0) (i := 87) bn_cX11_broke_0 dop_184 47 (by decide +kernel)
theorem dX11_broke_90 : decode cX11_broke 90 = .ok (.ifCond .eq 36, 3) := dR2s (f := Instr.ifCond .eq) (k := 0) (i := 90) bn_cX11_broke_0 dop_153 36 36 (by decide +kernel)
theorem dX11_broke_93 : decode cX11_broke 93 = .ok (.iload 4, 2) := dR1 (f := Instr.iload) (k := 0) (i := 93) bn_cX11_broke_0 dop_21 4 (by decide +kernel)
theorem dX11_broke_95 : decode cX11_broke 95 = .ok (.iload 9, 2) := dR1 (f := Instr.iload) (k := 0) (i := 95) bn_cX11_broke_0 dop_21 9 (by decide +kernel)
theorem dX11_broke_97 : decode cX11_broke 97 = .ok (.isub, 1) := dR0 (k := 0) (i := 97) bn_cX11_broke_0 dop_100 (by decide +kernel)
theorem dX11_broke_98 : decode cX11_broke 98 = .ok (.iload 5, 2) := dR1 (f := Instr.iload) (k := 0) (i := 98) bn_cX11_broke_0 dop_21 5 (by decide +kernel)
theorem dX11_broke_100 : decode cX11_broke 100 = .ok (.iload 6, 2) := dR1 (f := Instr.iload) (k := 0) (i := 100) bn_cX11_broke_0 dop_21 6 (by decide +kernel)
theorem dX11_broke_102 : decode cX11_broke 102 = .ok (.invokestatic 47, 3) := dR2 (f := Instr.invokestatic) (k := 0) (i := 102) bn_cX11_broke_0 dop_184 47 (by decide +kernel)
theorem dX11_broke_105 : decode cX11_broke 105 = .ok (.ifCond .eq 21, 3) := dR2s (f := Instr.ifCond .eq) (k := 0) (i := 105) bn_cX11_broke_0 dop_153 21 21 (by decide +kernel)
theorem dX11_broke_108 : decode cX11_broke 108 = .ok (.iload 7, 2) := dR1 (f := Instr.iload) (k := 0) (i := 108) bn_cX11_broke_0 dop_21 7 (by decide +kernel)
theorem dX11_broke_110 : decode cX11_broke 110 = .ok (.ifCond .ge 8, 3) := dR2s (f := Instr.ifCond .ge) (k := 0) (i := 110) bn_cX11_broke_0 dop_156 8 8 (by decide +kernel)
theorem dX11_broke_113 : decode cX11_broke 113 = .ok (.iload 9, 2) := dR1 (f := Instr.iload) (k := 0) (i := 113) bn_cX11_broke_0 dop_21 9 (by decide +kernel)
theorem dX11_broke_115 : decode cX11_broke 115 = .ok (.goto 5, 3) := dR2s (f := Instr.goto) (k := 0) (i := 115) bn_cX11_broke_0 dop_167 5 5 (by decide +kernel)
theorem dX11_broke_118 : decode cX11_broke 118 = .ok (.iload 7, 2) := dR1 (f := Instr.iload) (k := 0) (i := 118) bn_cX11_broke_0 dop_21 7 (by decide +kernel)
theorem dX11_broke_120 : decode cX11_broke 120 = .ok (.istore 7, 2) := dR1 (f := Instr.istore) (k := 0) (i := 120) bn_cX11_broke_0 dop_54 7 (by decide +kernel)
theorem dX11_broke_122 : decode cX11_broke 122 = .ok (.iload 9, 2) := dR1 (f := Instr.iload) (k := 0) (i := 122) bn_cX11_broke_0 dop_21 9 (by decide +kernel)
theorem dX11_broke_124 : decode cX11_broke 124 = .ok (.istore 8, 2) := dR1 (f := Instr.istore) (k := 0) (i := 124) bn_cX11_broke_0 dop_54 8 (by decide +kernel)
theorem dX11_broke_126 : decode cX11_broke 126 = .ok (.iinc 9 1, 3) := dRii (f := Instr.iinc) (k := 0) (i := 126) bn_cX11_broke_0 dop_132 9 1 1 (by decide +kernel)
theorem bn_cX11_broke_128 : BN cX11_broke 128 0x2b4c2090b1a410163284418015410402b73984c560d00a741016654015002 := by
  unfold BN; decide +kernel
theorem dX11_broke_129 : decode cX11_broke 129 = .ok (.goto (-55), 3) := dR2s (f := Instr.goto) (k := 128) (i := 1) bn_cX11_broke_128 dop_167 65481 (-55) (by decide +kernel)
theorem dX11_broke_132 : decode cX11_broke 132 = .ok (.iload 7, 2) := dR1 (f := Instr.iload) (k := 128) (i := 4) bn_cX11_broke_128 dop_21 7 (by decide +kernel)
theorem dX11_broke_134 : decode cX11_broke 134 = .ok (.ifCond .ge 12, 3) := dR2s (f := Instr.ifCond .ge) (k := 128) (i := 6) bn_cX11_broke_128 dop_156 12 12 (by decide +kernel)
theorem dX11_broke_137 : decode cX11_broke 137 = .ok (.aload_n 0, 1) := dR0 (k := 128) (i := 9) bn_cX11_broke_128 dop_42 (by decide +kernel)
theorem dX11_broke_138 : decode cX11_broke 138 = .ok (.ldc 114, 2) := dR1 (f := Instr.ldc) (k := 128) (i := 10) bn_cX11_broke_128 dop_18 114 (by decide +kernel)
theorem dX11_broke_140 : decode cX11_broke 140 = .ok (.invokevirtual 64, 3) := dR2 (f := Instr.invokevirtual) (k := 128) (i := 12) bn_cX11_broke_128 dop_182 64 (by decide +kernel)
theorem dX11_broke_143 : decode cX11_broke 143 = .ok (.goto 11, 3) := dR2s (f := Instr.goto) (k := 128) (i := 15) bn_cX11_broke_128 dop_167 11 11 (by decide +kernel)
theorem dX11_broke_146 : decode cX11_broke 146 = .ok (.bipush 100, 2) := dR1s (f := Instr.bipush) (k := 128) (i := 18) bn_cX11_broke_128 dop_16 100 100 (by decide +kernel)
theorem dX11_broke_148 : decode cX11_broke 148 = .ok (.iload 7, 2) := dR1 (f := Instr.iload) (k := 128) (i := 20) bn_cX11_broke_128 dop_21 7 (by decide +kernel)
theorem dX11_broke_150 : decode cX11_broke 150 = .ok (.imul, 1) := dR0 (k := 128) (i := 22) bn_cX11_broke_128 dop_104 (by decide +kernel)
theorem dX11_broke_151 : decode cX11_broke 151 = .ok (.iload 8, 2) := dR1 (f := Instr.iload) (k := 128) (i := 23) bn_cX11_broke_128 dop_21 8 (by decide +kernel)
theorem dX11_broke_153 : decode cX11_broke 153 = .ok (.iadd, 1) := dR0 (k := 128) (i := 25) bn_cX11_broke_128 dop_96 (by decide +kernel)
theorem dX11_broke_154 : decode cX11_broke 154 = .ok (.ireturn, 1) := dR0 (k := 128) (i := 26) bn_cX11_broke_128 dop_172 (by decide +kernel)
set_option maxHeartbeats 4000000 in
set_option maxRecDepth 100000 in
theorem c_X11_brokeG (l : Launch) (D : va_G) (cI : ClassId) (aK aV : Nat → Nat) (k k0 k1 k2 k4 k5 k6 k7 k8 ka kb kl ko : Nat) (sz : Nat) (c3 : Int32) (c9 : Int32) (cc : Int32) (cd : Int32) (ce : Int32) (cf : Int32) (cg : Int32) (ch : Int32) (ci : Int32) (cj : Int32) (ck : Int32) (cm : Int32) (cn : Int32) (c4 : Nat → Int32) (a0 : Int32) (a1 : Int32) (a2 : Int32) (a3 : Int32) (a4 : Int32) (a5 : Int32) : Met l yX11_broke (gW yX11_broke cX11_broke 10 (some .int)) ({ frames := 2, cells := 0, slots := 0, locals := 42 } : Room) (kPreX D cI aK aV [.ref k, .int a0, .int a1, .int a2, .int a3, .int a4, .int a5] [(k, .inr (11, [.ref k0, .ref k1, .ref k2, .int c3, .ref k4, .ref k5, .ref k6, .ref k7, .ref k8, .int c9, .ref ka, .ref kb, .int cc, .int cd, .int ce, .int cf, .int cg, .int ch, .int ci, .int cj, .int ck, .ref kl, .int cm, .int cn, .ref ko])), (k4, .inl (cI, 6, .inl c4))] sz) (va_Qi (fun (r : Int32) (u : (Nat → Int32)) => True) (fun u t => kWd D cI (va_A [(k, .inr (11, [.ref k0, .ref k1, .ref k2, .int c3, .ref k4, .ref k5, .ref k6, .ref k7, .ref k8, .int c9, .ref ka, .ref kb, .int cc, .int cd, .int ce, .int cf, .int cg, .int ch, .int ci, .int cj, .int ck, .ref kl, .int cm, .int cn, .ref ko])), (k4, .inl (cI, 6, .inl c4))] sz) [(k, .inr (11, [.ref k0, .ref k1, .ref k2, .int c3, .ref k4, .ref k5, .ref k6, .ref k7, .ref k8, .int c9, .ref ka, .ref kb, .int cc, .int cd, .int ce, .int cf, .int cg, .int ch, .int ci, .int cj, .int ck, .ref kl, .int cm, .int cn, .ref ko])), (k4, .inl (cI, 6, .inl u))] t) (va_A [(k, .inr (11, [.ref k0, .ref k1, .ref k2, .int c3, .ref k4, .ref k5, .ref k6, .ref k7, .ref k8, .int c9, .ref ka, .ref kb, .int cc, .int cd, .int ce, .int cf, .int cg, .int ch, .int ci, .int cj, .int ck, .ref kl, .int cm, .int cn, .ref ko])), (k4, .inl (cI, 6, .inl c4))] sz)) 0 0 (va_A [(k, .inr (11, [.ref k0, .ref k1, .ref k2, .int c3, .ref k4, .ref k5, .ref k6, .ref k7, .ref k8, .int c9, .ref ka, .ref kb, .int cc, .int cd, .int ce, .int cf, .int cg, .int ch, .int ci, .int cj, .int ck, .ref kl, .int cm, .int cn, .ref ko])), (k4, .inl (cI, 6, .inl c4))] sz) := by
  refine kMetIX (own := RX11) (by decide +kernel) rfl (Nat.le_of_ble_eq_true rfl) ?_
  intro p e s m args below meth c hx hb hT hown hname hml A Q hK hP hD hS hA hN hXS hRet ls hl
  have hl : lv_has ls 10 [(0, .ref k), (1, .int a0), (2, .int a1), (3, .int a2), (4, .int a3), (5, .int a4), (6, .int a5)] := hl
  have lo_a0 := k_lo a0
  have hi_a0 := k_hi a0
  have lo_a1 := k_lo a1
  have hi_a1 := k_hi a1
  have lo_a2 := k_lo a2
  have hi_a2 := k_hi a2
  have lo_a3 := k_lo a3
  have hi_a3 := k_hi a3
  have lo_a4 := k_lo a4
  have hi_a4 := k_hi a4
  have lo_a5 := k_lo a5
  have hi_a5 := k_hi a5
  have lo_ci := k_lo ci
  have hi_ci := k_hi ci
  refine lv_iload_n hx hb dX11_broke_0 rfl (lv_at hl 1 rfl) ?_
  refine kJi (wr := [(k, .inr (11, [.ref k0, .ref k1, .ref k2, .int c3, .ref k4, .ref k5, .ref k6, .ref k7, .ref k8, .int c9, .ref ka, .ref kb, .int cc, .int cd, .int ce, .int cf, .int cg, .int ch, .int ci, .int cj, .int ck, .ref kl, .int cm, .int cn, .ref ko])), (k4, .inl (cI, 6, .inl c4))]) (va_runS (As := [.int a0]) (rest := []) ⟨hx, hb, hml, hown, hT⟩ (c_X11_isMileG l D cI aK aV s.heap.size a0) (cwS 1 hT (gS_in mw_1251 mw_1249 mw_1250 mw_12) rfl rfl rfl (by decide +kernel) ⟨Nat.le_of_ble_eq_true rfl, Nat.le_of_ble_eq_true rfl⟩) (kStatX hK hP hD hN hXS hS hA [] rfl (by decide +kernel)) rfl rfl hl.1 rfl (lv_room (Nat.le_of_ble_eq_true rfl)) dX11_broke_1 ⟨Nat.le_of_ble_eq_true rfl, Nat.le_of_ble_eq_true rfl⟩) hP hD hS hA [] [0, 1] rfl rfl (by decide +kernel) (by decide +kernel) ?_
  clear hP hD hS
  intro r_1 u_3 H locs w_2 hP hD hS
  replace hP : va_P D vwCl [(k, .inr (11, [.ref k0, .ref k1, .ref k2, .int c3, .ref k4, .ref k5, .ref k6, .ref k7, .ref k8, .int c9, .ref ka, .ref kb, .int cc, .int cd, .int ce, .int cf, .int cg, .int ch, .int ci, .int cj, .int ck, .ref kl, .int cm, .int cn, .ref ko])), (k4, .inl (cI, 6, .inl c4))] H := hP
  replace hD : va_D A [(k, .inr (11, [.ref k0, .ref k1, .ref k2, .int c3, .ref k4, .ref k5, .ref k6, .ref k7, .ref k8, .int c9, .ref ka, .ref kb, .int cc, .int cd, .int ce, .int cf, .int cg, .int ch, .int ci, .int cj, .int ck, .ref kl, .int cm, .int cn, .ref ko])), (k4, .inl (cI, 6, .inl c4))] := hD
  rcases w_2 with ⟨hr_1, h_4, h_5⟩ | ⟨hr_1, h_6⟩
  · have h_4 : 0 ≤ a0.toInt := h_4
    have h_5 : a0.toInt ≤ 39 := h_5
    obtain rfl : r_1 = 1 := hr_1.trans (by decide +kernel)
    refine b_if_eq hx hb zl_1 (tgt := 58) dX11_broke_4 (by decide +kernel) (fun c_7 => by exfalso; omega) (fun c_7 => ?_)
    refine lv_iload hx hb dX11_broke_7 (lv_at hl 4 rfl) ?_
    refine kJi (wr := [(k, .inr (11, [.ref k0, .ref k1, .ref k2, .int c3, .ref k4, .ref k5, .ref k6, .ref k7, .ref k8, .int c9, .ref ka, .ref kb, .int cc, .int cd, .int ce, .int cf, .int cg, .int ch, .int ci, .int cj, .int ck, .ref kl, .int cm, .int cn, .ref ko])), (k4, .inl (cI, 6, .inl c4))]) (va_runS (As := [.int a3]) (rest := []) ⟨hx, hb, hml, hown, hT⟩ (c_X11_isMileG l D cI aK aV H.size a3) (cwS 1 hT (gS_in mw_1251 mw_1249 mw_1250 mw_12) rfl rfl rfl (by decide +kernel) ⟨Nat.le_of_ble_eq_true rfl, Nat.le_of_ble_eq_true rfl⟩) (kStatX hK hP hD hN hXS hS hA [] rfl (by decide +kernel)) rfl rfl hl.1 rfl (lv_room (Nat.le_of_ble_eq_true rfl)) dX11_broke_9 ⟨Nat.le_of_ble_eq_true rfl, Nat.le_of_ble_eq_true rfl⟩) hP hD hS hA [] [0, 1] rfl rfl (by decide +kernel) (by decide +kernel) ?_
    clear hP hD hS
    intro r_8 u_10 H locs w_9 hP hD hS
    replace hP : va_P D vwCl [(k, .inr (11, [.ref k0, .ref k1, .ref k2, .int c3, .ref k4, .ref k5, .ref k6, .ref k7, .ref k8, .int c9, .ref ka, .ref kb, .int cc, .int cd, .int ce, .int cf, .int cg, .int ch, .int ci, .int cj, .int ck, .ref kl, .int cm, .int cn, .ref ko])), (k4, .inl (cI, 6, .inl c4))] H := hP
    replace hD : va_D A [(k, .inr (11, [.ref k0, .ref k1, .ref k2, .int c3, .ref k4, .ref k5, .ref k6, .ref k7, .ref k8, .int c9, .ref ka, .ref kb, .int cc, .int cd, .int ce, .int cf, .int cg, .int ch, .int ci, .int cj, .int ck, .ref kl, .int cm, .int cn, .ref ko])), (k4, .inl (cI, 6, .inl c4))] := hD
    rcases w_9 with ⟨hr_8, h_11, h_12⟩ | ⟨hr_8, h_13⟩
    · have h_11 : 0 ≤ a3.toInt := h_11
      have h_12 : a3.toInt ≤ 39 := h_12
      obtain rfl : r_8 = 1 := hr_8.trans (by decide +kernel)
      refine b_if_eq hx hb zl_1 (tgt := 58) dX11_broke_12 (by decide +kernel) (fun c_14 => by exfalso; omega) (fun c_14 => ?_)
      refine lv_iload_n hx hb dX11_broke_15 rfl (lv_at hl 1 rfl) ?_
      refine lv_iload hx hb dX11_broke_16 (lv_at hl 4 rfl) ?_
      refine b_icmp_ge hx hb rfl rfl (tgt := 58) dX11_broke_18 (by decide +kernel) (fun c_15 => ?_) (fun c_15 => ?_)
      · refine lv_aload_n hx hb dX11_broke_58 rfl (lv_at hl 0 rfl) ?_
        refine lv_ldc (v := (-1000001)) hx hb hown (hT _ mw_1239) dX11_broke_59 ?_
        refine kJi (wr := []) (va_runV (As := [.int (-1000001)]) (rest := []) ⟨hx, hb, hml, hown, hT⟩ (c_X11_findingG l D cI aK aV k k0 k1 k2 k4 k5 k6 k7 k8 ka kb kl ko H.size c3 c9 cc cd ce cf cg ch ci cj ck cm cn c4 (-1000001) (by first | omega | (simp only [zl_m1000001]; first | done | omega) | decide | assumption | rfl) (by first | omega | (simp only [zl_m1000001]; first | done | omega) | decide | assumption | rfl)) (cwV 1 hT (gV_in mw_1243 mw_1240 mw_1242 mw_p3_8 mw_12) rfl rfl rfl (by decide +kernel) ⟨Nat.le_of_ble_eq_true rfl, Nat.le_of_ble_eq_true rfl⟩) (kRecvX (q0 := 0) (ci := 11) hK hP hD hN hXS hS hA rfl rfl [0, 1] rfl (by decide +kernel)) rfl rfl hl.1 rfl (lv_room (Nat.le_of_ble_eq_true rfl)) dX11_broke_61 ⟨Nat.le_of_ble_eq_true rfl, Nat.le_of_ble_eq_true rfl⟩) hP hD hS hA [0, 1] [] rfl rfl (by decide +kernel) (by decide +kernel) ?_
        clear hP hD hS
        intro r_16 sc4_18 H locs w_17 hP hD hS
        replace hP : va_P D vwCl [(k, .inr (11, [.ref k0, .ref k1, .ref k2, .int c3, .ref k4, .ref k5, .ref k6, .ref k7, .ref k8, .int c9, .ref ka, .ref kb, .int cc, .int cd, .int ce, .int cf, .int cg, .int ch, .int ci, .int cj, .int ck, .ref kl, .int cm, .int cn, .ref ko])), (k4, .inl (cI, 6, .inl sc4_18))] H := hP
        replace hD : va_D A [(k, .inr (11, [.ref k0, .ref k1, .ref k2, .int c3, .ref k4, .ref k5, .ref k6, .ref k7, .ref k8, .int c9, .ref ka, .ref kb, .int cc, .int cd, .int ce, .int cf, .int cg, .int ch, .int ci, .int cj, .int ck, .ref kl, .int cm, .int cn, .ref ko])), (k4, .inl (cI, 6, .inl sc4_18))] := hD
        have hr_16 := w_17
        obtain rfl : r_16 = (-1000001) := hr_16.trans (by decide +kernel)
        exact hRet sc4_18 [0, 1] trivial hP hD (by decide +kernel) rfl hS rfl dX11_broke_64
      · refine lv_iload_n hx hb dX11_broke_21 rfl (lv_at hl 2 rfl) ?_
        refine kJi (wr := [(k, .inr (11, [.ref k0, .ref k1, .ref k2, .int c3, .ref k4, .ref k5, .ref k6, .ref k7, .ref k8, .int c9, .ref ka, .ref kb, .int cc, .int cd, .int ce, .int cf, .int cg, .int ch, .int ci, .int cj, .int ck, .ref kl, .int cm, .int cn, .ref ko])), (k4, .inl (cI, 6, .inl c4))]) (va_runS (As := [.int a1]) (rest := []) ⟨hx, hb, hml, hown, hT⟩ (c_X11_isMileG l D cI aK aV H.size a1) (cwS 1 hT (gS_in mw_1251 mw_1249 mw_1250 mw_12) rfl rfl rfl (by decide +kernel) ⟨Nat.le_of_ble_eq_true rfl, Nat.le_of_ble_eq_true rfl⟩) (kStatX hK hP hD hN hXS hS hA [] rfl (by decide +kernel)) rfl rfl hl.1 rfl (lv_room (Nat.le_of_ble_eq_true rfl)) dX11_broke_22 ⟨Nat.le_of_ble_eq_true rfl, Nat.le_of_ble_eq_true rfl⟩) hP hD hS hA [] [0, 1] rfl rfl (by decide +kernel) (by decide +kernel) ?_
        clear hP hD hS
        intro r_19 u_21 H locs w_20 hP hD hS
        replace hP : va_P D vwCl [(k, .inr (11, [.ref k0, .ref k1, .ref k2, .int c3, .ref k4, .ref k5, .ref k6, .ref k7, .ref k8, .int c9, .ref ka, .ref kb, .int cc, .int cd, .int ce, .int cf, .int cg, .int ch, .int ci, .int cj, .int ck, .ref kl, .int cm, .int cn, .ref ko])), (k4, .inl (cI, 6, .inl c4))] H := hP
        replace hD : va_D A [(k, .inr (11, [.ref k0, .ref k1, .ref k2, .int c3, .ref k4, .ref k5, .ref k6, .ref k7, .ref k8, .int c9, .ref ka, .ref kb, .int cc, .int cd, .int ce, .int cf, .int cg, .int ch, .int ci, .int cj, .int ck, .ref kl, .int cm, .int cn, .ref ko])), (k4, .inl (cI, 6, .inl c4))] := hD
        rcases w_20 with ⟨hr_19, h_22, h_23⟩ | ⟨hr_19, h_24⟩
        · have h_22 : 0 ≤ a1.toInt := h_22
          have h_23 : a1.toInt ≤ 39 := h_23
          obtain rfl : r_19 = 1 := hr_19.trans (by decide +kernel)
          refine b_if_eq hx hb zl_1 (tgt := 58) dX11_broke_25 (by decide +kernel) (fun c_25 => by exfalso; omega) (fun c_25 => ?_)
          refine lv_iload_n hx hb dX11_broke_28 rfl (lv_at hl 3 rfl) ?_
          refine lv_iload_n hx hb dX11_broke_29 rfl (lv_at hl 2 rfl) ?_
          refine lv_bipush (v := 39) hx hb dX11_broke_30 (by decide +kernel) ?_
          refine kJi (wr := [(k, .inr (11, [.ref k0, .ref k1, .ref k2, .int c3, .ref k4, .ref k5, .ref k6, .ref k7, .ref k8, .int c9, .ref ka, .ref kb, .int cc, .int cd, .int ce, .int cf, .int cg, .int ch, .int ci, .int cj, .int ck, .ref kl, .int cm, .int cn, .ref ko])), (k4, .inl (cI, 6, .inl c4))]) (va_runS (As := [.int a2, .int a1, .int 39]) (rest := []) ⟨hx, hb, hml, hown, hT⟩ (c_X11_inG l D cI aK aV H.size a2 a1 39) (cwS 3 hT (gS_in mw_1238 mw_1236 mw_1237 mw_12) rfl rfl rfl (by decide +kernel) ⟨Nat.le_of_ble_eq_true rfl, Nat.le_of_ble_eq_true rfl⟩) (kStatX hK hP hD hN hXS hS hA [] rfl (by decide +kernel)) rfl rfl hl.1 rfl (lv_room (Nat.le_of_ble_eq_true rfl)) dX11_broke_32 ⟨Nat.le_of_ble_eq_true rfl, Nat.le_of_ble_eq_true rfl⟩) hP hD hS hA [] [0, 1] rfl rfl (by decide +kernel) (by decide +kernel) ?_
          clear hP hD hS
          intro r_26 u_28 H locs w_27 hP hD hS
          replace hP : va_P D vwCl [(k, .inr (11, [.ref k0, .ref k1, .ref k2, .int c3, .ref k4, .ref k5, .ref k6, .ref k7, .ref k8, .int c9, .ref ka, .ref kb, .int cc, .int cd, .int ce, .int cf, .int cg, .int ch, .int ci, .int cj, .int ck, .ref kl, .int cm, .int cn, .ref ko])), (k4, .inl (cI, 6, .inl c4))] H := hP
          replace hD : va_D A [(k, .inr (11, [.ref k0, .ref k1, .ref k2, .int c3, .ref k4, .ref k5, .ref k6, .ref k7, .ref k8, .int c9, .ref ka, .ref kb, .int cc, .int cd, .int ce, .int cf, .int cg, .int ch, .int ci, .int cj, .int ck, .ref kl, .int cm, .int cn, .ref ko])), (k4, .inl (cI, 6, .inl c4))] := hD
          rcases w_27 with ⟨hr_26, h_29, h_30⟩ | ⟨hr_26, h_31⟩
          · try simp only [zl_39] at h_29
            have h_29 : a1.toInt ≤ a2.toInt := h_29
            try simp only [zl_39] at h_30
            have h_30 : a2.toInt ≤ 39 := h_30
            obtain rfl : r_26 = 1 := hr_26.trans (by decide +kernel)
            refine b_if_eq hx hb zl_1 (tgt := 58) dX11_broke_35 (by decide +kernel) (fun c_32 => by exfalso; omega) (fun c_32 => ?_)
            refine lv_iload hx hb dX11_broke_38 (lv_at hl 5 rfl) ?_
            refine kJi (wr := [(k, .inr (11, [.ref k0, .ref k1, .ref k2, .int c3, .ref k4, .ref k5, .ref k6, .ref k7, .ref k8, .int c9, .ref ka, .ref kb, .int cc, .int cd, .int ce, .int cf, .int cg, .int ch, .int ci, .int cj, .int ck, .ref kl, .int cm, .int cn, .ref ko])), (k4, .inl (cI, 6, .inl c4))]) (va_runS (As := [.int a4]) (rest := []) ⟨hx, hb, hml, hown, hT⟩ (c_X11_isMileG l D cI aK aV H.size a4) (cwS 1 hT (gS_in mw_1251 mw_1249 mw_1250 mw_12) rfl rfl rfl (by decide +kernel) ⟨Nat.le_of_ble_eq_true rfl, Nat.le_of_ble_eq_true rfl⟩) (kStatX hK hP hD hN hXS hS hA [] rfl (by decide +kernel)) rfl rfl hl.1 rfl (lv_room (Nat.le_of_ble_eq_true rfl)) dX11_broke_40 ⟨Nat.le_of_ble_eq_true rfl, Nat.le_of_ble_eq_true rfl⟩) hP hD hS hA [] [0, 1] rfl rfl (by decide +kernel) (by decide +kernel) ?_
            clear hP hD hS
            intro r_33 u_35 H locs w_34 hP hD hS
            replace hP : va_P D vwCl [(k, .inr (11, [.ref k0, .ref k1, .ref k2, .int c3, .ref k4, .ref k5, .ref k6, .ref k7, .ref k8, .int c9, .ref ka, .ref kb, .int cc, .int cd, .int ce, .int cf, .int cg, .int ch, .int ci, .int cj, .int ck, .ref kl, .int cm, .int cn, .ref ko])), (k4, .inl (cI, 6, .inl c4))] H := hP
            replace hD : va_D A [(k, .inr (11, [.ref k0, .ref k1, .ref k2, .int c3, .ref k4, .ref k5, .ref k6, .ref k7, .ref k8, .int c9, .ref ka, .ref kb, .int cc, .int cd, .int ce, .int cf, .int cg, .int ch, .int ci, .int cj, .int ck, .ref kl, .int cm, .int cn, .ref ko])), (k4, .inl (cI, 6, .inl c4))] := hD
            rcases w_34 with ⟨hr_33, h_36, h_37⟩ | ⟨hr_33, h_38⟩
            · have h_36 : 0 ≤ a4.toInt := h_36
              have h_37 : a4.toInt ≤ 39 := h_37
              obtain rfl : r_33 = 1 := hr_33.trans (by decide +kernel)
              refine b_if_eq hx hb zl_1 (tgt := 58) dX11_broke_43 (by decide +kernel) (fun c_39 => by exfalso; omega) (fun c_39 => ?_)
              refine lv_iload hx hb dX11_broke_46 (lv_at hl 6 rfl) ?_
              refine lv_iload hx hb dX11_broke_48 (lv_at hl 5 rfl) ?_
              refine lv_bipush (v := 39) hx hb dX11_broke_50 (by decide +kernel) ?_
              refine kJi (wr := [(k, .inr (11, [.ref k0, .ref k1, .ref k2, .int c3, .ref k4, .ref k5, .ref k6, .ref k7, .ref k8, .int c9, .ref ka, .ref kb, .int cc, .int cd, .int ce, .int cf, .int cg, .int ch, .int ci, .int cj, .int ck, .ref kl, .int cm, .int cn, .ref ko])), (k4, .inl (cI, 6, .inl c4))]) (va_runS (As := [.int a5, .int a4, .int 39]) (rest := []) ⟨hx, hb, hml, hown, hT⟩ (c_X11_inG l D cI aK aV H.size a5 a4 39) (cwS 3 hT (gS_in mw_1238 mw_1236 mw_1237 mw_12) rfl rfl rfl (by decide +kernel) ⟨Nat.le_of_ble_eq_true rfl, Nat.le_of_ble_eq_true rfl⟩) (kStatX hK hP hD hN hXS hS hA [] rfl (by decide +kernel)) rfl rfl hl.1 rfl (lv_room (Nat.le_of_ble_eq_true rfl)) dX11_broke_52 ⟨Nat.le_of_ble_eq_true rfl, Nat.le_of_ble_eq_true rfl⟩) hP hD hS hA [] [0, 1] rfl rfl (by decide +kernel) (by decide +kernel) ?_
              clear hP hD hS
              intro r_40 u_42 H locs w_41 hP hD hS
              replace hP : va_P D vwCl [(k, .inr (11, [.ref k0, .ref k1, .ref k2, .int c3, .ref k4, .ref k5, .ref k6, .ref k7, .ref k8, .int c9, .ref ka, .ref kb, .int cc, .int cd, .int ce, .int cf, .int cg, .int ch, .int ci, .int cj, .int ck, .ref kl, .int cm, .int cn, .ref ko])), (k4, .inl (cI, 6, .inl c4))] H := hP
              replace hD : va_D A [(k, .inr (11, [.ref k0, .ref k1, .ref k2, .int c3, .ref k4, .ref k5, .ref k6, .ref k7, .ref k8, .int c9, .ref ka, .ref kb, .int cc, .int cd, .int ce, .int cf, .int cg, .int ch, .int ci, .int cj, .int ck, .ref kl, .int cm, .int cn, .ref ko])), (k4, .inl (cI, 6, .inl c4))] := hD
              rcases w_41 with ⟨hr_40, h_43, h_44⟩ | ⟨hr_40, h_45⟩
              · try simp only [zl_39] at h_43
                have h_43 : a4.toInt ≤ a5.toInt := h_43
                try simp only [zl_39] at h_44
                have h_44 : a5.toInt ≤ 39 := h_44
                obtain rfl : r_40 = 1 := hr_40.trans (by decide +kernel)
                refine b_if_ne hx hb zl_1 (tgt := 65) dX11_broke_55 (by decide +kernel) (fun c_46 => ?_) (fun c_46 => by exfalso; omega)
                refine lv_iconst (v := (-1)) hx hb dX11_broke_65 (by decide +kernel) ?_
                refine lv_istore (lv' := [(7, .int (-1)), (0, .ref k), (1, .int a0), (2, .int a1), (3, .int a2), (4, .int a3), (5, .int a4), (6, .int a5)]) hx hb dX11_broke_66 hl (by decide +kernel) rfl ?_
                clear hl
                intro ls hl
                refine lv_iconst (v := (-1)) hx hb dX11_broke_68 (by decide +kernel) ?_
                refine lv_istore (lv' := [(8, .int (-1)), (7, .int (-1)), (0, .ref k), (1, .int a0), (2, .int a1), (3, .int a2), (4, .int a3), (5, .int a4), (6, .int a5)]) hx hb dX11_broke_69 hl (by decide +kernel) rfl ?_
                clear hl
                intro ls hl
                refine lv_iload_n hx hb dX11_broke_71 rfl (lv_at hl 3 rfl) ?_
                refine lv_istore (lv' := [(9, .int a0), (8, .int (-1)), (7, .int (-1)), (0, .ref k), (1, .int a0), (2, .int a1), (3, .int a2), (4, .int a3), (5, .int a4), (6, .int a5)]) hx hb dX11_broke_72 hl (by decide +kernel) rfl ?_
                clear hl
                intro ls hl
                have hloop_74 : ∀ (fu_ : Nat) (l74_7 : Int32) (l74_8 : Int32) (l74_9 : Int32), (-1) ≤ l74_7.toInt → (-1) ≤ l74_8.toInt → a0.toInt ≤ l74_9.toInt → (a3.toInt + 1 - l74_9.toInt).toNat < fu_ → ∀ (ls : Array Slot) (H : Heap) (locs : List Loc), lv_has ls 10 [(9, .int l74_9), (8, .int l74_8), (7, .int l74_7), (0, .ref k), (1, .int a0), (2, .int a1), (3, .int a2), (4, .int a3), (5, .int a4), (6, .int a5)] → va_P D vwCl [(k, .inr (11, [.ref k0, .ref k1, .ref k2, .int c3, .ref k4, .ref k5, .ref k6, .ref k7, .ref k8, .int c9, .ref ka, .ref kb, .int cc, .int cd, .int ce, .int cf, .int cg, .int ch, .int ci, .int cj, .int ck, .ref kl, .int cm, .int cn, .ref ko])), (k4, .inl (cI, 6, .inl c4))] H → va_D A [(k, .inr (11, [.ref k0, .ref k1, .ref k2, .int c3, .ref k4, .ref k5, .ref k6, .ref k7, .ref k8, .int c9, .ref ka, .ref kb, .int cc, .int cd, .int ce, .int cf, .int cg, .int ch, .int ci, .int cj, .int ck, .ref kl, .int cm, .int cn, .ref ko])), (k4, .inl (cI, 6, .inl c4))] → va_S A s.heap H locs → W p l e ({ frames := 2, cells := 0, slots := 0, locals := 42 } : Room) s m args below meth c H locs 0 0 Q (F0 m 74 ls []) := by
                  intro fu_; induction fu_ with
                  | zero => intro l74_7 l74_8 l74_9 i74_0 i74_1 i74_2 hm; exact absurd hm (by omega)
                  | succ fu_ ih74 =>
                      intro l74_7 l74_8 l74_9 i74_0 i74_1 i74_2 hm ls H locs hl hP hD hS
                      have lo_l74_7 := k_lo l74_7
                      have hi_l74_7 := k_hi l74_7
                      have lo_l74_8 := k_lo l74_8
                      have hi_l74_8 := k_hi l74_8
                      have lo_l74_9 := k_lo l74_9
                      have hi_l74_9 := k_hi l74_9
                      refine lv_iload hx hb dX11_broke_74 (lv_at hl 0 rfl) ?_
                      refine lv_iload hx hb dX11_broke_76 (lv_at hl 7 rfl) ?_
                      refine b_icmp_gt hx hb rfl rfl (tgt := 132) dX11_broke_78 (by decide +kernel) (fun c_47 => ?_) (fun c_47 => ?_)
                      · refine lv_iload hx hb dX11_broke_132 (lv_at hl 2 rfl) ?_
                        refine b_if_ge hx hb rfl (tgt := 146) dX11_broke_134 (by decide +kernel) (fun c_48 => ?_) (fun c_48 => ?_)
                        · refine lv_bipush (v := 100) hx hb dX11_broke_146 (by decide +kernel) ?_
                          refine lv_iload hx hb dX11_broke_148 (lv_at hl 2 rfl) ?_
                          refine lv_imul hx hb dX11_broke_150 ?_
                          refine lv_topi (fun v_49 ev_49 => ?_)
                          have lo_v_49 := k_lo v_49
                          have hi_v_49 := k_hi v_49
                          refine lv_iload hx hb dX11_broke_151 (lv_at hl 1 rfl) ?_
                          refine lv_iadd hx hb dX11_broke_153 ?_
                          refine lv_topi (fun v_50 ev_50 => ?_)
                          have lo_v_50 := k_lo v_50
                          have hi_v_50 := k_hi v_50
                          exact hRet c4 [0, 1] trivial hP hD (by decide +kernel) rfl hS rfl dX11_broke_154
                        · refine lv_aload_n hx hb dX11_broke_137 rfl (lv_at hl 3 rfl) ?_
                          refine lv_ldc (v := (-1000002)) hx hb hown (hT _ mw_1392) dX11_broke_138 ?_
                          refine kJi (wr := []) (va_runV (As := [.int (-1000002)]) (rest := []) ⟨hx, hb, hml, hown, hT⟩ (c_X11_findingG l D cI aK aV k k0 k1 k2 k4 k5 k6 k7 k8 ka kb kl ko H.size c3 c9 cc cd ce cf cg ch ci cj ck cm cn c4 (-1000002) (by first | omega | (simp only [zl_m1000002]; first | done | omega) | decide | assumption | rfl) (by first | omega | (simp only [zl_m1000002]; first | done | omega) | decide | assumption | rfl)) (cwV 1 hT (gV_in mw_1243 mw_1240 mw_1242 mw_p3_8 mw_12) rfl rfl rfl (by decide +kernel) ⟨Nat.le_of_ble_eq_true rfl, Nat.le_of_ble_eq_true rfl⟩) (kRecvX (q0 := 0) (ci := 11) hK hP hD hN hXS hS hA rfl rfl [0, 1] rfl (by decide +kernel)) rfl rfl hl.1 rfl (lv_room (Nat.le_of_ble_eq_true rfl)) dX11_broke_140 ⟨Nat.le_of_ble_eq_true rfl, Nat.le_of_ble_eq_true rfl⟩) hP hD hS hA [0, 1] [] rfl rfl (by decide +kernel) (by decide +kernel) ?_
                          clear hP hD hS
                          intro r_51 sc4_53 H locs w_52 hP hD hS
                          replace hP : va_P D vwCl [(k, .inr (11, [.ref k0, .ref k1, .ref k2, .int c3, .ref k4, .ref k5, .ref k6, .ref k7, .ref k8, .int c9, .ref ka, .ref kb, .int cc, .int cd, .int ce, .int cf, .int cg, .int ch, .int ci, .int cj, .int ck, .ref kl, .int cm, .int cn, .ref ko])), (k4, .inl (cI, 6, .inl sc4_53))] H := hP
                          replace hD : va_D A [(k, .inr (11, [.ref k0, .ref k1, .ref k2, .int c3, .ref k4, .ref k5, .ref k6, .ref k7, .ref k8, .int c9, .ref ka, .ref kb, .int cc, .int cd, .int ce, .int cf, .int cg, .int ch, .int ci, .int cj, .int ck, .ref kl, .int cm, .int cn, .ref ko])), (k4, .inl (cI, 6, .inl sc4_53))] := hD
                          have hr_51 := w_52
                          obtain rfl : r_51 = (-1000002) := hr_51.trans (by decide +kernel)
                          refine lv_goto (tgt := 154) hx hb dX11_broke_143 (by decide +kernel) ?_
                          exact hRet sc4_53 [0, 1] trivial hP hD (by decide +kernel) rfl hS rfl dX11_broke_154
                      · refine lv_iload hx hb dX11_broke_81 (lv_at hl 0 rfl) ?_
                        refine lv_iload_n hx hb dX11_broke_83 rfl (lv_at hl 4 rfl) ?_
                        refine lv_isub hx hb dX11_broke_84 ?_
                        refine lv_topi (fun v_54 ev_54 => ?_)
                        have tv_54 : v_54.toInt = l74_9.toInt - a0.toInt := by rw [ev_54]; exact k_subv rfl rfl (by omega) (by omega)
                        refine lv_iload_n hx hb dX11_broke_85 rfl (lv_at hl 5 rfl) ?_
                        refine lv_iload_n hx hb dX11_broke_86 rfl (lv_at hl 6 rfl) ?_
                        refine kJi (wr := [(k, .inr (11, [.ref k0, .ref k1, .ref k2, .int c3, .ref k4, .ref k5, .ref k6, .ref k7, .ref k8, .int c9, .ref ka, .ref kb, .int cc, .int cd, .int ce, .int cf, .int cg, .int ch, .int ci, .int cj, .int ck, .ref kl, .int cm, .int cn, .ref ko])), (k4, .inl (cI, 6, .inl c4))]) (va_runS (As := [.int v_54, .int a1, .int a2]) (rest := []) ⟨hx, hb, hml, hown, hT⟩ (c_X11_inG l D cI aK aV H.size v_54 a1 a2) (cwS 3 hT (gS_in mw_1238 mw_1236 mw_1237 mw_12) rfl rfl rfl (by decide +kernel) ⟨Nat.le_of_ble_eq_true rfl, Nat.le_of_ble_eq_true rfl⟩) (kStatX hK hP hD hN hXS hS hA [] rfl (by decide +kernel)) rfl rfl hl.1 rfl (lv_room (Nat.le_of_ble_eq_true rfl)) dX11_broke_87 ⟨Nat.le_of_ble_eq_true rfl, Nat.le_of_ble_eq_true rfl⟩) hP hD hS hA [] [0, 1] rfl rfl (by decide +kernel) (by decide +kernel) ?_
                        clear hP hD hS
                        intro r_55 u_57 H locs w_56 hP hD hS
                        replace hP : va_P D vwCl [(k, .inr (11, [.ref k0, .ref k1, .ref k2, .int c3, .ref k4, .ref k5, .ref k6, .ref k7, .ref k8, .int c9, .ref ka, .ref kb, .int cc, .int cd, .int ce, .int cf, .int cg, .int ch, .int ci, .int cj, .int ck, .ref kl, .int cm, .int cn, .ref ko])), (k4, .inl (cI, 6, .inl c4))] H := hP
                        replace hD : va_D A [(k, .inr (11, [.ref k0, .ref k1, .ref k2, .int c3, .ref k4, .ref k5, .ref k6, .ref k7, .ref k8, .int c9, .ref ka, .ref kb, .int cc, .int cd, .int ce, .int cf, .int cg, .int ch, .int ci, .int cj, .int ck, .ref kl, .int cm, .int cn, .ref ko])), (k4, .inl (cI, 6, .inl c4))] := hD
                        rcases w_56 with ⟨hr_55, h_58, h_59⟩ | ⟨hr_55, h_60⟩
                        · have h_58 : a1.toInt ≤ v_54.toInt := h_58
                          have h_59 : v_54.toInt ≤ a2.toInt := h_59
                          obtain rfl : r_55 = 1 := hr_55.trans (by decide +kernel)
                          refine b_if_eq hx hb zl_1 (tgt := 126) dX11_broke_90 (by decide +kernel) (fun c_61 => by exfalso; omega) (fun c_61 => ?_)
                          refine lv_iload hx hb dX11_broke_93 (lv_at hl 7 rfl) ?_
                          refine lv_iload hx hb dX11_broke_95 (lv_at hl 0 rfl) ?_
                          refine lv_isub hx hb dX11_broke_97 ?_
                          refine lv_topi (fun v_62 ev_62 => ?_)
                          have tv_62 : v_62.toInt = a3.toInt - l74_9.toInt := by rw [ev_62]; exact k_subv rfl rfl (by omega) (by omega)
                          refine lv_iload hx hb dX11_broke_98 (lv_at hl 8 rfl) ?_
                          refine lv_iload hx hb dX11_broke_100 (lv_at hl 9 rfl) ?_
                          refine kJi (wr := [(k, .inr (11, [.ref k0, .ref k1, .ref k2, .int c3, .ref k4, .ref k5, .ref k6, .ref k7, .ref k8, .int c9, .ref ka, .ref kb, .int cc, .int cd, .int ce, .int cf, .int cg, .int ch, .int ci, .int cj, .int ck, .ref kl, .int cm, .int cn, .ref ko])), (k4, .inl (cI, 6, .inl c4))]) (va_runS (As := [.int v_62, .int a4, .int a5]) (rest := []) ⟨hx, hb, hml, hown, hT⟩ (c_X11_inG l D cI aK aV H.size v_62 a4 a5) (cwS 3 hT (gS_in mw_1238 mw_1236 mw_1237 mw_12) rfl rfl rfl (by decide +kernel) ⟨Nat.le_of_ble_eq_true rfl, Nat.le_of_ble_eq_true rfl⟩) (kStatX hK hP hD hN hXS hS hA [] rfl (by decide +kernel)) rfl rfl hl.1 rfl (lv_room (Nat.le_of_ble_eq_true rfl)) dX11_broke_102 ⟨Nat.le_of_ble_eq_true rfl, Nat.le_of_ble_eq_true rfl⟩) hP hD hS hA [] [0, 1] rfl rfl (by decide +kernel) (by decide +kernel) ?_
                          clear hP hD hS
                          intro r_63 u_65 H locs w_64 hP hD hS
                          replace hP : va_P D vwCl [(k, .inr (11, [.ref k0, .ref k1, .ref k2, .int c3, .ref k4, .ref k5, .ref k6, .ref k7, .ref k8, .int c9, .ref ka, .ref kb, .int cc, .int cd, .int ce, .int cf, .int cg, .int ch, .int ci, .int cj, .int ck, .ref kl, .int cm, .int cn, .ref ko])), (k4, .inl (cI, 6, .inl c4))] H := hP
                          replace hD : va_D A [(k, .inr (11, [.ref k0, .ref k1, .ref k2, .int c3, .ref k4, .ref k5, .ref k6, .ref k7, .ref k8, .int c9, .ref ka, .ref kb, .int cc, .int cd, .int ce, .int cf, .int cg, .int ch, .int ci, .int cj, .int ck, .ref kl, .int cm, .int cn, .ref ko])), (k4, .inl (cI, 6, .inl c4))] := hD
                          rcases w_64 with ⟨hr_63, h_66, h_67⟩ | ⟨hr_63, h_68⟩
                          · have h_66 : a4.toInt ≤ v_62.toInt := h_66
                            have h_67 : v_62.toInt ≤ a5.toInt := h_67
                            obtain rfl : r_63 = 1 := hr_63.trans (by decide +kernel)
                            refine b_if_eq hx hb zl_1 (tgt := 126) dX11_broke_105 (by decide +kernel) (fun c_69 => by exfalso; omega) (fun c_69 => ?_)
                            refine lv_iload hx hb dX11_broke_108 (lv_at hl 2 rfl) ?_
                            refine b_if_ge hx hb rfl (tgt := 118) dX11_broke_110 (by decide +kernel) (fun c_70 => ?_) (fun c_70 => ?_)
                            · refine lv_iload hx hb dX11_broke_118 (lv_at hl 2 rfl) ?_
                              refine lv_istore (lv' := [(7, .int l74_7), (9, .int l74_9), (8, .int l74_8), (0, .ref k), (1, .int a0), (2, .int a1), (3, .int a2), (4, .int a3), (5, .int a4), (6, .int a5)]) hx hb dX11_broke_120 hl (by decide +kernel) rfl ?_
                              clear hl
                              intro ls hl
                              refine lv_iload hx hb dX11_broke_122 (lv_at hl 1 rfl) ?_
                              refine lv_istore (lv' := [(8, .int l74_9), (7, .int l74_7), (9, .int l74_9), (0, .ref k), (1, .int a0), (2, .int a1), (3, .int a2), (4, .int a3), (5, .int a4), (6, .int a5)]) hx hb dX11_broke_124 hl (by decide +kernel) rfl ?_
                              clear hl
                              intro ls hl
                              obtain ⟨v_71, ev_71⟩ : ∃ y : Int32, y = l74_9 + 1 := ⟨_, rfl⟩
                              have tv_71 : v_71.toInt = l74_9.toInt + 1 := by rw [ev_71]; exact k_addv rfl zl_1 (by omega) (by omega)
                              refine lv_iinc (v := v_71) (lv' := [(9, .int v_71), (8, .int l74_9), (7, .int l74_7), (0, .ref k), (1, .int a0), (2, .int a1), (3, .int a2), (4, .int a3), (5, .int a4), (6, .int a5)]) hx hb dX11_broke_126 hl (k := 2) rfl (by rw [ev_71]; rfl) (by decide +kernel) rfl ?_
                              clear hl
                              intro ls hl
                              refine lv_goto (tgt := 74) hx hb dX11_broke_129 (by decide +kernel) ?_
                              exact ih74 l74_7 l74_9 v_71 (by first | omega | decide | assumption | rfl) (by first | omega | decide | assumption | rfl) (by first | omega | decide | assumption | rfl) (by omega) ls _ _ (lv_sub hl [0, 1, 2, 3, 4, 5, 6, 7, 8, 9] rfl) (hP.sub [0, 1] rfl) (hD.sub [0, 1] (by decide +kernel) rfl) hS
                            · refine lv_iload hx hb dX11_broke_113 (lv_at hl 0 rfl) ?_
                              refine lv_goto (tgt := 120) hx hb dX11_broke_115 (by decide +kernel) ?_
                              refine lv_istore (lv' := [(7, .int l74_9), (9, .int l74_9), (8, .int l74_8), (0, .ref k), (1, .int a0), (2, .int a1), (3, .int a2), (4, .int a3), (5, .int a4), (6, .int a5)]) hx hb dX11_broke_120 hl (by decide +kernel) rfl ?_
                              clear hl
                              intro ls hl
                              refine lv_iload hx hb dX11_broke_122 (lv_at hl 1 rfl) ?_
                              refine lv_istore (lv' := [(8, .int l74_9), (7, .int l74_9), (9, .int l74_9), (0, .ref k), (1, .int a0), (2, .int a1), (3, .int a2), (4, .int a3), (5, .int a4), (6, .int a5)]) hx hb dX11_broke_124 hl (by decide +kernel) rfl ?_
                              clear hl
                              intro ls hl
                              obtain ⟨v_72, ev_72⟩ : ∃ y : Int32, y = l74_9 + 1 := ⟨_, rfl⟩
                              have tv_72 : v_72.toInt = l74_9.toInt + 1 := by rw [ev_72]; exact k_addv rfl zl_1 (by omega) (by omega)
                              refine lv_iinc (v := v_72) (lv' := [(9, .int v_72), (8, .int l74_9), (7, .int l74_9), (0, .ref k), (1, .int a0), (2, .int a1), (3, .int a2), (4, .int a3), (5, .int a4), (6, .int a5)]) hx hb dX11_broke_126 hl (k := 2) rfl (by rw [ev_72]; rfl) (by decide +kernel) rfl ?_
                              clear hl
                              intro ls hl
                              refine lv_goto (tgt := 74) hx hb dX11_broke_129 (by decide +kernel) ?_
                              exact ih74 l74_9 l74_9 v_72 (by first | omega | decide | assumption | rfl) (by first | omega | decide | assumption | rfl) (by first | omega | decide | assumption | rfl) (by omega) ls _ _ (lv_sub hl [0, 1, 2, 3, 4, 5, 6, 7, 8, 9] rfl) (hP.sub [0, 1] rfl) (hD.sub [0, 1] (by decide +kernel) rfl) hS
                          · have h_68 : v_62.toInt < a4.toInt ∨ a5.toInt < v_62.toInt := h_68
                            obtain rfl : r_63 = 0 := hr_63.trans (by decide +kernel)
                            refine b_if_eq hx hb zl_0 (tgt := 126) dX11_broke_105 (by decide +kernel) (fun c_73 => ?_) (fun c_73 => by exfalso; omega)
                            obtain ⟨v_74, ev_74⟩ : ∃ y : Int32, y = l74_9 + 1 := ⟨_, rfl⟩
                            have tv_74 : v_74.toInt = l74_9.toInt + 1 := by rw [ev_74]; exact k_addv rfl zl_1 (by omega) (by omega)
                            refine lv_iinc (v := v_74) (lv' := [(9, .int v_74), (8, .int l74_8), (7, .int l74_7), (0, .ref k), (1, .int a0), (2, .int a1), (3, .int a2), (4, .int a3), (5, .int a4), (6, .int a5)]) hx hb dX11_broke_126 hl (k := 0) rfl (by rw [ev_74]; rfl) (by decide +kernel) rfl ?_
                            clear hl
                            intro ls hl
                            refine lv_goto (tgt := 74) hx hb dX11_broke_129 (by decide +kernel) ?_
                            exact ih74 l74_7 l74_8 v_74 (by first | omega | decide | assumption | rfl) (by first | omega | decide | assumption | rfl) (by first | omega | decide | assumption | rfl) (by omega) ls _ _ (lv_sub hl [0, 1, 2, 3, 4, 5, 6, 7, 8, 9] rfl) (hP.sub [0, 1] rfl) (hD.sub [0, 1] (by decide +kernel) rfl) hS
                        · have h_60 : v_54.toInt < a1.toInt ∨ a2.toInt < v_54.toInt := h_60
                          obtain rfl : r_55 = 0 := hr_55.trans (by decide +kernel)
                          refine b_if_eq hx hb zl_0 (tgt := 126) dX11_broke_90 (by decide +kernel) (fun c_75 => ?_) (fun c_75 => by exfalso; omega)
                          obtain ⟨v_76, ev_76⟩ : ∃ y : Int32, y = l74_9 + 1 := ⟨_, rfl⟩
                          have tv_76 : v_76.toInt = l74_9.toInt + 1 := by rw [ev_76]; exact k_addv rfl zl_1 (by omega) (by omega)
                          refine lv_iinc (v := v_76) (lv' := [(9, .int v_76), (8, .int l74_8), (7, .int l74_7), (0, .ref k), (1, .int a0), (2, .int a1), (3, .int a2), (4, .int a3), (5, .int a4), (6, .int a5)]) hx hb dX11_broke_126 hl (k := 0) rfl (by rw [ev_76]; rfl) (by decide +kernel) rfl ?_
                          clear hl
                          intro ls hl
                          refine lv_goto (tgt := 74) hx hb dX11_broke_129 (by decide +kernel) ?_
                          exact ih74 l74_7 l74_8 v_76 (by first | omega | decide | assumption | rfl) (by first | omega | decide | assumption | rfl) (by first | omega | decide | assumption | rfl) (by omega) ls _ _ (lv_sub hl [0, 1, 2, 3, 4, 5, 6, 7, 8, 9] rfl) (hP.sub [0, 1] rfl) (hD.sub [0, 1] (by decide +kernel) rfl) hS
                exact hloop_74 _ (-1) (-1) a0 (by first | omega | (simp only [zl_m1]; first | done | omega) | decide | assumption | rfl) (by first | omega | (simp only [zl_m1]; first | done | omega) | decide | assumption | rfl) (by first | omega | (simp only [zl_m1]; first | done | omega) | decide | assumption | rfl) (Nat.lt_succ_self _) ls _ _ (lv_sub hl [0, 1, 2, 3, 4, 5, 6, 7, 8, 9] rfl) hP hD hS
              · try simp only [zl_39] at h_45
                have h_45 : a5.toInt < a4.toInt ∨ 39 < a5.toInt := h_45
                obtain rfl : r_40 = 0 := hr_40.trans (by decide +kernel)
                refine b_if_ne hx hb zl_0 (tgt := 65) dX11_broke_55 (by decide +kernel) (fun c_77 => by exfalso; omega) (fun c_77 => ?_)
                refine lv_aload_n hx hb dX11_broke_58 rfl (lv_at hl 0 rfl) ?_
                refine lv_ldc (v := (-1000001)) hx hb hown (hT _ mw_1239) dX11_broke_59 ?_
                refine kJi (wr := []) (va_runV (As := [.int (-1000001)]) (rest := []) ⟨hx, hb, hml, hown, hT⟩ (c_X11_findingG l D cI aK aV k k0 k1 k2 k4 k5 k6 k7 k8 ka kb kl ko H.size c3 c9 cc cd ce cf cg ch ci cj ck cm cn c4 (-1000001) (by first | omega | (simp only [zl_m1000001]; first | done | omega) | decide | assumption | rfl) (by first | omega | (simp only [zl_m1000001]; first | done | omega) | decide | assumption | rfl)) (cwV 1 hT (gV_in mw_1243 mw_1240 mw_1242 mw_p3_8 mw_12) rfl rfl rfl (by decide +kernel) ⟨Nat.le_of_ble_eq_true rfl, Nat.le_of_ble_eq_true rfl⟩) (kRecvX (q0 := 0) (ci := 11) hK hP hD hN hXS hS hA rfl rfl [0, 1] rfl (by decide +kernel)) rfl rfl hl.1 rfl (lv_room (Nat.le_of_ble_eq_true rfl)) dX11_broke_61 ⟨Nat.le_of_ble_eq_true rfl, Nat.le_of_ble_eq_true rfl⟩) hP hD hS hA [0, 1] [] rfl rfl (by decide +kernel) (by decide +kernel) ?_
                clear hP hD hS
                intro r_78 sc4_80 H locs w_79 hP hD hS
                replace hP : va_P D vwCl [(k, .inr (11, [.ref k0, .ref k1, .ref k2, .int c3, .ref k4, .ref k5, .ref k6, .ref k7, .ref k8, .int c9, .ref ka, .ref kb, .int cc, .int cd, .int ce, .int cf, .int cg, .int ch, .int ci, .int cj, .int ck, .ref kl, .int cm, .int cn, .ref ko])), (k4, .inl (cI, 6, .inl sc4_80))] H := hP
                replace hD : va_D A [(k, .inr (11, [.ref k0, .ref k1, .ref k2, .int c3, .ref k4, .ref k5, .ref k6, .ref k7, .ref k8, .int c9, .ref ka, .ref kb, .int cc, .int cd, .int ce, .int cf, .int cg, .int ch, .int ci, .int cj, .int ck, .ref kl, .int cm, .int cn, .ref ko])), (k4, .inl (cI, 6, .inl sc4_80))] := hD
                have hr_78 := w_79
                obtain rfl : r_78 = (-1000001) := hr_78.trans (by decide +kernel)
                exact hRet sc4_80 [0, 1] trivial hP hD (by decide +kernel) rfl hS rfl dX11_broke_64
            · have h_38 : a4.toInt < 0 ∨ 39 < a4.toInt := h_38
              obtain rfl : r_33 = 0 := hr_33.trans (by decide +kernel)
              refine b_if_eq hx hb zl_0 (tgt := 58) dX11_broke_43 (by decide +kernel) (fun c_81 => ?_) (fun c_81 => by exfalso; omega)
              refine lv_aload_n hx hb dX11_broke_58 rfl (lv_at hl 0 rfl) ?_
              refine lv_ldc (v := (-1000001)) hx hb hown (hT _ mw_1239) dX11_broke_59 ?_
              refine kJi (wr := []) (va_runV (As := [.int (-1000001)]) (rest := []) ⟨hx, hb, hml, hown, hT⟩ (c_X11_findingG l D cI aK aV k k0 k1 k2 k4 k5 k6 k7 k8 ka kb kl ko H.size c3 c9 cc cd ce cf cg ch ci cj ck cm cn c4 (-1000001) (by first | omega | (simp only [zl_m1000001]; first | done | omega) | decide | assumption | rfl) (by first | omega | (simp only [zl_m1000001]; first | done | omega) | decide | assumption | rfl)) (cwV 1 hT (gV_in mw_1243 mw_1240 mw_1242 mw_p3_8 mw_12) rfl rfl rfl (by decide +kernel) ⟨Nat.le_of_ble_eq_true rfl, Nat.le_of_ble_eq_true rfl⟩) (kRecvX (q0 := 0) (ci := 11) hK hP hD hN hXS hS hA rfl rfl [0, 1] rfl (by decide +kernel)) rfl rfl hl.1 rfl (lv_room (Nat.le_of_ble_eq_true rfl)) dX11_broke_61 ⟨Nat.le_of_ble_eq_true rfl, Nat.le_of_ble_eq_true rfl⟩) hP hD hS hA [0, 1] [] rfl rfl (by decide +kernel) (by decide +kernel) ?_
              clear hP hD hS
              intro r_82 sc4_84 H locs w_83 hP hD hS
              replace hP : va_P D vwCl [(k, .inr (11, [.ref k0, .ref k1, .ref k2, .int c3, .ref k4, .ref k5, .ref k6, .ref k7, .ref k8, .int c9, .ref ka, .ref kb, .int cc, .int cd, .int ce, .int cf, .int cg, .int ch, .int ci, .int cj, .int ck, .ref kl, .int cm, .int cn, .ref ko])), (k4, .inl (cI, 6, .inl sc4_84))] H := hP
              replace hD : va_D A [(k, .inr (11, [.ref k0, .ref k1, .ref k2, .int c3, .ref k4, .ref k5, .ref k6, .ref k7, .ref k8, .int c9, .ref ka, .ref kb, .int cc, .int cd, .int ce, .int cf, .int cg, .int ch, .int ci, .int cj, .int ck, .ref kl, .int cm, .int cn, .ref ko])), (k4, .inl (cI, 6, .inl sc4_84))] := hD
              have hr_82 := w_83
              obtain rfl : r_82 = (-1000001) := hr_82.trans (by decide +kernel)
              exact hRet sc4_84 [0, 1] trivial hP hD (by decide +kernel) rfl hS rfl dX11_broke_64
          · try simp only [zl_39] at h_31
            have h_31 : a2.toInt < a1.toInt ∨ 39 < a2.toInt := h_31
            obtain rfl : r_26 = 0 := hr_26.trans (by decide +kernel)
            refine b_if_eq hx hb zl_0 (tgt := 58) dX11_broke_35 (by decide +kernel) (fun c_85 => ?_) (fun c_85 => by exfalso; omega)
            refine lv_aload_n hx hb dX11_broke_58 rfl (lv_at hl 0 rfl) ?_
            refine lv_ldc (v := (-1000001)) hx hb hown (hT _ mw_1239) dX11_broke_59 ?_
            refine kJi (wr := []) (va_runV (As := [.int (-1000001)]) (rest := []) ⟨hx, hb, hml, hown, hT⟩ (c_X11_findingG l D cI aK aV k k0 k1 k2 k4 k5 k6 k7 k8 ka kb kl ko H.size c3 c9 cc cd ce cf cg ch ci cj ck cm cn c4 (-1000001) (by first | omega | (simp only [zl_m1000001]; first | done | omega) | decide | assumption | rfl) (by first | omega | (simp only [zl_m1000001]; first | done | omega) | decide | assumption | rfl)) (cwV 1 hT (gV_in mw_1243 mw_1240 mw_1242 mw_p3_8 mw_12) rfl rfl rfl (by decide +kernel) ⟨Nat.le_of_ble_eq_true rfl, Nat.le_of_ble_eq_true rfl⟩) (kRecvX (q0 := 0) (ci := 11) hK hP hD hN hXS hS hA rfl rfl [0, 1] rfl (by decide +kernel)) rfl rfl hl.1 rfl (lv_room (Nat.le_of_ble_eq_true rfl)) dX11_broke_61 ⟨Nat.le_of_ble_eq_true rfl, Nat.le_of_ble_eq_true rfl⟩) hP hD hS hA [0, 1] [] rfl rfl (by decide +kernel) (by decide +kernel) ?_
            clear hP hD hS
            intro r_86 sc4_88 H locs w_87 hP hD hS
            replace hP : va_P D vwCl [(k, .inr (11, [.ref k0, .ref k1, .ref k2, .int c3, .ref k4, .ref k5, .ref k6, .ref k7, .ref k8, .int c9, .ref ka, .ref kb, .int cc, .int cd, .int ce, .int cf, .int cg, .int ch, .int ci, .int cj, .int ck, .ref kl, .int cm, .int cn, .ref ko])), (k4, .inl (cI, 6, .inl sc4_88))] H := hP
            replace hD : va_D A [(k, .inr (11, [.ref k0, .ref k1, .ref k2, .int c3, .ref k4, .ref k5, .ref k6, .ref k7, .ref k8, .int c9, .ref ka, .ref kb, .int cc, .int cd, .int ce, .int cf, .int cg, .int ch, .int ci, .int cj, .int ck, .ref kl, .int cm, .int cn, .ref ko])), (k4, .inl (cI, 6, .inl sc4_88))] := hD
            have hr_86 := w_87
            obtain rfl : r_86 = (-1000001) := hr_86.trans (by decide +kernel)
            exact hRet sc4_88 [0, 1] trivial hP hD (by decide +kernel) rfl hS rfl dX11_broke_64
        · have h_24 : a1.toInt < 0 ∨ 39 < a1.toInt := h_24
          obtain rfl : r_19 = 0 := hr_19.trans (by decide +kernel)
          refine b_if_eq hx hb zl_0 (tgt := 58) dX11_broke_25 (by decide +kernel) (fun c_89 => ?_) (fun c_89 => by exfalso; omega)
          refine lv_aload_n hx hb dX11_broke_58 rfl (lv_at hl 0 rfl) ?_
          refine lv_ldc (v := (-1000001)) hx hb hown (hT _ mw_1239) dX11_broke_59 ?_
          refine kJi (wr := []) (va_runV (As := [.int (-1000001)]) (rest := []) ⟨hx, hb, hml, hown, hT⟩ (c_X11_findingG l D cI aK aV k k0 k1 k2 k4 k5 k6 k7 k8 ka kb kl ko H.size c3 c9 cc cd ce cf cg ch ci cj ck cm cn c4 (-1000001) (by first | omega | (simp only [zl_m1000001]; first | done | omega) | decide | assumption | rfl) (by first | omega | (simp only [zl_m1000001]; first | done | omega) | decide | assumption | rfl)) (cwV 1 hT (gV_in mw_1243 mw_1240 mw_1242 mw_p3_8 mw_12) rfl rfl rfl (by decide +kernel) ⟨Nat.le_of_ble_eq_true rfl, Nat.le_of_ble_eq_true rfl⟩) (kRecvX (q0 := 0) (ci := 11) hK hP hD hN hXS hS hA rfl rfl [0, 1] rfl (by decide +kernel)) rfl rfl hl.1 rfl (lv_room (Nat.le_of_ble_eq_true rfl)) dX11_broke_61 ⟨Nat.le_of_ble_eq_true rfl, Nat.le_of_ble_eq_true rfl⟩) hP hD hS hA [0, 1] [] rfl rfl (by decide +kernel) (by decide +kernel) ?_
          clear hP hD hS
          intro r_90 sc4_92 H locs w_91 hP hD hS
          replace hP : va_P D vwCl [(k, .inr (11, [.ref k0, .ref k1, .ref k2, .int c3, .ref k4, .ref k5, .ref k6, .ref k7, .ref k8, .int c9, .ref ka, .ref kb, .int cc, .int cd, .int ce, .int cf, .int cg, .int ch, .int ci, .int cj, .int ck, .ref kl, .int cm, .int cn, .ref ko])), (k4, .inl (cI, 6, .inl sc4_92))] H := hP
          replace hD : va_D A [(k, .inr (11, [.ref k0, .ref k1, .ref k2, .int c3, .ref k4, .ref k5, .ref k6, .ref k7, .ref k8, .int c9, .ref ka, .ref kb, .int cc, .int cd, .int ce, .int cf, .int cg, .int ch, .int ci, .int cj, .int ck, .ref kl, .int cm, .int cn, .ref ko])), (k4, .inl (cI, 6, .inl sc4_92))] := hD
          have hr_90 := w_91
          obtain rfl : r_90 = (-1000001) := hr_90.trans (by decide +kernel)
          exact hRet sc4_92 [0, 1] trivial hP hD (by decide +kernel) rfl hS rfl dX11_broke_64
    · have h_13 : a3.toInt < 0 ∨ 39 < a3.toInt := h_13
      obtain rfl : r_8 = 0 := hr_8.trans (by decide +kernel)
      refine b_if_eq hx hb zl_0 (tgt := 58) dX11_broke_12 (by decide +kernel) (fun c_93 => ?_) (fun c_93 => by exfalso; omega)
      refine lv_aload_n hx hb dX11_broke_58 rfl (lv_at hl 0 rfl) ?_
      refine lv_ldc (v := (-1000001)) hx hb hown (hT _ mw_1239) dX11_broke_59 ?_
      refine kJi (wr := []) (va_runV (As := [.int (-1000001)]) (rest := []) ⟨hx, hb, hml, hown, hT⟩ (c_X11_findingG l D cI aK aV k k0 k1 k2 k4 k5 k6 k7 k8 ka kb kl ko H.size c3 c9 cc cd ce cf cg ch ci cj ck cm cn c4 (-1000001) (by first | omega | (simp only [zl_m1000001]; first | done | omega) | decide | assumption | rfl) (by first | omega | (simp only [zl_m1000001]; first | done | omega) | decide | assumption | rfl)) (cwV 1 hT (gV_in mw_1243 mw_1240 mw_1242 mw_p3_8 mw_12) rfl rfl rfl (by decide +kernel) ⟨Nat.le_of_ble_eq_true rfl, Nat.le_of_ble_eq_true rfl⟩) (kRecvX (q0 := 0) (ci := 11) hK hP hD hN hXS hS hA rfl rfl [0, 1] rfl (by decide +kernel)) rfl rfl hl.1 rfl (lv_room (Nat.le_of_ble_eq_true rfl)) dX11_broke_61 ⟨Nat.le_of_ble_eq_true rfl, Nat.le_of_ble_eq_true rfl⟩) hP hD hS hA [0, 1] [] rfl rfl (by decide +kernel) (by decide +kernel) ?_
      clear hP hD hS
      intro r_94 sc4_96 H locs w_95 hP hD hS
      replace hP : va_P D vwCl [(k, .inr (11, [.ref k0, .ref k1, .ref k2, .int c3, .ref k4, .ref k5, .ref k6, .ref k7, .ref k8, .int c9, .ref ka, .ref kb, .int cc, .int cd, .int ce, .int cf, .int cg, .int ch, .int ci, .int cj, .int ck, .ref kl, .int cm, .int cn, .ref ko])), (k4, .inl (cI, 6, .inl sc4_96))] H := hP
      replace hD : va_D A [(k, .inr (11, [.ref k0, .ref k1, .ref k2, .int c3, .ref k4, .ref k5, .ref k6, .ref k7, .ref k8, .int c9, .ref ka, .ref kb, .int cc, .int cd, .int ce, .int cf, .int cg, .int ch, .int ci, .int cj, .int ck, .ref kl, .int cm, .int cn, .ref ko])), (k4, .inl (cI, 6, .inl sc4_96))] := hD
      have hr_94 := w_95
      obtain rfl : r_94 = (-1000001) := hr_94.trans (by decide +kernel)
      exact hRet sc4_96 [0, 1] trivial hP hD (by decide +kernel) rfl hS rfl dX11_broke_64
  · have h_6 : a0.toInt < 0 ∨ 39 < a0.toInt := h_6
    obtain rfl : r_1 = 0 := hr_1.trans (by decide +kernel)
    refine b_if_eq hx hb zl_0 (tgt := 58) dX11_broke_4 (by decide +kernel) (fun c_97 => ?_) (fun c_97 => by exfalso; omega)
    refine lv_aload_n hx hb dX11_broke_58 rfl (lv_at hl 0 rfl) ?_
    refine lv_ldc (v := (-1000001)) hx hb hown (hT _ mw_1239) dX11_broke_59 ?_
    refine kJi (wr := []) (va_runV (As := [.int (-1000001)]) (rest := []) ⟨hx, hb, hml, hown, hT⟩ (c_X11_findingG l D cI aK aV k k0 k1 k2 k4 k5 k6 k7 k8 ka kb kl ko H.size c3 c9 cc cd ce cf cg ch ci cj ck cm cn c4 (-1000001) (by first | omega | (simp only [zl_m1000001]; first | done | omega) | decide | assumption | rfl) (by first | omega | (simp only [zl_m1000001]; first | done | omega) | decide | assumption | rfl)) (cwV 1 hT (gV_in mw_1243 mw_1240 mw_1242 mw_p3_8 mw_12) rfl rfl rfl (by decide +kernel) ⟨Nat.le_of_ble_eq_true rfl, Nat.le_of_ble_eq_true rfl⟩) (kRecvX (q0 := 0) (ci := 11) hK hP hD hN hXS hS hA rfl rfl [0, 1] rfl (by decide +kernel)) rfl rfl hl.1 rfl (lv_room (Nat.le_of_ble_eq_true rfl)) dX11_broke_61 ⟨Nat.le_of_ble_eq_true rfl, Nat.le_of_ble_eq_true rfl⟩) hP hD hS hA [0, 1] [] rfl rfl (by decide +kernel) (by decide +kernel) ?_
    clear hP hD hS
    intro r_98 sc4_100 H locs w_99 hP hD hS
    replace hP : va_P D vwCl [(k, .inr (11, [.ref k0, .ref k1, .ref k2, .int c3, .ref k4, .ref k5, .ref k6, .ref k7, .ref k8, .int c9, .ref ka, .ref kb, .int cc, .int cd, .int ce, .int cf, .int cg, .int ch, .int ci, .int cj, .int ck, .ref kl, .int cm, .int cn, .ref ko])), (k4, .inl (cI, 6, .inl sc4_100))] H := hP
    replace hD : va_D A [(k, .inr (11, [.ref k0, .ref k1, .ref k2, .int c3, .ref k4, .ref k5, .ref k6, .ref k7, .ref k8, .int c9, .ref ka, .ref kb, .int cc, .int cd, .int ce, .int cf, .int cg, .int ch, .int ci, .int cj, .int ck, .ref kl, .int cm, .int cn, .ref ko])), (k4, .inl (cI, 6, .inl sc4_100))] := hD
    have hr_98 := w_99
    obtain rfl : r_98 = (-1000001) := hr_98.trans (by decide +kernel)
    exact hRet sc4_100 [0, 1] trivial hP hD (by decide +kernel) rfl hS rfl dX11_broke_64
theorem bn_cX11_feed_0 : BN cX11_feed 0 0x568bc100a00ad456d3802a0040542940c20517974100a00ad4565044a0112010a9f0d2050b0242220308bc100a00ad4566c0284814015a8ac5e01518780a16028dc08ad208056e4c098ac1601528cc22610f0bc100a00ad456ad208056e40098ac16014d8c002b9048440a1e := by
  unfold BN; decide +kernel
theorem dX11_feed_0 : decode cX11_feed 0 = .ok (.iload_n 3, 1) := dR0 (k := 0) (i := 0) bn_cX11_feed_0 dop_29 (by decide +kernel)
theorem dX11_feed_1 : decode cX11_feed 1 = .ok (.iconst 1, 1) := dR0 (k := 0) (i := 1) bn_cX11_feed_0 dop_4 (by decide +kernel)
theorem dX11_feed_2 : decode cX11_feed 2 = .ok (.bipush 8, 2) := dR1s (f := Instr.bipush) (k := 0) (i := 2) bn_cX11_feed_0 dop_16 8 8 (by decide +kernel)
theorem dX11_feed_4 : decode cX11_feed 4 = .ok (.invokestatic 47, 3) := dR2 (f := Instr.invokestatic) (k := 0) (i := 4) bn_cX11_feed_0 dop_184 47 (by decide +kernel)
theorem dX11_feed_7 : decode cX11_feed 7 = .ok (.ifCond .ne 10, 3) := dR2s (f := Instr.ifCond .ne) (k := 0) (i := 7) bn_cX11_feed_0 dop_154 10 10 (by decide +kernel)
theorem dX11_feed_10 : decode cX11_feed 10 = .ok (.aload_n 0, 1) := dR0 (k := 0) (i := 10) bn_cX11_feed_0 dop_42 (by decide +kernel)
theorem dX11_feed_11 : decode cX11_feed 11 = .ok (.ldc 63, 2) := dR1 (f := Instr.ldc) (k := 0) (i := 11) bn_cX11_feed_0 dop_18 63 (by decide +kernel)
theorem dX11_feed_13 : decode cX11_feed 13 = .ok (.invokevirtual 64, 3) := dR2 (f := Instr.invokevirtual) (k := 0) (i := 13) bn_cX11_feed_0 dop_182 64 (by decide +kernel)
theorem dX11_feed_16 : decode cX11_feed 16 = .ok (.ireturn, 1) := dR0 (k := 0) (i := 16) bn_cX11_feed_0 dop_172 (by decide +kernel)
theorem dX11_feed_17 : decode cX11_feed 17 = .ok (.aload_n 0, 1) := dR0 (k := 0) (i := 17) bn_cX11_feed_0 dop_42 (by decide +kernel)
theorem dX11_feed_18 : decode cX11_feed 18 = .ok (.getfield 9, 3) := dR2 (f := Instr.getfield) (k := 0) (i := 18) bn_cX11_feed_0 dop_180 9 (by decide +kernel)
theorem dX11_feed_21 : decode cX11_feed 21 = .ok (.iconst 4, 1) := dR0 (k := 0) (i := 21) bn_cX11_feed_0 dop_7 (by decide +kernel)
theorem dX11_feed_22 : decode cX11_feed 22 = .ok (.iaload, 1) := dR0 (k := 0) (i := 22) bn_cX11_feed_0 dop_46 (by decide +kernel)
theorem dX11_feed_23 : decode cX11_feed 23 = .ok (.iload_n 3, 1) := dR0 (k := 0) (i := 23) bn_cX11_feed_0 dop_29 (by decide +kernel)
theorem dX11_feed_24 : decode cX11_feed 24 = .ok (.iadd, 1) := dR0 (k := 0) (i := 24) bn_cX11_feed_0 dop_96 (by decide +kernel)
theorem dX11_feed_25 : decode cX11_feed 25 = .ok (.bipush 50, 2) := dR1s (f := Instr.bipush) (k := 0) (i := 25) bn_cX11_feed_0 dop_16 50 50 (by decide +kernel)
theorem dX11_feed_27 : decode cX11_feed 27 = .ok (.if_icmp .le 10, 3) := dR2s (f := Instr.if_icmp .le) (k := 0) (i := 27) bn_cX11_feed_0 dop_164 10 10 (by decide +kernel)
theorem dX11_feed_30 : decode cX11_feed 30 = .ok (.aload_n 0, 1) := dR0 (k := 0) (i := 30) bn_cX11_feed_0 dop_42 (by decide +kernel)
theorem dX11_feed_31 : decode cX11_feed 31 = .ok (.ldc 75, 2) := dR1 (f := Instr.ldc) (k := 0) (i := 31) bn_cX11_feed_0 dop_18 75 (by decide +kernel)
theorem dX11_feed_33 : decode cX11_feed 33 = .ok (.invokevirtual 64, 3) := dR2 (f := Instr.invokevirtual) (k := 0) (i := 33) bn_cX11_feed_0 dop_182 64 (by decide +kernel)
theorem dX11_feed_36 : decode cX11_feed 36 = .ok (.ireturn, 1) := dR0 (k := 0) (i := 36) bn_cX11_feed_0 dop_172 (by decide +kernel)
theorem dX11_feed_37 : decode cX11_feed 37 = .ok (.iconst 0, 1) := dR0 (k := 0) (i := 37) bn_cX11_feed_0 dop_3 (by decide +kernel)
theorem dX11_feed_38 : decode cX11_feed 38 = .ok (.istore 4, 2) := dR1 (f := Instr.istore) (k := 0) (i := 38) bn_cX11_feed_0 dop_54 4 (by decide +kernel)
theorem dX11_feed_40 : decode cX11_feed 40 = .ok (.iload 4, 2) := dR1 (f := Instr.iload) (k := 0) (i := 40) bn_cX11_feed_0 dop_21 4 (by decide +kernel)
theorem dX11_feed_42 : decode cX11_feed 42 = .ok (.iload_n 3, 1) := dR0 (k := 0) (i := 42) bn_cX11_feed_0 dop_29 (by decide +kernel)
theorem dX11_feed_43 : decode cX11_feed 43 = .ok (.if_icmp .ge 46, 3) := dR2s (f := Instr.if_icmp .ge) (k := 0) (i := 43) bn_cX11_feed_0 dop_162 46 46 (by decide +kernel)
theorem dX11_feed_46 : decode cX11_feed 46 = .ok (.aload_n 0, 1) := dR0 (k := 0) (i := 46) bn_cX11_feed_0 dop_42 (by decide +kernel)
theorem dX11_feed_47 : decode cX11_feed 47 = .ok (.getfield 9, 3) := dR2 (f := Instr.getfield) (k := 0) (i := 47) bn_cX11_feed_0 dop_180 9 (by decide +kernel)
theorem dX11_feed_50 : decode cX11_feed 50 = .ok (.sipush 1131, 3) := dR2s (f := Instr.sipush) (k := 0) (i := 50) bn_cX11_feed_0 dop_17 1131 1131 (by decide +kernel)
theorem dX11_feed_53 : decode cX11_feed 53 = .ok (.aload_n 0, 1) := dR0 (k := 0) (i := 53) bn_cX11_feed_0 dop_42 (by decide +kernel)
theorem dX11_feed_54 : decode cX11_feed 54 = .ok (.getfield 9, 3) := dR2 (f := Instr.getfield) (k := 0) (i := 54) bn_cX11_feed_0 dop_180 9 (by decide +kernel)
theorem dX11_feed_57 : decode cX11_feed 57 = .ok (.iconst 4, 1) := dR0 (k := 0) (i := 57) bn_cX11_feed_0 dop_7 (by decide +kernel)
theorem dX11_feed_58 : decode cX11_feed 58 = .ok (.iaload, 1) := dR0 (k := 0) (i := 58) bn_cX11_feed_0 dop_46 (by decide +kernel)
theorem dX11_feed_59 : decode cX11_feed 59 = .ok (.iadd, 1) := dR0 (k := 0) (i := 59) bn_cX11_feed_0 dop_96 (by decide +kernel)
theorem dX11_feed_60 : decode cX11_feed 60 = .ok (.lload_n 1, 1) := dR0 (k := 0) (i := 60) bn_cX11_feed_0 dop_31 (by decide +kernel)
theorem dX11_feed_61 : decode cX11_feed 61 = .ok (.bipush 8, 2) := dR1s (f := Instr.bipush) (k := 0) (i := 61) bn_cX11_feed_0 dop_16 8 8 (by decide +kernel)
theorem dX11_feed_63 : decode cX11_feed 63 = .ok (.iload 4, 2) := dR1 (f := Instr.iload) (k := 0) (i := 63) bn_cX11_feed_0 dop_21 4 (by decide +kernel)
theorem dX11_feed_65 : decode cX11_feed 65 = .ok (.imul, 1) := dR0 (k := 0) (i := 65) bn_cX11_feed_0 dop_104 (by decide +kernel)
theorem dX11_feed_66 : decode cX11_feed 66 = .ok (.lshr, 1) := dR0 (k := 0) (i := 66) bn_cX11_feed_0 dop_123 (by decide +kernel)
theorem dX11_feed_67 : decode cX11_feed 67 = .ok (.ldc2_w 136, 3) := dR2 (f := Instr.ldc2_w) (k := 0) (i := 67) bn_cX11_feed_0 dop_20 136 (by decide +kernel)
theorem dX11_feed_70 : decode cX11_feed 70 = .ok (.land, 1) := dR0 (k := 0) (i := 70) bn_cX11_feed_0 dop_127 (by decide +kernel)
theorem dX11_feed_71 : decode cX11_feed 71 = .ok (.l2i, 1) := dR0 (k := 0) (i := 71) bn_cX11_feed_0 dop_136 (by decide +kernel)
theorem dX11_feed_72 : decode cX11_feed 72 = .ok (.iastore, 1) := dR0 (k := 0) (i := 72) bn_cX11_feed_0 dop_79 (by decide +kernel)
theorem dX11_feed_73 : decode cX11_feed 73 = .ok (.aload_n 0, 1) := dR0 (k := 0) (i := 73) bn_cX11_feed_0 dop_42 (by decide +kernel)
theorem dX11_feed_74 : decode cX11_feed 74 = .ok (.getfield 9, 3) := dR2 (f := Instr.getfield) (k := 0) (i := 74) bn_cX11_feed_0 dop_180 9 (by decide +kernel)
theorem dX11_feed_77 : decode cX11_feed 77 = .ok (.iconst 4, 1) := dR0 (k := 0) (i := 77) bn_cX11_feed_0 dop_7 (by decide +kernel)
theorem dX11_feed_78 : decode cX11_feed 78 = .ok (.dup2, 1) := dR0 (k := 0) (i := 78) bn_cX11_feed_0 dop_92 (by decide +kernel)
theorem dX11_feed_79 : decode cX11_feed 79 = .ok (.iaload, 1) := dR0 (k := 0) (i := 79) bn_cX11_feed_0 dop_46 (by decide +kernel)
theorem dX11_feed_80 : decode cX11_feed 80 = .ok (.iconst 1, 1) := dR0 (k := 0) (i := 80) bn_cX11_feed_0 dop_4 (by decide +kernel)
theorem dX11_feed_81 : decode cX11_feed 81 = .ok (.iadd, 1) := dR0 (k := 0) (i := 81) bn_cX11_feed_0 dop_96 (by decide +kernel)
theorem dX11_feed_82 : decode cX11_feed 82 = .ok (.iastore, 1) := dR0 (k := 0) (i := 82) bn_cX11_feed_0 dop_79 (by decide +kernel)
theorem dX11_feed_83 : decode cX11_feed 83 = .ok (.iinc 4 1, 3) := dRii (f := Instr.iinc) (k := 0) (i := 83) bn_cX11_feed_0 dop_132 4 1 1 (by decide +kernel)
theorem dX11_feed_86 : decode cX11_feed 86 = .ok (.goto (-46), 3) := dR2s (f := Instr.goto) (k := 0) (i := 86) bn_cX11_feed_0 dop_167 65490 (-46) (by decide +kernel)
theorem dX11_feed_89 : decode cX11_feed 89 = .ok (.aload_n 0, 1) := dR0 (k := 0) (i := 89) bn_cX11_feed_0 dop_42 (by decide +kernel)
theorem dX11_feed_90 : decode cX11_feed 90 = .ok (.getfield 9, 3) := dR2 (f := Instr.getfield) (k := 0) (i := 90) bn_cX11_feed_0 dop_180 9 (by decide +kernel)
theorem dX11_feed_93 : decode cX11_feed 93 = .ok (.iconst 4, 1) := dR0 (k := 0) (i := 93) bn_cX11_feed_0 dop_7 (by decide +kernel)
theorem dX11_feed_94 : decode cX11_feed 94 = .ok (.iaload, 1) := dR0 (k := 0) (i := 94) bn_cX11_feed_0 dop_46 (by decide +kernel)
theorem dX11_feed_95 : decode cX11_feed 95 = .ok (.ireturn, 1) := dR0 (k := 0) (i := 95) bn_cX11_feed_0 dop_172 (by decide +kernel)
set_option maxHeartbeats 4000000 in
set_option maxRecDepth 100000 in
theorem c_X11_feedG (l : Launch) (D : va_G) (cI : ClassId) (aK aV : Nat → Nat) (k k0 k1 k2 k4 k5 k6 k7 k8 ka kb kl ko : Nat) (sz : Nat) (c3 : Int32) (c9 : Int32) (cc : Int32) (cd : Int32) (ce : Int32) (cf : Int32) (cg : Int32) (ch : Int32) (ci : Int32) (cj : Int32) (ck : Int32) (cm : Int32) (cn : Int32) (c0 : Nat → Int32) (c4 : Nat → Int32) (a0 : Int64) (a1 : Int32) (pre0 : SIX c0 (-1)) : Met l yX11_feed (gW yX11_feed cX11_feed 5 (some .int)) ({ frames := 1, cells := 0, slots := 0, locals := 22 } : Room) (kPreX D cI aK aV [.ref k, .long a0, .int a1] [(k, .inr (11, [.ref k0, .ref k1, .ref k2, .int c3, .ref k4, .ref k5, .ref k6, .ref k7, .ref k8, .int c9, .ref ka, .ref kb, .int cc, .int cd, .int ce, .int cf, .int cg, .int ch, .int ci, .int cj, .int ck, .ref kl, .int cm, .int cn, .ref ko])), (k0, .inl (cI, 1201, .inl c0)), (k4, .inl (cI, 6, .inl c4))] sz) (va_Qi (fun (r : Int32) (u : (Nat → Int32) × (Nat → Int32)) => SIX u.1 (-1) ∧ r.toInt = fdR (c0 4) a1 ∧ (u.1 4).toInt = fdN (c0 4) a1 ∧ (∀ i : Nat, i ≠ 4 → u.1 i = fdP c0 a0 a1 i)) (fun u t => kWd D cI (va_A [(k, .inr (11, [.ref k0, .ref k1, .ref k2, .int c3, .ref k4, .ref k5, .ref k6, .ref k7, .ref k8, .int c9, .ref ka, .ref kb, .int cc, .int cd, .int ce, .int cf, .int cg, .int ch, .int ci, .int cj, .int ck, .ref kl, .int cm, .int cn, .ref ko])), (k0, .inl (cI, 1201, .inl c0)), (k4, .inl (cI, 6, .inl c4))] sz) [(k, .inr (11, [.ref k0, .ref k1, .ref k2, .int c3, .ref k4, .ref k5, .ref k6, .ref k7, .ref k8, .int c9, .ref ka, .ref kb, .int cc, .int cd, .int ce, .int cf, .int cg, .int ch, .int ci, .int cj, .int ck, .ref kl, .int cm, .int cn, .ref ko])), (k0, .inl (cI, 1201, .inl u.1)), (k4, .inl (cI, 6, .inl u.2))] t) (va_A [(k, .inr (11, [.ref k0, .ref k1, .ref k2, .int c3, .ref k4, .ref k5, .ref k6, .ref k7, .ref k8, .int c9, .ref ka, .ref kb, .int cc, .int cd, .int ce, .int cf, .int cg, .int ch, .int ci, .int cj, .int ck, .ref kl, .int cm, .int cn, .ref ko])), (k0, .inl (cI, 1201, .inl c0)), (k4, .inl (cI, 6, .inl c4))] sz)) 0 0 (va_A [(k, .inr (11, [.ref k0, .ref k1, .ref k2, .int c3, .ref k4, .ref k5, .ref k6, .ref k7, .ref k8, .int c9, .ref ka, .ref kb, .int cc, .int cd, .int ce, .int cf, .int cg, .int ch, .int ci, .int cj, .int ck, .ref kl, .int cm, .int cn, .ref ko])), (k0, .inl (cI, 1201, .inl c0)), (k4, .inl (cI, 6, .inl c4))] sz) := by
  refine kMetIX (own := RX11) (by decide +kernel) rfl (Nat.le_of_ble_eq_true rfl) ?_
  intro p e s m args below meth c hx hb hT hown hname hml A Q hK hP hD hS hA hN hXS hRet ls hl
  have hl : lv_has ls 5 [(0, .ref k), (1, .long a0), (3, .int a1)] := hl
  have lo_a1 := k_lo a1
  have hi_a1 := k_hi a1
  have lo_ci := k_lo ci
  have hi_ci := k_hi ci
  have hn4 := SB.n4 (And.left pre0)
  have pre0 : SIX c0 (-1) := pre0
  have nb_1 : 0 ≤ (c0 0).toInt ∧ (c0 0).toInt ≤ 2000 := SB.n0 (And.left pre0)
  have nb_2 : 0 ≤ (c0 1).toInt ∧ (c0 1).toInt ≤ 60 := SB.n1 (And.left pre0)
  have nb_3 : 0 ≤ (c0 2).toInt ∧ (c0 2).toInt ≤ 4 := SB.n2 (And.left pre0)
  refine lv_iload_n hx hb dX11_feed_0 rfl (lv_at hl 2 rfl) ?_
  refine lv_iconst (v := 1) hx hb dX11_feed_1 (by decide +kernel) ?_
  refine lv_bipush (v := 8) hx hb dX11_feed_2 (by decide +kernel) ?_
  refine kJi (wr := [(k, .inr (11, [.ref k0, .ref k1, .ref k2, .int c3, .ref k4, .ref k5, .ref k6, .ref k7, .ref k8, .int c9, .ref ka, .ref kb, .int cc, .int cd, .int ce, .int cf, .int cg, .int ch, .int ci, .int cj, .int ck, .ref kl, .int cm, .int cn, .ref ko])), (k0, .inl (cI, 1201, .inl c0)), (k4, .inl (cI, 6, .inl c4))]) (va_runS (As := [.int a1, .int 1, .int 8]) (rest := []) ⟨hx, hb, hml, hown, hT⟩ (c_X11_inG l D cI aK aV s.heap.size a1 1 8) (cwS 3 hT (gS_in mw_1238 mw_1236 mw_1237 mw_12) rfl rfl rfl (by decide +kernel) ⟨Nat.le_of_ble_eq_true rfl, Nat.le_of_ble_eq_true rfl⟩) (kStatX hK hP hD hN hXS hS hA [] rfl (by decide +kernel)) rfl rfl hl.1 rfl (lv_room (Nat.le_of_ble_eq_true rfl)) dX11_feed_4 ⟨Nat.le_of_ble_eq_true rfl, Nat.le_of_ble_eq_true rfl⟩) hP hD hS hA [] [0, 1, 2] rfl rfl (by decide +kernel) (by decide +kernel) ?_
  clear hP hD hS
  intro r_4 u_6 H locs w_5 hP hD hS
  replace hP : va_P D vwCl [(k, .inr (11, [.ref k0, .ref k1, .ref k2, .int c3, .ref k4, .ref k5, .ref k6, .ref k7, .ref k8, .int c9, .ref ka, .ref kb, .int cc, .int cd, .int ce, .int cf, .int cg, .int ch, .int ci, .int cj, .int ck, .ref kl, .int cm, .int cn, .ref ko])), (k0, .inl (cI, 1201, .inl c0)), (k4, .inl (cI, 6, .inl c4))] H := hP
  replace hD : va_D A [(k, .inr (11, [.ref k0, .ref k1, .ref k2, .int c3, .ref k4, .ref k5, .ref k6, .ref k7, .ref k8, .int c9, .ref ka, .ref kb, .int cc, .int cd, .int ce, .int cf, .int cg, .int ch, .int ci, .int cj, .int ck, .ref kl, .int cm, .int cn, .ref ko])), (k0, .inl (cI, 1201, .inl c0)), (k4, .inl (cI, 6, .inl c4))] := hD
  rcases w_5 with ⟨hr_4, h_7, h_8⟩ | ⟨hr_4, h_9⟩
  · try simp only [zl_1, zl_8] at h_7
    have h_7 : 1 ≤ a1.toInt := h_7
    try simp only [zl_1, zl_8] at h_8
    have h_8 : a1.toInt ≤ 8 := h_8
    obtain rfl : r_4 = 1 := hr_4.trans (by decide +kernel)
    refine b_if_ne hx hb zl_1 (tgt := 17) dX11_feed_7 (by decide +kernel) (fun c_10 => ?_) (fun c_10 => by exfalso; omega)
    refine lv_aload_n hx hb dX11_feed_17 rfl (lv_at hl 0 rfl) ?_
    refine va_get (D := D) (ci := 11) (v := .ref k0) (C := RX11) (T := TX11) (N := 25) hx hb hT giX11 hown hK hP 0 rfl rfl 0 (by decide +kernel) (hT (Cond.fieldLink RX11 9 "DesertWireModel" "s" "[I") mw_1156) (fun _ h9 => h9) rfl dX11_feed_18 ?_
    refine lv_iconst (v := 4) hx hb dX11_feed_21 (by decide +kernel) ?_
    refine k_iald (v := (c0 4)) hx hb hK hP 1 0 rfl rfl (k_inl (by decide +kernel)) rfl dX11_feed_22 ?_
    refine lv_topi (fun v_11 ev_11 => ?_)
    have lo_v_11 := k_lo v_11
    have hi_v_11 := k_hi v_11
    have tv_11 : v_11.toInt = (c0 4).toInt := by rw [ev_11]
    have b_12 : 0 ≤ v_11.toInt ∧ v_11.toInt ≤ 50 := by first | (rw [tv_11]; exact SB.n4 (And.left pre0)) | exact SB.n4 (And.left pre0) | omega
    refine lv_iload_n hx hb dX11_feed_23 rfl (lv_at hl 2 rfl) ?_
    refine lv_iadd hx hb dX11_feed_24 ?_
    refine lv_topi (fun v_13 ev_13 => ?_)
    have tv_13 : v_13.toInt = v_11.toInt + a1.toInt := by rw [ev_13]; exact k_addv rfl rfl (by omega) (by omega)
    refine lv_bipush (v := 50) hx hb dX11_feed_25 (by decide +kernel) ?_
    refine b_icmp_le hx hb rfl zl_50 (tgt := 37) dX11_feed_27 (by decide +kernel) (fun c_14 => ?_) (fun c_14 => ?_)
    · refine lv_iconst (v := 0) hx hb dX11_feed_37 (by decide +kernel) ?_
      refine lv_istore (lv' := [(4, .int 0), (0, .ref k), (1, .long a0), (3, .int a1)]) hx hb dX11_feed_38 hl (by decide +kernel) rfl ?_
      clear hl
      intro ls hl
      have hloop_40 : ∀ (fu_ : Nat) (l40_4 : Int32) (g40_k0 : Nat → Int32), 0 ≤ l40_4.toInt → SIX g40_k0 (-1) → (g40_k0 4).toInt = (c0 4).toInt + l40_4.toInt → l40_4.toInt ≤ a1.toInt → (∀ i : Nat, i ≠ 4 → g40_k0 i = apT c0 (1131 + (c0 4).toInt.toNat) a0 l40_4.toInt.toNat i) → (a1.toInt - l40_4.toInt).toNat < fu_ → ∀ (ls : Array Slot) (H : Heap) (locs : List Loc), lv_has ls 5 [(4, .int l40_4), (0, .ref k), (1, .long a0), (3, .int a1)] → va_P D vwCl [(k, .inr (11, [.ref k0, .ref k1, .ref k2, .int c3, .ref k4, .ref k5, .ref k6, .ref k7, .ref k8, .int c9, .ref ka, .ref kb, .int cc, .int cd, .int ce, .int cf, .int cg, .int ch, .int ci, .int cj, .int ck, .ref kl, .int cm, .int cn, .ref ko])), (k0, .inl (cI, 1201, .inl g40_k0)), (k4, .inl (cI, 6, .inl c4))] H → va_D A [(k, .inr (11, [.ref k0, .ref k1, .ref k2, .int c3, .ref k4, .ref k5, .ref k6, .ref k7, .ref k8, .int c9, .ref ka, .ref kb, .int cc, .int cd, .int ce, .int cf, .int cg, .int ch, .int ci, .int cj, .int ck, .ref kl, .int cm, .int cn, .ref ko])), (k0, .inl (cI, 1201, .inl g40_k0)), (k4, .inl (cI, 6, .inl c4))] → va_S A s.heap H locs → W p l e ({ frames := 1, cells := 0, slots := 0, locals := 22 } : Room) s m args below meth c H locs 0 0 Q (F0 m 40 ls []) := by
        intro fu_; induction fu_ with
        | zero => intro l40_4 g40_k0 i40_0 i40_1 i40_2 i40_3 i40_4 hm; exact absurd hm (by omega)
        | succ fu_ ih40 =>
            intro l40_4 g40_k0 i40_0 i40_1 i40_2 i40_3 i40_4 hm ls H locs hl hP hD hS
            have lo_l40_4 := k_lo l40_4
            have hi_l40_4 := k_hi l40_4
            have i40_1 : SIX g40_k0 (-1) := i40_1
            refine lv_iload hx hb dX11_feed_40 (lv_at hl 0 rfl) ?_
            refine lv_iload_n hx hb dX11_feed_42 rfl (lv_at hl 3 rfl) ?_
            refine b_icmp_ge hx hb rfl rfl (tgt := 89) dX11_feed_43 (by decide +kernel) (fun c_15 => ?_) (fun c_15 => ?_)
            · refine lv_aload_n hx hb dX11_feed_89 rfl (lv_at hl 1 rfl) ?_
              refine va_get (D := D) (ci := 11) (v := .ref k0) (C := RX11) (T := TX11) (N := 25) hx hb hT giX11 hown hK hP 0 rfl rfl 0 (by decide +kernel) (hT (Cond.fieldLink RX11 9 "DesertWireModel" "s" "[I") mw_1156) (fun _ h9 => h9) rfl dX11_feed_90 ?_
              refine lv_iconst (v := 4) hx hb dX11_feed_93 (by decide +kernel) ?_
              refine k_iald (v := (g40_k0 4)) hx hb hK hP 1 0 rfl rfl (k_inl (by decide +kernel)) rfl dX11_feed_94 ?_
              refine lv_topi (fun v_16 ev_16 => ?_)
              have lo_v_16 := k_lo v_16
              have hi_v_16 := k_hi v_16
              have tv_16 : v_16.toInt = (g40_k0 4).toInt := by rw [ev_16]
              have b_17 : 0 ≤ v_16.toInt ∧ v_16.toInt ≤ 50 := by first | (rw [tv_16]; exact SB.n4 (And.left i40_1)) | exact SB.n4 (And.left i40_1) | omega
              exact hRet (g40_k0, c4) [0, 1, 2] ⟨i40_1, (by (try dsimp only); unfold fdR; (repeat (first | rw [if_pos (by omega)] | rw [if_neg (by omega)])); first | done | exact (by omega)), (by (try dsimp only); unfold fdN; (repeat (first | rw [if_pos (by omega)] | rw [if_neg (by omega)])); first | done | exact (by omega)), (by (try dsimp only); intro i hi; unfold fdP; rw [if_pos (by omega), show a1.toInt.toNat = l40_4.toInt.toNat from by omega]; exact i40_4 i hi)⟩ hP hD (by decide +kernel) rfl hS rfl dX11_feed_95
            · refine lv_aload_n hx hb dX11_feed_46 rfl (lv_at hl 1 rfl) ?_
              refine va_get (D := D) (ci := 11) (v := .ref k0) (C := RX11) (T := TX11) (N := 25) hx hb hT giX11 hown hK hP 0 rfl rfl 0 (by decide +kernel) (hT (Cond.fieldLink RX11 9 "DesertWireModel" "s" "[I") mw_1156) (fun _ h9 => h9) rfl dX11_feed_47 ?_
              refine lv_sipush (v := 1131) hx hb dX11_feed_50 (by decide +kernel) ?_
              refine lv_aload_n hx hb dX11_feed_53 rfl (lv_at hl 1 rfl) ?_
              refine va_get (D := D) (ci := 11) (v := .ref k0) (C := RX11) (T := TX11) (N := 25) hx hb hT giX11 hown hK hP 0 rfl rfl 0 (by decide +kernel) (hT (Cond.fieldLink RX11 9 "DesertWireModel" "s" "[I") mw_1156) (fun _ h9 => h9) rfl dX11_feed_54 ?_
              refine lv_iconst (v := 4) hx hb dX11_feed_57 (by decide +kernel) ?_
              refine k_iald (v := (g40_k0 4)) hx hb hK hP 1 0 rfl rfl (k_inl (by decide +kernel)) rfl dX11_feed_58 ?_
              refine lv_topi (fun v_18 ev_18 => ?_)
              have lo_v_18 := k_lo v_18
              have hi_v_18 := k_hi v_18
              have tv_18 : v_18.toInt = (g40_k0 4).toInt := by rw [ev_18]
              have b_19 : 0 ≤ v_18.toInt ∧ v_18.toInt ≤ 50 := by first | (rw [tv_18]; exact SB.n4 (And.left i40_1)) | exact SB.n4 (And.left i40_1) | omega
              refine lv_iadd hx hb dX11_feed_59 ?_
              refine lv_topi (fun v_20 ev_20 => ?_)
              have tv_20 : v_20.toInt = 1131 + v_18.toInt := by rw [ev_20]; exact k_addv zl_1131 rfl (by omega) (by omega)
              refine lv_lload_n hx hb dX11_feed_60 rfl (lv_at hl 2 rfl) ?_
              refine lv_bipush (v := 8) hx hb dX11_feed_61 (by decide +kernel) ?_
              refine lv_iload hx hb dX11_feed_63 (lv_at hl 0 rfl) ?_
              refine lv_imul hx hb dX11_feed_65 ?_
              refine lv_topi (fun v_21 ev_21 => ?_)
              have tv_21 : v_21.toInt = 8 * l40_4.toInt := by rw [ev_21]; exact k_mulv zl_8 rfl (by omega) (by omega)
              refine lv_lshr hx hb dX11_feed_66 rfl ?_
              refine lv_topl (fun g_22 eg_22 => ?_)
              refine lv_ldc2 (v := 255) hx hb hown (hT _ mw_1469) dX11_feed_67 ?_
              refine lv_land hx hb dX11_feed_70 ?_
              refine lv_topl (fun g_23 eg_23 => ?_)
              refine lv_l2i (v := g_23.toInt32) hx hb dX11_feed_71 rfl ?_
              refine lv_topi (fun v_24 ev_24 => ?_)
              have lo_v_24 := k_lo v_24
              have hi_v_24 := k_hi v_24
              refine va_iast hx hb hK hP hD hS 1 0 rfl rfl (k_in (by omega) (by omega)) dX11_feed_72 ?_
              clear hP hD hS
              intro H locs hP hD hS
              replace hP : va_P D vwCl [(k, .inr (11, [.ref k0, .ref k1, .ref k2, .int c3, .ref k4, .ref k5, .ref k6, .ref k7, .ref k8, .int c9, .ref ka, .ref kb, .int cc, .int cd, .int ce, .int cf, .int cg, .int ch, .int ci, .int cj, .int ck, .ref kl, .int cm, .int cn, .ref ko])), (k0, .inl (cI, 1201, .inl (upd g40_k0 v_20.toNatClampNeg v_24))), (k4, .inl (cI, 6, .inl c4))] H := hP
              replace hD : va_D A [(k, .inr (11, [.ref k0, .ref k1, .ref k2, .int c3, .ref k4, .ref k5, .ref k6, .ref k7, .ref k8, .int c9, .ref ka, .ref kb, .int cc, .int cd, .int ce, .int cf, .int cg, .int ch, .int ci, .int cj, .int ck, .ref kl, .int cm, .int cn, .ref ko])), (k0, .inl (cI, 1201, .inl (upd g40_k0 v_20.toNatClampNeg v_24))), (k4, .inl (cI, 6, .inl c4))] := hD
              obtain ⟨f_25, ef_25⟩ : ∃ g : Nat → Int32, g = upd g40_k0 v_20.toNatClampNeg v_24 := ⟨_, rfl⟩
              rw [← ef_25] at hP hD
              have hS_26 : SIX f_25 (-1) := by first | exact SIX.free i40_1 ef_25 (by rw [k_clamp]; omega) | exact SIX.so i40_1 ef_25 (by rw [k_clamp]; omega) (by omega)
              have n_27 : (f_25 0).toInt = (g40_k0 0).toInt := by rw [updN ef_25 (by rw [k_clamp]; omega)]
              have n_28 : (f_25 1).toInt = (g40_k0 1).toInt := by rw [updN ef_25 (by rw [k_clamp]; omega)]
              have n_29 : (f_25 2).toInt = (g40_k0 2).toInt := by rw [updN ef_25 (by rw [k_clamp]; omega)]
              refine lv_aload_n hx hb dX11_feed_73 rfl (lv_at hl 1 rfl) ?_
              refine va_get (D := D) (ci := 11) (v := .ref k0) (C := RX11) (T := TX11) (N := 25) hx hb hT giX11 hown hK hP 0 rfl rfl 0 (by decide +kernel) (hT (Cond.fieldLink RX11 9 "DesertWireModel" "s" "[I") mw_1156) (fun _ h9 => h9) rfl dX11_feed_74 ?_
              refine lv_iconst (v := 4) hx hb dX11_feed_77 (by decide +kernel) ?_
              refine lv_dup2_11 hx hb dX11_feed_78 rfl rfl ?_
              refine k_iald (v := (g40_k0 4)) hx hb hK hP 1 0 rfl rfl (k_inl (by decide +kernel)) (show f_25 4 = (g40_k0 4) from (by rw [ef_25, pk_un (by rw [k_clamp]; omega)] <;> exact (show g40_k0 4 = (g40_k0 4) from rfl))) dX11_feed_79 ?_
              refine lv_topi (fun v_30 ev_30 => ?_)
              have lo_v_30 := k_lo v_30
              have hi_v_30 := k_hi v_30
              have tv_30 : v_30.toInt = (g40_k0 4).toInt := by rw [ev_30]
              have b_31 : 0 ≤ v_30.toInt ∧ v_30.toInt ≤ 50 := by first | (rw [tv_30]; exact SB.n4 (And.left hS_26)) | exact SB.n4 (And.left hS_26) | omega
              refine lv_iconst (v := 1) hx hb dX11_feed_80 (by decide +kernel) ?_
              refine lv_iadd hx hb dX11_feed_81 ?_
              refine lv_topi (fun v_32 ev_32 => ?_)
              have tv_32 : v_32.toInt = v_30.toInt + 1 := by rw [ev_32]; exact k_addv rfl zl_1 (by omega) (by omega)
              refine va_iast hx hb hK hP hD hS 1 0 rfl rfl (k_inl (by decide +kernel)) dX11_feed_82 ?_
              clear hP hD hS
              intro H locs hP hD hS
              replace hP : va_P D vwCl [(k, .inr (11, [.ref k0, .ref k1, .ref k2, .int c3, .ref k4, .ref k5, .ref k6, .ref k7, .ref k8, .int c9, .ref ka, .ref kb, .int cc, .int cd, .int ce, .int cf, .int cg, .int ch, .int ci, .int cj, .int ck, .ref kl, .int cm, .int cn, .ref ko])), (k0, .inl (cI, 1201, .inl (upd f_25 4 v_32))), (k4, .inl (cI, 6, .inl c4))] H := hP
              replace hD : va_D A [(k, .inr (11, [.ref k0, .ref k1, .ref k2, .int c3, .ref k4, .ref k5, .ref k6, .ref k7, .ref k8, .int c9, .ref ka, .ref kb, .int cc, .int cd, .int ce, .int cf, .int cg, .int ch, .int ci, .int cj, .int ck, .ref kl, .int cm, .int cn, .ref ko])), (k0, .inl (cI, 1201, .inl (upd f_25 4 v_32))), (k4, .inl (cI, 6, .inl c4))] := hD
              obtain ⟨f_33, ef_33⟩ : ∃ g : Nat → Int32, g = upd f_25 4 v_32 := ⟨_, rfl⟩
              rw [← ef_33] at hP hD
              have hS_34 : SIX f_33 (-1) := SIX.n hS_26 ef_33 rfl (by decide +kernel) (by decide +kernel) (by omega)
              have n_35 : (f_33 0).toInt = (f_25 0).toInt := by rw [updN ef_33 (by omega)]
              have n_36 : (f_33 1).toInt = (f_25 1).toInt := by rw [updN ef_33 (by omega)]
              have n_37 : (f_33 2).toInt = (f_25 2).toInt := by rw [updN ef_33 (by omega)]
              obtain ⟨v_38, ev_38⟩ : ∃ y : Int32, y = l40_4 + 1 := ⟨_, rfl⟩
              have tv_38 : v_38.toInt = l40_4.toInt + 1 := by rw [ev_38]; exact k_addv rfl zl_1 (by omega) (by omega)
              refine lv_iinc (v := v_38) (lv' := [(4, .int v_38), (0, .ref k), (1, .long a0), (3, .int a1)]) hx hb dX11_feed_83 hl (k := 0) rfl (by rw [ev_38]; rfl) (by decide +kernel) rfl ?_
              clear hl
              intro ls hl
              refine lv_goto (tgt := 40) hx hb dX11_feed_86 (by decide +kernel) ?_
              exact ih40 v_38 f_33 (by first | omega | decide | assumption | rfl) hS_34 (by rw [show f_33 4 = v_32 from (by rw [ef_33]; rfl)] <;> first | omega) (by first | omega | decide | assumption | rfl) (ap4_step i40_4 (by omega) (by omega) ef_25 ef_33 (by omega) (by omega) (by rw [ev_24, eg_23, eg_22]; show byR a0 v_21 = _; rw [by_yi (y := v_21) (i := l40_4) (by omega) (by omega) (by omega)]; rfl)) (by omega) ls _ _ (lv_sub hl [0, 1, 2, 3] rfl) (hP.sub [0, 1, 2] rfl) (hD.sub [0, 1, 2] (by decide +kernel) rfl) hS
      exact hloop_40 _ 0 c0 (by first | omega | (simp only [zl_0]; first | done | omega) | decide | assumption | rfl) pre0 (by first | omega | (simp only [zl_0]; first | done | omega) | decide | assumption | rfl) (by first | omega | (simp only [zl_0]; first | done | omega) | decide | assumption | rfl) (fun i hi => by rw [zl_0]; rfl) (Nat.lt_succ_self _) ls _ _ (lv_sub hl [0, 1, 2, 3] rfl) hP hD hS
    · refine lv_aload_n hx hb dX11_feed_30 rfl (lv_at hl 0 rfl) ?_
      refine lv_ldc (v := (-1000004)) hx hb hown (hT _ mw_1256) dX11_feed_31 ?_
      refine kJi (wr := [(k0, .inl (cI, 1201, .inl c0))]) (va_runV (As := [.int (-1000004)]) (rest := []) ⟨hx, hb, hml, hown, hT⟩ (c_X11_findingG l D cI aK aV k k0 k1 k2 k4 k5 k6 k7 k8 ka kb kl ko H.size c3 c9 cc cd ce cf cg ch ci cj ck cm cn c4 (-1000004) (by first | omega | (simp only [zl_m1000004]; first | done | omega) | decide | assumption | rfl) (by first | omega | (simp only [zl_m1000004]; first | done | omega) | decide | assumption | rfl)) (cwV 1 hT (gV_in mw_1243 mw_1240 mw_1242 mw_p3_8 mw_12) rfl rfl rfl (by decide +kernel) ⟨Nat.le_of_ble_eq_true rfl, Nat.le_of_ble_eq_true rfl⟩) (kRecvX (q0 := 0) (ci := 11) hK hP hD hN hXS hS hA rfl rfl [0, 2] rfl (by decide +kernel)) rfl rfl hl.1 rfl (lv_room (Nat.le_of_ble_eq_true rfl)) dX11_feed_33 ⟨Nat.le_of_ble_eq_true rfl, Nat.le_of_ble_eq_true rfl⟩) hP hD hS hA [0, 2] [1] rfl rfl (by decide +kernel) (by decide +kernel) ?_
      clear hP hD hS
      intro r_39 sc4_41 H locs w_40 hP hD hS
      replace hP : va_P D vwCl [(k0, .inl (cI, 1201, .inl c0)), (k, .inr (11, [.ref k0, .ref k1, .ref k2, .int c3, .ref k4, .ref k5, .ref k6, .ref k7, .ref k8, .int c9, .ref ka, .ref kb, .int cc, .int cd, .int ce, .int cf, .int cg, .int ch, .int ci, .int cj, .int ck, .ref kl, .int cm, .int cn, .ref ko])), (k4, .inl (cI, 6, .inl sc4_41))] H := hP
      replace hD : va_D A [(k0, .inl (cI, 1201, .inl c0)), (k, .inr (11, [.ref k0, .ref k1, .ref k2, .int c3, .ref k4, .ref k5, .ref k6, .ref k7, .ref k8, .int c9, .ref ka, .ref kb, .int cc, .int cd, .int ce, .int cf, .int cg, .int ch, .int ci, .int cj, .int ck, .ref kl, .int cm, .int cn, .ref ko])), (k4, .inl (cI, 6, .inl sc4_41))] := hD
      have hr_39 := w_40
      obtain rfl : r_39 = (-1000004) := hr_39.trans (by decide +kernel)
      exact hRet (c0, sc4_41) [1, 0, 2] ⟨pre0, (by (try dsimp only); rw [zl_m1000004]; unfold fdR; (repeat (first | rw [if_pos (by omega)] | rw [if_neg (by omega)])); first | done | exact (by omega)), (by (try dsimp only); unfold fdN; (repeat (first | rw [if_pos (by omega)] | rw [if_neg (by omega)])); first | done | exact (by omega)), (by (try dsimp only); intro i _; unfold fdP; (repeat (first | rw [if_pos (by omega)] | rw [if_neg (by omega)])))⟩ hP hD (by decide +kernel) rfl hS rfl dX11_feed_36
  · try simp only [zl_1, zl_8] at h_9
    have h_9 : a1.toInt < 1 ∨ 8 < a1.toInt := h_9
    obtain rfl : r_4 = 0 := hr_4.trans (by decide +kernel)
    refine b_if_ne hx hb zl_0 (tgt := 17) dX11_feed_7 (by decide +kernel) (fun c_42 => by exfalso; omega) (fun c_42 => ?_)
    refine lv_aload_n hx hb dX11_feed_10 rfl (lv_at hl 0 rfl) ?_
    refine lv_ldc (v := (-1000001)) hx hb hown (hT _ mw_1239) dX11_feed_11 ?_
    refine kJi (wr := [(k0, .inl (cI, 1201, .inl c0))]) (va_runV (As := [.int (-1000001)]) (rest := []) ⟨hx, hb, hml, hown, hT⟩ (c_X11_findingG l D cI aK aV k k0 k1 k2 k4 k5 k6 k7 k8 ka kb kl ko H.size c3 c9 cc cd ce cf cg ch ci cj ck cm cn c4 (-1000001) (by first | omega | (simp only [zl_m1000001]; first | done | omega) | decide | assumption | rfl) (by first | omega | (simp only [zl_m1000001]; first | done | omega) | decide | assumption | rfl)) (cwV 1 hT (gV_in mw_1243 mw_1240 mw_1242 mw_p3_8 mw_12) rfl rfl rfl (by decide +kernel) ⟨Nat.le_of_ble_eq_true rfl, Nat.le_of_ble_eq_true rfl⟩) (kRecvX (q0 := 0) (ci := 11) hK hP hD hN hXS hS hA rfl rfl [0, 2] rfl (by decide +kernel)) rfl rfl hl.1 rfl (lv_room (Nat.le_of_ble_eq_true rfl)) dX11_feed_13 ⟨Nat.le_of_ble_eq_true rfl, Nat.le_of_ble_eq_true rfl⟩) hP hD hS hA [0, 2] [1] rfl rfl (by decide +kernel) (by decide +kernel) ?_
    clear hP hD hS
    intro r_43 sc4_45 H locs w_44 hP hD hS
    replace hP : va_P D vwCl [(k0, .inl (cI, 1201, .inl c0)), (k, .inr (11, [.ref k0, .ref k1, .ref k2, .int c3, .ref k4, .ref k5, .ref k6, .ref k7, .ref k8, .int c9, .ref ka, .ref kb, .int cc, .int cd, .int ce, .int cf, .int cg, .int ch, .int ci, .int cj, .int ck, .ref kl, .int cm, .int cn, .ref ko])), (k4, .inl (cI, 6, .inl sc4_45))] H := hP
    replace hD : va_D A [(k0, .inl (cI, 1201, .inl c0)), (k, .inr (11, [.ref k0, .ref k1, .ref k2, .int c3, .ref k4, .ref k5, .ref k6, .ref k7, .ref k8, .int c9, .ref ka, .ref kb, .int cc, .int cd, .int ce, .int cf, .int cg, .int ch, .int ci, .int cj, .int ck, .ref kl, .int cm, .int cn, .ref ko])), (k4, .inl (cI, 6, .inl sc4_45))] := hD
    have hr_43 := w_44
    obtain rfl : r_43 = (-1000001) := hr_43.trans (by decide +kernel)
    exact hRet (c0, sc4_45) [1, 0, 2] ⟨pre0, (by (try dsimp only); rw [zl_m1000001]; unfold fdR; (repeat (first | rw [if_pos (by omega)] | rw [if_neg (by omega)])); first | done | exact (by omega)), (by (try dsimp only); unfold fdN; (repeat (first | rw [if_pos (by omega)] | rw [if_neg (by omega)])); first | done | exact (by omega)), (by (try dsimp only); intro i _; unfold fdP; (repeat (first | rw [if_pos (by omega)] | rw [if_neg (by omega)])))⟩ hP hD (by decide +kernel) rfl hS rfl dX11_feed_16
theorem bn_cX11_now_0 : BN cX11_now 0 0x15a0302805502f30a2c02b515a4802b51582802b51585402a3478056a2b458056a2b := by
  unfold BN; decide +kernel
theorem dX11_now_0 : decode cX11_now 0 = .ok (.aload_n 0, 1) := dR0 (k := 0) (i := 0) bn_cX11_now_0 dop_42 (by decide +kernel)
theorem dX11_now_1 : decode cX11_now 1 = .ok (.getfield 138, 3) := dR2 (f := Instr.getfield) (k := 0) (i := 1) bn_cX11_now_0 dop_180 138 (by decide +kernel)
theorem dX11_now_4 : decode cX11_now 4 = .ok (.aload_n 0, 1) := dR0 (k := 0) (i := 4) bn_cX11_now_0 dop_42 (by decide +kernel)
theorem dX11_now_5 : decode cX11_now 5 = .ok (.getfield 142, 3) := dR2 (f := Instr.getfield) (k := 0) (i := 5) bn_cX11_now_0 dop_180 142 (by decide +kernel)
theorem dX11_now_8 : decode cX11_now 8 = .ok (.if_icmp .ge 20, 3) := dR2s (f := Instr.if_icmp .ge) (k := 0) (i := 8) bn_cX11_now_0 dop_162 20 20 (by decide +kernel)
theorem dX11_now_11 : decode cX11_now 11 = .ok (.aload_n 0, 1) := dR0 (k := 0) (i := 11) bn_cX11_now_0 dop_42 (by decide +kernel)
theorem dX11_now_12 : decode cX11_now 12 = .ok (.getfield 9, 3) := dR2 (f := Instr.getfield) (k := 0) (i := 12) bn_cX11_now_0 dop_180 9 (by decide +kernel)
theorem dX11_now_15 : decode cX11_now 15 = .ok (.aload_n 0, 1) := dR0 (k := 0) (i := 15) bn_cX11_now_0 dop_42 (by decide +kernel)
theorem dX11_now_16 : decode cX11_now 16 = .ok (.getfield 145, 3) := dR2 (f := Instr.getfield) (k := 0) (i := 16) bn_cX11_now_0 dop_180 145 (by decide +kernel)
theorem dX11_now_19 : decode cX11_now 19 = .ok (.aload_n 0, 1) := dR0 (k := 0) (i := 19) bn_cX11_now_0 dop_42 (by decide +kernel)
theorem dX11_now_20 : decode cX11_now 20 = .ok (.getfield 138, 3) := dR2 (f := Instr.getfield) (k := 0) (i := 20) bn_cX11_now_0 dop_180 138 (by decide +kernel)
theorem dX11_now_23 : decode cX11_now 23 = .ok (.iadd, 1) := dR0 (k := 0) (i := 23) bn_cX11_now_0 dop_96 (by decide +kernel)
theorem dX11_now_24 : decode cX11_now 24 = .ok (.iaload, 1) := dR0 (k := 0) (i := 24) bn_cX11_now_0 dop_46 (by decide +kernel)
theorem dX11_now_25 : decode cX11_now 25 = .ok (.goto 4, 3) := dR2s (f := Instr.goto) (k := 0) (i := 25) bn_cX11_now_0 dop_167 4 4 (by decide +kernel)
theorem dX11_now_28 : decode cX11_now 28 = .ok (.iconst (-1), 1) := dR0 (k := 0) (i := 28) bn_cX11_now_0 dop_2 (by decide +kernel)
theorem dX11_now_29 : decode cX11_now 29 = .ok (.ireturn, 1) := dR0 (k := 0) (i := 29) bn_cX11_now_0 dop_172 (by decide +kernel)
set_option maxHeartbeats 4000000 in
set_option maxRecDepth 100000 in
theorem c_X11_nowG (l : Launch) (D : va_G) (cI : ClassId) (aK aV : Nat → Nat) (k k0 k1 k2 k4 k5 k6 k7 k8 ka kb kl ko : Nat) (sz : Nat) (c3 : Int32) (c9 : Int32) (cc : Int32) (cd : Int32) (ce : Int32) (cf : Int32) (cg : Int32) (ch : Int32) (ci : Int32) (cj : Int32) (ck : Int32) (cm : Int32) (cn : Int32) (c0 : Nat → Int32) (pre0 : 0 ≤ cc.toInt) (pre1 : cc.toInt ≤ 1151) (pre2 : 0 ≤ cd.toInt) (pre3 : cd.toInt ≤ ce.toInt) (pre4 : ce.toInt ≤ 50) : Met l yX11_now (gW yX11_now cX11_now 1 (some .int)) ({ frames := 0, cells := 0, slots := 0, locals := 0 } : Room) (kPreX D cI aK aV [.ref k] [(k, .inr (11, [.ref k0, .ref k1, .ref k2, .int c3, .ref k4, .ref k5, .ref k6, .ref k7, .ref k8, .int c9, .ref ka, .ref kb, .int cc, .int cd, .int ce, .int cf, .int cg, .int ch, .int ci, .int cj, .int ck, .ref kl, .int cm, .int cn, .ref ko])), (k0, .inl (cI, 1201, .inl c0))] sz) (va_Qi (fun (r : Int32) (u : Unit) => (r = tG c0 cc.toInt.toNat ce cd.toInt ∧ cd.toInt < ce.toInt) ∨ (r = (-1) ∧ r = tG c0 cc.toInt.toNat ce cd.toInt ∧ cd.toInt = ce.toInt)) (fun u t => kWd D cI (va_A [(k, .inr (11, [.ref k0, .ref k1, .ref k2, .int c3, .ref k4, .ref k5, .ref k6, .ref k7, .ref k8, .int c9, .ref ka, .ref kb, .int cc, .int cd, .int ce, .int cf, .int cg, .int ch, .int ci, .int cj, .int ck, .ref kl, .int cm, .int cn, .ref ko])), (k0, .inl (cI, 1201, .inl c0))] sz) [(k, .inr (11, [.ref k0, .ref k1, .ref k2, .int c3, .ref k4, .ref k5, .ref k6, .ref k7, .ref k8, .int c9, .ref ka, .ref kb, .int cc, .int cd, .int ce, .int cf, .int cg, .int ch, .int ci, .int cj, .int ck, .ref kl, .int cm, .int cn, .ref ko])), (k0, .inl (cI, 1201, .inl c0))] t) (va_A [(k, .inr (11, [.ref k0, .ref k1, .ref k2, .int c3, .ref k4, .ref k5, .ref k6, .ref k7, .ref k8, .int c9, .ref ka, .ref kb, .int cc, .int cd, .int ce, .int cf, .int cg, .int ch, .int ci, .int cj, .int ck, .ref kl, .int cm, .int cn, .ref ko])), (k0, .inl (cI, 1201, .inl c0))] sz)) 0 0 (va_A [(k, .inr (11, [.ref k0, .ref k1, .ref k2, .int c3, .ref k4, .ref k5, .ref k6, .ref k7, .ref k8, .int c9, .ref ka, .ref kb, .int cc, .int cd, .int ce, .int cf, .int cg, .int ch, .int ci, .int cj, .int ck, .ref kl, .int cm, .int cn, .ref ko])), (k0, .inl (cI, 1201, .inl c0))] sz) := by
  refine kMetIX (own := RX11) (by decide +kernel) rfl (Nat.le_of_ble_eq_true rfl) ?_
  intro p e s m args below meth c hx hb hT hown hname hml A Q hK hP hD hS hA hN hXS hRet ls hl
  have hl : lv_has ls 1 [(0, .ref k)] := hl
  have lo_cc := k_lo cc
  have hi_cc := k_hi cc
  have lo_cd := k_lo cd
  have hi_cd := k_hi cd
  have lo_ce := k_lo ce
  have hi_ce := k_hi ce
  have lo_ci := k_lo ci
  have hi_ci := k_hi ci
  refine lv_aload_n hx hb dX11_now_0 rfl (lv_at hl 0 rfl) ?_
  refine va_get (D := D) (ci := 11) (v := .int cd) (C := RX11) (T := TX11) (N := 25) hx hb hT giX11 hown hK hP 0 rfl rfl 13 (by decide +kernel) (hT (Cond.fieldLink RX11 138 "DesertWireModel" "here" "I") mw_1169) (fun _ h9 => h9) rfl dX11_now_1 ?_
  refine lv_aload_n hx hb dX11_now_4 rfl (lv_at hl 0 rfl) ?_
  refine va_get (D := D) (ci := 11) (v := .int ce) (C := RX11) (T := TX11) (N := 25) hx hb hT giX11 hown hK hP 0 rfl rfl 14 (by decide +kernel) (hT (Cond.fieldLink RX11 142 "DesertWireModel" "end" "I") mw_1170) (fun _ h9 => h9) rfl dX11_now_5 ?_
  refine b_icmp_ge hx hb rfl rfl (tgt := 28) dX11_now_8 (by decide +kernel) (fun c_1 => ?_) (fun c_1 => ?_)
  · refine lv_iconst (v := (-1)) hx hb dX11_now_28 (by decide +kernel) ?_
    exact hRet () [0, 1] (by first | exact Or.inl ⟨(tG_out (by omega)), (by omega)⟩ | exact Or.inr (⟨rfl, (tG_out (by omega)), (by omega)⟩)) hP hD (by decide +kernel) rfl hS rfl dX11_now_29
  · refine lv_aload_n hx hb dX11_now_11 rfl (lv_at hl 0 rfl) ?_
    refine va_get (D := D) (ci := 11) (v := .ref k0) (C := RX11) (T := TX11) (N := 25) hx hb hT giX11 hown hK hP 0 rfl rfl 0 (by decide +kernel) (hT (Cond.fieldLink RX11 9 "DesertWireModel" "s" "[I") mw_1156) (fun _ h9 => h9) rfl dX11_now_12 ?_
    refine lv_aload_n hx hb dX11_now_15 rfl (lv_at hl 0 rfl) ?_
    refine va_get (D := D) (ci := 11) (v := .int cc) (C := RX11) (T := TX11) (N := 25) hx hb hT giX11 hown hK hP 0 rfl rfl 12 (by decide +kernel) (hT (Cond.fieldLink RX11 145 "DesertWireModel" "from" "I") mw_1168) (fun _ h9 => h9) rfl dX11_now_16 ?_
    refine lv_aload_n hx hb dX11_now_19 rfl (lv_at hl 0 rfl) ?_
    refine va_get (D := D) (ci := 11) (v := .int cd) (C := RX11) (T := TX11) (N := 25) hx hb hT giX11 hown hK hP 0 rfl rfl 13 (by decide +kernel) (hT (Cond.fieldLink RX11 138 "DesertWireModel" "here" "I") mw_1169) (fun _ h9 => h9) rfl dX11_now_20 ?_
    refine lv_iadd hx hb dX11_now_23 ?_
    refine lv_topi (fun v_2 ev_2 => ?_)
    have tv_2 : v_2.toInt = cc.toInt + cd.toInt := by rw [ev_2]; exact k_addv rfl rfl (by omega) (by omega)
    refine k_iald (v := (c0 v_2.toNatClampNeg)) hx hb hK hP 1 0 rfl rfl (k_in (by omega) (by omega)) rfl dX11_now_24 ?_
    refine lv_topi (fun v_3 ev_3 => ?_)
    have lo_v_3 := k_lo v_3
    have hi_v_3 := k_hi v_3
    have tv_3 : v_3.toInt = (c0 v_2.toNatClampNeg).toInt := by rw [ev_3]
    refine lv_goto (tgt := 29) hx hb dX11_now_25 (by decide +kernel) ?_
    exact hRet () [0, 1] (by first | exact Or.inl ⟨(tG_inD ev_3 (by omega) (by omega) (by omega)), (by omega)⟩ | exact Or.inr (⟨ev_3, (tG_inD ev_3 (by omega) (by omega) (by omega)), (by omega)⟩)) hP hD (by decide +kernel) rfl hS rfl dX11_now_29
theorem bn_cX11_takes_0 : BN cX11_takes 0 0xad0ea2c02b6308100a015401410014d07516015a968563e0201402a80282002a10e26402b715840029b4a8056a2b := by
  unfold BN; decide +kernel
theorem dX11_takes_0 : decode cX11_takes 0 = .ok (.aload_n 0, 1) := dR0 (k := 0) (i := 0) bn_cX11_takes_0 dop_42 (by decide +kernel)
theorem dX11_takes_1 : decode cX11_takes 1 = .ok (.getfield 148, 3) := dR2 (f := Instr.getfield) (k := 0) (i := 1) bn_cX11_takes_0 dop_180 148 (by decide +kernel)
theorem dX11_takes_4 : decode cX11_takes 4 = .ok (.ifCond .ne 15, 3) := dR2s (f := Instr.ifCond .ne) (k := 0) (i := 4) bn_cX11_takes_0 dop_154 15 15 (by decide +kernel)
theorem dX11_takes_7 : decode cX11_takes 7 = .ok (.aload_n 0, 1) := dR0 (k := 0) (i := 7) bn_cX11_takes_0 dop_42 (by decide +kernel)
theorem dX11_takes_8 : decode cX11_takes 8 = .ok (.invokevirtual 152, 3) := dR2 (f := Instr.invokevirtual) (k := 0) (i := 8) bn_cX11_takes_0 dop_182 152 (by decide +kernel)
theorem dX11_takes_11 : decode cX11_takes 11 = .ok (.iload_n 1, 1) := dR0 (k := 0) (i := 11) bn_cX11_takes_0 dop_27 (by decide +kernel)
theorem dX11_takes_12 : decode cX11_takes 12 = .ok (.if_icmp .ne 7, 3) := dR2s (f := Instr.if_icmp .ne) (k := 0) (i := 12) bn_cX11_takes_0 dop_160 7 7 (by decide +kernel)
theorem dX11_takes_15 : decode cX11_takes 15 = .ok (.iconst 1, 1) := dR0 (k := 0) (i := 15) bn_cX11_takes_0 dop_4 (by decide +kernel)
theorem dX11_takes_16 : decode cX11_takes 16 = .ok (.goto 4, 3) := dR2s (f := Instr.goto) (k := 0) (i := 16) bn_cX11_takes_0 dop_167 4 4 (by decide +kernel)
theorem dX11_takes_19 : decode cX11_takes 19 = .ok (.iconst 0, 1) := dR0 (k := 0) (i := 19) bn_cX11_takes_0 dop_3 (by decide +kernel)
theorem dX11_takes_20 : decode cX11_takes 20 = .ok (.istore_n 2, 1) := dR0 (k := 0) (i := 20) bn_cX11_takes_0 dop_61 (by decide +kernel)
theorem dX11_takes_21 : decode cX11_takes 21 = .ok (.aload_n 0, 1) := dR0 (k := 0) (i := 21) bn_cX11_takes_0 dop_42 (by decide +kernel)
theorem dX11_takes_22 : decode cX11_takes 22 = .ok (.dup, 1) := dR0 (k := 0) (i := 22) bn_cX11_takes_0 dop_89 (by decide +kernel)
theorem dX11_takes_23 : decode cX11_takes 23 = .ok (.getfield 138, 3) := dR2 (f := Instr.getfield) (k := 0) (i := 23) bn_cX11_takes_0 dop_180 138 (by decide +kernel)
theorem dX11_takes_26 : decode cX11_takes 26 = .ok (.iload_n 2, 1) := dR0 (k := 0) (i := 26) bn_cX11_takes_0 dop_28 (by decide +kernel)
theorem dX11_takes_27 : decode cX11_takes 27 = .ok (.ifCond .eq 7, 3) := dR2s (f := Instr.ifCond .eq) (k := 0) (i := 27) bn_cX11_takes_0 dop_153 7 7 (by decide +kernel)
theorem dX11_takes_30 : decode cX11_takes 30 = .ok (.iconst 1, 1) := dR0 (k := 0) (i := 30) bn_cX11_takes_0 dop_4 (by decide +kernel)
theorem dX11_takes_31 : decode cX11_takes 31 = .ok (.goto 4, 3) := dR2s (f := Instr.goto) (k := 0) (i := 31) bn_cX11_takes_0 dop_167 4 4 (by decide +kernel)
theorem dX11_takes_34 : decode cX11_takes 34 = .ok (.iconst 0, 1) := dR0 (k := 0) (i := 34) bn_cX11_takes_0 dop_3 (by decide +kernel)
theorem dX11_takes_35 : decode cX11_takes 35 = .ok (.iadd, 1) := dR0 (k := 0) (i := 35) bn_cX11_takes_0 dop_96 (by decide +kernel)
theorem dX11_takes_36 : decode cX11_takes 36 = .ok (.putfield 138, 3) := dR2 (f := Instr.putfield) (k := 0) (i := 36) bn_cX11_takes_0 dop_181 138 (by decide +kernel)
theorem dX11_takes_39 : decode cX11_takes 39 = .ok (.iload_n 2, 1) := dR0 (k := 0) (i := 39) bn_cX11_takes_0 dop_28 (by decide +kernel)
theorem dX11_takes_40 : decode cX11_takes 40 = .ok (.ireturn, 1) := dR0 (k := 0) (i := 40) bn_cX11_takes_0 dop_172 (by decide +kernel)
set_option maxHeartbeats 4000000 in
set_option maxRecDepth 100000 in
theorem c_X11_takesG (l : Launch) (D : va_G) (cI : ClassId) (aK aV : Nat → Nat) (k k0 k1 k2 k4 k5 k6 k7 k8 ka kb kl ko : Nat) (sz : Nat) (c3 : Int32) (c9 : Int32) (cc : Int32) (cd : Int32) (ce : Int32) (cf : Int32) (cg : Int32) (ch : Int32) (ci : Int32) (cj : Int32) (ck : Int32) (cm : Int32) (cn : Int32) (c0 : Nat → Int32) (a0 : Int32) (pre0 : 0 ≤ cc.toInt) (pre1 : cc.toInt ≤ 1151) (pre2 : 0 ≤ cd.toInt) (pre3 : cd.toInt ≤ ce.toInt) (pre4 : ce.toInt ≤ 50) (pre5 : 0 ≤ a0.toInt) : Met l yX11_takes (gW yX11_takes cX11_takes 3 (some .boolean)) ({ frames := 1, cells := 0, slots := 0, locals := 20 } : Room) (kPreX D cI aK aV [.ref k, .int a0] [(k, .inr (11, [.ref k0, .ref k1, .ref k2, .int c3, .ref k4, .ref k5, .ref k6, .ref k7, .ref k8, .int c9, .ref ka, .ref kb, .int cc, .int cd, .int ce, .int cf, .int cg, .int ch, .int ci, .int cj, .int ck, .ref kl, .int cm, .int cn, .ref ko])), (k0, .inl (cI, 1201, .inl c0))] sz) (va_Qi (fun (r : Int32) (u : Int32) => (r = 1 ∧ cf.toInt = 0 ∧ (tG c0 cc.toInt.toNat ce cd.toInt).toInt = a0.toInt ∧ u.toInt = cd.toInt + 1 ∧ cd.toInt < ce.toInt ∧ u.toInt ≤ ce.toInt) ∨ (r = 0 ∧ cf.toInt ≠ 0 ∧ u.toInt = cd.toInt) ∨ (r = 0 ∧ cf.toInt = 0 ∧ (tG c0 cc.toInt.toNat ce cd.toInt).toInt ≠ a0.toInt ∧ u.toInt = cd.toInt)) (fun u t => kWd D cI (va_A [(k, .inr (11, [.ref k0, .ref k1, .ref k2, .int c3, .ref k4, .ref k5, .ref k6, .ref k7, .ref k8, .int c9, .ref ka, .ref kb, .int cc, .int cd, .int ce, .int cf, .int cg, .int ch, .int ci, .int cj, .int ck, .ref kl, .int cm, .int cn, .ref ko])), (k0, .inl (cI, 1201, .inl c0))] sz) [(k, .inr (11, [.ref k0, .ref k1, .ref k2, .int c3, .ref k4, .ref k5, .ref k6, .ref k7, .ref k8, .int c9, .ref ka, .ref kb, .int cc, .int u, .int ce, .int cf, .int cg, .int ch, .int ci, .int cj, .int ck, .ref kl, .int cm, .int cn, .ref ko])), (k0, .inl (cI, 1201, .inl c0))] t) (va_A [(k, .inr (11, [.ref k0, .ref k1, .ref k2, .int c3, .ref k4, .ref k5, .ref k6, .ref k7, .ref k8, .int c9, .ref ka, .ref kb, .int cc, .int cd, .int ce, .int cf, .int cg, .int ch, .int ci, .int cj, .int ck, .ref kl, .int cm, .int cn, .ref ko])), (k0, .inl (cI, 1201, .inl c0))] sz)) 0 0 (va_A [(k, .inr (11, [.ref k0, .ref k1, .ref k2, .int c3, .ref k4, .ref k5, .ref k6, .ref k7, .ref k8, .int c9, .ref ka, .ref kb, .int cc, .int cd, .int ce, .int cf, .int cg, .int ch, .int ci, .int cj, .int ck, .ref kl, .int cm, .int cn, .ref ko])), (k0, .inl (cI, 1201, .inl c0))] sz) := by
  refine kMetIX (own := RX11) (by decide +kernel) rfl (Nat.le_of_ble_eq_true rfl) ?_
  intro p e s m args below meth c hx hb hT hown hname hml A Q hK hP hD hS hA hN hXS hRet ls hl
  have hl : lv_has ls 3 [(0, .ref k), (1, .int a0)] := hl
  have lo_a0 := k_lo a0
  have hi_a0 := k_hi a0
  have lo_cc := k_lo cc
  have hi_cc := k_hi cc
  have lo_cd := k_lo cd
  have hi_cd := k_hi cd
  have lo_ce := k_lo ce
  have hi_ce := k_hi ce
  have lo_cf := k_lo cf
  have hi_cf := k_hi cf
  have lo_ci := k_lo ci
  have hi_ci := k_hi ci
  refine lv_aload_n hx hb dX11_takes_0 rfl (lv_at hl 0 rfl) ?_
  refine va_get (D := D) (ci := 11) (v := .int cf) (C := RX11) (T := TX11) (N := 25) hx hb hT giX11 hown hK hP 0 rfl rfl 15 (by decide +kernel) (hT (Cond.fieldLink RX11 148 "DesertWireModel" "isWrong" "Z") mw_1171) (fun _ h9 => h9) rfl dX11_takes_1 ?_
  refine b_if_ne hx hb rfl (tgt := 19) dX11_takes_4 (by decide +kernel) (fun c_1 => ?_) (fun c_1 => ?_)
  · refine lv_iconst (v := 0) hx hb dX11_takes_19 (by decide +kernel) ?_
    refine lv_istore_n (lv' := [(2, .int 0), (0, .ref k), (1, .int a0)]) hx hb dX11_takes_20 rfl hl (by decide +kernel) rfl ?_
    clear hl
    intro ls hl
    refine lv_aload_n hx hb dX11_takes_21 rfl (lv_at hl 1 rfl) ?_
    refine lv_dup hx hb dX11_takes_22 rfl ?_
    refine va_get (D := D) (ci := 11) (v := .int cd) (C := RX11) (T := TX11) (N := 25) hx hb hT giX11 hown hK hP 0 rfl rfl 13 (by decide +kernel) (hT (Cond.fieldLink RX11 138 "DesertWireModel" "here" "I") mw_1169) (fun _ h9 => h9) rfl dX11_takes_23 ?_
    refine lv_iload_n hx hb dX11_takes_26 rfl (lv_at hl 0 rfl) ?_
    refine b_if_eq hx hb zl_0 (tgt := 34) dX11_takes_27 (by decide +kernel) (fun c_2 => ?_) (fun c_2 => by exfalso; omega)
    refine lv_iconst (v := 0) hx hb dX11_takes_34 (by decide +kernel) ?_
    refine lv_iadd hx hb dX11_takes_35 ?_
    refine lv_topi (fun v_3 ev_3 => ?_)
    have tv_3 : v_3.toInt = cd.toInt + 0 := by rw [ev_3]; exact k_addv rfl zl_0 (by omega) (by omega)
    refine va_put (D := D) (ci := 11) (v := .int v_3) (ty := .int) (C := RX11) (T := TX11) (N := 25) hx hb hT giX11 tyX11 tyX11_ok nmX11 hown hK hP hD hS 0 rfl rfl 13 (by decide +kernel) (hT (Cond.fieldLink RX11 138 "DesertWireModel" "here" "I") mw_1169) (fun _ h9 => h9) rfl (by decide +kernel) rfl rfl (Nat.le_of_ble_eq_true rfl) dX11_takes_36 ?_
    clear hP hD hS
    intro H locs hP hD hS
    replace hP : va_P D vwCl [(k, .inr (11, [.ref k0, .ref k1, .ref k2, .int c3, .ref k4, .ref k5, .ref k6, .ref k7, .ref k8, .int c9, .ref ka, .ref kb, .int cc, .int v_3, .int ce, .int cf, .int cg, .int ch, .int ci, .int cj, .int ck, .ref kl, .int cm, .int cn, .ref ko])), (k0, .inl (cI, 1201, .inl c0))] H := hP
    replace hD : va_D A [(k, .inr (11, [.ref k0, .ref k1, .ref k2, .int c3, .ref k4, .ref k5, .ref k6, .ref k7, .ref k8, .int c9, .ref ka, .ref kb, .int cc, .int v_3, .int ce, .int cf, .int cg, .int ch, .int ci, .int cj, .int ck, .ref kl, .int cm, .int cn, .ref ko])), (k0, .inl (cI, 1201, .inl c0))] := hD
    refine lv_iload_n hx hb dX11_takes_39 rfl (lv_at hl 0 rfl) ?_
    exact hRet v_3 [0, 1] (by first | exact Or.inr (Or.inl ⟨rfl, (by omega), (by omega)⟩) | exact Or.inr (Or.inr (⟨rfl, (by omega), (by omega), (by omega)⟩))) hP hD (by decide +kernel) rfl hS rfl dX11_takes_40
  · refine lv_aload_n hx hb dX11_takes_7 rfl (lv_at hl 0 rfl) ?_
    refine kJi (wr := []) (va_runV (As := []) (rest := []) ⟨hx, hb, hml, hown, hT⟩ (c_X11_nowG l D cI aK aV k k0 k1 k2 k4 k5 k6 k7 k8 ka kb kl ko s.heap.size c3 c9 cc cd ce cf cg ch ci cj ck cm cn c0 (by first | omega | decide | assumption | rfl) (by first | omega | decide | assumption | rfl) (by first | omega | decide | assumption | rfl) (by first | omega | decide | assumption | rfl) (by first | omega | decide | assumption | rfl)) (cwV 0 hT (gV_in mw_1339 mw_1336 mw_1338 mw_p4_9 mw_12) rfl rfl rfl (by decide +kernel) ⟨Nat.le_of_ble_eq_true rfl, Nat.le_of_ble_eq_true rfl⟩) (kRecvX (q0 := 0) (ci := 11) hK hP hD hN hXS hS hA rfl rfl [0, 1] rfl (by decide +kernel)) rfl rfl hl.1 rfl (lv_room (Nat.le_of_ble_eq_true rfl)) dX11_takes_8 ⟨Nat.le_of_ble_eq_true rfl, Nat.le_of_ble_eq_true rfl⟩) hP hD hS hA [0, 1] [] rfl rfl (by decide +kernel) (by decide +kernel) ?_
    clear hP hD hS
    intro r_4 u_6 H locs w_5 hP hD hS
    replace hP : va_P D vwCl [(k, .inr (11, [.ref k0, .ref k1, .ref k2, .int c3, .ref k4, .ref k5, .ref k6, .ref k7, .ref k8, .int c9, .ref ka, .ref kb, .int cc, .int cd, .int ce, .int cf, .int cg, .int ch, .int ci, .int cj, .int ck, .ref kl, .int cm, .int cn, .ref ko])), (k0, .inl (cI, 1201, .inl c0))] H := hP
    replace hD : va_D A [(k, .inr (11, [.ref k0, .ref k1, .ref k2, .int c3, .ref k4, .ref k5, .ref k6, .ref k7, .ref k8, .int c9, .ref ka, .ref kb, .int cc, .int cd, .int ce, .int cf, .int cg, .int ch, .int ci, .int cj, .int ck, .ref kl, .int cm, .int cn, .ref ko])), (k0, .inl (cI, 1201, .inl c0))] := hD
    rcases w_5 with ⟨h_7, h_8⟩ | ⟨hr_4, h_9, h_10⟩
    · have h_7 : r_4 = tG c0 cc.toInt.toNat ce cd.toInt := h_7
      have h_7 : r_4 = tG c0 cc.toInt.toNat ce cd.toInt := h_7
      have h_8 : cd.toInt < ce.toInt := h_8
      have lo_r_4 := k_lo r_4
      have hi_r_4 := k_hi r_4
      refine lv_iload_n hx hb dX11_takes_11 rfl (lv_at hl 1 rfl) ?_
      refine b_icmp_ne hx hb rfl rfl (tgt := 19) dX11_takes_12 (by decide +kernel) (fun c_11 => ?_) (fun c_11 => ?_)
      · refine lv_iconst (v := 0) hx hb dX11_takes_19 (by decide +kernel) ?_
        refine lv_istore_n (lv' := [(2, .int 0), (0, .ref k), (1, .int a0)]) hx hb dX11_takes_20 rfl hl (by decide +kernel) rfl ?_
        clear hl
        intro ls hl
        refine lv_aload_n hx hb dX11_takes_21 rfl (lv_at hl 1 rfl) ?_
        refine lv_dup hx hb dX11_takes_22 rfl ?_
        refine va_get (D := D) (ci := 11) (v := .int cd) (C := RX11) (T := TX11) (N := 25) hx hb hT giX11 hown hK hP 0 rfl rfl 13 (by decide +kernel) (hT (Cond.fieldLink RX11 138 "DesertWireModel" "here" "I") mw_1169) (fun _ h9 => h9) rfl dX11_takes_23 ?_
        refine lv_iload_n hx hb dX11_takes_26 rfl (lv_at hl 0 rfl) ?_
        refine b_if_eq hx hb zl_0 (tgt := 34) dX11_takes_27 (by decide +kernel) (fun c_12 => ?_) (fun c_12 => by exfalso; omega)
        refine lv_iconst (v := 0) hx hb dX11_takes_34 (by decide +kernel) ?_
        refine lv_iadd hx hb dX11_takes_35 ?_
        refine lv_topi (fun v_13 ev_13 => ?_)
        have tv_13 : v_13.toInt = cd.toInt + 0 := by rw [ev_13]; exact k_addv rfl zl_0 (by omega) (by omega)
        refine va_put (D := D) (ci := 11) (v := .int v_13) (ty := .int) (C := RX11) (T := TX11) (N := 25) hx hb hT giX11 tyX11 tyX11_ok nmX11 hown hK hP hD hS 0 rfl rfl 13 (by decide +kernel) (hT (Cond.fieldLink RX11 138 "DesertWireModel" "here" "I") mw_1169) (fun _ h9 => h9) rfl (by decide +kernel) rfl rfl (Nat.le_of_ble_eq_true rfl) dX11_takes_36 ?_
        clear hP hD hS
        intro H locs hP hD hS
        replace hP : va_P D vwCl [(k, .inr (11, [.ref k0, .ref k1, .ref k2, .int c3, .ref k4, .ref k5, .ref k6, .ref k7, .ref k8, .int c9, .ref ka, .ref kb, .int cc, .int v_13, .int ce, .int cf, .int cg, .int ch, .int ci, .int cj, .int ck, .ref kl, .int cm, .int cn, .ref ko])), (k0, .inl (cI, 1201, .inl c0))] H := hP
        replace hD : va_D A [(k, .inr (11, [.ref k0, .ref k1, .ref k2, .int c3, .ref k4, .ref k5, .ref k6, .ref k7, .ref k8, .int c9, .ref ka, .ref kb, .int cc, .int v_13, .int ce, .int cf, .int cg, .int ch, .int ci, .int cj, .int ck, .ref kl, .int cm, .int cn, .ref ko])), (k0, .inl (cI, 1201, .inl c0))] := hD
        refine lv_iload_n hx hb dX11_takes_39 rfl (lv_at hl 0 rfl) ?_
        exact hRet v_13 [0, 1] (by first | exact Or.inr (Or.inl ⟨rfl, (by omega), (by omega)⟩) | exact Or.inr (Or.inr (⟨rfl, (by omega), (by rw [← h_7]; first | omega | (rw [zl_m1]; omega)), (by omega)⟩))) hP hD (by decide +kernel) rfl hS rfl dX11_takes_40
      · refine lv_iconst (v := 1) hx hb dX11_takes_15 (by decide +kernel) ?_
        refine lv_goto (tgt := 20) hx hb dX11_takes_16 (by decide +kernel) ?_
        refine lv_istore_n (lv' := [(2, .int 1), (0, .ref k), (1, .int a0)]) hx hb dX11_takes_20 rfl hl (by decide +kernel) rfl ?_
        clear hl
        intro ls hl
        refine lv_aload_n hx hb dX11_takes_21 rfl (lv_at hl 1 rfl) ?_
        refine lv_dup hx hb dX11_takes_22 rfl ?_
        refine va_get (D := D) (ci := 11) (v := .int cd) (C := RX11) (T := TX11) (N := 25) hx hb hT giX11 hown hK hP 0 rfl rfl 13 (by decide +kernel) (hT (Cond.fieldLink RX11 138 "DesertWireModel" "here" "I") mw_1169) (fun _ h9 => h9) rfl dX11_takes_23 ?_
        refine lv_iload_n hx hb dX11_takes_26 rfl (lv_at hl 0 rfl) ?_
        refine b_if_eq hx hb zl_1 (tgt := 34) dX11_takes_27 (by decide +kernel) (fun c_14 => by exfalso; omega) (fun c_14 => ?_)
        refine lv_iconst (v := 1) hx hb dX11_takes_30 (by decide +kernel) ?_
        refine lv_goto (tgt := 35) hx hb dX11_takes_31 (by decide +kernel) ?_
        refine lv_iadd hx hb dX11_takes_35 ?_
        refine lv_topi (fun v_15 ev_15 => ?_)
        have tv_15 : v_15.toInt = cd.toInt + 1 := by rw [ev_15]; exact k_addv rfl zl_1 (by omega) (by omega)
        refine va_put (D := D) (ci := 11) (v := .int v_15) (ty := .int) (C := RX11) (T := TX11) (N := 25) hx hb hT giX11 tyX11 tyX11_ok nmX11 hown hK hP hD hS 0 rfl rfl 13 (by decide +kernel) (hT (Cond.fieldLink RX11 138 "DesertWireModel" "here" "I") mw_1169) (fun _ h9 => h9) rfl (by decide +kernel) rfl rfl (Nat.le_of_ble_eq_true rfl) dX11_takes_36 ?_
        clear hP hD hS
        intro H locs hP hD hS
        replace hP : va_P D vwCl [(k, .inr (11, [.ref k0, .ref k1, .ref k2, .int c3, .ref k4, .ref k5, .ref k6, .ref k7, .ref k8, .int c9, .ref ka, .ref kb, .int cc, .int v_15, .int ce, .int cf, .int cg, .int ch, .int ci, .int cj, .int ck, .ref kl, .int cm, .int cn, .ref ko])), (k0, .inl (cI, 1201, .inl c0))] H := hP
        replace hD : va_D A [(k, .inr (11, [.ref k0, .ref k1, .ref k2, .int c3, .ref k4, .ref k5, .ref k6, .ref k7, .ref k8, .int c9, .ref ka, .ref kb, .int cc, .int v_15, .int ce, .int cf, .int cg, .int ch, .int ci, .int cj, .int ck, .ref kl, .int cm, .int cn, .ref ko])), (k0, .inl (cI, 1201, .inl c0))] := hD
        refine lv_iload_n hx hb dX11_takes_39 rfl (lv_at hl 0 rfl) ?_
        exact hRet v_15 [0, 1] (Or.inl ⟨rfl, (by omega), (by rw [← h_7]; first | omega | (rw [zl_m1]; omega)), (by omega), (by omega), (by omega)⟩) hP hD (by decide +kernel) rfl hS rfl dX11_takes_40
    · have h_9 : r_4 = tG c0 cc.toInt.toNat ce cd.toInt := h_9
      have h_9 : r_4 = tG c0 cc.toInt.toNat ce cd.toInt := h_9
      have h_10 : cd.toInt = ce.toInt := h_10
      obtain rfl : r_4 = (-1) := hr_4.trans (by decide +kernel)
      refine lv_iload_n hx hb dX11_takes_11 rfl (lv_at hl 1 rfl) ?_
      refine b_icmp_ne hx hb zl_m1 rfl (tgt := 19) dX11_takes_12 (by decide +kernel) (fun c_16 => ?_) (fun c_16 => by exfalso; omega)
      refine lv_iconst (v := 0) hx hb dX11_takes_19 (by decide +kernel) ?_
      refine lv_istore_n (lv' := [(2, .int 0), (0, .ref k), (1, .int a0)]) hx hb dX11_takes_20 rfl hl (by decide +kernel) rfl ?_
      clear hl
      intro ls hl
      refine lv_aload_n hx hb dX11_takes_21 rfl (lv_at hl 1 rfl) ?_
      refine lv_dup hx hb dX11_takes_22 rfl ?_
      refine va_get (D := D) (ci := 11) (v := .int cd) (C := RX11) (T := TX11) (N := 25) hx hb hT giX11 hown hK hP 0 rfl rfl 13 (by decide +kernel) (hT (Cond.fieldLink RX11 138 "DesertWireModel" "here" "I") mw_1169) (fun _ h9 => h9) rfl dX11_takes_23 ?_
      refine lv_iload_n hx hb dX11_takes_26 rfl (lv_at hl 0 rfl) ?_
      refine b_if_eq hx hb zl_0 (tgt := 34) dX11_takes_27 (by decide +kernel) (fun c_17 => ?_) (fun c_17 => by exfalso; omega)
      refine lv_iconst (v := 0) hx hb dX11_takes_34 (by decide +kernel) ?_
      refine lv_iadd hx hb dX11_takes_35 ?_
      refine lv_topi (fun v_18 ev_18 => ?_)
      have tv_18 : v_18.toInt = cd.toInt + 0 := by rw [ev_18]; exact k_addv rfl zl_0 (by omega) (by omega)
      refine va_put (D := D) (ci := 11) (v := .int v_18) (ty := .int) (C := RX11) (T := TX11) (N := 25) hx hb hT giX11 tyX11 tyX11_ok nmX11 hown hK hP hD hS 0 rfl rfl 13 (by decide +kernel) (hT (Cond.fieldLink RX11 138 "DesertWireModel" "here" "I") mw_1169) (fun _ h9 => h9) rfl (by decide +kernel) rfl rfl (Nat.le_of_ble_eq_true rfl) dX11_takes_36 ?_
      clear hP hD hS
      intro H locs hP hD hS
      replace hP : va_P D vwCl [(k, .inr (11, [.ref k0, .ref k1, .ref k2, .int c3, .ref k4, .ref k5, .ref k6, .ref k7, .ref k8, .int c9, .ref ka, .ref kb, .int cc, .int v_18, .int ce, .int cf, .int cg, .int ch, .int ci, .int cj, .int ck, .ref kl, .int cm, .int cn, .ref ko])), (k0, .inl (cI, 1201, .inl c0))] H := hP
      replace hD : va_D A [(k, .inr (11, [.ref k0, .ref k1, .ref k2, .int c3, .ref k4, .ref k5, .ref k6, .ref k7, .ref k8, .int c9, .ref ka, .ref kb, .int cc, .int v_18, .int ce, .int cf, .int cg, .int ch, .int ci, .int cj, .int ck, .ref kl, .int cm, .int cn, .ref ko])), (k0, .inl (cI, 1201, .inl c0))] := hD
      refine lv_iload_n hx hb dX11_takes_39 rfl (lv_at hl 0 rfl) ?_
      exact hRet v_18 [0, 1] (by first | exact Or.inr (Or.inl ⟨rfl, (by omega), (by omega)⟩) | exact Or.inr (Or.inr (⟨rfl, (by omega), (by rw [← h_9]; first | omega | (rw [zl_m1]; omega)), (by omega)⟩))) hP hD (by decide +kernel) rfl hS rfl dX11_takes_40
theorem bn_cX11_needs_0 : BN cX11_needs 0 0xb24a8056c0402805500504005361c04005369500ad4562b := by
  unfold BN; decide +kernel
theorem dX11_needs_0 : decode cX11_needs 0 = .ok (.aload_n 0, 1) := dR0 (k := 0) (i := 0) bn_cX11_needs_0 dop_42 (by decide +kernel)
theorem dX11_needs_1 : decode cX11_needs 1 = .ok (.aload_n 0, 1) := dR0 (k := 0) (i := 1) bn_cX11_needs_0 dop_42 (by decide +kernel)
theorem dX11_needs_2 : decode cX11_needs 2 = .ok (.getfield 148, 3) := dR2 (f := Instr.getfield) (k := 0) (i := 2) bn_cX11_needs_0 dop_180 148 (by decide +kernel)
theorem dX11_needs_5 : decode cX11_needs 5 = .ok (.ifCond .ne 7, 3) := dR2s (f := Instr.ifCond .ne) (k := 0) (i := 5) bn_cX11_needs_0 dop_154 7 7 (by decide +kernel)
theorem dX11_needs_8 : decode cX11_needs 8 = .ok (.iload_n 1, 1) := dR0 (k := 0) (i := 8) bn_cX11_needs_0 dop_27 (by decide +kernel)
theorem dX11_needs_9 : decode cX11_needs 9 = .ok (.ifCond .ne 7, 3) := dR2s (f := Instr.ifCond .ne) (k := 0) (i := 9) bn_cX11_needs_0 dop_154 7 7 (by decide +kernel)
theorem dX11_needs_12 : decode cX11_needs 12 = .ok (.iconst 1, 1) := dR0 (k := 0) (i := 12) bn_cX11_needs_0 dop_4 (by decide +kernel)
theorem dX11_needs_13 : decode cX11_needs 13 = .ok (.goto 4, 3) := dR2s (f := Instr.goto) (k := 0) (i := 13) bn_cX11_needs_0 dop_167 4 4 (by decide +kernel)
theorem dX11_needs_17 : decode cX11_needs 17 = .ok (.putfield 148, 3) := dR2 (f := Instr.putfield) (k := 0) (i := 17) bn_cX11_needs_0 dop_181 148 (by decide +kernel)
theorem dX11_needs_20 : decode cX11_needs 20 = .ok (.return_, 1) := dR0 (k := 0) (i := 20) bn_cX11_needs_0 dop_177 (by decide +kernel)
set_option maxHeartbeats 4000000 in
set_option maxRecDepth 100000 in
theorem c_X11_needsG0 (l : Launch) (D : va_G) (cI : ClassId) (aK aV : Nat → Nat) (k k0 k1 k2 k4 k5 k6 k7 k8 ka kb kl ko : Nat) (sz : Nat) (c3 : Int32) (c9 : Int32) (cc : Int32) (cd : Int32) (ce : Int32) (cf : Int32) (cg : Int32) (ch : Int32) (ci : Int32) (cj : Int32) (ck : Int32) (cm : Int32) (cn : Int32) (a0 : Int32) (pre0 : a0 = 0) : Met l yX11_needs (gW yX11_needs cX11_needs 2 none) ({ frames := 0, cells := 0, slots := 0, locals := 0 } : Room) (kPreX D cI aK aV [.ref k, .int 0] [(k, .inr (11, [.ref k0, .ref k1, .ref k2, .int c3, .ref k4, .ref k5, .ref k6, .ref k7, .ref k8, .int c9, .ref ka, .ref kb, .int cc, .int cd, .int ce, .int cf, .int cg, .int ch, .int ci, .int cj, .int ck, .ref kl, .int cm, .int cn, .ref ko]))] sz) (va_Qv (fun (u : Int32) => u.toInt = 1) (fun u t => kWd D cI (va_A [(k, .inr (11, [.ref k0, .ref k1, .ref k2, .int c3, .ref k4, .ref k5, .ref k6, .ref k7, .ref k8, .int c9, .ref ka, .ref kb, .int cc, .int cd, .int ce, .int cf, .int cg, .int ch, .int ci, .int cj, .int ck, .ref kl, .int cm, .int cn, .ref ko]))] sz) [(k, .inr (11, [.ref k0, .ref k1, .ref k2, .int c3, .ref k4, .ref k5, .ref k6, .ref k7, .ref k8, .int c9, .ref ka, .ref kb, .int cc, .int cd, .int ce, .int u, .int cg, .int ch, .int ci, .int cj, .int ck, .ref kl, .int cm, .int cn, .ref ko]))] t) (va_A [(k, .inr (11, [.ref k0, .ref k1, .ref k2, .int c3, .ref k4, .ref k5, .ref k6, .ref k7, .ref k8, .int c9, .ref ka, .ref kb, .int cc, .int cd, .int ce, .int cf, .int cg, .int ch, .int ci, .int cj, .int ck, .ref kl, .int cm, .int cn, .ref ko]))] sz)) 0 0 (va_A [(k, .inr (11, [.ref k0, .ref k1, .ref k2, .int c3, .ref k4, .ref k5, .ref k6, .ref k7, .ref k8, .int c9, .ref ka, .ref kb, .int cc, .int cd, .int ce, .int cf, .int cg, .int ch, .int ci, .int cj, .int ck, .ref kl, .int cm, .int cn, .ref ko]))] sz) := by
  refine kMetVX (own := RX11) (by decide +kernel) rfl (Nat.le_of_ble_eq_true rfl) ?_
  intro p e s m args below meth c hx hb hT hown hname hml A Q hK hP hD hS hA hN hXS hRet ls hl
  subst pre0
  have hl : lv_has ls 2 [(0, .ref k), (1, .int 0)] := hl
  have lo_cf := k_lo cf
  have hi_cf := k_hi cf
  have lo_ci := k_lo ci
  have hi_ci := k_hi ci
  refine lv_aload_n hx hb dX11_needs_0 rfl (lv_at hl 0 rfl) ?_
  refine lv_aload_n hx hb dX11_needs_1 rfl (lv_at hl 0 rfl) ?_
  refine va_get (D := D) (ci := 11) (v := .int cf) (C := RX11) (T := TX11) (N := 25) hx hb hT giX11 hown hK hP 0 rfl rfl 15 (by decide +kernel) (hT (Cond.fieldLink RX11 148 "DesertWireModel" "isWrong" "Z") mw_1171) (fun _ h9 => h9) rfl dX11_needs_2 ?_
  refine b_if_ne hx hb rfl (tgt := 12) dX11_needs_5 (by decide +kernel) (fun c_1 => ?_) (fun c_1 => ?_)
  · refine lv_iconst (v := 1) hx hb dX11_needs_12 (by decide +kernel) ?_
    refine lv_goto (tgt := 17) hx hb dX11_needs_13 (by decide +kernel) ?_
    refine va_put (D := D) (ci := 11) (v := .int 1) (ty := .boolean) (C := RX11) (T := TX11) (N := 25) hx hb hT giX11 tyX11 tyX11_ok nmX11 hown hK hP hD hS 0 rfl rfl 15 (by decide +kernel) (hT (Cond.fieldLink RX11 148 "DesertWireModel" "isWrong" "Z") mw_1171) (fun _ h9 => h9) rfl (by decide +kernel) rfl rfl (Nat.le_of_ble_eq_true rfl) dX11_needs_17 ?_
    clear hP hD hS
    intro H locs hP hD hS
    replace hP : va_P D vwCl [(k, .inr (11, [.ref k0, .ref k1, .ref k2, .int c3, .ref k4, .ref k5, .ref k6, .ref k7, .ref k8, .int c9, .ref ka, .ref kb, .int cc, .int cd, .int ce, .int 1, .int cg, .int ch, .int ci, .int cj, .int ck, .ref kl, .int cm, .int cn, .ref ko]))] H := hP
    replace hD : va_D A [(k, .inr (11, [.ref k0, .ref k1, .ref k2, .int c3, .ref k4, .ref k5, .ref k6, .ref k7, .ref k8, .int c9, .ref ka, .ref kb, .int cc, .int cd, .int ce, .int 1, .int cg, .int ch, .int ci, .int cj, .int ck, .ref kl, .int cm, .int cn, .ref ko]))] := hD
    exact hRet 1 [0] (by decide +kernel) hP hD (by decide +kernel) rfl hS dX11_needs_20
  · refine lv_iload_n hx hb dX11_needs_8 rfl (lv_at hl 1 rfl) ?_
    refine b_if_ne hx hb zl_0 (tgt := 16) dX11_needs_9 (by decide +kernel) (fun c_2 => by exfalso; omega) (fun c_2 => ?_)
    refine lv_iconst (v := 1) hx hb dX11_needs_12 (by decide +kernel) ?_
    refine lv_goto (tgt := 17) hx hb dX11_needs_13 (by decide +kernel) ?_
    refine va_put (D := D) (ci := 11) (v := .int 1) (ty := .boolean) (C := RX11) (T := TX11) (N := 25) hx hb hT giX11 tyX11 tyX11_ok nmX11 hown hK hP hD hS 0 rfl rfl 15 (by decide +kernel) (hT (Cond.fieldLink RX11 148 "DesertWireModel" "isWrong" "Z") mw_1171) (fun _ h9 => h9) rfl (by decide +kernel) rfl rfl (Nat.le_of_ble_eq_true rfl) dX11_needs_17 ?_
    clear hP hD hS
    intro H locs hP hD hS
    replace hP : va_P D vwCl [(k, .inr (11, [.ref k0, .ref k1, .ref k2, .int c3, .ref k4, .ref k5, .ref k6, .ref k7, .ref k8, .int c9, .ref ka, .ref kb, .int cc, .int cd, .int ce, .int 1, .int cg, .int ch, .int ci, .int cj, .int ck, .ref kl, .int cm, .int cn, .ref ko]))] H := hP
    replace hD : va_D A [(k, .inr (11, [.ref k0, .ref k1, .ref k2, .int c3, .ref k4, .ref k5, .ref k6, .ref k7, .ref k8, .int c9, .ref ka, .ref kb, .int cc, .int cd, .int ce, .int 1, .int cg, .int ch, .int ci, .int cj, .int ck, .ref kl, .int cm, .int cn, .ref ko]))] := hD
    exact hRet 1 [0] (by decide +kernel) hP hD (by decide +kernel) rfl hS dX11_needs_20
