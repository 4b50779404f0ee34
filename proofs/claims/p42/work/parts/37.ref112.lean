theorem dX11_restore_0 : decode cX11_restore 0 = .ok (.aload_n 0, 1) := by decide +kernel
theorem dX11_restore_1 : decode cX11_restore 1 = .ok (.getfield 279, 3) := by decide +kernel
theorem dX11_restore_4 : decode cX11_restore 4 = .ok (.ifCond .ne 10, 3) := by decide +kernel
theorem dX11_restore_7 : decode cX11_restore 7 = .ok (.aload_n 0, 1) := by decide +kernel
theorem dX11_restore_8 : decode cX11_restore 8 = .ok (.ldc 114, 2) := by decide +kernel
theorem dX11_restore_10 : decode cX11_restore 10 = .ok (.invokevirtual 64, 3) := by decide +kernel
theorem dX11_restore_13 : decode cX11_restore 13 = .ok (.ireturn, 1) := by decide +kernel
theorem dX11_restore_14 : decode cX11_restore 14 = .ok (.aload_n 0, 1) := by decide +kernel
theorem dX11_restore_15 : decode cX11_restore 15 = .ok (.getfield 13, 3) := by decide +kernel
theorem dX11_restore_18 : decode cX11_restore 18 = .ok (.aload_n 0, 1) := by decide +kernel
theorem dX11_restore_19 : decode cX11_restore 19 = .ok (.getfield 9, 3) := by decide +kernel
theorem dX11_restore_22 : decode cX11_restore 22 = .ok (.invokestatic 257, 3) := by decide +kernel
theorem dX11_restore_25 : decode cX11_restore 25 = .ok (.aload_n 0, 1) := by decide +kernel
theorem dX11_restore_26 : decode cX11_restore 26 = .ok (.getfield 9, 3) := by decide +kernel
theorem dX11_restore_29 : decode cX11_restore 29 = .ok (.iconst 0, 1) := by decide +kernel
theorem dX11_restore_30 : decode cX11_restore 30 = .ok (.iaload, 1) := by decide +kernel
theorem dX11_restore_31 : decode cX11_restore 31 = .ok (.ireturn, 1) := by decide +kernel
set_option maxHeartbeats 4000000 in
set_option maxRecDepth 100000 in
theorem c_X11_restoreG (l : Launch) (D : va_G) (cI : ClassId) (aK aV : Nat → Nat) (k k0 k1 k2 k4 k5 k6 k7 k8 ka kb kl ko : Nat) (sz : Nat) (c3 : Int32) (c9 : Int32) (cc : Int32) (cd : Int32) (ce : Int32) (cf : Int32) (cg : Int32) (ch : Int32) (ci : Int32) (cj : Int32) (ck : Int32) (cm : Int32) (cn : Int32) (c0 : Nat → Int32) (c1 : Nat → Int32) (c4 : Nat → Int32) (pre0 : SIX c0 (-1)) (pre1 : SIX c1 (-1)) : Met l yX11_restore (gW yX11_restore cX11_restore 1 (some .int)) ({ frames := 1, cells := 0, slots := 0, locals := 22 } : Room) (kPreX D cI aK aV [.ref k] [(k, .inr (11, [.ref k0, .ref k1, .ref k2, .int c3, .ref k4, .ref k5, .ref k6, .ref k7, .ref k8, .int c9, .ref ka, .ref kb, .int cc, .int cd, .int ce, .int cf, .int cg, .int ch, .int ci, .int cj, .int ck, .ref kl, .int cm, .int cn, .ref ko])), (k0, .inl (cI, 1201, .inl c0)), (k1, .inl (cI, 1201, .inl c1)), (k4, .inl (cI, 6, .inl c4))] sz) (va_Qi (fun (r : Int32) (u : (Nat → Int32) × (Nat → Int32)) => SIX u.1 (-1) ∧ r = restR c3 (c1 0) ∧ u.1 = ifF c3 c0 c1) (fun u t => kWd D cI (va_A [(k, .inr (11, [.ref k0, .ref k1, .ref k2, .int c3, .ref k4, .ref k5, .ref k6, .ref k7, .ref k8, .int c9, .ref ka, .ref kb, .int cc, .int cd, .int ce, .int cf, .int cg, .int ch, .int ci, .int cj, .int ck, .ref kl, .int cm, .int cn, .ref ko])), (k0, .inl (cI, 1201, .inl c0)), (k1, .inl (cI, 1201, .inl c1)), (k4, .inl (cI, 6, .inl c4))] sz) [(k, .inr (11, [.ref k0, .ref k1, .ref k2, .int c3, .ref k4, .ref k5, .ref k6, .ref k7, .ref k8, .int c9, .ref ka, .ref kb, .int cc, .int cd, .int ce, .int cf, .int cg, .int ch, .int ci, .int cj, .int ck, .ref kl, .int cm, .int cn, .ref ko])), (k0, .inl (cI, 1201, .inl u.1)), (k1, .inl (cI, 1201, .inl c1)), (k4, .inl (cI, 6, .inl u.2))] t) (va_A [(k, .inr (11, [.ref k0, .ref k1, .ref k2, .int c3, .ref k4, .ref k5, .ref k6, .ref k7, .ref k8, .int c9, .ref ka, .ref kb, .int cc, .int cd, .int ce, .int cf, .int cg, .int ch, .int ci, .int cj, .int ck, .ref kl, .int cm, .int cn, .ref ko])), (k0, .inl (cI, 1201, .inl c0)), (k1, .inl (cI, 1201, .inl c1)), (k4, .inl (cI, 6, .inl c4))] sz)) 0 0 (va_A [(k, .inr (11, [.ref k0, .ref k1, .ref k2, .int c3, .ref k4, .ref k5, .ref k6, .ref k7, .ref k8, .int c9, .ref ka, .ref kb, .int cc, .int cd, .int ce, .int cf, .int cg, .int ch, .int ci, .int cj, .int ck, .ref kl, .int cm, .int cn, .ref ko])), (k0, .inl (cI, 1201, .inl c0)), (k1, .inl (cI, 1201, .inl c1)), (k4, .inl (cI, 6, .inl c4))] sz) := by
  refine kMetIX (own := RX11) (by decide) rfl (Nat.le_of_ble_eq_true rfl) ?_
  intro p e s m args below meth c hx hb hT hown hname hml A Q hK hP hD hS hA hN hXS hRet ls hl
  have hl : lv_has ls 1 [(0, .ref k)] := hl
  have lo_c3 := k_lo c3
  have hi_c3 := k_hi c3
  have lo_ci := k_lo ci
  have hi_ci := k_hi ci
  have pre0 : SIX c0 (-1) := pre0
  have nb_1 : 0 ≤ (c0 0).toInt ∧ (c0 0).toInt ≤ 2000 := SB.n0 (And.left pre0)
  have nb_2 : 0 ≤ (c0 1).toInt ∧ (c0 1).toInt ≤ 60 := SB.n1 (And.left pre0)
  have nb_3 : 0 ≤ (c0 2).toInt ∧ (c0 2).toInt ≤ 4 := SB.n2 (And.left pre0)
  have pre1 : SIX c1 (-1) := pre1
  refine lv_aload_n hx hb dX11_restore_0 rfl (lv_at hl 0 rfl) ?_
  refine va_get (D := D) (ci := 11) (v := .int c3) (C := RX11) (T := TX11) (N := 25) hx hb hT giX11 hown hK hP 0 rfl rfl 3 (by decide) (hT (Cond.fieldLink RX11 279 "DesertWireModel" "images" "I") mw_1159) (fun _ h9 => h9) rfl dX11_restore_1 ?_
  refine b_if_ne hx hb rfl (tgt := 14) dX11_restore_4 (by decide) (fun c_4 => ?_) (fun c_4 => ?_)
  · refine lv_aload_n hx hb dX11_restore_14 rfl (lv_at hl 0 rfl) ?_
    refine va_get (D := D) (ci := 11) (v := .ref k1) (C := RX11) (T := TX11) (N := 25) hx hb hT giX11 hown hK hP 0 rfl rfl 1 (by decide) (hT (Cond.fieldLink RX11 13 "DesertWireModel" "kept" "[I") mw_1157) (fun _ h9 => h9) rfl dX11_restore_15 ?_
    refine lv_aload_n hx hb dX11_restore_18 rfl (lv_at hl 0 rfl) ?_
    refine va_get (D := D) (ci := 11) (v := .ref k0) (C := RX11) (T := TX11) (N := 25) hx hb hT giX11 hown hK hP 0 rfl rfl 0 (by decide) (hT (Cond.fieldLink RX11 9 "DesertWireModel" "s" "[I") mw_1156) (fun _ h9 => h9) rfl dX11_restore_19 ?_
    refine kJv (wr := [(k, .inr (11, [.ref k0, .ref k1, .ref k2, .int c3, .ref k4, .ref k5, .ref k6, .ref k7, .ref k8, .int c9, .ref ka, .ref kb, .int cc, .int cd, .int ce, .int cf, .int cg, .int ch, .int ci, .int cj, .int ck, .ref kl, .int cm, .int cn, .ref ko])), (k4, .inl (cI, 6, .inl c4))]) (va_runS (As := [.ref k1, .ref k0]) (rest := []) ⟨hx, hb, hml, hown, hT⟩ (c_X11_copyG l D cI aK aV k1 k0 s.heap.size c1 c0) (cwS 2 hT (gS_in mw_1558 mw_1556 mw_1557 mw_12) rfl rfl rfl (by decide +kernel) ⟨Nat.le_of_ble_eq_true rfl, Nat.le_of_ble_eq_true rfl⟩) (kStatX hK hP hD hN hXS hS hA [2, 1] rfl (by decide)) rfl rfl hl.1 rfl (lv_room (Nat.le_of_ble_eq_true rfl)) dX11_restore_22 ⟨Nat.le_of_ble_eq_true rfl, Nat.le_of_ble_eq_true rfl⟩) hP hD hS hA [2, 1] [0, 3] rfl rfl (by decide) (by decide) ?_
    clear hP hD hS
    intro ser_7 H locs w_6 hP hD hS
    replace hP : va_P D vwCl [(k, .inr (11, [.ref k0, .ref k1, .ref k2, .int c3, .ref k4, .ref k5, .ref k6, .ref k7, .ref k8, .int c9, .ref ka, .ref kb, .int cc, .int cd, .int ce, .int cf, .int cg, .int ch, .int ci, .int cj, .int ck, .ref kl, .int cm, .int cn, .ref ko])), (k4, .inl (cI, 6, .inl c4)), (k1, .inl (cI, 1201, .inl c1)), (k0, .inl (cI, 1201, .inl ser_7))] H := hP
    replace hD : va_D A [(k, .inr (11, [.ref k0, .ref k1, .ref k2, .int c3, .ref k4, .ref k5, .ref k6, .ref k7, .ref k8, .int c9, .ref ka, .ref kb, .int cc, .int cd, .int ce, .int cf, .int cg, .int ch, .int ci, .int cj, .int ck, .ref kl, .int cm, .int cn, .ref ko])), (k4, .inl (cI, 6, .inl c4)), (k1, .inl (cI, 1201, .inl c1)), (k0, .inl (cI, 1201, .inl ser_7))] := hD
    have h_8 := w_6
    have h_8 : ser_7 = c1 := h_8
    have hS_9 : SIX ser_7 (-1) := by rw [h_8]; exact pre1
    have n_10 : (ser_7 0).toInt = (c1 0).toInt := by rw [h_8]
    have n_11 : (ser_7 1).toInt = (c1 1).toInt := by rw [h_8]
    have n_12 : (ser_7 2).toInt = (c1 2).toInt := by rw [h_8]
    refine lv_aload_n hx hb dX11_restore_25 rfl (lv_at hl 0 rfl) ?_
    refine va_get (D := D) (ci := 11) (v := .ref k0) (C := RX11) (T := TX11) (N := 25) hx hb hT giX11 hown hK hP 0 rfl rfl 0 (by decide) (hT (Cond.fieldLink RX11 9 "DesertWireModel" "s" "[I") mw_1156) (fun _ h9 => h9) rfl dX11_restore_26 ?_
    refine lv_iconst (v := 0) hx hb dX11_restore_29 (by decide) ?_
    refine k_iald (v := (ser_7 0)) hx hb hK hP 3 0 rfl rfl (k_inl (by decide)) rfl dX11_restore_30 ?_
    refine lv_topi (fun v_13 ev_13 => ?_)
    have lo_v_13 := k_lo v_13
    have hi_v_13 := k_hi v_13
    have tv_13 : v_13.toInt = (ser_7 0).toInt := by rw [ev_13]
    have b_14 : 0 ≤ v_13.toInt ∧ v_13.toInt ≤ 2000 := by first | (rw [tv_13]; exact SB.n0 (And.left hS_9)) | exact SB.n0 (And.left hS_9) | omega
    exact hRet (ser_7, c4) [0, 3, 2, 1] ⟨hS_9, (by (try dsimp only); unfold restR; (repeat (first | rw [if_pos (by omega)] | rw [if_neg (by omega)])); first | done | exact (by rw [ev_13, h_8])), (by (try dsimp only); unfold ifF; (repeat (first | rw [if_pos (by omega)] | rw [if_neg (by omega)])); first | done | exact h_8)⟩ hP hD (by decide) rfl hS rfl dX11_restore_31
  · refine lv_aload_n hx hb dX11_restore_7 rfl (lv_at hl 0 rfl) ?_
    refine lv_ldc (v := (-1000002)) hx hb hown (hT _ mw_1392) dX11_restore_8 ?_
    refine kJi (wr := [(k0, .inl (cI, 1201, .inl c0)), (k1, .inl (cI, 1201, .inl c1))]) (va_runV (As := [.int (-1000002)]) (rest := []) ⟨hx, hb, hml, hown, hT⟩ (c_X11_findingG l D cI aK aV k k0 k1 k2 k4 k5 k6 k7 k8 ka kb kl ko s.heap.size c3 c9 cc cd ce cf cg ch ci cj ck cm cn c4 (-1000002) (by first | omega | (simp only [zl_m1000002]; first | done | omega) | decide | assumption | rfl) (by first | omega | (simp only [zl_m1000002]; first | done | omega) | decide | assumption | rfl)) (cwV 1 hT (gV_in mw_1243 mw_1240 mw_1242 mw_p3_8 mw_12) rfl rfl rfl (by decide +kernel) ⟨Nat.le_of_ble_eq_true rfl, Nat.le_of_ble_eq_true rfl⟩) (kRecvX (q0 := 0) (ci := 11) hK hP hD hN hXS hS hA rfl rfl [0, 3] rfl (by decide)) rfl rfl hl.1 rfl (lv_room (Nat.le_of_ble_eq_true rfl)) dX11_restore_10 ⟨Nat.le_of_ble_eq_true rfl, Nat.le_of_ble_eq_true rfl⟩) hP hD hS hA [0, 3] [1, 2] rfl rfl (by decide) (by decide) ?_
    clear hP hD hS
    intro r_15 sc4_17 H locs w_16 hP hD hS
    replace hP : va_P D vwCl [(k0, .inl (cI, 1201, .inl c0)), (k1, .inl (cI, 1201, .inl c1)), (k, .inr (11, [.ref k0, .ref k1, .ref k2, .int c3, .ref k4, .ref k5, .ref k6, .ref k7, .ref k8, .int c9, .ref ka, .ref kb, .int cc, .int cd, .int ce, .int cf, .int cg, .int ch, .int ci, .int cj, .int ck, .ref kl, .int cm, .int cn, .ref ko])), (k4, .inl (cI, 6, .inl sc4_17))] H := hP
    replace hD : va_D A [(k0, .inl (cI, 1201, .inl c0)), (k1, .inl (cI, 1201, .inl c1)), (k, .inr (11, [.ref k0, .ref k1, .ref k2, .int c3, .ref k4, .ref k5, .ref k6, .ref k7, .ref k8, .int c9, .ref ka, .ref kb, .int cc, .int cd, .int ce, .int cf, .int cg, .int ch, .int ci, .int cj, .int ck, .ref kl, .int cm, .int cn, .ref ko])), (k4, .inl (cI, 6, .inl sc4_17))] := hD
    have hr_15 := w_16
    obtain rfl : r_15 = (-1000002) := hr_15.trans (by decide)
    exact hRet (c0, sc4_17) [2, 0, 1, 3] ⟨pre0, (by (try dsimp only); unfold restR; (repeat (first | rw [if_pos (by omega)] | rw [if_neg (by omega)]))), (by (try dsimp only); unfold ifF; (repeat (first | rw [if_pos (by omega)] | rw [if_neg (by omega)])))⟩ hP hD (by decide) rfl hS rfl dX11_restore_13
theorem dX11_ahead_0 : decode cX11_ahead 0 = .ok (.iload_n 1, 1) := by decide +kernel
theorem dX11_ahead_1 : decode cX11_ahead 1 = .ok (.iconst 0, 1) := by decide +kernel
theorem dX11_ahead_2 : decode cX11_ahead 2 = .ok (.sipush 200, 3) := by decide +kernel
theorem dX11_ahead_5 : decode cX11_ahead 5 = .ok (.invokestatic 47, 3) := by decide +kernel
theorem dX11_ahead_8 : decode cX11_ahead 8 = .ok (.ifCond .eq 41, 3) := by decide +kernel
theorem dX11_ahead_11 : decode cX11_ahead 11 = .ok (.aload_n 0, 1) := by decide +kernel
theorem dX11_ahead_12 : decode cX11_ahead 12 = .ok (.getfield 9, 3) := by decide +kernel
theorem dX11_ahead_15 : decode cX11_ahead 15 = .ok (.iconst 0, 1) := by decide +kernel
theorem dX11_ahead_16 : decode cX11_ahead 16 = .ok (.iaload, 1) := by decide +kernel
theorem dX11_ahead_17 : decode cX11_ahead 17 = .ok (.iload_n 1, 1) := by decide +kernel
theorem dX11_ahead_18 : decode cX11_ahead 18 = .ok (.iadd, 1) := by decide +kernel
theorem dX11_ahead_19 : decode cX11_ahead 19 = .ok (.sipush 2000, 3) := by decide +kernel
theorem dX11_ahead_22 : decode cX11_ahead 22 = .ok (.if_icmp .gt 27, 3) := by decide +kernel
theorem dX11_ahead_25 : decode cX11_ahead 25 = .ok (.iload_n 2, 1) := by decide +kernel
theorem dX11_ahead_26 : decode cX11_ahead 26 = .ok (.iconst 0, 1) := by decide +kernel
theorem dX11_ahead_27 : decode cX11_ahead 27 = .ok (.bipush 10, 2) := by decide +kernel
theorem dX11_ahead_29 : decode cX11_ahead 29 = .ok (.invokestatic 47, 3) := by decide +kernel
theorem dX11_ahead_32 : decode cX11_ahead 32 = .ok (.ifCond .eq 17, 3) := by decide +kernel
theorem dX11_ahead_35 : decode cX11_ahead 35 = .ok (.iload_n 2, 1) := by decide +kernel
theorem dX11_ahead_36 : decode cX11_ahead 36 = .ok (.bipush 9, 2) := by decide +kernel
theorem dX11_ahead_38 : decode cX11_ahead 38 = .ok (.if_icmp .ge 18, 3) := by decide +kernel
theorem dX11_ahead_41 : decode cX11_ahead 41 = .ok (.aload_n 0, 1) := by decide +kernel
theorem dX11_ahead_42 : decode cX11_ahead 42 = .ok (.iload_n 3, 1) := by decide +kernel
theorem dX11_ahead_43 : decode cX11_ahead 43 = .ok (.invokevirtual 121, 3) := by decide +kernel
theorem dX11_ahead_46 : decode cX11_ahead 46 = .ok (.ifCond .ne 10, 3) := by decide +kernel
theorem dX11_ahead_49 : decode cX11_ahead 49 = .ok (.aload_n 0, 1) := by decide +kernel
theorem dX11_ahead_50 : decode cX11_ahead 50 = .ok (.ldc 63, 2) := by decide +kernel
theorem dX11_ahead_52 : decode cX11_ahead 52 = .ok (.invokevirtual 64, 3) := by decide +kernel
theorem dX11_ahead_55 : decode cX11_ahead 55 = .ok (.ireturn, 1) := by decide +kernel
theorem dX11_ahead_56 : decode cX11_ahead 56 = .ok (.aload_n 0, 1) := by decide +kernel
theorem dX11_ahead_57 : decode cX11_ahead 57 = .ok (.getfield 9, 3) := by decide +kernel
theorem dX11_ahead_60 : decode cX11_ahead 60 = .ok (.astore 4, 2) := by decide +kernel
theorem dX11_ahead_62 : decode cX11_ahead 62 = .ok (.aload 4, 2) := by decide +kernel
theorem dX11_ahead_64 : decode cX11_ahead 64 = .ok (.aload_n 0, 1) := by decide +kernel
theorem dX11_ahead_65 : decode cX11_ahead 65 = .ok (.getfield 16, 3) := by decide +kernel
theorem dX11_ahead_68 : decode cX11_ahead 68 = .ok (.invokestatic 257, 3) := by decide +kernel
theorem dX11_ahead_71 : decode cX11_ahead 71 = .ok (.aload_n 0, 1) := by decide +kernel
theorem dX11_ahead_72 : decode cX11_ahead 72 = .ok (.aload_n 0, 1) := by decide +kernel
theorem dX11_ahead_73 : decode cX11_ahead 73 = .ok (.getfield 16, 3) := by decide +kernel
theorem dX11_ahead_76 : decode cX11_ahead 76 = .ok (.putfield 9, 3) := by decide +kernel
theorem dX11_ahead_79 : decode cX11_ahead 79 = .ok (.iconst 0, 1) := by decide +kernel
theorem dX11_ahead_80 : decode cX11_ahead 80 = .ok (.istore 5, 2) := by decide +kernel
theorem dX11_ahead_82 : decode cX11_ahead 82 = .ok (.iload 5, 2) := by decide +kernel
theorem dX11_ahead_84 : decode cX11_ahead 84 = .ok (.iload_n 1, 1) := by decide +kernel
theorem dX11_ahead_85 : decode cX11_ahead 85 = .ok (.if_icmp .ge 13, 3) := by decide +kernel
theorem dX11_ahead_88 : decode cX11_ahead 88 = .ok (.aload_n 0, 1) := by decide +kernel
theorem dX11_ahead_89 : decode cX11_ahead 89 = .ok (.invokevirtual 254, 3) := by decide +kernel
theorem dX11_ahead_92 : decode cX11_ahead 92 = .ok (.iinc 5 1, 3) := by decide +kernel
theorem dX11_ahead_95 : decode cX11_ahead 95 = .ok (.goto (-13), 3) := by decide +kernel
theorem dX11_ahead_98 : decode cX11_ahead 98 = .ok (.iload_n 2, 1) := by decide +kernel
theorem dX11_ahead_99 : decode cX11_ahead 99 = .ok (.bipush 9, 2) := by decide +kernel
theorem dX11_ahead_101 : decode cX11_ahead 101 = .ok (.if_icmp .ge 12, 3) := by decide +kernel
theorem dX11_ahead_104 : decode cX11_ahead 104 = .ok (.aload_n 0, 1) := by decide +kernel
theorem dX11_ahead_105 : decode cX11_ahead 105 = .ok (.iload_n 3, 1) := by decide +kernel
theorem dX11_ahead_106 : decode cX11_ahead 106 = .ok (.iload_n 2, 1) := by decide +kernel
theorem dX11_ahead_107 : decode cX11_ahead 107 = .ok (.invokevirtual 124, 3) := by decide +kernel
theorem dX11_ahead_110 : decode cX11_ahead 110 = .ok (.goto 22, 3) := by decide +kernel
theorem dX11_ahead_113 : decode cX11_ahead 113 = .ok (.iload_n 2, 1) := by decide +kernel
theorem dX11_ahead_114 : decode cX11_ahead 114 = .ok (.bipush 9, 2) := by decide +kernel
theorem dX11_ahead_116 : decode cX11_ahead 116 = .ok (.if_icmp .ne 10, 3) := by decide +kernel
theorem dX11_ahead_119 : decode cX11_ahead 119 = .ok (.aload_n 0, 1) := by decide +kernel
theorem dX11_ahead_120 : decode cX11_ahead 120 = .ok (.invokevirtual 261, 3) := by decide +kernel
theorem dX11_ahead_123 : decode cX11_ahead 123 = .ok (.goto 9, 3) := by decide +kernel
theorem dX11_ahead_126 : decode cX11_ahead 126 = .ok (.aload_n 0, 1) := by decide +kernel
theorem dX11_ahead_127 : decode cX11_ahead 127 = .ok (.getfield 9, 3) := by decide +kernel
theorem dX11_ahead_130 : decode cX11_ahead 130 = .ok (.iconst 1, 1) := by decide +kernel
theorem dX11_ahead_131 : decode cX11_ahead 131 = .ok (.iaload, 1) := by decide +kernel
theorem dX11_ahead_132 : decode cX11_ahead 132 = .ok (.istore 5, 2) := by decide +kernel
theorem dX11_ahead_134 : decode cX11_ahead 134 = .ok (.aload_n 0, 1) := by decide +kernel
theorem dX11_ahead_135 : decode cX11_ahead 135 = .ok (.aload 4, 2) := by decide +kernel
theorem dX11_ahead_137 : decode cX11_ahead 137 = .ok (.putfield 9, 3) := by decide +kernel
theorem dX11_ahead_140 : decode cX11_ahead 140 = .ok (.iload 5, 2) := by decide +kernel
theorem dX11_ahead_142 : decode cX11_ahead 142 = .ok (.ireturn, 1) := by decide +kernel
set_option maxHeartbeats 4000000 in
set_option maxRecDepth 100000 in
theorem c_X11_aheadG (l : Launch) (D : va_G) (cI : ClassId) (aK aV : Nat → Nat) (k k0 k1 k2 k4 k5 k6 k7 k8 ka kb kl ko : Nat) (sz : Nat) (c3 : Int32) (c9 : Int32) (cc : Int32) (cd : Int32) (ce : Int32) (cf : Int32) (cg : Int32) (ch : Int32) (ci : Int32) (cj : Int32) (ck : Int32) (cm : Int32) (cn : Int32) (c0 : Nat → Int32) (c2 : Nat → Int32) (c4 : Nat → Int32) (a0 : Int32) (a1 : Int32) (a2 : Int32) (pre0 : SIX c0 (-1)) : Met l yX11_ahead (gW yX11_ahead cX11_ahead 6 (some .int)) ({ frames := 6, cells := 0, slots := 0, locals := 132 } : Room) (kPreX D cI aK aV [.ref k, .int a0, .int a1, .int a2] [(k, .inr (11, [.ref k0, .ref k1, .ref k2, .int c3, .ref k4, .ref k5, .ref k6, .ref k7, .ref k8, .int c9, .ref ka, .ref kb, .int cc, .int cd, .int ce, .int cf, .int cg, .int ch, .int ci, .int cj, .int ck, .ref kl, .int cm, .int cn, .ref ko])), (k0, .inl (cI, 1201, .inl c0)), (k2, .inl (cI, 1201, .inl c2)), (k4, .inl (cI, 6, .inl c4))] sz) (va_Qi (fun (r : Int32) (u : (Nat → Int32) × (Nat → Int32)) => r = ahdR c0 a0 a1 a2) (fun u t => kWd D cI (va_A [(k, .inr (11, [.ref k0, .ref k1, .ref k2, .int c3, .ref k4, .ref k5, .ref k6, .ref k7, .ref k8, .int c9, .ref ka, .ref kb, .int cc, .int cd, .int ce, .int cf, .int cg, .int ch, .int ci, .int cj, .int ck, .ref kl, .int cm, .int cn, .ref ko])), (k0, .inl (cI, 1201, .inl c0)), (k2, .inl (cI, 1201, .inl c2)), (k4, .inl (cI, 6, .inl c4))] sz) [(k, .inr (11, [.ref k0, .ref k1, .ref k2, .int c3, .ref k4, .ref k5, .ref k6, .ref k7, .ref k8, .int c9, .ref ka, .ref kb, .int cc, .int cd, .int ce, .int cf, .int cg, .int ch, .int ci, .int cj, .int ck, .ref kl, .int cm, .int cn, .ref ko])), (k0, .inl (cI, 1201, .inl c0)), (k2, .inl (cI, 1201, .inl u.1)), (k4, .inl (cI, 6, .inl u.2))] t) (va_A [(k, .inr (11, [.ref k0, .ref k1, .ref k2, .int c3, .ref k4, .ref k5, .ref k6, .ref k7, .ref k8, .int c9, .ref ka, .ref kb, .int cc, .int cd, .int ce, .int cf, .int cg, .int ch, .int ci, .int cj, .int ck, .ref kl, .int cm, .int cn, .ref ko])), (k0, .inl (cI, 1201, .inl c0)), (k2, .inl (cI, 1201, .inl c2)), (k4, .inl (cI, 6, .inl c4))] sz)) 0 0 (va_A [(k, .inr (11, [.ref k0, .ref k1, .ref k2, .int c3, .ref k4, .ref k5, .ref k6, .ref k7, .ref k8, .int c9, .ref ka, .ref kb, .int cc, .int cd, .int ce, .int cf, .int cg, .int ch, .int ci, .int cj, .int ck, .ref kl, .int cm, .int cn, .ref ko])), (k0, .inl (cI, 1201, .inl c0)), (k2, .inl (cI, 1201, .inl c2)), (k4, .inl (cI, 6, .inl c4))] sz) := by
  refine kMetIX (own := RX11) (by decide) rfl (Nat.le_of_ble_eq_true rfl) ?_
  intro p e s m args below meth c hx hb hT hown hname hml A Q hK hP hD hS hA hN hXS hRet ls hl
  have hl : lv_has ls 6 [(0, .ref k), (1, .int a0), (2, .int a1), (3, .int a2)] := hl
  have lo_a0 := k_lo a0
  have hi_a0 := k_hi a0
  have lo_a1 := k_lo a1
  have hi_a1 := k_hi a1
  have lo_a2 := k_lo a2
  have hi_a2 := k_hi a2
  have lo_ci := k_lo ci
  have hi_ci := k_hi ci
  have pre0 : SIX c0 (-1) := pre0
  have nb_1 : 0 ≤ (c0 0).toInt ∧ (c0 0).toInt ≤ 2000 := SB.n0 (And.left pre0)
  have nb_2 : 0 ≤ (c0 1).toInt ∧ (c0 1).toInt ≤ 60 := SB.n1 (And.left pre0)
  have nb_3 : 0 ≤ (c0 2).toInt ∧ (c0 2).toInt ≤ 4 := SB.n2 (And.left pre0)
  refine lv_iload_n hx hb dX11_ahead_0 rfl (lv_at hl 1 rfl) ?_
  refine lv_iconst (v := 0) hx hb dX11_ahead_1 (by decide) ?_
  refine lv_sipush (v := 200) hx hb dX11_ahead_2 (by decide) ?_
  refine kJi (wr := [(k, .inr (11, [.ref k0, .ref k1, .ref k2, .int c3, .ref k4, .ref k5, .ref k6, .ref k7, .ref k8, .int c9, .ref ka, .ref kb, .int cc, .int cd, .int ce, .int cf, .int cg, .int ch, .int ci, .int cj, .int ck, .ref kl, .int cm, .int cn, .ref ko])), (k0, .inl (cI, 1201, .inl c0)), (k2, .inl (cI, 1201, .inl c2)), (k4, .inl (cI, 6, .inl c4))]) (va_runS (As := [.int a0, .int 0, .int 200]) (rest := []) ⟨hx, hb, hml, hown, hT⟩ (c_X11_inG l D cI aK aV s.heap.size a0 0 200) (cwS 3 hT (gS_in mw_1238 mw_1236 mw_1237 mw_12) rfl rfl rfl (by decide +kernel) ⟨Nat.le_of_ble_eq_true rfl, Nat.le_of_ble_eq_true rfl⟩) (kStatX hK hP hD hN hXS hS hA [] rfl (by decide)) rfl rfl hl.1 rfl (lv_room (Nat.le_of_ble_eq_true rfl)) dX11_ahead_5 ⟨Nat.le_of_ble_eq_true rfl, Nat.le_of_ble_eq_true rfl⟩) hP hD hS hA [] [0, 1, 2, 3] rfl rfl (by decide) (by decide) ?_
  clear hP hD hS
  intro r_4 u_6 H locs w_5 hP hD hS
  replace hP : va_P D vwCl [(k, .inr (11, [.ref k0, .ref k1, .ref k2, .int c3, .ref k4, .ref k5, .ref k6, .ref k7, .ref k8, .int c9, .ref ka, .ref kb, .int cc, .int cd, .int ce, .int cf, .int cg, .int ch, .int ci, .int cj, .int ck, .ref kl, .int cm, .int cn, .ref ko])), (k0, .inl (cI, 1201, .inl c0)), (k2, .inl (cI, 1201, .inl c2)), (k4, .inl (cI, 6, .inl c4))] H := hP
  replace hD : va_D A [(k, .inr (11, [.ref k0, .ref k1, .ref k2, .int c3, .ref k4, .ref k5, .ref k6, .ref k7, .ref k8, .int c9, .ref ka, .ref kb, .int cc, .int cd, .int ce, .int cf, .int cg, .int ch, .int ci, .int cj, .int ck, .ref kl, .int cm, .int cn, .ref ko])), (k0, .inl (cI, 1201, .inl c0)), (k2, .inl (cI, 1201, .inl c2)), (k4, .inl (cI, 6, .inl c4))] := hD
  rcases w_5 with ⟨hr_4, h_7, h_8⟩ | ⟨hr_4, h_9⟩
  · try simp only [zl_0, zl_200] at h_7
    have h_7 : 0 ≤ a0.toInt := h_7
    try simp only [zl_0, zl_200] at h_8
    have h_8 : a0.toInt ≤ 200 := h_8
    obtain rfl : r_4 = 1 := hr_4.trans (by decide)
    refine b_if_eq hx hb zl_1 (tgt := 49) dX11_ahead_8 (by decide) (fun c_10 => by exfalso; omega) (fun c_10 => ?_)
    refine lv_aload_n hx hb dX11_ahead_11 rfl (lv_at hl 0 rfl) ?_
    refine va_get (D := D) (ci := 11) (v := .ref k0) (C := RX11) (T := TX11) (N := 25) hx hb hT giX11 hown hK hP 0 rfl rfl 0 (by decide) (hT (Cond.fieldLink RX11 9 "DesertWireModel" "s" "[I") mw_1156) (fun _ h9 => h9) rfl dX11_ahead_12 ?_
    refine lv_iconst (v := 0) hx hb dX11_ahead_15 (by decide) ?_
    refine k_iald (v := (c0 0)) hx hb hK hP 1 0 rfl rfl (k_inl (by decide)) rfl dX11_ahead_16 ?_
    refine lv_topi (fun v_11 ev_11 => ?_)
    have lo_v_11 := k_lo v_11
    have hi_v_11 := k_hi v_11
    have tv_11 : v_11.toInt = (c0 0).toInt := by rw [ev_11]
    have b_12 : 0 ≤ v_11.toInt ∧ v_11.toInt ≤ 2000 := by first | (rw [tv_11]; exact SB.n0 (And.left pre0)) | exact SB.n0 (And.left pre0) | omega
    refine lv_iload_n hx hb dX11_ahead_17 rfl (lv_at hl 1 rfl) ?_
    refine lv_iadd hx hb dX11_ahead_18 ?_
    refine lv_topi (fun v_13 ev_13 => ?_)
    have tv_13 : v_13.toInt = v_11.toInt + a0.toInt := by rw [ev_13]; exact k_addv rfl rfl (by omega) (by omega)
    refine lv_sipush (v := 2000) hx hb dX11_ahead_19 (by decide) ?_
    refine b_icmp_gt hx hb rfl zl_2000 (tgt := 49) dX11_ahead_22 (by decide) (fun c_14 => ?_) (fun c_14 => ?_)
    · refine lv_aload_n hx hb dX11_ahead_49 rfl (lv_at hl 0 rfl) ?_
      refine lv_ldc (v := (-1000001)) hx hb hown (hT _ mw_1239) dX11_ahead_50 ?_
      refine kJi (wr := [(k0, .inl (cI, 1201, .inl c0)), (k2, .inl (cI, 1201, .inl c2))]) (va_runV (As := [.int (-1000001)]) (rest := []) ⟨hx, hb, hml, hown, hT⟩ (c_X11_findingG l D cI aK aV k k0 k1 k2 k4 k5 k6 k7 k8 ka kb kl ko H.size c3 c9 cc cd ce cf cg ch ci cj ck cm cn c4 (-1000001) (by first | omega | (simp only [zl_m1000001]; first | done | omega) | decide | assumption | rfl) (by first | omega | (simp only [zl_m1000001]; first | done | omega) | decide | assumption | rfl)) (cwV 1 hT (gV_in mw_1243 mw_1240 mw_1242 mw_p3_8 mw_12) rfl rfl rfl (by decide +kernel) ⟨Nat.le_of_ble_eq_true rfl, Nat.le_of_ble_eq_true rfl⟩) (kRecvX (q0 := 0) (ci := 11) hK hP hD hN hXS hS hA rfl rfl [0, 3] rfl (by decide)) rfl rfl hl.1 rfl (lv_room (Nat.le_of_ble_eq_true rfl)) dX11_ahead_52 ⟨Nat.le_of_ble_eq_true rfl, Nat.le_of_ble_eq_true rfl⟩) hP hD hS hA [0, 3] [1, 2] rfl rfl (by decide) (by decide) ?_
      clear hP hD hS
      intro r_15 sc4_17 H locs w_16 hP hD hS
      replace hP : va_P D vwCl [(k0, .inl (cI, 1201, .inl c0)), (k2, .inl (cI, 1201, .inl c2)), (k, .inr (11, [.ref k0, .ref k1, .ref k2, .int c3, .ref k4, .ref k5, .ref k6, .ref k7, .ref k8, .int c9, .ref ka, .ref kb, .int cc, .int cd, .int ce, .int cf, .int cg, .int ch, .int ci, .int cj, .int ck, .ref kl, .int cm, .int cn, .ref ko])), (k4, .inl (cI, 6, .inl sc4_17))] H := hP
      replace hD : va_D A [(k0, .inl (cI, 1201, .inl c0)), (k2, .inl (cI, 1201, .inl c2)), (k, .inr (11, [.ref k0, .ref k1, .ref k2, .int c3, .ref k4, .ref k5, .ref k6, .ref k7, .ref k8, .int c9, .ref ka, .ref kb, .int cc, .int cd, .int ce, .int cf, .int cg, .int ch, .int ci, .int cj, .int ck, .ref kl, .int cm, .int cn, .ref ko])), (k4, .inl (cI, 6, .inl sc4_17))] := hD
      have hr_15 := w_16
      obtain rfl : r_15 = (-1000001) := hr_15.trans (by decide)
      exact hRet (c2, sc4_17) [2, 0, 1, 3] (by (try dsimp only); unfold ahdR; (repeat (first | rw [if_pos (by omega)] | rw [if_neg (by omega)]))) hP hD (by decide) rfl hS rfl dX11_ahead_55
    · refine lv_iload_n hx hb dX11_ahead_25 rfl (lv_at hl 2 rfl) ?_
      refine lv_iconst (v := 0) hx hb dX11_ahead_26 (by decide) ?_
      refine lv_bipush (v := 10) hx hb dX11_ahead_27 (by decide) ?_
      refine kJi (wr := [(k, .inr (11, [.ref k0, .ref k1, .ref k2, .int c3, .ref k4, .ref k5, .ref k6, .ref k7, .ref k8, .int c9, .ref ka, .ref kb, .int cc, .int cd, .int ce, .int cf, .int cg, .int ch, .int ci, .int cj, .int ck, .ref kl, .int cm, .int cn, .ref ko])), (k0, .inl (cI, 1201, .inl c0)), (k2, .inl (cI, 1201, .inl c2)), (k4, .inl (cI, 6, .inl c4))]) (va_runS (As := [.int a1, .int 0, .int 10]) (rest := []) ⟨hx, hb, hml, hown, hT⟩ (c_X11_inG l D cI aK aV H.size a1 0 10) (cwS 3 hT (gS_in mw_1238 mw_1236 mw_1237 mw_12) rfl rfl rfl (by decide +kernel) ⟨Nat.le_of_ble_eq_true rfl, Nat.le_of_ble_eq_true rfl⟩) (kStatX hK hP hD hN hXS hS hA [] rfl (by decide)) rfl rfl hl.1 rfl (lv_room (Nat.le_of_ble_eq_true rfl)) dX11_ahead_29 ⟨Nat.le_of_ble_eq_true rfl, Nat.le_of_ble_eq_true rfl⟩) hP hD hS hA [] [0, 1, 2, 3] rfl rfl (by decide) (by decide) ?_
      clear hP hD hS
      intro r_18 u_20 H locs w_19 hP hD hS
      replace hP : va_P D vwCl [(k, .inr (11, [.ref k0, .ref k1, .ref k2, .int c3, .ref k4, .ref k5, .ref k6, .ref k7, .ref k8, .int c9, .ref ka, .ref kb, .int cc, .int cd, .int ce, .int cf, .int cg, .int ch, .int ci, .int cj, .int ck, .ref kl, .int cm, .int cn, .ref ko])), (k0, .inl (cI, 1201, .inl c0)), (k2, .inl (cI, 1201, .inl c2)), (k4, .inl (cI, 6, .inl c4))] H := hP
      replace hD : va_D A [(k, .inr (11, [.ref k0, .ref k1, .ref k2, .int c3, .ref k4, .ref k5, .ref k6, .ref k7, .ref k8, .int c9, .ref ka, .ref kb, .int cc, .int cd, .int ce, .int cf, .int cg, .int ch, .int ci, .int cj, .int ck, .ref kl, .int cm, .int cn, .ref ko])), (k0, .inl (cI, 1201, .inl c0)), (k2, .inl (cI, 1201, .inl c2)), (k4, .inl (cI, 6, .inl c4))] := hD
      rcases w_19 with ⟨hr_18, h_21, h_22⟩ | ⟨hr_18, h_23⟩
      · try simp only [zl_0, zl_10] at h_21
        have h_21 : 0 ≤ a1.toInt := h_21
        try simp only [zl_0, zl_10] at h_22
        have h_22 : a1.toInt ≤ 10 := h_22
        obtain rfl : r_18 = 1 := hr_18.trans (by decide)
        refine b_if_eq hx hb zl_1 (tgt := 49) dX11_ahead_32 (by decide) (fun c_24 => by exfalso; omega) (fun c_24 => ?_)
        refine lv_iload_n hx hb dX11_ahead_35 rfl (lv_at hl 2 rfl) ?_
        refine lv_bipush (v := 9) hx hb dX11_ahead_36 (by decide) ?_
        refine b_icmp_ge hx hb rfl zl_9 (tgt := 56) dX11_ahead_38 (by decide) (fun c_25 => ?_) (fun c_25 => ?_)
        · refine lv_aload_n hx hb dX11_ahead_56 rfl (lv_at hl 0 rfl) ?_
          refine va_get (D := D) (ci := 11) (v := .ref k0) (C := RX11) (T := TX11) (N := 25) hx hb hT giX11 hown hK hP 0 rfl rfl 0 (by decide) (hT (Cond.fieldLink RX11 9 "DesertWireModel" "s" "[I") mw_1156) (fun _ h9 => h9) rfl dX11_ahead_57 ?_
          refine lv_astore (lv' := [(4, .ref k0), (0, .ref k), (1, .int a0), (2, .int a1), (3, .int a2)]) hx hb dX11_ahead_60 hl (by decide) rfl ?_
          clear hl
          intro ls hl
          refine lv_aload hx hb dX11_ahead_62 (lv_at hl 0 rfl) ?_
          refine lv_aload_n hx hb dX11_ahead_64 rfl (lv_at hl 1 rfl) ?_
          refine va_get (D := D) (ci := 11) (v := .ref k2) (C := RX11) (T := TX11) (N := 25) hx hb hT giX11 hown hK hP 0 rfl rfl 2 (by decide) (hT (Cond.fieldLink RX11 16 "DesertWireModel" "trial" "[I") mw_1158) (fun _ h9 => h9) rfl dX11_ahead_65 ?_
          refine kJv (wr := [(k, .inr (11, [.ref k0, .ref k1, .ref k2, .int c3, .ref k4, .ref k5, .ref k6, .ref k7, .ref k8, .int c9, .ref ka, .ref kb, .int cc, .int cd, .int ce, .int cf, .int cg, .int ch, .int ci, .int cj, .int ck, .ref kl, .int cm, .int cn, .ref ko])), (k4, .inl (cI, 6, .inl c4))]) (va_runS (As := [.ref k0, .ref k2]) (rest := []) ⟨hx, hb, hml, hown, hT⟩ (c_X11_copyG l D cI aK aV k0 k2 H.size c0 c2) (cwS 2 hT (gS_in mw_1558 mw_1556 mw_1557 mw_12) rfl rfl rfl (by decide +kernel) ⟨Nat.le_of_ble_eq_true rfl, Nat.le_of_ble_eq_true rfl⟩) (kStatX hK hP hD hN hXS hS hA [1, 2] rfl (by decide)) rfl rfl hl.1 rfl (lv_room (Nat.le_of_ble_eq_true rfl)) dX11_ahead_68 ⟨Nat.le_of_ble_eq_true rfl, Nat.le_of_ble_eq_true rfl⟩) hP hD hS hA [1, 2] [0, 3] rfl rfl (by decide) (by decide) ?_
          clear hP hD hS
          intro ser_28 H locs w_27 hP hD hS
          replace hP : va_P D vwCl [(k, .inr (11, [.ref k0, .ref k1, .ref k2, .int c3, .ref k4, .ref k5, .ref k6, .ref k7, .ref k8, .int c9, .ref ka, .ref kb, .int cc, .int cd, .int ce, .int cf, .int cg, .int ch, .int ci, .int cj, .int ck, .ref kl, .int cm, .int cn, .ref ko])), (k4, .inl (cI, 6, .inl c4)), (k0, .inl (cI, 1201, .inl c0)), (k2, .inl (cI, 1201, .inl ser_28))] H := hP
          replace hD : va_D A [(k, .inr (11, [.ref k0, .ref k1, .ref k2, .int c3, .ref k4, .ref k5, .ref k6, .ref k7, .ref k8, .int c9, .ref ka, .ref kb, .int cc, .int cd, .int ce, .int cf, .int cg, .int ch, .int ci, .int cj, .int ck, .ref kl, .int cm, .int cn, .ref ko])), (k4, .inl (cI, 6, .inl c4)), (k0, .inl (cI, 1201, .inl c0)), (k2, .inl (cI, 1201, .inl ser_28))] := hD
          have h_29 := w_27
          have h_29 : ser_28 = c0 := h_29
          have hS_30 : SIX ser_28 (-1) := by rw [h_29]; exact pre0
          have n_31 : (ser_28 0).toInt = (c0 0).toInt := by rw [h_29]
          have n_32 : (ser_28 1).toInt = (c0 1).toInt := by rw [h_29]
          have n_33 : (ser_28 2).toInt = (c0 2).toInt := by rw [h_29]
          refine lv_aload_n hx hb dX11_ahead_71 rfl (lv_at hl 1 rfl) ?_
          refine lv_aload_n hx hb dX11_ahead_72 rfl (lv_at hl 1 rfl) ?_
          refine va_get (D := D) (ci := 11) (v := .ref k2) (C := RX11) (T := TX11) (N := 25) hx hb hT giX11 hown hK hP 0 rfl rfl 2 (by decide) (hT (Cond.fieldLink RX11 16 "DesertWireModel" "trial" "[I") mw_1158) (fun _ h9 => h9) rfl dX11_ahead_73 ?_
          refine va_put (D := D) (ci := 11) (v := .ref k2) (ty := .array .int) (C := RX11) (T := TX11) (N := 25) hx hb hT giX11 tyX11 tyX11_ok nmX11 hown hK hP hD hS 0 rfl rfl 0 (by decide) (hT (Cond.fieldLink RX11 9 "DesertWireModel" "s" "[I") mw_1156) (fun _ h9 => h9) rfl (by decide +kernel) rfl rfl (Nat.le_of_ble_eq_true rfl) dX11_ahead_76 ?_
          clear hP hD hS
          intro H locs hP hD hS
          replace hP : va_P D vwCl [(k, .inr (11, [.ref k2, .ref k1, .ref k2, .int c3, .ref k4, .ref k5, .ref k6, .ref k7, .ref k8, .int c9, .ref ka, .ref kb, .int cc, .int cd, .int ce, .int cf, .int cg, .int ch, .int ci, .int cj, .int ck, .ref kl, .int cm, .int cn, .ref ko])), (k4, .inl (cI, 6, .inl c4)), (k0, .inl (cI, 1201, .inl c0)), (k2, .inl (cI, 1201, .inl ser_28))] H := hP
          replace hD : va_D A [(k, .inr (11, [.ref k2, .ref k1, .ref k2, .int c3, .ref k4, .ref k5, .ref k6, .ref k7, .ref k8, .int c9, .ref ka, .ref kb, .int cc, .int cd, .int ce, .int cf, .int cg, .int ch, .int ci, .int cj, .int ck, .ref kl, .int cm, .int cn, .ref ko])), (k4, .inl (cI, 6, .inl c4)), (k0, .inl (cI, 1201, .inl c0)), (k2, .inl (cI, 1201, .inl ser_28))] := hD
          refine lv_iconst (v := 0) hx hb dX11_ahead_79 (by decide) ?_
          refine lv_istore (lv' := [(5, .int 0), (4, .ref k0), (0, .ref k), (1, .int a0), (2, .int a1), (3, .int a2)]) hx hb dX11_ahead_80 hl (by decide) rfl ?_
          clear hl
          intro ls hl
          have hloop_82 : ∀ (fu_ : Nat) (l82_5 : Int32) (g82_k2 : Nat → Int32), 0 ≤ l82_5.toInt → SIX g82_k2 (-1) → (g82_k2 0).toInt = (c0 0).toInt + l82_5.toInt → l82_5.toInt ≤ a0.toInt → (g82_k2 2).toInt = (c0 2).toInt → g82_k2 = daysF c0 l82_5.toInt.toNat → (a0.toInt - l82_5.toInt).toNat < fu_ → ∀ (ls : Array Slot) (H : Heap) (locs : List Loc), lv_has ls 6 [(5, .int l82_5), (4, .ref k0), (0, .ref k), (1, .int a0), (2, .int a1), (3, .int a2)] → va_P D vwCl [(k, .inr (11, [.ref k2, .ref k1, .ref k2, .int c3, .ref k4, .ref k5, .ref k6, .ref k7, .ref k8, .int c9, .ref ka, .ref kb, .int cc, .int cd, .int ce, .int cf, .int cg, .int ch, .int ci, .int cj, .int ck, .ref kl, .int cm, .int cn, .ref ko])), (k4, .inl (cI, 6, .inl c4)), (k0, .inl (cI, 1201, .inl c0)), (k2, .inl (cI, 1201, .inl g82_k2))] H → va_D A [(k, .inr (11, [.ref k2, .ref k1, .ref k2, .int c3, .ref k4, .ref k5, .ref k6, .ref k7, .ref k8, .int c9, .ref ka, .ref kb, .int cc, .int cd, .int ce, .int cf, .int cg, .int ch, .int ci, .int cj, .int ck, .ref kl, .int cm, .int cn, .ref ko])), (k4, .inl (cI, 6, .inl c4)), (k0, .inl (cI, 1201, .inl c0)), (k2, .inl (cI, 1201, .inl g82_k2))] → va_S A s.heap H locs → W p l e ({ frames := 6, cells := 0, slots := 0, locals := 132 } : Room) s m args below meth c H locs 0 0 Q (F0 m 82 ls []) := by
            intro fu_; induction fu_ with
            | zero => intro l82_5 g82_k2 i82_0 i82_1 i82_2 i82_3 i82_4 i82_5 hm; exact absurd hm (by omega)
            | succ fu_ ih82 =>
                intro l82_5 g82_k2 i82_0 i82_1 i82_2 i82_3 i82_4 i82_5 hm ls H locs hl hP hD hS
                have lo_l82_5 := k_lo l82_5
                have hi_l82_5 := k_hi l82_5
                have i82_1 : SIX g82_k2 (-1) := i82_1
                have i82_5 : g82_k2 = daysF c0 l82_5.toInt.toNat := i82_5
                refine lv_iload hx hb dX11_ahead_82 (lv_at hl 0 rfl) ?_
                refine lv_iload_n hx hb dX11_ahead_84 rfl (lv_at hl 3 rfl) ?_
                refine b_icmp_ge hx hb rfl rfl (tgt := 98) dX11_ahead_85 (by decide) (fun c_34 => ?_) (fun c_34 => ?_)
                · refine lv_iload_n hx hb dX11_ahead_98 rfl (lv_at hl 4 rfl) ?_
                  refine lv_bipush (v := 9) hx hb dX11_ahead_99 (by decide) ?_
                  refine b_icmp_ge hx hb rfl zl_9 (tgt := 113) dX11_ahead_101 (by decide) (fun c_35 => ?_) (fun c_35 => by exfalso; omega)
                  refine lv_iload_n hx hb dX11_ahead_113 rfl (lv_at hl 4 rfl) ?_
                  refine lv_bipush (v := 9) hx hb dX11_ahead_114 (by decide) ?_
                  refine b_icmp_ne hx hb rfl zl_9 (tgt := 126) dX11_ahead_116 (by decide) (fun c_36 => ?_) (fun c_36 => ?_)
                  · refine lv_aload_n hx hb dX11_ahead_126 rfl (lv_at hl 2 rfl) ?_
                    refine va_get (D := D) (ci := 11) (v := .ref k2) (C := RX11) (T := TX11) (N := 25) hx hb hT giX11 hown hK hP 0 rfl rfl 0 (by decide) (hT (Cond.fieldLink RX11 9 "DesertWireModel" "s" "[I") mw_1156) (fun _ h9 => h9) rfl dX11_ahead_127 ?_
                    refine lv_iconst (v := 1) hx hb dX11_ahead_130 (by decide) ?_
                    refine k_iald (v := (g82_k2 1)) hx hb hK hP 3 0 rfl rfl (k_inl (by decide)) rfl dX11_ahead_131 ?_
                    refine lv_topi (fun v_37 ev_37 => ?_)
                    have lo_v_37 := k_lo v_37
                    have hi_v_37 := k_hi v_37
                    have tv_37 : v_37.toInt = (g82_k2 1).toInt := by rw [ev_37]
                    have b_38 : 0 ≤ v_37.toInt ∧ v_37.toInt ≤ 60 := by first | (rw [tv_37]; exact SB.n1 (And.left i82_1)) | exact SB.n1 (And.left i82_1) | omega
                    refine lv_istore (lv' := [(5, .int v_37), (4, .ref k0), (0, .ref k), (1, .int a0), (2, .int a1), (3, .int a2)]) hx hb dX11_ahead_132 hl (by decide) rfl ?_
                    clear hl
                    intro ls hl
                    refine lv_aload_n hx hb dX11_ahead_134 rfl (lv_at hl 2 rfl) ?_
                    refine lv_aload hx hb dX11_ahead_135 (lv_at hl 1 rfl) ?_
                    refine va_put (D := D) (ci := 11) (v := .ref k0) (ty := .array .int) (C := RX11) (T := TX11) (N := 25) hx hb hT giX11 tyX11 tyX11_ok nmX11 hown hK hP hD hS 0 rfl rfl 0 (by decide) (hT (Cond.fieldLink RX11 9 "DesertWireModel" "s" "[I") mw_1156) (fun _ h9 => h9) rfl (by decide +kernel) rfl rfl (Nat.le_of_ble_eq_true rfl) dX11_ahead_137 ?_
                    clear hP hD hS
                    intro H locs hP hD hS
                    replace hP : va_P D vwCl [(k, .inr (11, [.ref k0, .ref k1, .ref k2, .int c3, .ref k4, .ref k5, .ref k6, .ref k7, .ref k8, .int c9, .ref ka, .ref kb, .int cc, .int cd, .int ce, .int cf, .int cg, .int ch, .int ci, .int cj, .int ck, .ref kl, .int cm, .int cn, .ref ko])), (k4, .inl (cI, 6, .inl c4)), (k0, .inl (cI, 1201, .inl c0)), (k2, .inl (cI, 1201, .inl g82_k2))] H := hP
                    replace hD : va_D A [(k, .inr (11, [.ref k0, .ref k1, .ref k2, .int c3, .ref k4, .ref k5, .ref k6, .ref k7, .ref k8, .int c9, .ref ka, .ref kb, .int cc, .int cd, .int ce, .int cf, .int cg, .int ch, .int ci, .int cj, .int ck, .ref kl, .int cm, .int cn, .ref ko])), (k4, .inl (cI, 6, .inl c4)), (k0, .inl (cI, 1201, .inl c0)), (k2, .inl (cI, 1201, .inl g82_k2))] := hD
                    refine lv_iload hx hb dX11_ahead_140 (lv_at hl 0 rfl) ?_
                    exact hRet (g82_k2, c4) [0, 2, 3, 1] (by unfold ahdR; rw [show daysF c0 a0.toInt.toNat = g82_k2 from (by rw [show a0.toInt.toNat = l82_5.toInt.toNat from by omega]; exact i82_5.symm)]; (repeat (first | rw [if_pos (by omega)] | rw [if_neg (by omega)])); first | done | exact ev_37) hP hD (by decide) rfl hS rfl dX11_ahead_142
                  · refine lv_aload_n hx hb dX11_ahead_119 rfl (lv_at hl 2 rfl) ?_
                    refine kJi (wr := [(k4, .inl (cI, 6, .inl c4)), (k0, .inl (cI, 1201, .inl c0))]) (va_runV (As := []) (rest := []) ⟨hx, hb, hml, hown, hT⟩ (c_X11_wiredG l D cI aK aV k k2 k1 k2 k4 k5 k6 k7 k8 ka kb kl ko H.size c3 c9 cc cd ce cf cg ch ci cj ck cm cn g82_k2 (And.left i82_1)) (cwV 0 hT (gV_in mw_1562 mw_1559 mw_1561 mw_p6_4 mw_12) rfl rfl rfl (by decide +kernel) ⟨Nat.le_of_ble_eq_true rfl, Nat.le_of_ble_eq_true rfl⟩) (kRecvX (q0 := 0) (ci := 11) hK hP hD hN hXS hS hA rfl rfl [0, 3] rfl (by decide)) rfl rfl hl.1 rfl (lv_room (Nat.le_of_ble_eq_true rfl)) dX11_ahead_120 ⟨Nat.le_of_ble_eq_true rfl, Nat.le_of_ble_eq_true rfl⟩) hP hD hS hA [0, 3] [1, 2] rfl rfl (by decide) (by decide) ?_
                    clear hP hD hS
                    intro r_39 u_41 H locs w_40 hP hD hS
                    replace hP : va_P D vwCl [(k4, .inl (cI, 6, .inl c4)), (k0, .inl (cI, 1201, .inl c0)), (k, .inr (11, [.ref k2, .ref k1, .ref k2, .int c3, .ref k4, .ref k5, .ref k6, .ref k7, .ref k8, .int c9, .ref ka, .ref kb, .int cc, .int cd, .int ce, .int cf, .int cg, .int ch, .int ci, .int cj, .int ck, .ref kl, .int cm, .int cn, .ref ko])), (k2, .inl (cI, 1201, .inl g82_k2))] H := hP
                    replace hD : va_D A [(k4, .inl (cI, 6, .inl c4)), (k0, .inl (cI, 1201, .inl c0)), (k, .inr (11, [.ref k2, .ref k1, .ref k2, .int c3, .ref k4, .ref k5, .ref k6, .ref k7, .ref k8, .int c9, .ref ka, .ref kb, .int cc, .int cd, .int ce, .int cf, .int cg, .int ch, .int ci, .int cj, .int ck, .ref kl, .int cm, .int cn, .ref ko])), (k2, .inl (cI, 1201, .inl g82_k2))] := hD
                    have h_42 := w_40
                    have h_42 : r_39 = wmN g82_k2 40 := h_42
                    have lo_r_39 := k_lo r_39
                    have hi_r_39 := k_hi r_39
                    refine lv_goto (tgt := 132) hx hb dX11_ahead_123 (by decide) ?_
                    refine lv_istore (lv' := [(5, .int r_39), (4, .ref k0), (0, .ref k), (1, .int a0), (2, .int a1), (3, .int a2)]) hx hb dX11_ahead_132 hl (by decide) rfl ?_
                    clear hl
                    intro ls hl
                    refine lv_aload_n hx hb dX11_ahead_134 rfl (lv_at hl 2 rfl) ?_
                    refine lv_aload hx hb dX11_ahead_135 (lv_at hl 1 rfl) ?_
                    refine va_put (D := D) (ci := 11) (v := .ref k0) (ty := .array .int) (C := RX11) (T := TX11) (N := 25) hx hb hT giX11 tyX11 tyX11_ok nmX11 hown hK hP hD hS 2 rfl rfl 0 (by decide) (hT (Cond.fieldLink RX11 9 "DesertWireModel" "s" "[I") mw_1156) (fun _ h9 => h9) rfl (by decide +kernel) rfl rfl (Nat.le_of_ble_eq_true rfl) dX11_ahead_137 ?_
                    clear hP hD hS
                    intro H locs hP hD hS
                    replace hP : va_P D vwCl [(k4, .inl (cI, 6, .inl c4)), (k0, .inl (cI, 1201, .inl c0)), (k, .inr (11, [.ref k0, .ref k1, .ref k2, .int c3, .ref k4, .ref k5, .ref k6, .ref k7, .ref k8, .int c9, .ref ka, .ref kb, .int cc, .int cd, .int ce, .int cf, .int cg, .int ch, .int ci, .int cj, .int ck, .ref kl, .int cm, .int cn, .ref ko])), (k2, .inl (cI, 1201, .inl g82_k2))] H := hP
                    replace hD : va_D A [(k4, .inl (cI, 6, .inl c4)), (k0, .inl (cI, 1201, .inl c0)), (k, .inr (11, [.ref k0, .ref k1, .ref k2, .int c3, .ref k4, .ref k5, .ref k6, .ref k7, .ref k8, .int c9, .ref ka, .ref kb, .int cc, .int cd, .int ce, .int cf, .int cg, .int ch, .int ci, .int cj, .int ck, .ref kl, .int cm, .int cn, .ref ko])), (k2, .inl (cI, 1201, .inl g82_k2))] := hD
                    refine lv_iload hx hb dX11_ahead_140 (lv_at hl 0 rfl) ?_
                    exact hRet (g82_k2, c4) [2, 1, 3, 0] (by unfold ahdR; rw [show daysF c0 a0.toInt.toNat = g82_k2 from (by rw [show a0.toInt.toNat = l82_5.toInt.toNat from by omega]; exact i82_5.symm)]; (repeat (first | rw [if_pos (by omega)] | rw [if_neg (by omega)])); first | done | exact h_42) hP hD (by decide) rfl hS rfl dX11_ahead_142
                · refine lv_aload_n hx hb dX11_ahead_88 rfl (lv_at hl 2 rfl) ?_
                  refine kJv (wr := [(k4, .inl (cI, 6, .inl c4)), (k0, .inl (cI, 1201, .inl c0))]) (va_runV (As := []) (rest := []) ⟨hx, hb, hml, hown, hT⟩ (c_X11_oneDayG l D cI aK aV k k2 k1 k2 k4 k5 k6 k7 k8 ka kb kl ko H.size c3 c9 cc cd ce cf cg ch ci cj ck cm cn g82_k2 i82_1 (by first | omega | decide | assumption | rfl)) (cwV 0 hT (gV_in mw_1535 mw_1532 mw_1534 mw_p5_15 mw_12) rfl rfl rfl (by decide +kernel) ⟨Nat.le_of_ble_eq_true rfl, Nat.le_of_ble_eq_true rfl⟩) (kRecvX (q0 := 0) (ci := 11) hK hP hD hN hXS hS hA rfl rfl [0, 3] rfl (by decide)) rfl rfl hl.1 rfl (lv_room (Nat.le_of_ble_eq_true rfl)) dX11_ahead_89 ⟨Nat.le_of_ble_eq_true rfl, Nat.le_of_ble_eq_true rfl⟩) hP hD hS hA [0, 3] [1, 2] rfl rfl (by decide) (by decide) ?_
                  clear hP hD hS
                  intro sc0_45 H locs w_44 hP hD hS
                  replace hP : va_P D vwCl [(k4, .inl (cI, 6, .inl c4)), (k0, .inl (cI, 1201, .inl c0)), (k, .inr (11, [.ref k2, .ref k1, .ref k2, .int c3, .ref k4, .ref k5, .ref k6, .ref k7, .ref k8, .int c9, .ref ka, .ref kb, .int cc, .int cd, .int ce, .int cf, .int cg, .int ch, .int ci, .int cj, .int ck, .ref kl, .int cm, .int cn, .ref ko])), (k2, .inl (cI, 1201, .inl sc0_45))] H := hP
                  replace hD : va_D A [(k4, .inl (cI, 6, .inl c4)), (k0, .inl (cI, 1201, .inl c0)), (k, .inr (11, [.ref k2, .ref k1, .ref k2, .int c3, .ref k4, .ref k5, .ref k6, .ref k7, .ref k8, .int c9, .ref ka, .ref kb, .int cc, .int cd, .int ce, .int cf, .int cg, .int ch, .int ci, .int cj, .int ck, .ref kl, .int cm, .int cn, .ref ko])), (k2, .inl (cI, 1201, .inl sc0_45))] := hD
                  obtain ⟨h_46, h_47, h_48, h_49⟩ := w_44
                  have h_46 : SIX sc0_45 (-1) := h_46
                  have h_47 : (sc0_45 0).toInt = (g82_k2 0).toInt + 1 := h_47
                  have h_48 : (sc0_45 2).toInt = (g82_k2 2).toInt := h_48
                  have h_49 : sc0_45 = dayS g82_k2 := h_49
                  obtain ⟨v_50, ev_50⟩ : ∃ y : Int32, y = l82_5 + 1 := ⟨_, rfl⟩
                  have tv_50 : v_50.toInt = l82_5.toInt + 1 := by rw [ev_50]; exact k_addv rfl zl_1 (by omega) (by omega)
                  refine lv_iinc (v := v_50) (lv' := [(5, .int v_50), (4, .ref k0), (0, .ref k), (1, .int a0), (2, .int a1), (3, .int a2)]) hx hb dX11_ahead_92 hl (k := 0) rfl (by rw [ev_50]; rfl) (by decide) rfl ?_
                  clear hl
                  intro ls hl
                  refine lv_goto (tgt := 82) hx hb dX11_ahead_95 (by decide) ?_
                  exact ih82 v_50 sc0_45 (by first | omega | decide | assumption | rfl) h_46 (by first | omega | decide | assumption | rfl) (by first | omega | decide | assumption | rfl) (by first | omega | decide | assumption | rfl) (by rw [h_49, i82_5]; exact daysF_s (by omega) (by omega)) (by omega) ls _ _ (lv_sub hl [0, 1, 2, 3, 4, 5] rfl) (hP.sub [2, 0, 1, 3] rfl) (hD.sub [2, 0, 1, 3] (by decide) rfl) hS
          exact hloop_82 _ 0 ser_28 (by first | omega | (simp only [zl_0]; first | done | omega) | decide | assumption | rfl) hS_30 (by first | omega | (simp only [zl_0]; first | done | omega) | decide | assumption | rfl) (by first | omega | (simp only [zl_0]; first | done | omega) | decide | assumption | rfl) (by first | omega | (simp only [zl_0]; first | done | omega) | decide | assumption | rfl) (by rw [zl_0]; exact h_29) (Nat.lt_succ_self _) ls _ _ (lv_sub hl [0, 1, 2, 3, 4, 5] rfl) hP hD hS
        · refine lv_aload_n hx hb dX11_ahead_41 rfl (lv_at hl 0 rfl) ?_
          refine lv_iload_n hx hb dX11_ahead_42 rfl (lv_at hl 3 rfl) ?_
          refine kJi (wr := [(k2, .inl (cI, 1201, .inl c2)), (k4, .inl (cI, 6, .inl c4))]) (va_runV (As := [.int a2]) (rest := []) ⟨hx, hb, hml, hown, hT⟩ (c_X11_isPartyG l D cI aK aV k k0 k1 k2 k4 k5 k6 k7 k8 ka kb kl ko H.size c3 c9 cc cd ce cf cg ch ci cj ck cm cn c0 a2 (And.left pre0)) (cwV 1 hT (gV_in mw_1412 mw_1409 mw_1411 mw_p5_4 mw_12) rfl rfl rfl (by decide +kernel) ⟨Nat.le_of_ble_eq_true rfl, Nat.le_of_ble_eq_true rfl⟩) (kRecvX (q0 := 0) (ci := 11) hK hP hD hN hXS hS hA rfl rfl [0, 1] rfl (by decide)) rfl rfl hl.1 rfl (lv_room (Nat.le_of_ble_eq_true rfl)) dX11_ahead_43 ⟨Nat.le_of_ble_eq_true rfl, Nat.le_of_ble_eq_true rfl⟩) hP hD hS hA [0, 1] [2, 3] rfl rfl (by decide) (by decide) ?_
          clear hP hD hS
          intro r_51 u_53 H locs w_52 hP hD hS
          replace hP : va_P D vwCl [(k2, .inl (cI, 1201, .inl c2)), (k4, .inl (cI, 6, .inl c4)), (k, .inr (11, [.ref k0, .ref k1, .ref k2, .int c3, .ref k4, .ref k5, .ref k6, .ref k7, .ref k8, .int c9, .ref ka, .ref kb, .int cc, .int cd, .int ce, .int cf, .int cg, .int ch, .int ci, .int cj, .int ck, .ref kl, .int cm, .int cn, .ref ko])), (k0, .inl (cI, 1201, .inl c0))] H := hP
          replace hD : va_D A [(k2, .inl (cI, 1201, .inl c2)), (k4, .inl (cI, 6, .inl c4)), (k, .inr (11, [.ref k0, .ref k1, .ref k2, .int c3, .ref k4, .ref k5, .ref k6, .ref k7, .ref k8, .int c9, .ref ka, .ref kb, .int cc, .int cd, .int ce, .int cf, .int cg, .int ch, .int ci, .int cj, .int ck, .ref kl, .int cm, .int cn, .ref ko])), (k0, .inl (cI, 1201, .inl c0))] := hD
          rcases w_52 with ⟨hr_51, h_54, h_55⟩ | ⟨hr_51, h_56⟩
          · have h_54 : 0 ≤ a2.toInt := h_54
            have h_55 : a2.toInt < (c0 2).toInt := h_55
            obtain rfl : r_51 = 1 := hr_51.trans (by decide)
            refine b_if_ne hx hb zl_1 (tgt := 56) dX11_ahead_46 (by decide) (fun c_57 => ?_) (fun c_57 => by exfalso; omega)
            refine lv_aload_n hx hb dX11_ahead_56 rfl (lv_at hl 0 rfl) ?_
            refine va_get (D := D) (ci := 11) (v := .ref k0) (C := RX11) (T := TX11) (N := 25) hx hb hT giX11 hown hK hP 2 rfl rfl 0 (by decide) (hT (Cond.fieldLink RX11 9 "DesertWireModel" "s" "[I") mw_1156) (fun _ h9 => h9) rfl dX11_ahead_57 ?_
            refine lv_astore (lv' := [(4, .ref k0), (0, .ref k), (1, .int a0), (2, .int a1), (3, .int a2)]) hx hb dX11_ahead_60 hl (by decide) rfl ?_
            clear hl
            intro ls hl
            refine lv_aload hx hb dX11_ahead_62 (lv_at hl 0 rfl) ?_
            refine lv_aload_n hx hb dX11_ahead_64 rfl (lv_at hl 1 rfl) ?_
            refine va_get (D := D) (ci := 11) (v := .ref k2) (C := RX11) (T := TX11) (N := 25) hx hb hT giX11 hown hK hP 2 rfl rfl 2 (by decide) (hT (Cond.fieldLink RX11 16 "DesertWireModel" "trial" "[I") mw_1158) (fun _ h9 => h9) rfl dX11_ahead_65 ?_
            refine kJv (wr := [(k4, .inl (cI, 6, .inl c4)), (k, .inr (11, [.ref k0, .ref k1, .ref k2, .int c3, .ref k4, .ref k5, .ref k6, .ref k7, .ref k8, .int c9, .ref ka, .ref kb, .int cc, .int cd, .int ce, .int cf, .int cg, .int ch, .int ci, .int cj, .int ck, .ref kl, .int cm, .int cn, .ref ko]))]) (va_runS (As := [.ref k0, .ref k2]) (rest := []) ⟨hx, hb, hml, hown, hT⟩ (c_X11_copyG l D cI aK aV k0 k2 H.size c0 c2) (cwS 2 hT (gS_in mw_1558 mw_1556 mw_1557 mw_12) rfl rfl rfl (by decide +kernel) ⟨Nat.le_of_ble_eq_true rfl, Nat.le_of_ble_eq_true rfl⟩) (kStatX hK hP hD hN hXS hS hA [3, 0] rfl (by decide)) rfl rfl hl.1 rfl (lv_room (Nat.le_of_ble_eq_true rfl)) dX11_ahead_68 ⟨Nat.le_of_ble_eq_true rfl, Nat.le_of_ble_eq_true rfl⟩) hP hD hS hA [3, 0] [1, 2] rfl rfl (by decide) (by decide) ?_
            clear hP hD hS
            intro ser_60 H locs w_59 hP hD hS
            replace hP : va_P D vwCl [(k4, .inl (cI, 6, .inl c4)), (k, .inr (11, [.ref k0, .ref k1, .ref k2, .int c3, .ref k4, .ref k5, .ref k6, .ref k7, .ref k8, .int c9, .ref ka, .ref kb, .int cc, .int cd, .int ce, .int cf, .int cg, .int ch, .int ci, .int cj, .int ck, .ref kl, .int cm, .int cn, .ref ko])), (k0, .inl (cI, 1201, .inl c0)), (k2, .inl (cI, 1201, .inl ser_60))] H := hP
            replace hD : va_D A [(k4, .inl (cI, 6, .inl c4)), (k, .inr (11, [.ref k0, .ref k1, .ref k2, .int c3, .ref k4, .ref k5, .ref k6, .ref k7, .ref k8, .int c9, .ref ka, .ref kb, .int cc, .int cd, .int ce, .int cf, .int cg, .int ch, .int ci, .int cj, .int ck, .ref kl, .int cm, .int cn, .ref ko])), (k0, .inl (cI, 1201, .inl c0)), (k2, .inl (cI, 1201, .inl ser_60))] := hD
            have h_61 := w_59
            have h_61 : ser_60 = c0 := h_61
            have hS_62 : SIX ser_60 (-1) := by rw [h_61]; exact pre0
            have n_63 : (ser_60 0).toInt = (c0 0).toInt := by rw [h_61]
            have n_64 : (ser_60 1).toInt = (c0 1).toInt := by rw [h_61]
            have n_65 : (ser_60 2).toInt = (c0 2).toInt := by rw [h_61]
            refine lv_aload_n hx hb dX11_ahead_71 rfl (lv_at hl 1 rfl) ?_
            refine lv_aload_n hx hb dX11_ahead_72 rfl (lv_at hl 1 rfl) ?_
            refine va_get (D := D) (ci := 11) (v := .ref k2) (C := RX11) (T := TX11) (N := 25) hx hb hT giX11 hown hK hP 1 rfl rfl 2 (by decide) (hT (Cond.fieldLink RX11 16 "DesertWireModel" "trial" "[I") mw_1158) (fun _ h9 => h9) rfl dX11_ahead_73 ?_
            refine va_put (D := D) (ci := 11) (v := .ref k2) (ty := .array .int) (C := RX11) (T := TX11) (N := 25) hx hb hT giX11 tyX11 tyX11_ok nmX11 hown hK hP hD hS 1 rfl rfl 0 (by decide) (hT (Cond.fieldLink RX11 9 "DesertWireModel" "s" "[I") mw_1156) (fun _ h9 => h9) rfl (by decide +kernel) rfl rfl (Nat.le_of_ble_eq_true rfl) dX11_ahead_76 ?_
            clear hP hD hS
            intro H locs hP hD hS
            replace hP : va_P D vwCl [(k4, .inl (cI, 6, .inl c4)), (k, .inr (11, [.ref k2, .ref k1, .ref k2, .int c3, .ref k4, .ref k5, .ref k6, .ref k7, .ref k8, .int c9, .ref ka, .ref kb, .int cc, .int cd, .int ce, .int cf, .int cg, .int ch, .int ci, .int cj, .int ck, .ref kl, .int cm, .int cn, .ref ko])), (k0, .inl (cI, 1201, .inl c0)), (k2, .inl (cI, 1201, .inl ser_60))] H := hP
            replace hD : va_D A [(k4, .inl (cI, 6, .inl c4)), (k, .inr (11, [.ref k2, .ref k1, .ref k2, .int c3, .ref k4, .ref k5, .ref k6, .ref k7, .ref k8, .int c9, .ref ka, .ref kb, .int cc, .int cd, .int ce, .int cf, .int cg, .int ch, .int ci, .int cj, .int ck, .ref kl, .int cm, .int cn, .ref ko])), (k0, .inl (cI, 1201, .inl c0)), (k2, .inl (cI, 1201, .inl ser_60))] := hD
            refine lv_iconst (v := 0) hx hb dX11_ahead_79 (by decide) ?_
            refine lv_istore (lv' := [(5, .int 0), (4, .ref k0), (0, .ref k), (1, .int a0), (2, .int a1), (3, .int a2)]) hx hb dX11_ahead_80 hl (by decide) rfl ?_
            clear hl
            intro ls hl
            have hloop_82 : ∀ (fu_ : Nat) (l82_5 : Int32) (g82_k2 : Nat → Int32), 0 ≤ l82_5.toInt → SIX g82_k2 (-1) → (g82_k2 0).toInt = (c0 0).toInt + l82_5.toInt → l82_5.toInt ≤ a0.toInt → (g82_k2 2).toInt = (c0 2).toInt → g82_k2 = daysF c0 l82_5.toInt.toNat → (a0.toInt - l82_5.toInt).toNat < fu_ → ∀ (ls : Array Slot) (H : Heap) (locs : List Loc), lv_has ls 6 [(5, .int l82_5), (4, .ref k0), (0, .ref k), (1, .int a0), (2, .int a1), (3, .int a2)] → va_P D vwCl [(k4, .inl (cI, 6, .inl c4)), (k, .inr (11, [.ref k2, .ref k1, .ref k2, .int c3, .ref k4, .ref k5, .ref k6, .ref k7, .ref k8, .int c9, .ref ka, .ref kb, .int cc, .int cd, .int ce, .int cf, .int cg, .int ch, .int ci, .int cj, .int ck, .ref kl, .int cm, .int cn, .ref ko])), (k0, .inl (cI, 1201, .inl c0)), (k2, .inl (cI, 1201, .inl g82_k2))] H → va_D A [(k4, .inl (cI, 6, .inl c4)), (k, .inr (11, [.ref k2, .ref k1, .ref k2, .int c3, .ref k4, .ref k5, .ref k6, .ref k7, .ref k8, .int c9, .ref ka, .ref kb, .int cc, .int cd, .int ce, .int cf, .int cg, .int ch, .int ci, .int cj, .int ck, .ref kl, .int cm, .int cn, .ref ko])), (k0, .inl (cI, 1201, .inl c0)), (k2, .inl (cI, 1201, .inl g82_k2))] → va_S A s.heap H locs → W p l e ({ frames := 6, cells := 0, slots := 0, locals := 132 } : Room) s m args below meth c H locs 0 0 Q (F0 m 82 ls []) := by
              intro fu_; induction fu_ with
              | zero => intro l82_5 g82_k2 i82_0 i82_1 i82_2 i82_3 i82_4 i82_5 hm; exact absurd hm (by omega)
              | succ fu_ ih82 =>
                  intro l82_5 g82_k2 i82_0 i82_1 i82_2 i82_3 i82_4 i82_5 hm ls H locs hl hP hD hS
                  have lo_l82_5 := k_lo l82_5
                  have hi_l82_5 := k_hi l82_5
                  have i82_1 : SIX g82_k2 (-1) := i82_1
                  have i82_5 : g82_k2 = daysF c0 l82_5.toInt.toNat := i82_5
                  refine lv_iload hx hb dX11_ahead_82 (lv_at hl 0 rfl) ?_
                  refine lv_iload_n hx hb dX11_ahead_84 rfl (lv_at hl 3 rfl) ?_
                  refine b_icmp_ge hx hb rfl rfl (tgt := 98) dX11_ahead_85 (by decide) (fun c_66 => ?_) (fun c_66 => ?_)
                  · refine lv_iload_n hx hb dX11_ahead_98 rfl (lv_at hl 4 rfl) ?_
                    refine lv_bipush (v := 9) hx hb dX11_ahead_99 (by decide) ?_
                    refine b_icmp_ge hx hb rfl zl_9 (tgt := 113) dX11_ahead_101 (by decide) (fun c_67 => by exfalso; omega) (fun c_67 => ?_)
                    refine lv_aload_n hx hb dX11_ahead_104 rfl (lv_at hl 2 rfl) ?_
                    refine lv_iload_n hx hb dX11_ahead_105 rfl (lv_at hl 5 rfl) ?_
                    refine lv_iload_n hx hb dX11_ahead_106 rfl (lv_at hl 4 rfl) ?_
                    refine kJi (wr := [(k4, .inl (cI, 6, .inl c4)), (k0, .inl (cI, 1201, .inl c0))]) (va_runV (As := [.int a2, .int a1]) (rest := []) ⟨hx, hb, hml, hown, hT⟩ (c_X11_partyGV l D cI aK aV k k2 k1 k2 k4 k5 k6 k7 k8 ka kb kl ko H.size c3 c9 cc cd ce cf cg ch ci cj ck cm cn g82_k2 a2 a1 (by first | omega | decide | assumption | rfl) (by first | omega | decide | assumption | rfl) (by first | omega | decide | assumption | rfl) (by first | omega | decide | assumption | rfl)) (cwV 2 hT (gV_in mw_1416 mw_1413 mw_1415 mw_p5_5 mw_12) rfl rfl rfl (by decide +kernel) ⟨Nat.le_of_ble_eq_true rfl, Nat.le_of_ble_eq_true rfl⟩) (kRecvX (q0 := 1) (ci := 11) hK hP hD hN hXS hS hA rfl rfl [1, 3] rfl (by decide)) rfl rfl hl.1 rfl (lv_room (Nat.le_of_ble_eq_true rfl)) dX11_ahead_107 ⟨Nat.le_of_ble_eq_true rfl, Nat.le_of_ble_eq_true rfl⟩) hP hD hS hA [1, 3] [0, 2] rfl rfl (by decide) (by decide) ?_
                    clear hP hD hS
                    intro r_68 u_70 H locs w_69 hP hD hS
                    replace hP : va_P D vwCl [(k4, .inl (cI, 6, .inl c4)), (k0, .inl (cI, 1201, .inl c0)), (k, .inr (11, [.ref k2, .ref k1, .ref k2, .int c3, .ref k4, .ref k5, .ref k6, .ref k7, .ref k8, .int c9, .ref ka, .ref kb, .int cc, .int cd, .int ce, .int cf, .int cg, .int ch, .int ci, .int cj, .int ck, .ref kl, .int cm, .int cn, .ref ko])), (k2, .inl (cI, 1201, .inl g82_k2))] H := hP
                    replace hD : va_D A [(k4, .inl (cI, 6, .inl c4)), (k0, .inl (cI, 1201, .inl c0)), (k, .inr (11, [.ref k2, .ref k1, .ref k2, .int c3, .ref k4, .ref k5, .ref k6, .ref k7, .ref k8, .int c9, .ref ka, .ref kb, .int cc, .int cd, .int ce, .int cf, .int cg, .int ch, .int ci, .int cj, .int ck, .ref kl, .int cm, .int cn, .ref ko])), (k2, .inl (cI, 1201, .inl g82_k2))] := hD
                    have h_71 := w_69
                    have h_71 : r_68 = g82_k2 (459 + 9 * a2.toInt.toNat + a1.toInt.toNat) := h_71
                    have lo_r_68 := k_lo r_68
                    have hi_r_68 := k_hi r_68
                    refine lv_goto (tgt := 132) hx hb dX11_ahead_110 (by decide) ?_
                    refine lv_istore (lv' := [(5, .int r_68), (4, .ref k0), (0, .ref k), (1, .int a0), (2, .int a1), (3, .int a2)]) hx hb dX11_ahead_132 hl (by decide) rfl ?_
                    clear hl
                    intro ls hl
                    refine lv_aload_n hx hb dX11_ahead_134 rfl (lv_at hl 2 rfl) ?_
                    refine lv_aload hx hb dX11_ahead_135 (lv_at hl 1 rfl) ?_
                    refine va_put (D := D) (ci := 11) (v := .ref k0) (ty := .array .int) (C := RX11) (T := TX11) (N := 25) hx hb hT giX11 tyX11 tyX11_ok nmX11 hown hK hP hD hS 2 rfl rfl 0 (by decide) (hT (Cond.fieldLink RX11 9 "DesertWireModel" "s" "[I") mw_1156) (fun _ h9 => h9) rfl (by decide +kernel) rfl rfl (Nat.le_of_ble_eq_true rfl) dX11_ahead_137 ?_
                    clear hP hD hS
                    intro H locs hP hD hS
                    replace hP : va_P D vwCl [(k4, .inl (cI, 6, .inl c4)), (k0, .inl (cI, 1201, .inl c0)), (k, .inr (11, [.ref k0, .ref k1, .ref k2, .int c3, .ref k4, .ref k5, .ref k6, .ref k7, .ref k8, .int c9, .ref ka, .ref kb, .int cc, .int cd, .int ce, .int cf, .int cg, .int ch, .int ci, .int cj, .int ck, .ref kl, .int cm, .int cn, .ref ko])), (k2, .inl (cI, 1201, .inl g82_k2))] H := hP
                    replace hD : va_D A [(k4, .inl (cI, 6, .inl c4)), (k0, .inl (cI, 1201, .inl c0)), (k, .inr (11, [.ref k0, .ref k1, .ref k2, .int c3, .ref k4, .ref k5, .ref k6, .ref k7, .ref k8, .int c9, .ref ka, .ref kb, .int cc, .int cd, .int ce, .int cf, .int cg, .int ch, .int ci, .int cj, .int ck, .ref kl, .int cm, .int cn, .ref ko])), (k2, .inl (cI, 1201, .inl g82_k2))] := hD
                    refine lv_iload hx hb dX11_ahead_140 (lv_at hl 0 rfl) ?_
                    exact hRet (g82_k2, c4) [2, 1, 3, 0] (by unfold ahdR; rw [show daysF c0 a0.toInt.toNat = g82_k2 from (by rw [show a0.toInt.toNat = l82_5.toInt.toNat from by omega]; exact i82_5.symm)]; (repeat (first | rw [if_pos (by omega)] | rw [if_neg (by omega)])); first | done | assumption) hP hD (by decide) rfl hS rfl dX11_ahead_142
                  · refine lv_aload_n hx hb dX11_ahead_88 rfl (lv_at hl 2 rfl) ?_
                    refine kJv (wr := [(k4, .inl (cI, 6, .inl c4)), (k0, .inl (cI, 1201, .inl c0))]) (va_runV (As := []) (rest := []) ⟨hx, hb, hml, hown, hT⟩ (c_X11_oneDayG l D cI aK aV k k2 k1 k2 k4 k5 k6 k7 k8 ka kb kl ko H.size c3 c9 cc cd ce cf cg ch ci cj ck cm cn g82_k2 i82_1 (by first | omega | decide | assumption | rfl)) (cwV 0 hT (gV_in mw_1535 mw_1532 mw_1534 mw_p5_15 mw_12) rfl rfl rfl (by decide +kernel) ⟨Nat.le_of_ble_eq_true rfl, Nat.le_of_ble_eq_true rfl⟩) (kRecvX (q0 := 1) (ci := 11) hK hP hD hN hXS hS hA rfl rfl [1, 3] rfl (by decide)) rfl rfl hl.1 rfl (lv_room (Nat.le_of_ble_eq_true rfl)) dX11_ahead_89 ⟨Nat.le_of_ble_eq_true rfl, Nat.le_of_ble_eq_true rfl⟩) hP hD hS hA [1, 3] [0, 2] rfl rfl (by decide) (by decide) ?_
                    clear hP hD hS
                    intro sc0_74 H locs w_73 hP hD hS
                    replace hP : va_P D vwCl [(k4, .inl (cI, 6, .inl c4)), (k0, .inl (cI, 1201, .inl c0)), (k, .inr (11, [.ref k2, .ref k1, .ref k2, .int c3, .ref k4, .ref k5, .ref k6, .ref k7, .ref k8, .int c9, .ref ka, .ref kb, .int cc, .int cd, .int ce, .int cf, .int cg, .int ch, .int ci, .int cj, .int ck, .ref kl, .int cm, .int cn, .ref ko])), (k2, .inl (cI, 1201, .inl sc0_74))] H := hP
                    replace hD : va_D A [(k4, .inl (cI, 6, .inl c4)), (k0, .inl (cI, 1201, .inl c0)), (k, .inr (11, [.ref k2, .ref k1, .ref k2, .int c3, .ref k4, .ref k5, .ref k6, .ref k7, .ref k8, .int c9, .ref ka, .ref kb, .int cc, .int cd, .int ce, .int cf, .int cg, .int ch, .int ci, .int cj, .int ck, .ref kl, .int cm, .int cn, .ref ko])), (k2, .inl (cI, 1201, .inl sc0_74))] := hD
                    obtain ⟨h_75, h_76, h_77, h_78⟩ := w_73
                    have h_75 : SIX sc0_74 (-1) := h_75
                    have h_76 : (sc0_74 0).toInt = (g82_k2 0).toInt + 1 := h_76
                    have h_77 : (sc0_74 2).toInt = (g82_k2 2).toInt := h_77
                    have h_78 : sc0_74 = dayS g82_k2 := h_78
                    obtain ⟨v_79, ev_79⟩ : ∃ y : Int32, y = l82_5 + 1 := ⟨_, rfl⟩
                    have tv_79 : v_79.toInt = l82_5.toInt + 1 := by rw [ev_79]; exact k_addv rfl zl_1 (by omega) (by omega)
                    refine lv_iinc (v := v_79) (lv' := [(5, .int v_79), (4, .ref k0), (0, .ref k), (1, .int a0), (2, .int a1), (3, .int a2)]) hx hb dX11_ahead_92 hl (k := 0) rfl (by rw [ev_79]; rfl) (by decide) rfl ?_
                    clear hl
                    intro ls hl
                    refine lv_goto (tgt := 82) hx hb dX11_ahead_95 (by decide) ?_
                    exact ih82 v_79 sc0_74 (by first | omega | decide | assumption | rfl) h_75 (by first | omega | decide | assumption | rfl) (by first | omega | decide | assumption | rfl) (by first | omega | decide | assumption | rfl) (by rw [h_78, i82_5]; exact daysF_s (by omega) (by omega)) (by omega) ls _ _ (lv_sub hl [0, 1, 2, 3, 4, 5] rfl) (hP.sub [0, 2, 1, 3] rfl) (hD.sub [0, 2, 1, 3] (by decide) rfl) hS
            exact hloop_82 _ 0 ser_60 (by first | omega | (simp only [zl_0]; first | done | omega) | decide | assumption | rfl) hS_62 (by first | omega | (simp only [zl_0]; first | done | omega) | decide | assumption | rfl) (by first | omega | (simp only [zl_0]; first | done | omega) | decide | assumption | rfl) (by first | omega | (simp only [zl_0]; first | done | omega) | decide | assumption | rfl) (by rw [zl_0]; exact h_61) (Nat.lt_succ_self _) ls _ _ (lv_sub hl [0, 1, 2, 3, 4, 5] rfl) hP hD hS
          · have h_56 : a2.toInt < 0 ∨ (c0 2).toInt ≤ a2.toInt := h_56
            obtain rfl : r_51 = 0 := hr_51.trans (by decide)
            refine b_if_ne hx hb zl_0 (tgt := 56) dX11_ahead_46 (by decide) (fun c_80 => by exfalso; omega) (fun c_80 => ?_)
            refine lv_aload_n hx hb dX11_ahead_49 rfl (lv_at hl 0 rfl) ?_
            refine lv_ldc (v := (-1000001)) hx hb hown (hT _ mw_1239) dX11_ahead_50 ?_
            refine kJi (wr := [(k2, .inl (cI, 1201, .inl c2)), (k0, .inl (cI, 1201, .inl c0))]) (va_runV (As := [.int (-1000001)]) (rest := []) ⟨hx, hb, hml, hown, hT⟩ (c_X11_findingG l D cI aK aV k k0 k1 k2 k4 k5 k6 k7 k8 ka kb kl ko H.size c3 c9 cc cd ce cf cg ch ci cj ck cm cn c4 (-1000001) (by first | omega | (simp only [zl_m1000001]; first | done | omega) | decide | assumption | rfl) (by first | omega | (simp only [zl_m1000001]; first | done | omega) | decide | assumption | rfl)) (cwV 1 hT (gV_in mw_1243 mw_1240 mw_1242 mw_p3_8 mw_12) rfl rfl rfl (by decide +kernel) ⟨Nat.le_of_ble_eq_true rfl, Nat.le_of_ble_eq_true rfl⟩) (kRecvX (q0 := 2) (ci := 11) hK hP hD hN hXS hS hA rfl rfl [2, 1] rfl (by decide)) rfl rfl hl.1 rfl (lv_room (Nat.le_of_ble_eq_true rfl)) dX11_ahead_52 ⟨Nat.le_of_ble_eq_true rfl, Nat.le_of_ble_eq_true rfl⟩) hP hD hS hA [2, 1] [0, 3] rfl rfl (by decide) (by decide) ?_
            clear hP hD hS
            intro r_81 sc4_83 H locs w_82 hP hD hS
            replace hP : va_P D vwCl [(k2, .inl (cI, 1201, .inl c2)), (k0, .inl (cI, 1201, .inl c0)), (k, .inr (11, [.ref k0, .ref k1, .ref k2, .int c3, .ref k4, .ref k5, .ref k6, .ref k7, .ref k8, .int c9, .ref ka, .ref kb, .int cc, .int cd, .int ce, .int cf, .int cg, .int ch, .int ci, .int cj, .int ck, .ref kl, .int cm, .int cn, .ref ko])), (k4, .inl (cI, 6, .inl sc4_83))] H := hP
            replace hD : va_D A [(k2, .inl (cI, 1201, .inl c2)), (k0, .inl (cI, 1201, .inl c0)), (k, .inr (11, [.ref k0, .ref k1, .ref k2, .int c3, .ref k4, .ref k5, .ref k6, .ref k7, .ref k8, .int c9, .ref ka, .ref kb, .int cc, .int cd, .int ce, .int cf, .int cg, .int ch, .int ci, .int cj, .int ck, .ref kl, .int cm, .int cn, .ref ko])), (k4, .inl (cI, 6, .inl sc4_83))] := hD
            have hr_81 := w_82
            obtain rfl : r_81 = (-1000001) := hr_81.trans (by decide)
            exact hRet (c2, sc4_83) [2, 1, 0, 3] (by (try dsimp only); unfold ahdR; (repeat (first | rw [if_pos (by omega)] | rw [if_neg (by omega)]))) hP hD (by decide) rfl hS rfl dX11_ahead_55
      · try simp only [zl_0, zl_10] at h_23
        have h_23 : a1.toInt < 0 ∨ 10 < a1.toInt := h_23
        obtain rfl : r_18 = 0 := hr_18.trans (by decide)
        refine b_if_eq hx hb zl_0 (tgt := 49) dX11_ahead_32 (by decide) (fun c_84 => ?_) (fun c_84 => by exfalso; omega)
        refine lv_aload_n hx hb dX11_ahead_49 rfl (lv_at hl 0 rfl) ?_
        refine lv_ldc (v := (-1000001)) hx hb hown (hT _ mw_1239) dX11_ahead_50 ?_
        refine kJi (wr := [(k0, .inl (cI, 1201, .inl c0)), (k2, .inl (cI, 1201, .inl c2))]) (va_runV (As := [.int (-1000001)]) (rest := []) ⟨hx, hb, hml, hown, hT⟩ (c_X11_findingG l D cI aK aV k k0 k1 k2 k4 k5 k6 k7 k8 ka kb kl ko H.size c3 c9 cc cd ce cf cg ch ci cj ck cm cn c4 (-1000001) (by first | omega | (simp only [zl_m1000001]; first | done | omega) | decide | assumption | rfl) (by first | omega | (simp only [zl_m1000001]; first | done | omega) | decide | assumption | rfl)) (cwV 1 hT (gV_in mw_1243 mw_1240 mw_1242 mw_p3_8 mw_12) rfl rfl rfl (by decide +kernel) ⟨Nat.le_of_ble_eq_true rfl, Nat.le_of_ble_eq_true rfl⟩) (kRecvX (q0 := 0) (ci := 11) hK hP hD hN hXS hS hA rfl rfl [0, 3] rfl (by decide)) rfl rfl hl.1 rfl (lv_room (Nat.le_of_ble_eq_true rfl)) dX11_ahead_52 ⟨Nat.le_of_ble_eq_true rfl, Nat.le_of_ble_eq_true rfl⟩) hP hD hS hA [0, 3] [1, 2] rfl rfl (by decide) (by decide) ?_
        clear hP hD hS
        intro r_85 sc4_87 H locs w_86 hP hD hS
        replace hP : va_P D vwCl [(k0, .inl (cI, 1201, .inl c0)), (k2, .inl (cI, 1201, .inl c2)), (k, .inr (11, [.ref k0, .ref k1, .ref k2, .int c3, .ref k4, .ref k5, .ref k6, .ref k7, .ref k8, .int c9, .ref ka, .ref kb, .int cc, .int cd, .int ce, .int cf, .int cg, .int ch, .int ci, .int cj, .int ck, .ref kl, .int cm, .int cn, .ref ko])), (k4, .inl (cI, 6, .inl sc4_87))] H := hP
        replace hD : va_D A [(k0, .inl (cI, 1201, .inl c0)), (k2, .inl (cI, 1201, .inl c2)), (k, .inr (11, [.ref k0, .ref k1, .ref k2, .int c3, .ref k4, .ref k5, .ref k6, .ref k7, .ref k8, .int c9, .ref ka, .ref kb, .int cc, .int cd, .int ce, .int cf, .int cg, .int ch, .int ci, .int cj, .int ck, .ref kl, .int cm, .int cn, .ref ko])), (k4, .inl (cI, 6, .inl sc4_87))] := hD
        have hr_85 := w_86
        obtain rfl : r_85 = (-1000001) := hr_85.trans (by decide)
        exact hRet (c2, sc4_87) [2, 0, 1, 3] (by (try dsimp only); unfold ahdR; (repeat (first | rw [if_pos (by omega)] | rw [if_neg (by omega)]))) hP hD (by decide) rfl hS rfl dX11_ahead_55
  · try simp only [zl_0, zl_200] at h_9
    have h_9 : a0.toInt < 0 ∨ 200 < a0.toInt := h_9
    obtain rfl : r_4 = 0 := hr_4.trans (by decide)
    refine b_if_eq hx hb zl_0 (tgt := 49) dX11_ahead_8 (by decide) (fun c_88 => ?_) (fun c_88 => by exfalso; omega)
    refine lv_aload_n hx hb dX11_ahead_49 rfl (lv_at hl 0 rfl) ?_
    refine lv_ldc (v := (-1000001)) hx hb hown (hT _ mw_1239) dX11_ahead_50 ?_
    refine kJi (wr := [(k0, .inl (cI, 1201, .inl c0)), (k2, .inl (cI, 1201, .inl c2))]) (va_runV (As := [.int (-1000001)]) (rest := []) ⟨hx, hb, hml, hown, hT⟩ (c_X11_findingG l D cI aK aV k k0 k1 k2 k4 k5 k6 k7 k8 ka kb kl ko H.size c3 c9 cc cd ce cf cg ch ci cj ck cm cn c4 (-1000001) (by first | omega | (simp only [zl_m1000001]; first | done | omega) | decide | assumption | rfl) (by first | omega | (simp only [zl_m1000001]; first | done | omega) | decide | assumption | rfl)) (cwV 1 hT (gV_in mw_1243 mw_1240 mw_1242 mw_p3_8 mw_12) rfl rfl rfl (by decide +kernel) ⟨Nat.le_of_ble_eq_true rfl, Nat.le_of_ble_eq_true rfl⟩) (kRecvX (q0 := 0) (ci := 11) hK hP hD hN hXS hS hA rfl rfl [0, 3] rfl (by decide)) rfl rfl hl.1 rfl (lv_room (Nat.le_of_ble_eq_true rfl)) dX11_ahead_52 ⟨Nat.le_of_ble_eq_true rfl, Nat.le_of_ble_eq_true rfl⟩) hP hD hS hA [0, 3] [1, 2] rfl rfl (by decide) (by decide) ?_
    clear hP hD hS
    intro r_89 sc4_91 H locs w_90 hP hD hS
    replace hP : va_P D vwCl [(k0, .inl (cI, 1201, .inl c0)), (k2, .inl (cI, 1201, .inl c2)), (k, .inr (11, [.ref k0, .ref k1, .ref k2, .int c3, .ref k4, .ref k5, .ref k6, .ref k7, .ref k8, .int c9, .ref ka, .ref kb, .int cc, .int cd, .int ce, .int cf, .int cg, .int ch, .int ci, .int cj, .int ck, .ref kl, .int cm, .int cn, .ref ko])), (k4, .inl (cI, 6, .inl sc4_91))] H := hP
    replace hD : va_D A [(k0, .inl (cI, 1201, .inl c0)), (k2, .inl (cI, 1201, .inl c2)), (k, .inr (11, [.ref k0, .ref k1, .ref k2, .int c3, .ref k4, .ref k5, .ref k6, .ref k7, .ref k8, .int c9, .ref ka, .ref kb, .int cc, .int cd, .int ce, .int cf, .int cg, .int ch, .int ci, .int cj, .int ck, .ref kl, .int cm, .int cn, .ref ko])), (k4, .inl (cI, 6, .inl sc4_91))] := hD
    have hr_89 := w_90
    obtain rfl : r_89 = (-1000001) := hr_89.trans (by decide)
    exact hRet (c2, sc4_91) [2, 0, 1, 3] (by (try dsimp only); unfold ahdR; (repeat (first | rw [if_pos (by omega)] | rw [if_neg (by omega)]))) hP hD (by decide) rfl hS rfl dX11_ahead_55
theorem dX11_areWired_0 : decode cX11_areWired 0 = .ok (.iconst 1, 1) := by decide +kernel
theorem dX11_areWired_1 : decode cX11_areWired 1 = .ok (.istore_n 3, 1) := by decide +kernel
theorem dX11_areWired_2 : decode cX11_areWired 2 = .ok (.iload_n 1, 1) := by decide +kernel
theorem dX11_areWired_3 : decode cX11_areWired 3 = .ok (.istore 4, 2) := by decide +kernel
theorem dX11_areWired_5 : decode cX11_areWired 5 = .ok (.iload 4, 2) := by decide +kernel
theorem dX11_areWired_7 : decode cX11_areWired 7 = .ok (.iload_n 2, 1) := by decide +kernel
theorem dX11_areWired_8 : decode cX11_areWired 8 = .ok (.if_icmp .gt 28, 3) := by decide +kernel
theorem dX11_areWired_11 : decode cX11_areWired 11 = .ok (.iload_n 3, 1) := by decide +kernel
theorem dX11_areWired_12 : decode cX11_areWired 12 = .ok (.ifCond .eq 16, 3) := by decide +kernel
theorem dX11_areWired_15 : decode cX11_areWired 15 = .ok (.aload_n 0, 1) := by decide +kernel
theorem dX11_areWired_16 : decode cX11_areWired 16 = .ok (.iload 4, 2) := by decide +kernel
theorem dX11_areWired_18 : decode cX11_areWired 18 = .ok (.invokevirtual 95, 3) := by decide +kernel
theorem dX11_areWired_21 : decode cX11_areWired 21 = .ok (.ifCond .eq 7, 3) := by decide +kernel
theorem dX11_areWired_24 : decode cX11_areWired 24 = .ok (.iconst 1, 1) := by decide +kernel
theorem dX11_areWired_25 : decode cX11_areWired 25 = .ok (.goto 4, 3) := by decide +kernel
theorem dX11_areWired_28 : decode cX11_areWired 28 = .ok (.iconst 0, 1) := by decide +kernel
theorem dX11_areWired_29 : decode cX11_areWired 29 = .ok (.istore_n 3, 1) := by decide +kernel
theorem dX11_areWired_30 : decode cX11_areWired 30 = .ok (.iinc 4 1, 3) := by decide +kernel
theorem dX11_areWired_33 : decode cX11_areWired 33 = .ok (.goto (-28), 3) := by decide +kernel
theorem dX11_areWired_36 : decode cX11_areWired 36 = .ok (.iload_n 3, 1) := by decide +kernel
theorem dX11_areWired_37 : decode cX11_areWired 37 = .ok (.ireturn, 1) := by decide +kernel
set_option maxHeartbeats 4000000 in
set_option maxRecDepth 100000 in
theorem c_X11_areWiredG (l : Launch) (D : va_G) (cI : ClassId) (aK aV : Nat → Nat) (k k0 k1 k2 k4 k5 k6 k7 k8 ka kb kl ko : Nat) (sz : Nat) (c3 : Int32) (c9 : Int32) (cc : Int32) (cd : Int32) (ce : Int32) (cf : Int32) (cg : Int32) (ch : Int32) (ci : Int32) (cj : Int32) (ck : Int32) (cm : Int32) (cn : Int32) (c0 : Nat → Int32) (a0 : Int32) (a1 : Int32) (pre0 : SB c0) (pre1 : 0 ≤ a0.toInt) (pre2 : a0.toInt ≤ 39) (pre3 : a1.toInt ≤ 39) (pre4 : a0.toInt ≤ a1.toInt) : Met l yX11_areWired (gW yX11_areWired cX11_areWired 5 (some .boolean)) ({ frames := 4, cells := 0, slots := 0, locals := 87 } : Room) (kPreX D cI aK aV [.ref k, .int a0, .int a1] [(k, .inr (11, [.ref k0, .ref k1, .ref k2, .int c3, .ref k4, .ref k5, .ref k6, .ref k7, .ref k8, .int c9, .ref ka, .ref kb, .int cc, .int cd, .int ce, .int cf, .int cg, .int ch, .int ci, .int cj, .int ck, .ref kl, .int cm, .int cn, .ref ko])), (k0, .inl (cI, 1201, .inl c0))] sz) (va_Qi (fun (r : Int32) (u : Unit) => (r = 1 ∧ awF c0 a0.toInt a1.toInt = true) ∨ (r = 0 ∧ awF c0 a0.toInt a1.toInt = false)) (fun u t => kWd D cI (va_A [(k, .inr (11, [.ref k0, .ref k1, .ref k2, .int c3, .ref k4, .ref k5, .ref k6, .ref k7, .ref k8, .int c9, .ref ka, .ref kb, .int cc, .int cd, .int ce, .int cf, .int cg, .int ch, .int ci, .int cj, .int ck, .ref kl, .int cm, .int cn, .ref ko])), (k0, .inl (cI, 1201, .inl c0))] sz) [(k, .inr (11, [.ref k0, .ref k1, .ref k2, .int c3, .ref k4, .ref k5, .ref k6, .ref k7, .ref k8, .int c9, .ref ka, .ref kb, .int cc, .int cd, .int ce, .int cf, .int cg, .int ch, .int ci, .int cj, .int ck, .ref kl, .int cm, .int cn, .ref ko])), (k0, .inl (cI, 1201, .inl c0))] t) (va_A [(k, .inr (11, [.ref k0, .ref k1, .ref k2, .int c3, .ref k4, .ref k5, .ref k6, .ref k7, .ref k8, .int c9, .ref ka, .ref kb, .int cc, .int cd, .int ce, .int cf, .int cg, .int ch, .int ci, .int cj, .int ck, .ref kl, .int cm, .int cn, .ref ko])), (k0, .inl (cI, 1201, .inl c0))] sz)) 0 0 (va_A [(k, .inr (11, [.ref k0, .ref k1, .ref k2, .int c3, .ref k4, .ref k5, .ref k6, .ref k7, .ref k8, .int c9, .ref ka, .ref kb, .int cc, .int cd, .int ce, .int cf, .int cg, .int ch, .int ci, .int cj, .int ck, .ref kl, .int cm, .int cn, .ref ko])), (k0, .inl (cI, 1201, .inl c0))] sz) := by
  refine kMetIX (own := RX11) (by decide) rfl (Nat.le_of_ble_eq_true rfl) ?_
  intro p e s m args below meth c hx hb hT hown hname hml A Q hK hP hD hS hA hN hXS hRet ls hl
  have hl : lv_has ls 5 [(0, .ref k), (1, .int a0), (2, .int a1)] := hl
  have lo_a0 := k_lo a0
  have hi_a0 := k_hi a0
  have lo_a1 := k_lo a1
  have hi_a1 := k_hi a1
  have lo_ci := k_lo ci
  have hi_ci := k_hi ci
  have pre0 : SB c0 := pre0
  have nb_1 : 0 ≤ (c0 0).toInt ∧ (c0 0).toInt ≤ 2000 := SB.n0 pre0
  have nb_2 : 0 ≤ (c0 1).toInt ∧ (c0 1).toInt ≤ 60 := SB.n1 pre0
  have nb_3 : 0 ≤ (c0 2).toInt ∧ (c0 2).toInt ≤ 4 := SB.n2 pre0
  refine lv_iconst (v := 1) hx hb dX11_areWired_0 (by decide) ?_
  refine lv_istore_n (lv' := [(3, .int 1), (0, .ref k), (1, .int a0), (2, .int a1)]) hx hb dX11_areWired_1 rfl hl (by decide) rfl ?_
  clear hl
  intro ls hl
  refine lv_iload_n hx hb dX11_areWired_2 rfl (lv_at hl 2 rfl) ?_
  refine lv_istore (lv' := [(4, .int a0), (3, .int 1), (0, .ref k), (1, .int a0), (2, .int a1)]) hx hb dX11_areWired_3 hl (by decide) rfl ?_
  clear hl
  intro ls hl
  have hloop_5 : ∀ (fu_ : Nat) (l5_3 : Int32) (l5_4 : Int32), l5_3.toInt ≤ 1 → a0.toInt ≤ l5_4.toInt → 0 ≤ l5_3.toInt → l5_3.toInt ≤ 1 → l5_4.toInt ≤ 40 → a0.toInt ≤ l5_4.toInt → l5_4.toInt ≤ a1.toInt + 1 → (l5_3.toInt ≠ 0 → awN c0 a0.toInt (l5_4.toInt - a0.toInt).toNat = true) → (l5_3.toInt = 0 → awF c0 a0.toInt a1.toInt = false) → (40 - l5_4.toInt).toNat < fu_ → ∀ (ls : Array Slot) (H : Heap) (locs : List Loc), lv_has ls 5 [(4, .int l5_4), (3, .int l5_3), (0, .ref k), (1, .int a0), (2, .int a1)] → va_P D vwCl [(k, .inr (11, [.ref k0, .ref k1, .ref k2, .int c3, .ref k4, .ref k5, .ref k6, .ref k7, .ref k8, .int c9, .ref ka, .ref kb, .int cc, .int cd, .int ce, .int cf, .int cg, .int ch, .int ci, .int cj, .int ck, .ref kl, .int cm, .int cn, .ref ko])), (k0, .inl (cI, 1201, .inl c0))] H → va_D A [(k, .inr (11, [.ref k0, .ref k1, .ref k2, .int c3, .ref k4, .ref k5, .ref k6, .ref k7, .ref k8, .int c9, .ref ka, .ref kb, .int cc, .int cd, .int ce, .int cf, .int cg, .int ch, .int ci, .int cj, .int ck, .ref kl, .int cm, .int cn, .ref ko])), (k0, .inl (cI, 1201, .inl c0))] → va_S A s.heap H locs → W p l e ({ frames := 4, cells := 0, slots := 0, locals := 87 } : Room) s m args below meth c H locs 0 0 Q (F0 m 5 ls []) := by
    intro fu_; induction fu_ with
    | zero => intro l5_3 l5_4 i5_0 i5_1 i5_2 i5_3 i5_4 i5_5 i5_6 i5_7 i5_8 hm; exact absurd hm (by omega)
    | succ fu_ ih5 =>
        intro l5_3 l5_4 i5_0 i5_1 i5_2 i5_3 i5_4 i5_5 i5_6 i5_7 i5_8 hm ls H locs hl hP hD hS
        have lo_l5_3 := k_lo l5_3
        have hi_l5_3 := k_hi l5_3
        have lo_l5_4 := k_lo l5_4
        have hi_l5_4 := k_hi l5_4
        refine lv_iload hx hb dX11_areWired_5 (lv_at hl 0 rfl) ?_
        refine lv_iload_n hx hb dX11_areWired_7 rfl (lv_at hl 4 rfl) ?_
        refine b_icmp_gt hx hb rfl rfl (tgt := 36) dX11_areWired_8 (by decide) (fun c_4 => ?_) (fun c_4 => ?_)
        · refine lv_iload_n hx hb dX11_areWired_36 rfl (lv_at hl 1 rfl) ?_
          rcases (show l5_3.toInt = 0 ∨ l5_3.toInt = 1 by omega) with h_z | h_z
          · obtain rfl : l5_3 = 0 := k_inj (by rw [zl_0]; omega)
            exact hRet () [0, 1] (Or.inr (⟨rfl, (i5_8 (by decide))⟩)) hP hD (by decide) rfl hS rfl dX11_areWired_37
          · obtain rfl : l5_3 = 1 := k_inj (by rw [zl_1]; omega)
            exact hRet () [0, 1] (Or.inl ⟨rfl, (by unfold awF; rw [show a1.toInt + 1 - a0.toInt = l5_4.toInt - a0.toInt from by omega]; exact i5_7 (by decide))⟩) hP hD (by decide) rfl hS rfl dX11_areWired_37
        · refine lv_iload_n hx hb dX11_areWired_11 rfl (lv_at hl 1 rfl) ?_
          refine b_if_eq hx hb rfl (tgt := 28) dX11_areWired_12 (by decide) (fun c_5 => ?_) (fun c_5 => ?_)
          · refine lv_iconst (v := 0) hx hb dX11_areWired_28 (by decide) ?_
            refine lv_istore_n (lv' := [(3, .int 0), (4, .int l5_4), (0, .ref k), (1, .int a0), (2, .int a1)]) hx hb dX11_areWired_29 rfl hl (by decide) rfl ?_
            clear hl
            intro ls hl
            obtain ⟨v_6, ev_6⟩ : ∃ y : Int32, y = l5_4 + 1 := ⟨_, rfl⟩
            have tv_6 : v_6.toInt = l5_4.toInt + 1 := by rw [ev_6]; exact k_addv rfl zl_1 (by omega) (by omega)
            refine lv_iinc (v := v_6) (lv' := [(4, .int v_6), (3, .int 0), (0, .ref k), (1, .int a0), (2, .int a1)]) hx hb dX11_areWired_30 hl (k := 1) rfl (by rw [ev_6]; rfl) (by decide) rfl ?_
            clear hl
            intro ls hl
            refine lv_goto (tgt := 5) hx hb dX11_areWired_33 (by decide) ?_
            exact ih5 0 v_6 (by first | omega | (simp only [zl_0]; first | done | omega) | decide | assumption | rfl) (by first | omega | (simp only [zl_0]; first | done | omega) | decide | assumption | rfl) (by first | omega | (simp only [zl_0]; first | done | omega) | decide | assumption | rfl) (by first | omega | (simp only [zl_0]; first | done | omega) | decide | assumption | rfl) (by first | omega | (simp only [zl_0]; first | done | omega) | decide | assumption | rfl) (by first | omega | (simp only [zl_0]; first | done | omega) | decide | assumption | rfl) (by first | omega | (simp only [zl_0]; first | done | omega) | decide | assumption | rfl) (fun hz => absurd zl_0 hz) (fun _ => i5_8 (by omega)) (by omega) ls _ _ (lv_sub hl [0, 1, 2, 3, 4] rfl) (hP.sub [0, 1] rfl) (hD.sub [0, 1] (by decide) rfl) hS
          · refine lv_aload_n hx hb dX11_areWired_15 rfl (lv_at hl 2 rfl) ?_
            refine lv_iload hx hb dX11_areWired_16 (lv_at hl 0 rfl) ?_
            refine kJi (wr := []) (va_runV (As := [.int l5_4]) (rest := []) ⟨hx, hb, hml, hown, hT⟩ (c_X11_isWiredG l D cI aK aV k k0 k1 k2 k4 k5 k6 k7 k8 ka kb kl ko H.size c3 c9 cc cd ce cf cg ch ci cj ck cm cn c0 l5_4 pre0) (cwV 1 hT (gV_in mw_1368 mw_1365 mw_1367 mw_p4_13 mw_12) rfl rfl rfl (by decide +kernel) ⟨Nat.le_of_ble_eq_true rfl, Nat.le_of_ble_eq_true rfl⟩) (kRecvX (q0 := 0) (ci := 11) hK hP hD hN hXS hS hA rfl rfl [0, 1] rfl (by decide)) rfl rfl hl.1 rfl (lv_room (Nat.le_of_ble_eq_true rfl)) dX11_areWired_18 ⟨Nat.le_of_ble_eq_true rfl, Nat.le_of_ble_eq_true rfl⟩) hP hD hS hA [0, 1] [] rfl rfl (by decide) (by decide) ?_
            clear hP hD hS
            intro r_7 u_9 H locs w_8 hP hD hS
            replace hP : va_P D vwCl [(k, .inr (11, [.ref k0, .ref k1, .ref k2, .int c3, .ref k4, .ref k5, .ref k6, .ref k7, .ref k8, .int c9, .ref ka, .ref kb, .int cc, .int cd, .int ce, .int cf, .int cg, .int ch, .int ci, .int cj, .int ck, .ref kl, .int cm, .int cn, .ref ko])), (k0, .inl (cI, 1201, .inl c0))] H := hP
            replace hD : va_D A [(k, .inr (11, [.ref k0, .ref k1, .ref k2, .int c3, .ref k4, .ref k5, .ref k6, .ref k7, .ref k8, .int c9, .ref ka, .ref kb, .int cc, .int cd, .int ce, .int cf, .int cg, .int ch, .int ci, .int cj, .int ck, .ref kl, .int cm, .int cn, .ref ko])), (k0, .inl (cI, 1201, .inl c0))] := hD
            rcases w_8 with ⟨hr_7, h_10⟩ | ⟨hr_7, h_11⟩
            · have h_10 : wdF c0 l5_4.toInt = 1 := h_10
              have h_10 : wdF c0 l5_4.toInt = 1 := h_10
              obtain rfl : r_7 = 1 := hr_7.trans (by decide)
              refine b_if_eq hx hb zl_1 (tgt := 28) dX11_areWired_21 (by decide) (fun c_12 => by exfalso; omega) (fun c_12 => ?_)
              refine lv_iconst (v := 1) hx hb dX11_areWired_24 (by decide) ?_
              refine lv_goto (tgt := 29) hx hb dX11_areWired_25 (by decide) ?_
              refine lv_istore_n (lv' := [(3, .int 1), (4, .int l5_4), (0, .ref k), (1, .int a0), (2, .int a1)]) hx hb dX11_areWired_29 rfl hl (by decide) rfl ?_
              clear hl
              intro ls hl
              obtain ⟨v_13, ev_13⟩ : ∃ y : Int32, y = l5_4 + 1 := ⟨_, rfl⟩
              have tv_13 : v_13.toInt = l5_4.toInt + 1 := by rw [ev_13]; exact k_addv rfl zl_1 (by omega) (by omega)
              refine lv_iinc (v := v_13) (lv' := [(4, .int v_13), (3, .int 1), (0, .ref k), (1, .int a0), (2, .int a1)]) hx hb dX11_areWired_30 hl (k := 1) rfl (by rw [ev_13]; rfl) (by decide) rfl ?_
              clear hl
              intro ls hl
              refine lv_goto (tgt := 5) hx hb dX11_areWired_33 (by decide) ?_
              exact ih5 1 v_13 (by first | omega | (simp only [zl_1]; first | done | omega) | decide | assumption | rfl) (by first | omega | (simp only [zl_1]; first | done | omega) | decide | assumption | rfl) (by first | omega | (simp only [zl_1]; first | done | omega) | decide | assumption | rfl) (by first | omega | (simp only [zl_1]; first | done | omega) | decide | assumption | rfl) (by first | omega | (simp only [zl_1]; first | done | omega) | decide | assumption | rfl) (by first | omega | (simp only [zl_1]; first | done | omega) | decide | assumption | rfl) (by first | omega | (simp only [zl_1]; first | done | omega) | decide | assumption | rfl) (fun _ => awN_y (i5_7 (by omega)) (by omega) (by omega) h_10) (fun hz => by rw [zl_1] at hz; exact absurd hz (by decide)) (by omega) ls _ _ (lv_sub hl [0, 1, 2, 3, 4] rfl) (hP.sub [0, 1] rfl) (hD.sub [0, 1] (by decide) rfl) hS
            · have h_11 : wdF c0 l5_4.toInt = 0 := h_11
              have h_11 : wdF c0 l5_4.toInt = 0 := h_11
              obtain rfl : r_7 = 0 := hr_7.trans (by decide)
              refine b_if_eq hx hb zl_0 (tgt := 28) dX11_areWired_21 (by decide) (fun c_14 => ?_) (fun c_14 => by exfalso; omega)
              refine lv_iconst (v := 0) hx hb dX11_areWired_28 (by decide) ?_
              refine lv_istore_n (lv' := [(3, .int 0), (4, .int l5_4), (0, .ref k), (1, .int a0), (2, .int a1)]) hx hb dX11_areWired_29 rfl hl (by decide) rfl ?_
              clear hl
              intro ls hl
              obtain ⟨v_15, ev_15⟩ : ∃ y : Int32, y = l5_4 + 1 := ⟨_, rfl⟩
              have tv_15 : v_15.toInt = l5_4.toInt + 1 := by rw [ev_15]; exact k_addv rfl zl_1 (by omega) (by omega)
              refine lv_iinc (v := v_15) (lv' := [(4, .int v_15), (3, .int 0), (0, .ref k), (1, .int a0), (2, .int a1)]) hx hb dX11_areWired_30 hl (k := 1) rfl (by rw [ev_15]; rfl) (by decide) rfl ?_
              clear hl
              intro ls hl
              refine lv_goto (tgt := 5) hx hb dX11_areWired_33 (by decide) ?_
              exact ih5 0 v_15 (by first | omega | (simp only [zl_0]; first | done | omega) | decide | assumption | rfl) (by first | omega | (simp only [zl_0]; first | done | omega) | decide | assumption | rfl) (by first | omega | (simp only [zl_0]; first | done | omega) | decide | assumption | rfl) (by first | omega | (simp only [zl_0]; first | done | omega) | decide | assumption | rfl) (by first | omega | (simp only [zl_0]; first | done | omega) | decide | assumption | rfl) (by first | omega | (simp only [zl_0]; first | done | omega) | decide | assumption | rfl) (by first | omega | (simp only [zl_0]; first | done | omega) | decide | assumption | rfl) (fun hz => absurd zl_0 hz) (fun _ => awN_n (by omega) h_11 _ (by omega)) (by omega) ls _ _ (lv_sub hl [0, 1, 2, 3, 4] rfl) (hP.sub [0, 1] rfl) (hD.sub [0, 1] (by decide) rfl) hS
  exact hloop_5 _ 1 a0 (by first | omega | (simp only [zl_1]; first | done | omega) | decide | assumption | rfl) (by first | omega | (simp only [zl_1]; first | done | omega) | decide | assumption | rfl) (by first | omega | (simp only [zl_1]; first | done | omega) | decide | assumption | rfl) (by first | omega | (simp only [zl_1]; first | done | omega) | decide | assumption | rfl) (by first | omega | (simp only [zl_1]; first | done | omega) | decide | assumption | rfl) (by first | omega | (simp only [zl_1]; first | done | omega) | decide | assumption | rfl) (by first | omega | (simp only [zl_1]; first | done | omega) | decide | assumption | rfl) (fun _ => awN_0 rfl) (fun hz => by rw [zl_1] at hz; exact absurd hz (by decide)) (Nat.lt_succ_self _) ls _ _ (lv_sub hl [0, 1, 2, 3, 4] rfl) hP hD hS
theorem dX11_joined_0 : decode cX11_joined 0 = .ok (.iload_n 1, 1) := by decide +kernel
theorem dX11_joined_1 : decode cX11_joined 1 = .ok (.invokestatic 67, 3) := by decide +kernel
theorem dX11_joined_4 : decode cX11_joined 4 = .ok (.ifCond .eq 15, 3) := by decide +kernel
theorem dX11_joined_7 : decode cX11_joined 7 = .ok (.iload_n 2, 1) := by decide +kernel
theorem dX11_joined_8 : decode cX11_joined 8 = .ok (.invokestatic 67, 3) := by decide +kernel
theorem dX11_joined_11 : decode cX11_joined 11 = .ok (.ifCond .eq 8, 3) := by decide +kernel
theorem dX11_joined_14 : decode cX11_joined 14 = .ok (.iload_n 1, 1) := by decide +kernel
theorem dX11_joined_15 : decode cX11_joined 15 = .ok (.iload_n 2, 1) := by decide +kernel
theorem dX11_joined_16 : decode cX11_joined 16 = .ok (.if_icmp .le 10, 3) := by decide +kernel
theorem dX11_joined_19 : decode cX11_joined 19 = .ok (.aload_n 0, 1) := by decide +kernel
theorem dX11_joined_20 : decode cX11_joined 20 = .ok (.ldc 63, 2) := by decide +kernel
theorem dX11_joined_22 : decode cX11_joined 22 = .ok (.invokevirtual 64, 3) := by decide +kernel
theorem dX11_joined_25 : decode cX11_joined 25 = .ok (.ireturn, 1) := by decide +kernel
theorem dX11_joined_26 : decode cX11_joined 26 = .ok (.aload_n 0, 1) := by decide +kernel
theorem dX11_joined_27 : decode cX11_joined 27 = .ok (.getfield 9, 3) := by decide +kernel
theorem dX11_joined_30 : decode cX11_joined 30 = .ok (.astore_n 3, 1) := by decide +kernel
theorem dX11_joined_31 : decode cX11_joined 31 = .ok (.aload_n 3, 1) := by decide +kernel
theorem dX11_joined_32 : decode cX11_joined 32 = .ok (.aload_n 0, 1) := by decide +kernel
theorem dX11_joined_33 : decode cX11_joined 33 = .ok (.getfield 16, 3) := by decide +kernel
theorem dX11_joined_36 : decode cX11_joined 36 = .ok (.invokestatic 257, 3) := by decide +kernel
theorem dX11_joined_39 : decode cX11_joined 39 = .ok (.aload_n 0, 1) := by decide +kernel
theorem dX11_joined_40 : decode cX11_joined 40 = .ok (.aload_n 0, 1) := by decide +kernel
theorem dX11_joined_41 : decode cX11_joined 41 = .ok (.getfield 16, 3) := by decide +kernel
theorem dX11_joined_44 : decode cX11_joined 44 = .ok (.putfield 9, 3) := by decide +kernel
theorem dX11_joined_47 : decode cX11_joined 47 = .ok (.aload_n 0, 1) := by decide +kernel
theorem dX11_joined_48 : decode cX11_joined 48 = .ok (.getfield 9, 3) := by decide +kernel
theorem dX11_joined_51 : decode cX11_joined 51 = .ok (.iconst 0, 1) := by decide +kernel
theorem dX11_joined_52 : decode cX11_joined 52 = .ok (.iaload, 1) := by decide +kernel
theorem dX11_joined_53 : decode cX11_joined 53 = .ok (.sipush 200, 3) := by decide +kernel
theorem dX11_joined_56 : decode cX11_joined 56 = .ok (.iadd, 1) := by decide +kernel
theorem dX11_joined_57 : decode cX11_joined 57 = .ok (.sipush 2000, 3) := by decide +kernel
theorem dX11_joined_60 : decode cX11_joined 60 = .ok (.if_icmp .le 9, 3) := by decide +kernel
theorem dX11_joined_63 : decode cX11_joined 63 = .ok (.sipush 2000, 3) := by decide +kernel
theorem dX11_joined_66 : decode cX11_joined 66 = .ok (.goto 13, 3) := by decide +kernel
theorem dX11_joined_69 : decode cX11_joined 69 = .ok (.aload_n 0, 1) := by decide +kernel
theorem dX11_joined_70 : decode cX11_joined 70 = .ok (.getfield 9, 3) := by decide +kernel
theorem dX11_joined_73 : decode cX11_joined 73 = .ok (.iconst 0, 1) := by decide +kernel
theorem dX11_joined_74 : decode cX11_joined 74 = .ok (.iaload, 1) := by decide +kernel
theorem dX11_joined_75 : decode cX11_joined 75 = .ok (.sipush 200, 3) := by decide +kernel
theorem dX11_joined_78 : decode cX11_joined 78 = .ok (.iadd, 1) := by decide +kernel
theorem dX11_joined_79 : decode cX11_joined 79 = .ok (.istore 4, 2) := by decide +kernel
theorem dX11_joined_81 : decode cX11_joined 81 = .ok (.aload_n 0, 1) := by decide +kernel
theorem dX11_joined_82 : decode cX11_joined 82 = .ok (.getfield 9, 3) := by decide +kernel
theorem dX11_joined_85 : decode cX11_joined 85 = .ok (.iconst 0, 1) := by decide +kernel
theorem dX11_joined_86 : decode cX11_joined 86 = .ok (.iaload, 1) := by decide +kernel
theorem dX11_joined_87 : decode cX11_joined 87 = .ok (.iload 4, 2) := by decide +kernel
theorem dX11_joined_89 : decode cX11_joined 89 = .ok (.if_icmp .ge 19, 3) := by decide +kernel
theorem dX11_joined_92 : decode cX11_joined 92 = .ok (.aload_n 0, 1) := by decide +kernel
theorem dX11_joined_93 : decode cX11_joined 93 = .ok (.iload_n 1, 1) := by decide +kernel
theorem dX11_joined_94 : decode cX11_joined 94 = .ok (.iload_n 2, 1) := by decide +kernel
theorem dX11_joined_95 : decode cX11_joined 95 = .ok (.invokevirtual 264, 3) := by decide +kernel
theorem dX11_joined_98 : decode cX11_joined 98 = .ok (.ifCond .ne 10, 3) := by decide +kernel
theorem dX11_joined_101 : decode cX11_joined 101 = .ok (.aload_n 0, 1) := by decide +kernel
theorem dX11_joined_102 : decode cX11_joined 102 = .ok (.invokevirtual 254, 3) := by decide +kernel
theorem dX11_joined_105 : decode cX11_joined 105 = .ok (.goto (-24), 3) := by decide +kernel
theorem dX11_joined_108 : decode cX11_joined 108 = .ok (.aload_n 0, 1) := by decide +kernel
theorem dX11_joined_109 : decode cX11_joined 109 = .ok (.iload_n 1, 1) := by decide +kernel
theorem dX11_joined_110 : decode cX11_joined 110 = .ok (.iload_n 2, 1) := by decide +kernel
theorem dX11_joined_111 : decode cX11_joined 111 = .ok (.invokevirtual 264, 3) := by decide +kernel
theorem dX11_joined_114 : decode cX11_joined 114 = .ok (.ifCond .eq 12, 3) := by decide +kernel
theorem dX11_joined_117 : decode cX11_joined 117 = .ok (.aload_n 0, 1) := by decide +kernel
theorem dX11_joined_118 : decode cX11_joined 118 = .ok (.getfield 9, 3) := by decide +kernel
theorem dX11_joined_121 : decode cX11_joined 121 = .ok (.iconst 0, 1) := by decide +kernel
theorem dX11_joined_122 : decode cX11_joined 122 = .ok (.iaload, 1) := by decide +kernel
theorem dX11_joined_123 : decode cX11_joined 123 = .ok (.goto 4, 3) := by decide +kernel
theorem dX11_joined_126 : decode cX11_joined 126 = .ok (.iconst (-1), 1) := by decide +kernel
theorem dX11_joined_127 : decode cX11_joined 127 = .ok (.istore 5, 2) := by decide +kernel
theorem dX11_joined_129 : decode cX11_joined 129 = .ok (.aload_n 0, 1) := by decide +kernel
theorem dX11_joined_130 : decode cX11_joined 130 = .ok (.aload_n 3, 1) := by decide +kernel
theorem dX11_joined_131 : decode cX11_joined 131 = .ok (.putfield 9, 3) := by decide +kernel
theorem dX11_joined_134 : decode cX11_joined 134 = .ok (.iload 5, 2) := by decide +kernel
theorem dX11_joined_136 : decode cX11_joined 136 = .ok (.ifCond .ge 12, 3) := by decide +kernel
theorem dX11_joined_139 : decode cX11_joined 139 = .ok (.aload_n 0, 1) := by decide +kernel
theorem dX11_joined_140 : decode cX11_joined 140 = .ok (.ldc 114, 2) := by decide +kernel
theorem dX11_joined_142 : decode cX11_joined 142 = .ok (.invokevirtual 64, 3) := by decide +kernel
theorem dX11_joined_145 : decode cX11_joined 145 = .ok (.goto 5, 3) := by decide +kernel
theorem dX11_joined_148 : decode cX11_joined 148 = .ok (.iload 5, 2) := by decide +kernel
theorem dX11_joined_150 : decode cX11_joined 150 = .ok (.ireturn, 1) := by decide +kernel
set_option maxHeartbeats 4000000 in
set_option maxRecDepth 100000 in
theorem c_X11_joinedG (l : Launch) (D : va_G) (cI : ClassId) (aK aV : Nat → Nat) (k k0 k1 k2 k4 k5 k6 k7 k8 ka kb kl ko : Nat) (sz : Nat) (c3 : Int32) (c9 : Int32) (cc : Int32) (cd : Int32) (ce : Int32) (cf : Int32) (cg : Int32) (ch : Int32) (ci : Int32) (cj : Int32) (ck : Int32) (cm : Int32) (cn : Int32) (c0 : Nat → Int32) (c2 : Nat → Int32) (c4 : Nat → Int32) (a0 : Int32) (a1 : Int32) (pre0 : SIX c0 (-1)) : Met l yX11_joined (gW yX11_joined cX11_joined 6 (some .int)) ({ frames := 6, cells := 0, slots := 0, locals := 132 } : Room) (kPreX D cI aK aV [.ref k, .int a0, .int a1] [(k, .inr (11, [.ref k0, .ref k1, .ref k2, .int c3, .ref k4, .ref k5, .ref k6, .ref k7, .ref k8, .int c9, .ref ka, .ref kb, .int cc, .int cd, .int ce, .int cf, .int cg, .int ch, .int ci, .int cj, .int ck, .ref kl, .int cm, .int cn, .ref ko])), (k0, .inl (cI, 1201, .inl c0)), (k2, .inl (cI, 1201, .inl c2)), (k4, .inl (cI, 6, .inl c4))] sz) (va_Qi (fun (r : Int32) (u : (Nat → Int32) × (Nat → Int32)) => r = joinR c0 a0 a1) (fun u t => kWd D cI (va_A [(k, .inr (11, [.ref k0, .ref k1, .ref k2, .int c3, .ref k4, .ref k5, .ref k6, .ref k7, .ref k8, .int c9, .ref ka, .ref kb, .int cc, .int cd, .int ce, .int cf, .int cg, .int ch, .int ci, .int cj, .int ck, .ref kl, .int cm, .int cn, .ref ko])), (k0, .inl (cI, 1201, .inl c0)), (k2, .inl (cI, 1201, .inl c2)), (k4, .inl (cI, 6, .inl c4))] sz) [(k, .inr (11, [.ref k0, .ref k1, .ref k2, .int c3, .ref k4, .ref k5, .ref k6, .ref k7, .ref k8, .int c9, .ref ka, .ref kb, .int cc, .int cd, .int ce, .int cf, .int cg, .int ch, .int ci, .int cj, .int ck, .ref kl, .int cm, .int cn, .ref ko])), (k0, .inl (cI, 1201, .inl c0)), (k2, .inl (cI, 1201, .inl u.1)), (k4, .inl (cI, 6, .inl u.2))] t) (va_A [(k, .inr (11, [.ref k0, .ref k1, .ref k2, .int c3, .ref k4, .ref k5, .ref k6, .ref k7, .ref k8, .int c9, .ref ka, .ref kb, .int cc, .int cd, .int ce, .int cf, .int cg, .int ch, .int ci, .int cj, .int ck, .ref kl, .int cm, .int cn, .ref ko])), (k0, .inl (cI, 1201, .inl c0)), (k2, .inl (cI, 1201, .inl c2)), (k4, .inl (cI, 6, .inl c4))] sz)) 0 0 (va_A [(k, .inr (11, [.ref k0, .ref k1, .ref k2, .int c3, .ref k4, .ref k5, .ref k6, .ref k7, .ref k8, .int c9, .ref ka, .ref kb, .int cc, .int cd, .int ce, .int cf, .int cg, .int ch, .int ci, .int cj, .int ck, .ref kl, .int cm, .int cn, .ref ko])), (k0, .inl (cI, 1201, .inl c0)), (k2, .inl (cI, 1201, .inl c2)), (k4, .inl (cI, 6, .inl c4))] sz) := by
  refine kMetIX (own := RX11) (by decide) rfl (Nat.le_of_ble_eq_true rfl) ?_
  intro p e s m args below meth c hx hb hT hown hname hml A Q hK hP hD hS hA hN hXS hRet ls hl
  have hl : lv_has ls 6 [(0, .ref k), (1, .int a0), (2, .int a1)] := hl
  have lo_a0 := k_lo a0
  have hi_a0 := k_hi a0
  have lo_a1 := k_lo a1
  have hi_a1 := k_hi a1
  have lo_ci := k_lo ci
  have hi_ci := k_hi ci
  have pre0 : SIX c0 (-1) := pre0
  have nb_1 : 0 ≤ (c0 0).toInt ∧ (c0 0).toInt ≤ 2000 := SB.n0 (And.left pre0)
  have nb_2 : 0 ≤ (c0 1).toInt ∧ (c0 1).toInt ≤ 60 := SB.n1 (And.left pre0)
  have nb_3 : 0 ≤ (c0 2).toInt ∧ (c0 2).toInt ≤ 4 := SB.n2 (And.left pre0)
  refine lv_iload_n hx hb dX11_joined_0 rfl (lv_at hl 1 rfl) ?_
  refine kJi (wr := [(k, .inr (11, [.ref k0, .ref k1, .ref k2, .int c3, .ref k4, .ref k5, .ref k6, .ref k7, .ref k8, .int c9, .ref ka, .ref kb, .int cc, .int cd, .int ce, .int cf, .int cg, .int ch, .int ci, .int cj, .int ck, .ref kl, .int cm, .int cn, .ref ko])), (k0, .inl (cI, 1201, .inl c0)), (k2, .inl (cI, 1201, .inl c2)), (k4, .inl (cI, 6, .inl c4))]) (va_runS (As := [.int a0]) (rest := []) ⟨hx, hb, hml, hown, hT⟩ (c_X11_isMileG l D cI aK aV s.heap.size a0) (cwS 1 hT (gS_in mw_1251 mw_1249 mw_1250 mw_12) rfl rfl rfl (by decide +kernel) ⟨Nat.le_of_ble_eq_true rfl, Nat.le_of_ble_eq_true rfl⟩) (kStatX hK hP hD hN hXS hS hA [] rfl (by decide)) rfl rfl hl.1 rfl (lv_room (Nat.le_of_ble_eq_true rfl)) dX11_joined_1 ⟨Nat.le_of_ble_eq_true rfl, Nat.le_of_ble_eq_true rfl⟩) hP hD hS hA [] [0, 1, 2, 3] rfl rfl (by decide) (by decide) ?_
  clear hP hD hS
  intro r_4 u_6 H locs w_5 hP hD hS
  replace hP : va_P D vwCl [(k, .inr (11, [.ref k0, .ref k1, .ref k2, .int c3, .ref k4, .ref k5, .ref k6, .ref k7, .ref k8, .int c9, .ref ka, .ref kb, .int cc, .int cd, .int ce, .int cf, .int cg, .int ch, .int ci, .int cj, .int ck, .ref kl, .int cm, .int cn, .ref ko])), (k0, .inl (cI, 1201, .inl c0)), (k2, .inl (cI, 1201, .inl c2)), (k4, .inl (cI, 6, .inl c4))] H := hP
  replace hD : va_D A [(k, .inr (11, [.ref k0, .ref k1, .ref k2, .int c3, .ref k4, .ref k5, .ref k6, .ref k7, .ref k8, .int c9, .ref ka, .ref kb, .int cc, .int cd, .int ce, .int cf, .int cg, .int ch, .int ci, .int cj, .int ck, .ref kl, .int cm, .int cn, .ref ko])), (k0, .inl (cI, 1201, .inl c0)), (k2, .inl (cI, 1201, .inl c2)), (k4, .inl (cI, 6, .inl c4))] := hD
  rcases w_5 with ⟨hr_4, h_7, h_8⟩ | ⟨hr_4, h_9⟩
  · have h_7 : 0 ≤ a0.toInt := h_7
    have h_8 : a0.toInt ≤ 39 := h_8
    obtain rfl : r_4 = 1 := hr_4.trans (by decide)
    refine b_if_eq hx hb zl_1 (tgt := 19) dX11_joined_4 (by decide) (fun c_10 => by exfalso; omega) (fun c_10 => ?_)
    refine lv_iload_n hx hb dX11_joined_7 rfl (lv_at hl 2 rfl) ?_
    refine kJi (wr := [(k, .inr (11, [.ref k0, .ref k1, .ref k2, .int c3, .ref k4, .ref k5, .ref k6, .ref k7, .ref k8, .int c9, .ref ka, .ref kb, .int cc, .int cd, .int ce, .int cf, .int cg, .int ch, .int ci, .int cj, .int ck, .ref kl, .int cm, .int cn, .ref ko])), (k0, .inl (cI, 1201, .inl c0)), (k2, .inl (cI, 1201, .inl c2)), (k4, .inl (cI, 6, .inl c4))]) (va_runS (As := [.int a1]) (rest := []) ⟨hx, hb, hml, hown, hT⟩ (c_X11_isMileG l D cI aK aV H.size a1) (cwS 1 hT (gS_in mw_1251 mw_1249 mw_1250 mw_12) rfl rfl rfl (by decide +kernel) ⟨Nat.le_of_ble_eq_true rfl, Nat.le_of_ble_eq_true rfl⟩) (kStatX hK hP hD hN hXS hS hA [] rfl (by decide)) rfl rfl hl.1 rfl (lv_room (Nat.le_of_ble_eq_true rfl)) dX11_joined_8 ⟨Nat.le_of_ble_eq_true rfl, Nat.le_of_ble_eq_true rfl⟩) hP hD hS hA [] [0, 1, 2, 3] rfl rfl (by decide) (by decide) ?_
    clear hP hD hS
    intro r_11 u_13 H locs w_12 hP hD hS
    replace hP : va_P D vwCl [(k, .inr (11, [.ref k0, .ref k1, .ref k2, .int c3, .ref k4, .ref k5, .ref k6, .ref k7, .ref k8, .int c9, .ref ka, .ref kb, .int cc, .int cd, .int ce, .int cf, .int cg, .int ch, .int ci, .int cj, .int ck, .ref kl, .int cm, .int cn, .ref ko])), (k0, .inl (cI, 1201, .inl c0)), (k2, .inl (cI, 1201, .inl c2)), (k4, .inl (cI, 6, .inl c4))] H := hP
    replace hD : va_D A [(k, .inr (11, [.ref k0, .ref k1, .ref k2, .int c3, .ref k4, .ref k5, .ref k6, .ref k7, .ref k8, .int c9, .ref ka, .ref kb, .int cc, .int cd, .int ce, .int cf, .int cg, .int ch, .int ci, .int cj, .int ck, .ref kl, .int cm, .int cn, .ref ko])), (k0, .inl (cI, 1201, .inl c0)), (k2, .inl (cI, 1201, .inl c2)), (k4, .inl (cI, 6, .inl c4))] := hD
    rcases w_12 with ⟨hr_11, h_14, h_15⟩ | ⟨hr_11, h_16⟩
    · have h_14 : 0 ≤ a1.toInt := h_14
      have h_15 : a1.toInt ≤ 39 := h_15
      obtain rfl : r_11 = 1 := hr_11.trans (by decide)
      refine b_if_eq hx hb zl_1 (tgt := 19) dX11_joined_11 (by decide) (fun c_17 => by exfalso; omega) (fun c_17 => ?_)
      refine lv_iload_n hx hb dX11_joined_14 rfl (lv_at hl 1 rfl) ?_
      refine lv_iload_n hx hb dX11_joined_15 rfl (lv_at hl 2 rfl) ?_
      refine b_icmp_le hx hb rfl rfl (tgt := 26) dX11_joined_16 (by decide) (fun c_18 => ?_) (fun c_18 => ?_)
      · refine lv_aload_n hx hb dX11_joined_26 rfl (lv_at hl 0 rfl) ?_
        refine va_get (D := D) (ci := 11) (v := .ref k0) (C := RX11) (T := TX11) (N := 25) hx hb hT giX11 hown hK hP 0 rfl rfl 0 (by decide) (hT (Cond.fieldLink RX11 9 "DesertWireModel" "s" "[I") mw_1156) (fun _ h9 => h9) rfl dX11_joined_27 ?_
        refine lv_astore_n (lv' := [(3, .ref k0), (0, .ref k), (1, .int a0), (2, .int a1)]) hx hb dX11_joined_30 rfl hl (by decide) rfl ?_
        clear hl
        intro ls hl
        refine lv_aload_n hx hb dX11_joined_31 rfl (lv_at hl 0 rfl) ?_
        refine lv_aload_n hx hb dX11_joined_32 rfl (lv_at hl 1 rfl) ?_
        refine va_get (D := D) (ci := 11) (v := .ref k2) (C := RX11) (T := TX11) (N := 25) hx hb hT giX11 hown hK hP 0 rfl rfl 2 (by decide) (hT (Cond.fieldLink RX11 16 "DesertWireModel" "trial" "[I") mw_1158) (fun _ h9 => h9) rfl dX11_joined_33 ?_
        refine kJv (wr := [(k, .inr (11, [.ref k0, .ref k1, .ref k2, .int c3, .ref k4, .ref k5, .ref k6, .ref k7, .ref k8, .int c9, .ref ka, .ref kb, .int cc, .int cd, .int ce, .int cf, .int cg, .int ch, .int ci, .int cj, .int ck, .ref kl, .int cm, .int cn, .ref ko])), (k4, .inl (cI, 6, .inl c4))]) (va_runS (As := [.ref k0, .ref k2]) (rest := []) ⟨hx, hb, hml, hown, hT⟩ (c_X11_copyG l D cI aK aV k0 k2 H.size c0 c2) (cwS 2 hT (gS_in mw_1558 mw_1556 mw_1557 mw_12) rfl rfl rfl (by decide +kernel) ⟨Nat.le_of_ble_eq_true rfl, Nat.le_of_ble_eq_true rfl⟩) (kStatX hK hP hD hN hXS hS hA [1, 2] rfl (by decide)) rfl rfl hl.1 rfl (lv_room (Nat.le_of_ble_eq_true rfl)) dX11_joined_36 ⟨Nat.le_of_ble_eq_true rfl, Nat.le_of_ble_eq_true rfl⟩) hP hD hS hA [1, 2] [0, 3] rfl rfl (by decide) (by decide) ?_
        clear hP hD hS
        intro ser_21 H locs w_20 hP hD hS
        replace hP : va_P D vwCl [(k, .inr (11, [.ref k0, .ref k1, .ref k2, .int c3, .ref k4, .ref k5, .ref k6, .ref k7, .ref k8, .int c9, .ref ka, .ref kb, .int cc, .int cd, .int ce, .int cf, .int cg, .int ch, .int ci, .int cj, .int ck, .ref kl, .int cm, .int cn, .ref ko])), (k4, .inl (cI, 6, .inl c4)), (k0, .inl (cI, 1201, .inl c0)), (k2, .inl (cI, 1201, .inl ser_21))] H := hP
        replace hD : va_D A [(k, .inr (11, [.ref k0, .ref k1, .ref k2, .int c3, .ref k4, .ref k5, .ref k6, .ref k7, .ref k8, .int c9, .ref ka, .ref kb, .int cc, .int cd, .int ce, .int cf, .int cg, .int ch, .int ci, .int cj, .int ck, .ref kl, .int cm, .int cn, .ref ko])), (k4, .inl (cI, 6, .inl c4)), (k0, .inl (cI, 1201, .inl c0)), (k2, .inl (cI, 1201, .inl ser_21))] := hD
        have h_22 := w_20
        have h_22 : ser_21 = c0 := h_22
        have hS_23 : SIX ser_21 (-1) := by rw [h_22]; exact pre0
        have n_24 : (ser_21 0).toInt = (c0 0).toInt := by rw [h_22]
        have n_25 : (ser_21 1).toInt = (c0 1).toInt := by rw [h_22]
        have n_26 : (ser_21 2).toInt = (c0 2).toInt := by rw [h_22]
        refine lv_aload_n hx hb dX11_joined_39 rfl (lv_at hl 1 rfl) ?_
        refine lv_aload_n hx hb dX11_joined_40 rfl (lv_at hl 1 rfl) ?_
        refine va_get (D := D) (ci := 11) (v := .ref k2) (C := RX11) (T := TX11) (N := 25) hx hb hT giX11 hown hK hP 0 rfl rfl 2 (by decide) (hT (Cond.fieldLink RX11 16 "DesertWireModel" "trial" "[I") mw_1158) (fun _ h9 => h9) rfl dX11_joined_41 ?_
        refine va_put (D := D) (ci := 11) (v := .ref k2) (ty := .array .int) (C := RX11) (T := TX11) (N := 25) hx hb hT giX11 tyX11 tyX11_ok nmX11 hown hK hP hD hS 0 rfl rfl 0 (by decide) (hT (Cond.fieldLink RX11 9 "DesertWireModel" "s" "[I") mw_1156) (fun _ h9 => h9) rfl (by decide +kernel) rfl rfl (Nat.le_of_ble_eq_true rfl) dX11_joined_44 ?_
        clear hP hD hS
        intro H locs hP hD hS
        replace hP : va_P D vwCl [(k, .inr (11, [.ref k2, .ref k1, .ref k2, .int c3, .ref k4, .ref k5, .ref k6, .ref k7, .ref k8, .int c9, .ref ka, .ref kb, .int cc, .int cd, .int ce, .int cf, .int cg, .int ch, .int ci, .int cj, .int ck, .ref kl, .int cm, .int cn, .ref ko])), (k4, .inl (cI, 6, .inl c4)), (k0, .inl (cI, 1201, .inl c0)), (k2, .inl (cI, 1201, .inl ser_21))] H := hP
        replace hD : va_D A [(k, .inr (11, [.ref k2, .ref k1, .ref k2, .int c3, .ref k4, .ref k5, .ref k6, .ref k7, .ref k8, .int c9, .ref ka, .ref kb, .int cc, .int cd, .int ce, .int cf, .int cg, .int ch, .int ci, .int cj, .int ck, .ref kl, .int cm, .int cn, .ref ko])), (k4, .inl (cI, 6, .inl c4)), (k0, .inl (cI, 1201, .inl c0)), (k2, .inl (cI, 1201, .inl ser_21))] := hD
        refine lv_aload_n hx hb dX11_joined_47 rfl (lv_at hl 1 rfl) ?_
        refine va_get (D := D) (ci := 11) (v := .ref k2) (C := RX11) (T := TX11) (N := 25) hx hb hT giX11 hown hK hP 0 rfl rfl 0 (by decide) (hT (Cond.fieldLink RX11 9 "DesertWireModel" "s" "[I") mw_1156) (fun _ h9 => h9) rfl dX11_joined_48 ?_
        refine lv_iconst (v := 0) hx hb dX11_joined_51 (by decide) ?_
        refine k_iald (v := (ser_21 0)) hx hb hK hP 3 0 rfl rfl (k_inl (by decide)) rfl dX11_joined_52 ?_
        refine lv_topi (fun v_27 ev_27 => ?_)
        have lo_v_27 := k_lo v_27
        have hi_v_27 := k_hi v_27
        have tv_27 : v_27.toInt = (ser_21 0).toInt := by rw [ev_27]
        have b_28 : 0 ≤ v_27.toInt ∧ v_27.toInt ≤ 2000 := by first | (rw [tv_27]; exact SB.n0 (And.left hS_23)) | exact SB.n0 (And.left hS_23) | omega
        refine lv_sipush (v := 200) hx hb dX11_joined_53 (by decide) ?_
        refine lv_iadd hx hb dX11_joined_56 ?_
        refine lv_topi (fun v_29 ev_29 => ?_)
        have tv_29 : v_29.toInt = v_27.toInt + 200 := by rw [ev_29]; exact k_addv rfl zl_200 (by omega) (by omega)
        refine lv_sipush (v := 2000) hx hb dX11_joined_57 (by decide) ?_
        refine b_icmp_le hx hb rfl zl_2000 (tgt := 69) dX11_joined_60 (by decide) (fun c_30 => ?_) (fun c_30 => ?_)
        · refine lv_aload_n hx hb dX11_joined_69 rfl (lv_at hl 1 rfl) ?_
          refine va_get (D := D) (ci := 11) (v := .ref k2) (C := RX11) (T := TX11) (N := 25) hx hb hT giX11 hown hK hP 0 rfl rfl 0 (by decide) (hT (Cond.fieldLink RX11 9 "DesertWireModel" "s" "[I") mw_1156) (fun _ h9 => h9) rfl dX11_joined_70 ?_
          refine lv_iconst (v := 0) hx hb dX11_joined_73 (by decide) ?_
          refine k_iald (v := (ser_21 0)) hx hb hK hP 3 0 rfl rfl (k_inl (by decide)) rfl dX11_joined_74 ?_
          refine lv_topi (fun v_31 ev_31 => ?_)
          have lo_v_31 := k_lo v_31
          have hi_v_31 := k_hi v_31
          have tv_31 : v_31.toInt = (ser_21 0).toInt := by rw [ev_31]
          have b_32 : 0 ≤ v_31.toInt ∧ v_31.toInt ≤ 2000 := by first | (rw [tv_31]; exact SB.n0 (And.left hS_23)) | exact SB.n0 (And.left hS_23) | omega
          refine lv_sipush (v := 200) hx hb dX11_joined_75 (by decide) ?_
          refine lv_iadd hx hb dX11_joined_78 ?_
          refine lv_topi (fun v_33 ev_33 => ?_)
          have tv_33 : v_33.toInt = v_31.toInt + 200 := by rw [ev_33]; exact k_addv rfl zl_200 (by omega) (by omega)
          refine lv_istore (lv' := [(4, .int v_33), (3, .ref k0), (0, .ref k), (1, .int a0), (2, .int a1)]) hx hb dX11_joined_79 hl (by decide) rfl ?_
          clear hl
          intro ls hl
          have hloop_81 : ∀ (fu_ : Nat) (g81_k2 : Nat → Int32), SIX g81_k2 (-1) → (c0 0).toInt ≤ (g81_k2 0).toInt → (g81_k2 0).toInt ≤ v_33.toInt → jnF g81_k2 a0.toInt a1.toInt (v_33.toInt - (g81_k2 0).toInt).toNat = jnF c0 a0.toInt a1.toInt (v_33.toInt - (c0 0).toInt).toNat → (2000 - (g81_k2 0).toInt).toNat < fu_ → ∀ (ls : Array Slot) (H : Heap) (locs : List Loc), lv_has ls 6 [(4, .int v_33), (3, .ref k0), (0, .ref k), (1, .int a0), (2, .int a1)] → va_P D vwCl [(k, .inr (11, [.ref k2, .ref k1, .ref k2, .int c3, .ref k4, .ref k5, .ref k6, .ref k7, .ref k8, .int c9, .ref ka, .ref kb, .int cc, .int cd, .int ce, .int cf, .int cg, .int ch, .int ci, .int cj, .int ck, .ref kl, .int cm, .int cn, .ref ko])), (k4, .inl (cI, 6, .inl c4)), (k0, .inl (cI, 1201, .inl c0)), (k2, .inl (cI, 1201, .inl g81_k2))] H → va_D A [(k, .inr (11, [.ref k2, .ref k1, .ref k2, .int c3, .ref k4, .ref k5, .ref k6, .ref k7, .ref k8, .int c9, .ref ka, .ref kb, .int cc, .int cd, .int ce, .int cf, .int cg, .int ch, .int ci, .int cj, .int ck, .ref kl, .int cm, .int cn, .ref ko])), (k4, .inl (cI, 6, .inl c4)), (k0, .inl (cI, 1201, .inl c0)), (k2, .inl (cI, 1201, .inl g81_k2))] → va_S A s.heap H locs → W p l e ({ frames := 6, cells := 0, slots := 0, locals := 132 } : Room) s m args below meth c H locs 0 0 Q (F0 m 81 ls []) := by
            intro fu_; induction fu_ with
            | zero => intro g81_k2 i81_0 i81_1 i81_2 i81_3 hm; exact absurd hm (by omega)
            | succ fu_ ih81 =>
                intro g81_k2 i81_0 i81_1 i81_2 i81_3 hm ls H locs hl hP hD hS
                have i81_0 : SIX g81_k2 (-1) := i81_0
                refine lv_aload_n hx hb dX11_joined_81 rfl (lv_at hl 2 rfl) ?_
                refine va_get (D := D) (ci := 11) (v := .ref k2) (C := RX11) (T := TX11) (N := 25) hx hb hT giX11 hown hK hP 0 rfl rfl 0 (by decide) (hT (Cond.fieldLink RX11 9 "DesertWireModel" "s" "[I") mw_1156) (fun _ h9 => h9) rfl dX11_joined_82 ?_
                refine lv_iconst (v := 0) hx hb dX11_joined_85 (by decide) ?_
                refine k_iald (v := (g81_k2 0)) hx hb hK hP 3 0 rfl rfl (k_inl (by decide)) rfl dX11_joined_86 ?_
                refine lv_topi (fun v_34 ev_34 => ?_)
                have lo_v_34 := k_lo v_34
                have hi_v_34 := k_hi v_34
                have tv_34 : v_34.toInt = (g81_k2 0).toInt := by rw [ev_34]
                have b_35 : 0 ≤ v_34.toInt ∧ v_34.toInt ≤ 2000 := by first | (rw [tv_34]; exact SB.n0 (And.left i81_0)) | exact SB.n0 (And.left i81_0) | omega
                refine lv_iload hx hb dX11_joined_87 (lv_at hl 0 rfl) ?_
                refine b_icmp_ge hx hb rfl rfl (tgt := 108) dX11_joined_89 (by decide) (fun c_36 => ?_) (fun c_36 => ?_)
                · refine lv_aload_n hx hb dX11_joined_108 rfl (lv_at hl 2 rfl) ?_
                  refine lv_iload_n hx hb dX11_joined_109 rfl (lv_at hl 3 rfl) ?_
                  refine lv_iload_n hx hb dX11_joined_110 rfl (lv_at hl 4 rfl) ?_
                  refine kJi (wr := [(k4, .inl (cI, 6, .inl c4)), (k0, .inl (cI, 1201, .inl c0))]) (va_runV (As := [.int a0, .int a1]) (rest := []) ⟨hx, hb, hml, hown, hT⟩ (c_X11_areWiredG l D cI aK aV k k2 k1 k2 k4 k5 k6 k7 k8 ka kb kl ko H.size c3 c9 cc cd ce cf cg ch ci cj ck cm cn g81_k2 a0 a1 (And.left i81_0) (by first | omega | decide | assumption | rfl) (by first | omega | decide | assumption | rfl) (by first | omega | decide | assumption | rfl) (by first | omega | decide | assumption | rfl)) (cwV 2 hT (gV_in mw_1570 mw_1567 mw_1569 mw_p6_5 mw_12) rfl rfl rfl (by decide +kernel) ⟨Nat.le_of_ble_eq_true rfl, Nat.le_of_ble_eq_true rfl⟩) (kRecvX (q0 := 0) (ci := 11) hK hP hD hN hXS hS hA rfl rfl [0, 3] rfl (by decide)) rfl rfl hl.1 rfl (lv_room (Nat.le_of_ble_eq_true rfl)) dX11_joined_111 ⟨Nat.le_of_ble_eq_true rfl, Nat.le_of_ble_eq_true rfl⟩) hP hD hS hA [0, 3] [1, 2] rfl rfl (by decide) (by decide) ?_
                  clear hP hD hS
                  intro r_37 u_39 H locs w_38 hP hD hS
                  replace hP : va_P D vwCl [(k4, .inl (cI, 6, .inl c4)), (k0, .inl (cI, 1201, .inl c0)), (k, .inr (11, [.ref k2, .ref k1, .ref k2, .int c3, .ref k4, .ref k5, .ref k6, .ref k7, .ref k8, .int c9, .ref ka, .ref kb, .int cc, .int cd, .int ce, .int cf, .int cg, .int ch, .int ci, .int cj, .int ck, .ref kl, .int cm, .int cn, .ref ko])), (k2, .inl (cI, 1201, .inl g81_k2))] H := hP
                  replace hD : va_D A [(k4, .inl (cI, 6, .inl c4)), (k0, .inl (cI, 1201, .inl c0)), (k, .inr (11, [.ref k2, .ref k1, .ref k2, .int c3, .ref k4, .ref k5, .ref k6, .ref k7, .ref k8, .int c9, .ref ka, .ref kb, .int cc, .int cd, .int ce, .int cf, .int cg, .int ch, .int ci, .int cj, .int ck, .ref kl, .int cm, .int cn, .ref ko])), (k2, .inl (cI, 1201, .inl g81_k2))] := hD
                  rcases w_38 with ⟨hr_37, h_40⟩ | ⟨hr_37, h_41⟩
                  · have h_40 : awF g81_k2 a0.toInt a1.toInt = true := h_40
                    have h_40 : awF g81_k2 a0.toInt a1.toInt = true := h_40
                    obtain rfl : r_37 = 1 := hr_37.trans (by decide)
                    refine b_if_eq hx hb zl_1 (tgt := 126) dX11_joined_114 (by decide) (fun c_42 => by exfalso; omega) (fun c_42 => ?_)
                    refine lv_aload_n hx hb dX11_joined_117 rfl (lv_at hl 2 rfl) ?_
                    refine va_get (D := D) (ci := 11) (v := .ref k2) (C := RX11) (T := TX11) (N := 25) hx hb hT giX11 hown hK hP 2 rfl rfl 0 (by decide) (hT (Cond.fieldLink RX11 9 "DesertWireModel" "s" "[I") mw_1156) (fun _ h9 => h9) rfl dX11_joined_118 ?_
                    refine lv_iconst (v := 0) hx hb dX11_joined_121 (by decide) ?_
                    refine k_iald (v := (g81_k2 0)) hx hb hK hP 3 0 rfl rfl (k_inl (by decide)) rfl dX11_joined_122 ?_
                    refine lv_topi (fun v_43 ev_43 => ?_)
                    have lo_v_43 := k_lo v_43
                    have hi_v_43 := k_hi v_43
                    have tv_43 : v_43.toInt = (g81_k2 0).toInt := by rw [ev_43]
                    have b_44 : 0 ≤ v_43.toInt ∧ v_43.toInt ≤ 2000 := by first | (rw [tv_43]; exact SB.n0 (And.left i81_0)) | exact SB.n0 (And.left i81_0) | omega
                    refine lv_goto (tgt := 127) hx hb dX11_joined_123 (by decide) ?_
                    refine lv_istore (lv' := [(5, .int v_43), (4, .int v_33), (3, .ref k0), (0, .ref k), (1, .int a0), (2, .int a1)]) hx hb dX11_joined_127 hl (by decide) rfl ?_
                    clear hl
                    intro ls hl
                    refine lv_aload_n hx hb dX11_joined_129 rfl (lv_at hl 3 rfl) ?_
                    refine lv_aload_n hx hb dX11_joined_130 rfl (lv_at hl 2 rfl) ?_
                    refine va_put (D := D) (ci := 11) (v := .ref k0) (ty := .array .int) (C := RX11) (T := TX11) (N := 25) hx hb hT giX11 tyX11 tyX11_ok nmX11 hown hK hP hD hS 2 rfl rfl 0 (by decide) (hT (Cond.fieldLink RX11 9 "DesertWireModel" "s" "[I") mw_1156) (fun _ h9 => h9) rfl (by decide +kernel) rfl rfl (Nat.le_of_ble_eq_true rfl) dX11_joined_131 ?_
                    clear hP hD hS
                    intro H locs hP hD hS
                    replace hP : va_P D vwCl [(k4, .inl (cI, 6, .inl c4)), (k0, .inl (cI, 1201, .inl c0)), (k, .inr (11, [.ref k0, .ref k1, .ref k2, .int c3, .ref k4, .ref k5, .ref k6, .ref k7, .ref k8, .int c9, .ref ka, .ref kb, .int cc, .int cd, .int ce, .int cf, .int cg, .int ch, .int ci, .int cj, .int ck, .ref kl, .int cm, .int cn, .ref ko])), (k2, .inl (cI, 1201, .inl g81_k2))] H := hP
                    replace hD : va_D A [(k4, .inl (cI, 6, .inl c4)), (k0, .inl (cI, 1201, .inl c0)), (k, .inr (11, [.ref k0, .ref k1, .ref k2, .int c3, .ref k4, .ref k5, .ref k6, .ref k7, .ref k8, .int c9, .ref ka, .ref kb, .int cc, .int cd, .int ce, .int cf, .int cg, .int ch, .int ci, .int cj, .int ck, .ref kl, .int cm, .int cn, .ref ko])), (k2, .inl (cI, 1201, .inl g81_k2))] := hD
                    refine lv_iload hx hb dX11_joined_134 (lv_at hl 0 rfl) ?_
                    refine b_if_ge hx hb rfl (tgt := 148) dX11_joined_136 (by decide) (fun c_45 => ?_) (fun c_45 => by exfalso; omega)
                    refine lv_iload hx hb dX11_joined_148 (lv_at hl 0 rfl) ?_
                    exact hRet (g81_k2, c4) [2, 1, 3, 0] (by unfold joinR; rw [if_pos (by omega), show (if 2000 < (c0 0).toInt + 200 then 2000 - (c0 0).toInt else 200) = v_33.toInt - (c0 0).toInt from by split <;> omega, ← i81_3]; rw [jn_y h_40]; exact ev_43) hP hD (by decide) rfl hS rfl dX11_joined_150
                  · have h_41 : awF g81_k2 a0.toInt a1.toInt = false := h_41
                    have h_41 : awF g81_k2 a0.toInt a1.toInt = false := h_41
                    obtain rfl : r_37 = 0 := hr_37.trans (by decide)
                    refine b_if_eq hx hb zl_0 (tgt := 126) dX11_joined_114 (by decide) (fun c_46 => ?_) (fun c_46 => by exfalso; omega)
                    refine lv_iconst (v := (-1)) hx hb dX11_joined_126 (by decide) ?_
                    refine lv_istore (lv' := [(5, .int (-1)), (4, .int v_33), (3, .ref k0), (0, .ref k), (1, .int a0), (2, .int a1)]) hx hb dX11_joined_127 hl (by decide) rfl ?_
                    clear hl
                    intro ls hl
                    refine lv_aload_n hx hb dX11_joined_129 rfl (lv_at hl 3 rfl) ?_
                    refine lv_aload_n hx hb dX11_joined_130 rfl (lv_at hl 2 rfl) ?_
                    refine va_put (D := D) (ci := 11) (v := .ref k0) (ty := .array .int) (C := RX11) (T := TX11) (N := 25) hx hb hT giX11 tyX11 tyX11_ok nmX11 hown hK hP hD hS 2 rfl rfl 0 (by decide) (hT (Cond.fieldLink RX11 9 "DesertWireModel" "s" "[I") mw_1156) (fun _ h9 => h9) rfl (by decide +kernel) rfl rfl (Nat.le_of_ble_eq_true rfl) dX11_joined_131 ?_
                    clear hP hD hS
                    intro H locs hP hD hS
                    replace hP : va_P D vwCl [(k4, .inl (cI, 6, .inl c4)), (k0, .inl (cI, 1201, .inl c0)), (k, .inr (11, [.ref k0, .ref k1, .ref k2, .int c3, .ref k4, .ref k5, .ref k6, .ref k7, .ref k8, .int c9, .ref ka, .ref kb, .int cc, .int cd, .int ce, .int cf, .int cg, .int ch, .int ci, .int cj, .int ck, .ref kl, .int cm, .int cn, .ref ko])), (k2, .inl (cI, 1201, .inl g81_k2))] H := hP
                    replace hD : va_D A [(k4, .inl (cI, 6, .inl c4)), (k0, .inl (cI, 1201, .inl c0)), (k, .inr (11, [.ref k0, .ref k1, .ref k2, .int c3, .ref k4, .ref k5, .ref k6, .ref k7, .ref k8, .int c9, .ref ka, .ref kb, .int cc, .int cd, .int ce, .int cf, .int cg, .int ch, .int ci, .int cj, .int ck, .ref kl, .int cm, .int cn, .ref ko])), (k2, .inl (cI, 1201, .inl g81_k2))] := hD
                    refine lv_iload hx hb dX11_joined_134 (lv_at hl 0 rfl) ?_
                    refine b_if_ge hx hb zl_m1 (tgt := 148) dX11_joined_136 (by decide) (fun c_47 => by exfalso; omega) (fun c_47 => ?_)
                    refine lv_aload_n hx hb dX11_joined_139 rfl (lv_at hl 3 rfl) ?_
                    refine lv_ldc (v := (-1000002)) hx hb hown (hT _ mw_1392) dX11_joined_140 ?_
                    refine kJi (wr := [(k0, .inl (cI, 1201, .inl c0)), (k2, .inl (cI, 1201, .inl g81_k2))]) (va_runV (As := [.int (-1000002)]) (rest := []) ⟨hx, hb, hml, hown, hT⟩ (c_X11_findingG l D cI aK aV k k0 k1 k2 k4 k5 k6 k7 k8 ka kb kl ko H.size c3 c9 cc cd ce cf cg ch ci cj ck cm cn c4 (-1000002) (by first | omega | (simp only [zl_m1000002]; first | done | omega) | decide | assumption | rfl) (by first | omega | (simp only [zl_m1000002]; first | done | omega) | decide | assumption | rfl)) (cwV 1 hT (gV_in mw_1243 mw_1240 mw_1242 mw_p3_8 mw_12) rfl rfl rfl (by decide +kernel) ⟨Nat.le_of_ble_eq_true rfl, Nat.le_of_ble_eq_true rfl⟩) (kRecvX (q0 := 2) (ci := 11) hK hP hD hN hXS hS hA rfl rfl [2, 0] rfl (by decide)) rfl rfl hl.1 rfl (lv_room (Nat.le_of_ble_eq_true rfl)) dX11_joined_142 ⟨Nat.le_of_ble_eq_true rfl, Nat.le_of_ble_eq_true rfl⟩) hP hD hS hA [2, 0] [1, 3] rfl rfl (by decide) (by decide) ?_
                    clear hP hD hS
                    intro r_48 sc4_50 H locs w_49 hP hD hS
                    replace hP : va_P D vwCl [(k0, .inl (cI, 1201, .inl c0)), (k2, .inl (cI, 1201, .inl g81_k2)), (k, .inr (11, [.ref k0, .ref k1, .ref k2, .int c3, .ref k4, .ref k5, .ref k6, .ref k7, .ref k8, .int c9, .ref ka, .ref kb, .int cc, .int cd, .int ce, .int cf, .int cg, .int ch, .int ci, .int cj, .int ck, .ref kl, .int cm, .int cn, .ref ko])), (k4, .inl (cI, 6, .inl sc4_50))] H := hP
                    replace hD : va_D A [(k0, .inl (cI, 1201, .inl c0)), (k2, .inl (cI, 1201, .inl g81_k2)), (k, .inr (11, [.ref k0, .ref k1, .ref k2, .int c3, .ref k4, .ref k5, .ref k6, .ref k7, .ref k8, .int c9, .ref ka, .ref kb, .int cc, .int cd, .int ce, .int cf, .int cg, .int ch, .int ci, .int cj, .int ck, .ref kl, .int cm, .int cn, .ref ko])), (k4, .inl (cI, 6, .inl sc4_50))] := hD
                    have hr_48 := w_49
                    obtain rfl : r_48 = (-1000002) := hr_48.trans (by decide)
                    refine lv_goto (tgt := 150) hx hb dX11_joined_145 (by decide) ?_
                    exact hRet (g81_k2, sc4_50) [2, 0, 1, 3] (by unfold joinR; rw [if_pos (by omega), show (if 2000 < (c0 0).toInt + 200 then 2000 - (c0 0).toInt else 200) = v_33.toInt - (c0 0).toInt from by split <;> omega, ← i81_3]; exact (jn_e h_41 (by omega)).symm) hP hD (by decide) rfl hS rfl dX11_joined_150
                · refine lv_aload_n hx hb dX11_joined_92 rfl (lv_at hl 2 rfl) ?_
                  refine lv_iload_n hx hb dX11_joined_93 rfl (lv_at hl 3 rfl) ?_
                  refine lv_iload_n hx hb dX11_joined_94 rfl (lv_at hl 4 rfl) ?_
                  refine kJi (wr := [(k4, .inl (cI, 6, .inl c4)), (k0, .inl (cI, 1201, .inl c0))]) (va_runV (As := [.int a0, .int a1]) (rest := []) ⟨hx, hb, hml, hown, hT⟩ (c_X11_areWiredG l D cI aK aV k k2 k1 k2 k4 k5 k6 k7 k8 ka kb kl ko H.size c3 c9 cc cd ce cf cg ch ci cj ck cm cn g81_k2 a0 a1 (And.left i81_0) (by first | omega | decide | assumption | rfl) (by first | omega | decide | assumption | rfl) (by first | omega | decide | assumption | rfl) (by first | omega | decide | assumption | rfl)) (cwV 2 hT (gV_in mw_1570 mw_1567 mw_1569 mw_p6_5 mw_12) rfl rfl rfl (by decide +kernel) ⟨Nat.le_of_ble_eq_true rfl, Nat.le_of_ble_eq_true rfl⟩) (kRecvX (q0 := 0) (ci := 11) hK hP hD hN hXS hS hA rfl rfl [0, 3] rfl (by decide)) rfl rfl hl.1 rfl (lv_room (Nat.le_of_ble_eq_true rfl)) dX11_joined_95 ⟨Nat.le_of_ble_eq_true rfl, Nat.le_of_ble_eq_true rfl⟩) hP hD hS hA [0, 3] [1, 2] rfl rfl (by decide) (by decide) ?_
                  clear hP hD hS
                  intro r_51 u_53 H locs w_52 hP hD hS
                  replace hP : va_P D vwCl [(k4, .inl (cI, 6, .inl c4)), (k0, .inl (cI, 1201, .inl c0)), (k, .inr (11, [.ref k2, .ref k1, .ref k2, .int c3, .ref k4, .ref k5, .ref k6, .ref k7, .ref k8, .int c9, .ref ka, .ref kb, .int cc, .int cd, .int ce, .int cf, .int cg, .int ch, .int ci, .int cj, .int ck, .ref kl, .int cm, .int cn, .ref ko])), (k2, .inl (cI, 1201, .inl g81_k2))] H := hP
                  replace hD : va_D A [(k4, .inl (cI, 6, .inl c4)), (k0, .inl (cI, 1201, .inl c0)), (k, .inr (11, [.ref k2, .ref k1, .ref k2, .int c3, .ref k4, .ref k5, .ref k6, .ref k7, .ref k8, .int c9, .ref ka, .ref kb, .int cc, .int cd, .int ce, .int cf, .int cg, .int ch, .int ci, .int cj, .int ck, .ref kl, .int cm, .int cn, .ref ko])), (k2, .inl (cI, 1201, .inl g81_k2))] := hD
                  rcases w_52 with ⟨hr_51, h_54⟩ | ⟨hr_51, h_55⟩
                  · have h_54 : awF g81_k2 a0.toInt a1.toInt = true := h_54
                    have h_54 : awF g81_k2 a0.toInt a1.toInt = true := h_54
                    obtain rfl : r_51 = 1 := hr_51.trans (by decide)
                    refine b_if_ne hx hb zl_1 (tgt := 108) dX11_joined_98 (by decide) (fun c_56 => ?_) (fun c_56 => by exfalso; omega)
                    refine lv_aload_n hx hb dX11_joined_108 rfl (lv_at hl 2 rfl) ?_
                    refine lv_iload_n hx hb dX11_joined_109 rfl (lv_at hl 3 rfl) ?_
                    refine lv_iload_n hx hb dX11_joined_110 rfl (lv_at hl 4 rfl) ?_
                    refine kJi (wr := [(k4, .inl (cI, 6, .inl c4)), (k0, .inl (cI, 1201, .inl c0))]) (va_runV (As := [.int a0, .int a1]) (rest := []) ⟨hx, hb, hml, hown, hT⟩ (c_X11_areWiredG l D cI aK aV k k2 k1 k2 k4 k5 k6 k7 k8 ka kb kl ko H.size c3 c9 cc cd ce cf cg ch ci cj ck cm cn g81_k2 a0 a1 (And.left i81_0) (by first | omega | decide | assumption | rfl) (by first | omega | decide | assumption | rfl) (by first | omega | decide | assumption | rfl) (by first | omega | decide | assumption | rfl)) (cwV 2 hT (gV_in mw_1570 mw_1567 mw_1569 mw_p6_5 mw_12) rfl rfl rfl (by decide +kernel) ⟨Nat.le_of_ble_eq_true rfl, Nat.le_of_ble_eq_true rfl⟩) (kRecvX (q0 := 2) (ci := 11) hK hP hD hN hXS hS hA rfl rfl [2, 3] rfl (by decide)) rfl rfl hl.1 rfl (lv_room (Nat.le_of_ble_eq_true rfl)) dX11_joined_111 ⟨Nat.le_of_ble_eq_true rfl, Nat.le_of_ble_eq_true rfl⟩) hP hD hS hA [2, 3] [0, 1] rfl rfl (by decide) (by decide) ?_
                    clear hP hD hS
                    intro r_57 u_59 H locs w_58 hP hD hS
                    replace hP : va_P D vwCl [(k4, .inl (cI, 6, .inl c4)), (k0, .inl (cI, 1201, .inl c0)), (k, .inr (11, [.ref k2, .ref k1, .ref k2, .int c3, .ref k4, .ref k5, .ref k6, .ref k7, .ref k8, .int c9, .ref ka, .ref kb, .int cc, .int cd, .int ce, .int cf, .int cg, .int ch, .int ci, .int cj, .int ck, .ref kl, .int cm, .int cn, .ref ko])), (k2, .inl (cI, 1201, .inl g81_k2))] H := hP
                    replace hD : va_D A [(k4, .inl (cI, 6, .inl c4)), (k0, .inl (cI, 1201, .inl c0)), (k, .inr (11, [.ref k2, .ref k1, .ref k2, .int c3, .ref k4, .ref k5, .ref k6, .ref k7, .ref k8, .int c9, .ref ka, .ref kb, .int cc, .int cd, .int ce, .int cf, .int cg, .int ch, .int ci, .int cj, .int ck, .ref kl, .int cm, .int cn, .ref ko])), (k2, .inl (cI, 1201, .inl g81_k2))] := hD
                    rcases w_58 with ⟨hr_57, h_60⟩ | ⟨hr_57, h_61⟩
                    · have h_60 : awF g81_k2 a0.toInt a1.toInt = true := h_60
                      have h_60 : awF g81_k2 a0.toInt a1.toInt = true := h_60
                      obtain rfl : r_57 = 1 := hr_57.trans (by decide)
                      refine b_if_eq hx hb zl_1 (tgt := 126) dX11_joined_114 (by decide) (fun c_62 => by exfalso; omega) (fun c_62 => ?_)
                      refine lv_aload_n hx hb dX11_joined_117 rfl (lv_at hl 2 rfl) ?_
                      refine va_get (D := D) (ci := 11) (v := .ref k2) (C := RX11) (T := TX11) (N := 25) hx hb hT giX11 hown hK hP 2 rfl rfl 0 (by decide) (hT (Cond.fieldLink RX11 9 "DesertWireModel" "s" "[I") mw_1156) (fun _ h9 => h9) rfl dX11_joined_118 ?_
                      refine lv_iconst (v := 0) hx hb dX11_joined_121 (by decide) ?_
                      refine k_iald (v := (g81_k2 0)) hx hb hK hP 3 0 rfl rfl (k_inl (by decide)) rfl dX11_joined_122 ?_
                      refine lv_topi (fun v_63 ev_63 => ?_)
                      have lo_v_63 := k_lo v_63
                      have hi_v_63 := k_hi v_63
                      have tv_63 : v_63.toInt = (g81_k2 0).toInt := by rw [ev_63]
                      have b_64 : 0 ≤ v_63.toInt ∧ v_63.toInt ≤ 2000 := by first | (rw [tv_63]; exact SB.n0 (And.left i81_0)) | exact SB.n0 (And.left i81_0) | omega
                      refine lv_goto (tgt := 127) hx hb dX11_joined_123 (by decide) ?_
                      refine lv_istore (lv' := [(5, .int v_63), (4, .int v_33), (3, .ref k0), (0, .ref k), (1, .int a0), (2, .int a1)]) hx hb dX11_joined_127 hl (by decide) rfl ?_
                      clear hl
                      intro ls hl
                      refine lv_aload_n hx hb dX11_joined_129 rfl (lv_at hl 3 rfl) ?_
                      refine lv_aload_n hx hb dX11_joined_130 rfl (lv_at hl 2 rfl) ?_
                      refine va_put (D := D) (ci := 11) (v := .ref k0) (ty := .array .int) (C := RX11) (T := TX11) (N := 25) hx hb hT giX11 tyX11 tyX11_ok nmX11 hown hK hP hD hS 2 rfl rfl 0 (by decide) (hT (Cond.fieldLink RX11 9 "DesertWireModel" "s" "[I") mw_1156) (fun _ h9 => h9) rfl (by decide +kernel) rfl rfl (Nat.le_of_ble_eq_true rfl) dX11_joined_131 ?_
                      clear hP hD hS
                      intro H locs hP hD hS
                      replace hP : va_P D vwCl [(k4, .inl (cI, 6, .inl c4)), (k0, .inl (cI, 1201, .inl c0)), (k, .inr (11, [.ref k0, .ref k1, .ref k2, .int c3, .ref k4, .ref k5, .ref k6, .ref k7, .ref k8, .int c9, .ref ka, .ref kb, .int cc, .int cd, .int ce, .int cf, .int cg, .int ch, .int ci, .int cj, .int ck, .ref kl, .int cm, .int cn, .ref ko])), (k2, .inl (cI, 1201, .inl g81_k2))] H := hP
                      replace hD : va_D A [(k4, .inl (cI, 6, .inl c4)), (k0, .inl (cI, 1201, .inl c0)), (k, .inr (11, [.ref k0, .ref k1, .ref k2, .int c3, .ref k4, .ref k5, .ref k6, .ref k7, .ref k8, .int c9, .ref ka, .ref kb, .int cc, .int cd, .int ce, .int cf, .int cg, .int ch, .int ci, .int cj, .int ck, .ref kl, .int cm, .int cn, .ref ko])), (k2, .inl (cI, 1201, .inl g81_k2))] := hD
                      refine lv_iload hx hb dX11_joined_134 (lv_at hl 0 rfl) ?_
                      refine b_if_ge hx hb rfl (tgt := 148) dX11_joined_136 (by decide) (fun c_65 => ?_) (fun c_65 => by exfalso; omega)
                      refine lv_iload hx hb dX11_joined_148 (lv_at hl 0 rfl) ?_
                      exact hRet (g81_k2, c4) [2, 1, 3, 0] (by unfold joinR; rw [if_pos (by omega), show (if 2000 < (c0 0).toInt + 200 then 2000 - (c0 0).toInt else 200) = v_33.toInt - (c0 0).toInt from by split <;> omega, ← i81_3]; rw [jn_y h_60]; exact ev_63) hP hD (by decide) rfl hS rfl dX11_joined_150
                    · have h_61 : awF g81_k2 a0.toInt a1.toInt = false := h_61
                      have h_61 : awF g81_k2 a0.toInt a1.toInt = false := h_61
                      obtain rfl : r_57 = 0 := hr_57.trans (by decide)
                      refine b_if_eq hx hb zl_0 (tgt := 126) dX11_joined_114 (by decide) (fun c_66 => ?_) (fun c_66 => by exfalso; omega)
                      refine lv_iconst (v := (-1)) hx hb dX11_joined_126 (by decide) ?_
                      refine lv_istore (lv' := [(5, .int (-1)), (4, .int v_33), (3, .ref k0), (0, .ref k), (1, .int a0), (2, .int a1)]) hx hb dX11_joined_127 hl (by decide) rfl ?_
                      clear hl
                      intro ls hl
                      refine lv_aload_n hx hb dX11_joined_129 rfl (lv_at hl 3 rfl) ?_
                      refine lv_aload_n hx hb dX11_joined_130 rfl (lv_at hl 2 rfl) ?_
                      refine va_put (D := D) (ci := 11) (v := .ref k0) (ty := .array .int) (C := RX11) (T := TX11) (N := 25) hx hb hT giX11 tyX11 tyX11_ok nmX11 hown hK hP hD hS 2 rfl rfl 0 (by decide) (hT (Cond.fieldLink RX11 9 "DesertWireModel" "s" "[I") mw_1156) (fun _ h9 => h9) rfl (by decide +kernel) rfl rfl (Nat.le_of_ble_eq_true rfl) dX11_joined_131 ?_
                      clear hP hD hS
                      intro H locs hP hD hS
                      replace hP : va_P D vwCl [(k4, .inl (cI, 6, .inl c4)), (k0, .inl (cI, 1201, .inl c0)), (k, .inr (11, [.ref k0, .ref k1, .ref k2, .int c3, .ref k4, .ref k5, .ref k6, .ref k7, .ref k8, .int c9, .ref ka, .ref kb, .int cc, .int cd, .int ce, .int cf, .int cg, .int ch, .int ci, .int cj, .int ck, .ref kl, .int cm, .int cn, .ref ko])), (k2, .inl (cI, 1201, .inl g81_k2))] H := hP
                      replace hD : va_D A [(k4, .inl (cI, 6, .inl c4)), (k0, .inl (cI, 1201, .inl c0)), (k, .inr (11, [.ref k0, .ref k1, .ref k2, .int c3, .ref k4, .ref k5, .ref k6, .ref k7, .ref k8, .int c9, .ref ka, .ref kb, .int cc, .int cd, .int ce, .int cf, .int cg, .int ch, .int ci, .int cj, .int ck, .ref kl, .int cm, .int cn, .ref ko])), (k2, .inl (cI, 1201, .inl g81_k2))] := hD
                      refine lv_iload hx hb dX11_joined_134 (lv_at hl 0 rfl) ?_
                      refine b_if_ge hx hb zl_m1 (tgt := 148) dX11_joined_136 (by decide) (fun c_67 => by exfalso; omega) (fun c_67 => ?_)
                      refine lv_aload_n hx hb dX11_joined_139 rfl (lv_at hl 3 rfl) ?_
                      refine lv_ldc (v := (-1000002)) hx hb hown (hT _ mw_1392) dX11_joined_140 ?_
                      refine kJi (wr := [(k0, .inl (cI, 1201, .inl c0)), (k2, .inl (cI, 1201, .inl g81_k2))]) (va_runV (As := [.int (-1000002)]) (rest := []) ⟨hx, hb, hml, hown, hT⟩ (c_X11_findingG l D cI aK aV k k0 k1 k2 k4 k5 k6 k7 k8 ka kb kl ko H.size c3 c9 cc cd ce cf cg ch ci cj ck cm cn c4 (-1000002) (by first | omega | (simp only [zl_m1000002]; first | done | omega) | decide | assumption | rfl) (by first | omega | (simp only [zl_m1000002]; first | done | omega) | decide | assumption | rfl)) (cwV 1 hT (gV_in mw_1243 mw_1240 mw_1242 mw_p3_8 mw_12) rfl rfl rfl (by decide +kernel) ⟨Nat.le_of_ble_eq_true rfl, Nat.le_of_ble_eq_true rfl⟩) (kRecvX (q0 := 2) (ci := 11) hK hP hD hN hXS hS hA rfl rfl [2, 0] rfl (by decide)) rfl rfl hl.1 rfl (lv_room (Nat.le_of_ble_eq_true rfl)) dX11_joined_142 ⟨Nat.le_of_ble_eq_true rfl, Nat.le_of_ble_eq_true rfl⟩) hP hD hS hA [2, 0] [1, 3] rfl rfl (by decide) (by decide) ?_
                      clear hP hD hS
                      intro r_68 sc4_70 H locs w_69 hP hD hS
                      replace hP : va_P D vwCl [(k0, .inl (cI, 1201, .inl c0)), (k2, .inl (cI, 1201, .inl g81_k2)), (k, .inr (11, [.ref k0, .ref k1, .ref k2, .int c3, .ref k4, .ref k5, .ref k6, .ref k7, .ref k8, .int c9, .ref ka, .ref kb, .int cc, .int cd, .int ce, .int cf, .int cg, .int ch, .int ci, .int cj, .int ck, .ref kl, .int cm, .int cn, .ref ko])), (k4, .inl (cI, 6, .inl sc4_70))] H := hP
                      replace hD : va_D A [(k0, .inl (cI, 1201, .inl c0)), (k2, .inl (cI, 1201, .inl g81_k2)), (k, .inr (11, [.ref k0, .ref k1, .ref k2, .int c3, .ref k4, .ref k5, .ref k6, .ref k7, .ref k8, .int c9, .ref ka, .ref kb, .int cc, .int cd, .int ce, .int cf, .int cg, .int ch, .int ci, .int cj, .int ck, .ref kl, .int cm, .int cn, .ref ko])), (k4, .inl (cI, 6, .inl sc4_70))] := hD
                      have hr_68 := w_69
                      obtain rfl : r_68 = (-1000002) := hr_68.trans (by decide)
                      refine lv_goto (tgt := 150) hx hb dX11_joined_145 (by decide) ?_
                      exact hRet (g81_k2, sc4_70) [2, 0, 1, 3] (absurd (h_54.symm.trans h_61) (by decide)) hP hD (by decide) rfl hS rfl dX11_joined_150
                  · have h_55 : awF g81_k2 a0.toInt a1.toInt = false := h_55
                    have h_55 : awF g81_k2 a0.toInt a1.toInt = false := h_55
                    obtain rfl : r_51 = 0 := hr_51.trans (by decide)
                    refine b_if_ne hx hb zl_0 (tgt := 108) dX11_joined_98 (by decide) (fun c_71 => by exfalso; omega) (fun c_71 => ?_)
                    refine lv_aload_n hx hb dX11_joined_101 rfl (lv_at hl 2 rfl) ?_
                    refine kJv (wr := [(k4, .inl (cI, 6, .inl c4)), (k0, .inl (cI, 1201, .inl c0))]) (va_runV (As := []) (rest := []) ⟨hx, hb, hml, hown, hT⟩ (c_X11_oneDayG l D cI aK aV k k2 k1 k2 k4 k5 k6 k7 k8 ka kb kl ko H.size c3 c9 cc cd ce cf cg ch ci cj ck cm cn g81_k2 i81_0 (by first | omega | decide | assumption | rfl)) (cwV 0 hT (gV_in mw_1535 mw_1532 mw_1534 mw_p5_15 mw_12) rfl rfl rfl (by decide +kernel) ⟨Nat.le_of_ble_eq_true rfl, Nat.le_of_ble_eq_true rfl⟩) (kRecvX (q0 := 2) (ci := 11) hK hP hD hN hXS hS hA rfl rfl [2, 3] rfl (by decide)) rfl rfl hl.1 rfl (lv_room (Nat.le_of_ble_eq_true rfl)) dX11_joined_102 ⟨Nat.le_of_ble_eq_true rfl, Nat.le_of_ble_eq_true rfl⟩) hP hD hS hA [2, 3] [0, 1] rfl rfl (by decide) (by decide) ?_
                    clear hP hD hS
                    intro sc0_74 H locs w_73 hP hD hS
                    replace hP : va_P D vwCl [(k4, .inl (cI, 6, .inl c4)), (k0, .inl (cI, 1201, .inl c0)), (k, .inr (11, [.ref k2, .ref k1, .ref k2, .int c3, .ref k4, .ref k5, .ref k6, .ref k7, .ref k8, .int c9, .ref ka, .ref kb, .int cc, .int cd, .int ce, .int cf, .int cg, .int ch, .int ci, .int cj, .int ck, .ref kl, .int cm, .int cn, .ref ko])), (k2, .inl (cI, 1201, .inl sc0_74))] H := hP
                    replace hD : va_D A [(k4, .inl (cI, 6, .inl c4)), (k0, .inl (cI, 1201, .inl c0)), (k, .inr (11, [.ref k2, .ref k1, .ref k2, .int c3, .ref k4, .ref k5, .ref k6, .ref k7, .ref k8, .int c9, .ref ka, .ref kb, .int cc, .int cd, .int ce, .int cf, .int cg, .int ch, .int ci, .int cj, .int ck, .ref kl, .int cm, .int cn, .ref ko])), (k2, .inl (cI, 1201, .inl sc0_74))] := hD
                    obtain ⟨h_75, h_76, h_77, h_78⟩ := w_73
                    have h_75 : SIX sc0_74 (-1) := h_75
                    have h_76 : (sc0_74 0).toInt = (g81_k2 0).toInt + 1 := h_76
                    have h_77 : (sc0_74 2).toInt = (g81_k2 2).toInt := h_77
                    have h_78 : sc0_74 = dayS g81_k2 := h_78
                    refine lv_goto (tgt := 81) hx hb dX11_joined_105 (by decide) ?_
                    exact ih81 sc0_74 h_75 (by first | omega | decide | assumption | rfl) (by first | omega | decide | assumption | rfl) (by have z := i81_3; rw [jn_n h_55 (show (v_33.toInt - (g81_k2 0).toInt).toNat = (v_33.toInt - (sc0_74 0).toInt).toNat + 1 from by omega), ← h_78] at z; exact z) (by omega) ls _ _ (lv_sub hl [0, 1, 2, 3, 4] rfl) (hP.sub [2, 0, 1, 3] rfl) (hD.sub [2, 0, 1, 3] (by decide) rfl) hS
          exact hloop_81 _ ser_21 hS_23 (by first | omega | decide | assumption | rfl) (by first | omega | decide | assumption | rfl) (by rw [h_22]) (Nat.lt_succ_self _) ls _ _ (lv_sub hl [0, 1, 2, 3, 4] rfl) hP hD hS
        · refine lv_sipush (v := 2000) hx hb dX11_joined_63 (by decide) ?_
          refine lv_goto (tgt := 79) hx hb dX11_joined_66 (by decide) ?_
          refine lv_istore (lv' := [(4, .int 2000), (3, .ref k0), (0, .ref k), (1, .int a0), (2, .int a1)]) hx hb dX11_joined_79 hl (by decide) rfl ?_
          clear hl
          intro ls hl
          have hloop_81 : ∀ (fu_ : Nat) (g81_k2 : Nat → Int32), SIX g81_k2 (-1) → (c0 0).toInt ≤ (g81_k2 0).toInt → (g81_k2 0).toInt ≤ 2000 → jnF g81_k2 a0.toInt a1.toInt (2000 - (g81_k2 0).toInt).toNat = jnF c0 a0.toInt a1.toInt (2000 - (c0 0).toInt).toNat → (2000 - (g81_k2 0).toInt).toNat < fu_ → ∀ (ls : Array Slot) (H : Heap) (locs : List Loc), lv_has ls 6 [(4, .int 2000), (3, .ref k0), (0, .ref k), (1, .int a0), (2, .int a1)] → va_P D vwCl [(k, .inr (11, [.ref k2, .ref k1, .ref k2, .int c3, .ref k4, .ref k5, .ref k6, .ref k7, .ref k8, .int c9, .ref ka, .ref kb, .int cc, .int cd, .int ce, .int cf, .int cg, .int ch, .int ci, .int cj, .int ck, .ref kl, .int cm, .int cn, .ref ko])), (k4, .inl (cI, 6, .inl c4)), (k0, .inl (cI, 1201, .inl c0)), (k2, .inl (cI, 1201, .inl g81_k2))] H → va_D A [(k, .inr (11, [.ref k2, .ref k1, .ref k2, .int c3, .ref k4, .ref k5, .ref k6, .ref k7, .ref k8, .int c9, .ref ka, .ref kb, .int cc, .int cd, .int ce, .int cf, .int cg, .int ch, .int ci, .int cj, .int ck, .ref kl, .int cm, .int cn, .ref ko])), (k4, .inl (cI, 6, .inl c4)), (k0, .inl (cI, 1201, .inl c0)), (k2, .inl (cI, 1201, .inl g81_k2))] → va_S A s.heap H locs → W p l e ({ frames := 6, cells := 0, slots := 0, locals := 132 } : Room) s m args below meth c H locs 0 0 Q (F0 m 81 ls []) := by
            intro fu_; induction fu_ with
            | zero => intro g81_k2 i81_0 i81_1 i81_2 i81_3 hm; exact absurd hm (by omega)
            | succ fu_ ih81 =>
                intro g81_k2 i81_0 i81_1 i81_2 i81_3 hm ls H locs hl hP hD hS
                have i81_0 : SIX g81_k2 (-1) := i81_0
                refine lv_aload_n hx hb dX11_joined_81 rfl (lv_at hl 2 rfl) ?_
                refine va_get (D := D) (ci := 11) (v := .ref k2) (C := RX11) (T := TX11) (N := 25) hx hb hT giX11 hown hK hP 0 rfl rfl 0 (by decide) (hT (Cond.fieldLink RX11 9 "DesertWireModel" "s" "[I") mw_1156) (fun _ h9 => h9) rfl dX11_joined_82 ?_
                refine lv_iconst (v := 0) hx hb dX11_joined_85 (by decide) ?_
                refine k_iald (v := (g81_k2 0)) hx hb hK hP 3 0 rfl rfl (k_inl (by decide)) rfl dX11_joined_86 ?_
                refine lv_topi (fun v_79 ev_79 => ?_)
                have lo_v_79 := k_lo v_79
                have hi_v_79 := k_hi v_79
                have tv_79 : v_79.toInt = (g81_k2 0).toInt := by rw [ev_79]
                have b_80 : 0 ≤ v_79.toInt ∧ v_79.toInt ≤ 2000 := by first | (rw [tv_79]; exact SB.n0 (And.left i81_0)) | exact SB.n0 (And.left i81_0) | omega
                refine lv_iload hx hb dX11_joined_87 (lv_at hl 0 rfl) ?_
                refine b_icmp_ge hx hb rfl zl_2000 (tgt := 108) dX11_joined_89 (by decide) (fun c_81 => ?_) (fun c_81 => ?_)
                · refine lv_aload_n hx hb dX11_joined_108 rfl (lv_at hl 2 rfl) ?_
                  refine lv_iload_n hx hb dX11_joined_109 rfl (lv_at hl 3 rfl) ?_
                  refine lv_iload_n hx hb dX11_joined_110 rfl (lv_at hl 4 rfl) ?_
                  refine kJi (wr := [(k4, .inl (cI, 6, .inl c4)), (k0, .inl (cI, 1201, .inl c0))]) (va_runV (As := [.int a0, .int a1]) (rest := []) ⟨hx, hb, hml, hown, hT⟩ (c_X11_areWiredG l D cI aK aV k k2 k1 k2 k4 k5 k6 k7 k8 ka kb kl ko H.size c3 c9 cc cd ce cf cg ch ci cj ck cm cn g81_k2 a0 a1 (And.left i81_0) (by first | omega | decide | assumption | rfl) (by first | omega | decide | assumption | rfl) (by first | omega | decide | assumption | rfl) (by first | omega | decide | assumption | rfl)) (cwV 2 hT (gV_in mw_1570 mw_1567 mw_1569 mw_p6_5 mw_12) rfl rfl rfl (by decide +kernel) ⟨Nat.le_of_ble_eq_true rfl, Nat.le_of_ble_eq_true rfl⟩) (kRecvX (q0 := 0) (ci := 11) hK hP hD hN hXS hS hA rfl rfl [0, 3] rfl (by decide)) rfl rfl hl.1 rfl (lv_room (Nat.le_of_ble_eq_true rfl)) dX11_joined_111 ⟨Nat.le_of_ble_eq_true rfl, Nat.le_of_ble_eq_true rfl⟩) hP hD hS hA [0, 3] [1, 2] rfl rfl (by decide) (by decide) ?_
                  clear hP hD hS
                  intro r_82 u_84 H locs w_83 hP hD hS
                  replace hP : va_P D vwCl [(k4, .inl (cI, 6, .inl c4)), (k0, .inl (cI, 1201, .inl c0)), (k, .inr (11, [.ref k2, .ref k1, .ref k2, .int c3, .ref k4, .ref k5, .ref k6, .ref k7, .ref k8, .int c9, .ref ka, .ref kb, .int cc, .int cd, .int ce, .int cf, .int cg, .int ch, .int ci, .int cj, .int ck, .ref kl, .int cm, .int cn, .ref ko])), (k2, .inl (cI, 1201, .inl g81_k2))] H := hP
                  replace hD : va_D A [(k4, .inl (cI, 6, .inl c4)), (k0, .inl (cI, 1201, .inl c0)), (k, .inr (11, [.ref k2, .ref k1, .ref k2, .int c3, .ref k4, .ref k5, .ref k6, .ref k7, .ref k8, .int c9, .ref ka, .ref kb, .int cc, .int cd, .int ce, .int cf, .int cg, .int ch, .int ci, .int cj, .int ck, .ref kl, .int cm, .int cn, .ref ko])), (k2, .inl (cI, 1201, .inl g81_k2))] := hD
                  rcases w_83 with ⟨hr_82, h_85⟩ | ⟨hr_82, h_86⟩
                  · have h_85 : awF g81_k2 a0.toInt a1.toInt = true := h_85
                    have h_85 : awF g81_k2 a0.toInt a1.toInt = true := h_85
                    obtain rfl : r_82 = 1 := hr_82.trans (by decide)
                    refine b_if_eq hx hb zl_1 (tgt := 126) dX11_joined_114 (by decide) (fun c_87 => by exfalso; omega) (fun c_87 => ?_)
                    refine lv_aload_n hx hb dX11_joined_117 rfl (lv_at hl 2 rfl) ?_
                    refine va_get (D := D) (ci := 11) (v := .ref k2) (C := RX11) (T := TX11) (N := 25) hx hb hT giX11 hown hK hP 2 rfl rfl 0 (by decide) (hT (Cond.fieldLink RX11 9 "DesertWireModel" "s" "[I") mw_1156) (fun _ h9 => h9) rfl dX11_joined_118 ?_
                    refine lv_iconst (v := 0) hx hb dX11_joined_121 (by decide) ?_
                    refine k_iald (v := (g81_k2 0)) hx hb hK hP 3 0 rfl rfl (k_inl (by decide)) rfl dX11_joined_122 ?_
                    refine lv_topi (fun v_88 ev_88 => ?_)
                    have lo_v_88 := k_lo v_88
                    have hi_v_88 := k_hi v_88
                    have tv_88 : v_88.toInt = (g81_k2 0).toInt := by rw [ev_88]
                    have b_89 : 0 ≤ v_88.toInt ∧ v_88.toInt ≤ 2000 := by first | (rw [tv_88]; exact SB.n0 (And.left i81_0)) | exact SB.n0 (And.left i81_0) | omega
                    refine lv_goto (tgt := 127) hx hb dX11_joined_123 (by decide) ?_
                    refine lv_istore (lv' := [(5, .int v_88), (4, .int 2000), (3, .ref k0), (0, .ref k), (1, .int a0), (2, .int a1)]) hx hb dX11_joined_127 hl (by decide) rfl ?_
                    clear hl
                    intro ls hl
                    refine lv_aload_n hx hb dX11_joined_129 rfl (lv_at hl 3 rfl) ?_
                    refine lv_aload_n hx hb dX11_joined_130 rfl (lv_at hl 2 rfl) ?_
                    refine va_put (D := D) (ci := 11) (v := .ref k0) (ty := .array .int) (C := RX11) (T := TX11) (N := 25) hx hb hT giX11 tyX11 tyX11_ok nmX11 hown hK hP hD hS 2 rfl rfl 0 (by decide) (hT (Cond.fieldLink RX11 9 "DesertWireModel" "s" "[I") mw_1156) (fun _ h9 => h9) rfl (by decide +kernel) rfl rfl (Nat.le_of_ble_eq_true rfl) dX11_joined_131 ?_
                    clear hP hD hS
                    intro H locs hP hD hS
                    replace hP : va_P D vwCl [(k4, .inl (cI, 6, .inl c4)), (k0, .inl (cI, 1201, .inl c0)), (k, .inr (11, [.ref k0, .ref k1, .ref k2, .int c3, .ref k4, .ref k5, .ref k6, .ref k7, .ref k8, .int c9, .ref ka, .ref kb, .int cc, .int cd, .int ce, .int cf, .int cg, .int ch, .int ci, .int cj, .int ck, .ref kl, .int cm, .int cn, .ref ko])), (k2, .inl (cI, 1201, .inl g81_k2))] H := hP
                    replace hD : va_D A [(k4, .inl (cI, 6, .inl c4)), (k0, .inl (cI, 1201, .inl c0)), (k, .inr (11, [.ref k0, .ref k1, .ref k2, .int c3, .ref k4, .ref k5, .ref k6, .ref k7, .ref k8, .int c9, .ref ka, .ref kb, .int cc, .int cd, .int ce, .int cf, .int cg, .int ch, .int ci, .int cj, .int ck, .ref kl, .int cm, .int cn, .ref ko])), (k2, .inl (cI, 1201, .inl g81_k2))] := hD
                    refine lv_iload hx hb dX11_joined_134 (lv_at hl 0 rfl) ?_
                    refine b_if_ge hx hb rfl (tgt := 148) dX11_joined_136 (by decide) (fun c_90 => ?_) (fun c_90 => by exfalso; omega)
                    refine lv_iload hx hb dX11_joined_148 (lv_at hl 0 rfl) ?_
                    exact hRet (g81_k2, c4) [2, 1, 3, 0] (by unfold joinR; rw [if_pos (by omega), show (if 2000 < (c0 0).toInt + 200 then 2000 - (c0 0).toInt else 200) = 2000 - (c0 0).toInt from by split <;> omega, ← i81_3]; rw [jn_y h_85]; exact ev_88) hP hD (by decide) rfl hS rfl dX11_joined_150
                  · have h_86 : awF g81_k2 a0.toInt a1.toInt = false := h_86
                    have h_86 : awF g81_k2 a0.toInt a1.toInt = false := h_86
                    obtain rfl : r_82 = 0 := hr_82.trans (by decide)
                    refine b_if_eq hx hb zl_0 (tgt := 126) dX11_joined_114 (by decide) (fun c_91 => ?_) (fun c_91 => by exfalso; omega)
                    refine lv_iconst (v := (-1)) hx hb dX11_joined_126 (by decide) ?_
                    refine lv_istore (lv' := [(5, .int (-1)), (4, .int 2000), (3, .ref k0), (0, .ref k), (1, .int a0), (2, .int a1)]) hx hb dX11_joined_127 hl (by decide) rfl ?_
                    clear hl
                    intro ls hl
                    refine lv_aload_n hx hb dX11_joined_129 rfl (lv_at hl 3 rfl) ?_
                    refine lv_aload_n hx hb dX11_joined_130 rfl (lv_at hl 2 rfl) ?_
                    refine va_put (D := D) (ci := 11) (v := .ref k0) (ty := .array .int) (C := RX11) (T := TX11) (N := 25) hx hb hT giX11 tyX11 tyX11_ok nmX11 hown hK hP hD hS 2 rfl rfl 0 (by decide) (hT (Cond.fieldLink RX11 9 "DesertWireModel" "s" "[I") mw_1156) (fun _ h9 => h9) rfl (by decide +kernel) rfl rfl (Nat.le_of_ble_eq_true rfl) dX11_joined_131 ?_
                    clear hP hD hS
                    intro H locs hP hD hS
                    replace hP : va_P D vwCl [(k4, .inl (cI, 6, .inl c4)), (k0, .inl (cI, 1201, .inl c0)), (k, .inr (11, [.ref k0, .ref k1, .ref k2, .int c3, .ref k4, .ref k5, .ref k6, .ref k7, .ref k8, .int c9, .ref ka, .ref kb, .int cc, .int cd, .int ce, .int cf, .int cg, .int ch, .int ci, .int cj, .int ck, .ref kl, .int cm, .int cn, .ref ko])), (k2, .inl (cI, 1201, .inl g81_k2))] H := hP
                    replace hD : va_D A [(k4, .inl (cI, 6, .inl c4)), (k0, .inl (cI, 1201, .inl c0)), (k, .inr (11, [.ref k0, .ref k1, .ref k2, .int c3, .ref k4, .ref k5, .ref k6, .ref k7, .ref k8, .int c9, .ref ka, .ref kb, .int cc, .int cd, .int ce, .int cf, .int cg, .int ch, .int ci, .int cj, .int ck, .ref kl, .int cm, .int cn, .ref ko])), (k2, .inl (cI, 1201, .inl g81_k2))] := hD
                    refine lv_iload hx hb dX11_joined_134 (lv_at hl 0 rfl) ?_
                    refine b_if_ge hx hb zl_m1 (tgt := 148) dX11_joined_136 (by decide) (fun c_92 => by exfalso; omega) (fun c_92 => ?_)
                    refine lv_aload_n hx hb dX11_joined_139 rfl (lv_at hl 3 rfl) ?_
                    refine lv_ldc (v := (-1000002)) hx hb hown (hT _ mw_1392) dX11_joined_140 ?_
                    refine kJi (wr := [(k0, .inl (cI, 1201, .inl c0)), (k2, .inl (cI, 1201, .inl g81_k2))]) (va_runV (As := [.int (-1000002)]) (rest := []) ⟨hx, hb, hml, hown, hT⟩ (c_X11_findingG l D cI aK aV k k0 k1 k2 k4 k5 k6 k7 k8 ka kb kl ko H.size c3 c9 cc cd ce cf cg ch ci cj ck cm cn c4 (-1000002) (by first | omega | (simp only [zl_m1000002]; first | done | omega) | decide | assumption | rfl) (by first | omega | (simp only [zl_m1000002]; first | done | omega) | decide | assumption | rfl)) (cwV 1 hT (gV_in mw_1243 mw_1240 mw_1242 mw_p3_8 mw_12) rfl rfl rfl (by decide +kernel) ⟨Nat.le_of_ble_eq_true rfl, Nat.le_of_ble_eq_true rfl⟩) (kRecvX (q0 := 2) (ci := 11) hK hP hD hN hXS hS hA rfl rfl [2, 0] rfl (by decide)) rfl rfl hl.1 rfl (lv_room (Nat.le_of_ble_eq_true rfl)) dX11_joined_142 ⟨Nat.le_of_ble_eq_true rfl, Nat.le_of_ble_eq_true rfl⟩) hP hD hS hA [2, 0] [1, 3] rfl rfl (by decide) (by decide) ?_
                    clear hP hD hS
                    intro r_93 sc4_95 H locs w_94 hP hD hS
                    replace hP : va_P D vwCl [(k0, .inl (cI, 1201, .inl c0)), (k2, .inl (cI, 1201, .inl g81_k2)), (k, .inr (11, [.ref k0, .ref k1, .ref k2, .int c3, .ref k4, .ref k5, .ref k6, .ref k7, .ref k8, .int c9, .ref ka, .ref kb, .int cc, .int cd, .int ce, .int cf, .int cg, .int ch, .int ci, .int cj, .int ck, .ref kl, .int cm, .int cn, .ref ko])), (k4, .inl (cI, 6, .inl sc4_95))] H := hP
                    replace hD : va_D A [(k0, .inl (cI, 1201, .inl c0)), (k2, .inl (cI, 1201, .inl g81_k2)), (k, .inr (11, [.ref k0, .ref k1, .ref k2, .int c3, .ref k4, .ref k5, .ref k6, .ref k7, .ref k8, .int c9, .ref ka, .ref kb, .int cc, .int cd, .int ce, .int cf, .int cg, .int ch, .int ci, .int cj, .int ck, .ref kl, .int cm, .int cn, .ref ko])), (k4, .inl (cI, 6, .inl sc4_95))] := hD
                    have hr_93 := w_94
                    obtain rfl : r_93 = (-1000002) := hr_93.trans (by decide)
                    refine lv_goto (tgt := 150) hx hb dX11_joined_145 (by decide) ?_
                    exact hRet (g81_k2, sc4_95) [2, 0, 1, 3] (by unfold joinR; rw [if_pos (by omega), show (if 2000 < (c0 0).toInt + 200 then 2000 - (c0 0).toInt else 200) = 2000 - (c0 0).toInt from by split <;> omega, ← i81_3]; exact (jn_e h_86 (by omega)).symm) hP hD (by decide) rfl hS rfl dX11_joined_150
                · refine lv_aload_n hx hb dX11_joined_92 rfl (lv_at hl 2 rfl) ?_
                  refine lv_iload_n hx hb dX11_joined_93 rfl (lv_at hl 3 rfl) ?_
                  refine lv_iload_n hx hb dX11_joined_94 rfl (lv_at hl 4 rfl) ?_
                  refine kJi (wr := [(k4, .inl (cI, 6, .inl c4)), (k0, .inl (cI, 1201, .inl c0))]) (va_runV (As := [.int a0, .int a1]) (rest := []) ⟨hx, hb, hml, hown, hT⟩ (c_X11_areWiredG l D cI aK aV k k2 k1 k2 k4 k5 k6 k7 k8 ka kb kl ko H.size c3 c9 cc cd ce cf cg ch ci cj ck cm cn g81_k2 a0 a1 (And.left i81_0) (by first | omega | decide | assumption | rfl) (by first | omega | decide | assumption | rfl) (by first | omega | decide | assumption | rfl) (by first | omega | decide | assumption | rfl)) (cwV 2 hT (gV_in mw_1570 mw_1567 mw_1569 mw_p6_5 mw_12) rfl rfl rfl (by decide +kernel) ⟨Nat.le_of_ble_eq_true rfl, Nat.le_of_ble_eq_true rfl⟩) (kRecvX (q0 := 0) (ci := 11) hK hP hD hN hXS hS hA rfl rfl [0, 3] rfl (by decide)) rfl rfl hl.1 rfl (lv_room (Nat.le_of_ble_eq_true rfl)) dX11_joined_95 ⟨Nat.le_of_ble_eq_true rfl, Nat.le_of_ble_eq_true rfl⟩) hP hD hS hA [0, 3] [1, 2] rfl rfl (by decide) (by decide) ?_
                  clear hP hD hS
                  intro r_96 u_98 H locs w_97 hP hD hS
                  replace hP : va_P D vwCl [(k4, .inl (cI, 6, .inl c4)), (k0, .inl (cI, 1201, .inl c0)), (k, .inr (11, [.ref k2, .ref k1, .ref k2, .int c3, .ref k4, .ref k5, .ref k6, .ref k7, .ref k8, .int c9, .ref ka, .ref kb, .int cc, .int cd, .int ce, .int cf, .int cg, .int ch, .int ci, .int cj, .int ck, .ref kl, .int cm, .int cn, .ref ko])), (k2, .inl (cI, 1201, .inl g81_k2))] H := hP
                  replace hD : va_D A [(k4, .inl (cI, 6, .inl c4)), (k0, .inl (cI, 1201, .inl c0)), (k, .inr (11, [.ref k2, .ref k1, .ref k2, .int c3, .ref k4, .ref k5, .ref k6, .ref k7, .ref k8, .int c9, .ref ka, .ref kb, .int cc, .int cd, .int ce, .int cf, .int cg, .int ch, .int ci, .int cj, .int ck, .ref kl, .int cm, .int cn, .ref ko])), (k2, .inl (cI, 1201, .inl g81_k2))] := hD
                  rcases w_97 with ⟨hr_96, h_99⟩ | ⟨hr_96, h_100⟩
                  · have h_99 : awF g81_k2 a0.toInt a1.toInt = true := h_99
                    have h_99 : awF g81_k2 a0.toInt a1.toInt = true := h_99
                    obtain rfl : r_96 = 1 := hr_96.trans (by decide)
                    refine b_if_ne hx hb zl_1 (tgt := 108) dX11_joined_98 (by decide) (fun c_101 => ?_) (fun c_101 => by exfalso; omega)
                    refine lv_aload_n hx hb dX11_joined_108 rfl (lv_at hl 2 rfl) ?_
                    refine lv_iload_n hx hb dX11_joined_109 rfl (lv_at hl 3 rfl) ?_
                    refine lv_iload_n hx hb dX11_joined_110 rfl (lv_at hl 4 rfl) ?_
                    refine kJi (wr := [(k4, .inl (cI, 6, .inl c4)), (k0, .inl (cI, 1201, .inl c0))]) (va_runV (As := [.int a0, .int a1]) (rest := []) ⟨hx, hb, hml, hown, hT⟩ (c_X11_areWiredG l D cI aK aV k k2 k1 k2 k4 k5 k6 k7 k8 ka kb kl ko H.size c3 c9 cc cd ce cf cg ch ci cj ck cm cn g81_k2 a0 a1 (And.left i81_0) (by first | omega | decide | assumption | rfl) (by first | omega | decide | assumption | rfl) (by first | omega | decide | assumption | rfl) (by first | omega | decide | assumption | rfl)) (cwV 2 hT (gV_in mw_1570 mw_1567 mw_1569 mw_p6_5 mw_12) rfl rfl rfl (by decide +kernel) ⟨Nat.le_of_ble_eq_true rfl, Nat.le_of_ble_eq_true rfl⟩) (kRecvX (q0 := 2) (ci := 11) hK hP hD hN hXS hS hA rfl rfl [2, 3] rfl (by decide)) rfl rfl hl.1 rfl (lv_room (Nat.le_of_ble_eq_true rfl)) dX11_joined_111 ⟨Nat.le_of_ble_eq_true rfl, Nat.le_of_ble_eq_true rfl⟩) hP hD hS hA [2, 3] [0, 1] rfl rfl (by decide) (by decide) ?_
                    clear hP hD hS
                    intro r_102 u_104 H locs w_103 hP hD hS
                    replace hP : va_P D vwCl [(k4, .inl (cI, 6, .inl c4)), (k0, .inl (cI, 1201, .inl c0)), (k, .inr (11, [.ref k2, .ref k1, .ref k2, .int c3, .ref k4, .ref k5, .ref k6, .ref k7, .ref k8, .int c9, .ref ka, .ref kb, .int cc, .int cd, .int ce, .int cf, .int cg, .int ch, .int ci, .int cj, .int ck, .ref kl, .int cm, .int cn, .ref ko])), (k2, .inl (cI, 1201, .inl g81_k2))] H := hP
                    replace hD : va_D A [(k4, .inl (cI, 6, .inl c4)), (k0, .inl (cI, 1201, .inl c0)), (k, .inr (11, [.ref k2, .ref k1, .ref k2, .int c3, .ref k4, .ref k5, .ref k6, .ref k7, .ref k8, .int c9, .ref ka, .ref kb, .int cc, .int cd, .int ce, .int cf, .int cg, .int ch, .int ci, .int cj, .int ck, .ref kl, .int cm, .int cn, .ref ko])), (k2, .inl (cI, 1201, .inl g81_k2))] := hD
                    rcases w_103 with ⟨hr_102, h_105⟩ | ⟨hr_102, h_106⟩
                    · have h_105 : awF g81_k2 a0.toInt a1.toInt = true := h_105
                      have h_105 : awF g81_k2 a0.toInt a1.toInt = true := h_105
                      obtain rfl : r_102 = 1 := hr_102.trans (by decide)
                      refine b_if_eq hx hb zl_1 (tgt := 126) dX11_joined_114 (by decide) (fun c_107 => by exfalso; omega) (fun c_107 => ?_)
                      refine lv_aload_n hx hb dX11_joined_117 rfl (lv_at hl 2 rfl) ?_
                      refine va_get (D := D) (ci := 11) (v := .ref k2) (C := RX11) (T := TX11) (N := 25) hx hb hT giX11 hown hK hP 2 rfl rfl 0 (by decide) (hT (Cond.fieldLink RX11 9 "DesertWireModel" "s" "[I") mw_1156) (fun _ h9 => h9) rfl dX11_joined_118 ?_
                      refine lv_iconst (v := 0) hx hb dX11_joined_121 (by decide) ?_
                      refine k_iald (v := (g81_k2 0)) hx hb hK hP 3 0 rfl rfl (k_inl (by decide)) rfl dX11_joined_122 ?_
                      refine lv_topi (fun v_108 ev_108 => ?_)
                      have lo_v_108 := k_lo v_108
                      have hi_v_108 := k_hi v_108
                      have tv_108 : v_108.toInt = (g81_k2 0).toInt := by rw [ev_108]
                      have b_109 : 0 ≤ v_108.toInt ∧ v_108.toInt ≤ 2000 := by first | (rw [tv_108]; exact SB.n0 (And.left i81_0)) | exact SB.n0 (And.left i81_0) | omega
                      refine lv_goto (tgt := 127) hx hb dX11_joined_123 (by decide) ?_
                      refine lv_istore (lv' := [(5, .int v_108), (4, .int 2000), (3, .ref k0), (0, .ref k), (1, .int a0), (2, .int a1)]) hx hb dX11_joined_127 hl (by decide) rfl ?_
                      clear hl
                      intro ls hl
                      refine lv_aload_n hx hb dX11_joined_129 rfl (lv_at hl 3 rfl) ?_
                      refine lv_aload_n hx hb dX11_joined_130 rfl (lv_at hl 2 rfl) ?_
                      refine va_put (D := D) (ci := 11) (v := .ref k0) (ty := .array .int) (C := RX11) (T := TX11) (N := 25) hx hb hT giX11 tyX11 tyX11_ok nmX11 hown hK hP hD hS 2 rfl rfl 0 (by decide) (hT (Cond.fieldLink RX11 9 "DesertWireModel" "s" "[I") mw_1156) (fun _ h9 => h9) rfl (by decide +kernel) rfl rfl (Nat.le_of_ble_eq_true rfl) dX11_joined_131 ?_
                      clear hP hD hS
                      intro H locs hP hD hS
                      replace hP : va_P D vwCl [(k4, .inl (cI, 6, .inl c4)), (k0, .inl (cI, 1201, .inl c0)), (k, .inr (11, [.ref k0, .ref k1, .ref k2, .int c3, .ref k4, .ref k5, .ref k6, .ref k7, .ref k8, .int c9, .ref ka, .ref kb, .int cc, .int cd, .int ce, .int cf, .int cg, .int ch, .int ci, .int cj, .int ck, .ref kl, .int cm, .int cn, .ref ko])), (k2, .inl (cI, 1201, .inl g81_k2))] H := hP
                      replace hD : va_D A [(k4, .inl (cI, 6, .inl c4)), (k0, .inl (cI, 1201, .inl c0)), (k, .inr (11, [.ref k0, .ref k1, .ref k2, .int c3, .ref k4, .ref k5, .ref k6, .ref k7, .ref k8, .int c9, .ref ka, .ref kb, .int cc, .int cd, .int ce, .int cf, .int cg, .int ch, .int ci, .int cj, .int ck, .ref kl, .int cm, .int cn, .ref ko])), (k2, .inl (cI, 1201, .inl g81_k2))] := hD
                      refine lv_iload hx hb dX11_joined_134 (lv_at hl 0 rfl) ?_
                      refine b_if_ge hx hb rfl (tgt := 148) dX11_joined_136 (by decide) (fun c_110 => ?_) (fun c_110 => by exfalso; omega)
                      refine lv_iload hx hb dX11_joined_148 (lv_at hl 0 rfl) ?_
                      exact hRet (g81_k2, c4) [2, 1, 3, 0] (by unfold joinR; rw [if_pos (by omega), show (if 2000 < (c0 0).toInt + 200 then 2000 - (c0 0).toInt else 200) = 2000 - (c0 0).toInt from by split <;> omega, ← i81_3]; rw [jn_y h_105]; exact ev_108) hP hD (by decide) rfl hS rfl dX11_joined_150
                    · have h_106 : awF g81_k2 a0.toInt a1.toInt = false := h_106
                      have h_106 : awF g81_k2 a0.toInt a1.toInt = false := h_106
                      obtain rfl : r_102 = 0 := hr_102.trans (by decide)
                      refine b_if_eq hx hb zl_0 (tgt := 126) dX11_joined_114 (by decide) (fun c_111 => ?_) (fun c_111 => by exfalso; omega)
                      refine lv_iconst (v := (-1)) hx hb dX11_joined_126 (by decide) ?_
                      refine lv_istore (lv' := [(5, .int (-1)), (4, .int 2000), (3, .ref k0), (0, .ref k), (1, .int a0), (2, .int a1)]) hx hb dX11_joined_127 hl (by decide) rfl ?_
                      clear hl
                      intro ls hl
                      refine lv_aload_n hx hb dX11_joined_129 rfl (lv_at hl 3 rfl) ?_
                      refine lv_aload_n hx hb dX11_joined_130 rfl (lv_at hl 2 rfl) ?_
                      refine va_put (D := D) (ci := 11) (v := .ref k0) (ty := .array .int) (C := RX11) (T := TX11) (N := 25) hx hb hT giX11 tyX11 tyX11_ok nmX11 hown hK hP hD hS 2 rfl rfl 0 (by decide) (hT (Cond.fieldLink RX11 9 "DesertWireModel" "s" "[I") mw_1156) (fun _ h9 => h9) rfl (by decide +kernel) rfl rfl (Nat.le_of_ble_eq_true rfl) dX11_joined_131 ?_
                      clear hP hD hS
                      intro H locs hP hD hS
                      replace hP : va_P D vwCl [(k4, .inl (cI, 6, .inl c4)), (k0, .inl (cI, 1201, .inl c0)), (k, .inr (11, [.ref k0, .ref k1, .ref k2, .int c3, .ref k4, .ref k5, .ref k6, .ref k7, .ref k8, .int c9, .ref ka, .ref kb, .int cc, .int cd, .int ce, .int cf, .int cg, .int ch, .int ci, .int cj, .int ck, .ref kl, .int cm, .int cn, .ref ko])), (k2, .inl (cI, 1201, .inl g81_k2))] H := hP
                      replace hD : va_D A [(k4, .inl (cI, 6, .inl c4)), (k0, .inl (cI, 1201, .inl c0)), (k, .inr (11, [.ref k0, .ref k1, .ref k2, .int c3, .ref k4, .ref k5, .ref k6, .ref k7, .ref k8, .int c9, .ref ka, .ref kb, .int cc, .int cd, .int ce, .int cf, .int cg, .int ch, .int ci, .int cj, .int ck, .ref kl, .int cm, .int cn, .ref ko])), (k2, .inl (cI, 1201, .inl g81_k2))] := hD
                      refine lv_iload hx hb dX11_joined_134 (lv_at hl 0 rfl) ?_
                      refine b_if_ge hx hb zl_m1 (tgt := 148) dX11_joined_136 (by decide) (fun c_112 => by exfalso; omega) (fun c_112 => ?_)
                      refine lv_aload_n hx hb dX11_joined_139 rfl (lv_at hl 3 rfl) ?_
                      refine lv_ldc (v := (-1000002)) hx hb hown (hT _ mw_1392) dX11_joined_140 ?_
                      refine kJi (wr := [(k0, .inl (cI, 1201, .inl c0)), (k2, .inl (cI, 1201, .inl g81_k2))]) (va_runV (As := [.int (-1000002)]) (rest := []) ⟨hx, hb, hml, hown, hT⟩ (c_X11_findingG l D cI aK aV k k0 k1 k2 k4 k5 k6 k7 k8 ka kb kl ko H.size c3 c9 cc cd ce cf cg ch ci cj ck cm cn c4 (-1000002) (by first | omega | (simp only [zl_m1000002]; first | done | omega) | decide | assumption | rfl) (by first | omega | (simp only [zl_m1000002]; first | done | omega) | decide | assumption | rfl)) (cwV 1 hT (gV_in mw_1243 mw_1240 mw_1242 mw_p3_8 mw_12) rfl rfl rfl (by decide +kernel) ⟨Nat.le_of_ble_eq_true rfl, Nat.le_of_ble_eq_true rfl⟩) (kRecvX (q0 := 2) (ci := 11) hK hP hD hN hXS hS hA rfl rfl [2, 0] rfl (by decide)) rfl rfl hl.1 rfl (lv_room (Nat.le_of_ble_eq_true rfl)) dX11_joined_142 ⟨Nat.le_of_ble_eq_true rfl, Nat.le_of_ble_eq_true rfl⟩) hP hD hS hA [2, 0] [1, 3] rfl rfl (by decide) (by decide) ?_
                      clear hP hD hS
                      intro r_113 sc4_115 H locs w_114 hP hD hS
                      replace hP : va_P D vwCl [(k0, .inl (cI, 1201, .inl c0)), (k2, .inl (cI, 1201, .inl g81_k2)), (k, .inr (11, [.ref k0, .ref k1, .ref k2, .int c3, .ref k4, .ref k5, .ref k6, .ref k7, .ref k8, .int c9, .ref ka, .ref kb, .int cc, .int cd, .int ce, .int cf, .int cg, .int ch, .int ci, .int cj, .int ck, .ref kl, .int cm, .int cn, .ref ko])), (k4, .inl (cI, 6, .inl sc4_115))] H := hP
                      replace hD : va_D A [(k0, .inl (cI, 1201, .inl c0)), (k2, .inl (cI, 1201, .inl g81_k2)), (k, .inr (11, [.ref k0, .ref k1, .ref k2, .int c3, .ref k4, .ref k5, .ref k6, .ref k7, .ref k8, .int c9, .ref ka, .ref kb, .int cc, .int cd, .int ce, .int cf, .int cg, .int ch, .int ci, .int cj, .int ck, .ref kl, .int cm, .int cn, .ref ko])), (k4, .inl (cI, 6, .inl sc4_115))] := hD
                      have hr_113 := w_114
                      obtain rfl : r_113 = (-1000002) := hr_113.trans (by decide)
                      refine lv_goto (tgt := 150) hx hb dX11_joined_145 (by decide) ?_
                      exact hRet (g81_k2, sc4_115) [2, 0, 1, 3] (absurd (h_99.symm.trans h_106) (by decide)) hP hD (by decide) rfl hS rfl dX11_joined_150
                  · have h_100 : awF g81_k2 a0.toInt a1.toInt = false := h_100
                    have h_100 : awF g81_k2 a0.toInt a1.toInt = false := h_100
                    obtain rfl : r_96 = 0 := hr_96.trans (by decide)
                    refine b_if_ne hx hb zl_0 (tgt := 108) dX11_joined_98 (by decide) (fun c_116 => by exfalso; omega) (fun c_116 => ?_)
                    refine lv_aload_n hx hb dX11_joined_101 rfl (lv_at hl 2 rfl) ?_
                    refine kJv (wr := [(k4, .inl (cI, 6, .inl c4)), (k0, .inl (cI, 1201, .inl c0))]) (va_runV (As := []) (rest := []) ⟨hx, hb, hml, hown, hT⟩ (c_X11_oneDayG l D cI aK aV k k2 k1 k2 k4 k5 k6 k7 k8 ka kb kl ko H.size c3 c9 cc cd ce cf cg ch ci cj ck cm cn g81_k2 i81_0 (by first | omega | decide | assumption | rfl)) (cwV 0 hT (gV_in mw_1535 mw_1532 mw_1534 mw_p5_15 mw_12) rfl rfl rfl (by decide +kernel) ⟨Nat.le_of_ble_eq_true rfl, Nat.le_of_ble_eq_true rfl⟩) (kRecvX (q0 := 2) (ci := 11) hK hP hD hN hXS hS hA rfl rfl [2, 3] rfl (by decide)) rfl rfl hl.1 rfl (lv_room (Nat.le_of_ble_eq_true rfl)) dX11_joined_102 ⟨Nat.le_of_ble_eq_true rfl, Nat.le_of_ble_eq_true rfl⟩) hP hD hS hA [2, 3] [0, 1] rfl rfl (by decide) (by decide) ?_
                    clear hP hD hS
                    intro sc0_119 H locs w_118 hP hD hS
                    replace hP : va_P D vwCl [(k4, .inl (cI, 6, .inl c4)), (k0, .inl (cI, 1201, .inl c0)), (k, .inr (11, [.ref k2, .ref k1, .ref k2, .int c3, .ref k4, .ref k5, .ref k6, .ref k7, .ref k8, .int c9, .ref ka, .ref kb, .int cc, .int cd, .int ce, .int cf, .int cg, .int ch, .int ci, .int cj, .int ck, .ref kl, .int cm, .int cn, .ref ko])), (k2, .inl (cI, 1201, .inl sc0_119))] H := hP
                    replace hD : va_D A [(k4, .inl (cI, 6, .inl c4)), (k0, .inl (cI, 1201, .inl c0)), (k, .inr (11, [.ref k2, .ref k1, .ref k2, .int c3, .ref k4, .ref k5, .ref k6, .ref k7, .ref k8, .int c9, .ref ka, .ref kb, .int cc, .int cd, .int ce, .int cf, .int cg, .int ch, .int ci, .int cj, .int ck, .ref kl, .int cm, .int cn, .ref ko])), (k2, .inl (cI, 1201, .inl sc0_119))] := hD
                    obtain ⟨h_120, h_121, h_122, h_123⟩ := w_118
                    have h_120 : SIX sc0_119 (-1) := h_120
                    have h_121 : (sc0_119 0).toInt = (g81_k2 0).toInt + 1 := h_121
                    have h_122 : (sc0_119 2).toInt = (g81_k2 2).toInt := h_122
                    have h_123 : sc0_119 = dayS g81_k2 := h_123
                    refine lv_goto (tgt := 81) hx hb dX11_joined_105 (by decide) ?_
                    exact ih81 sc0_119 h_120 (by first | omega | decide | assumption | rfl) (by first | omega | decide | assumption | rfl) (by have z := i81_3; rw [jn_n h_100 (show (2000 - (g81_k2 0).toInt).toNat = (2000 - (sc0_119 0).toInt).toNat + 1 from by omega), ← h_123] at z; exact z) (by omega) ls _ _ (lv_sub hl [0, 1, 2, 3, 4] rfl) (hP.sub [2, 0, 1, 3] rfl) (hD.sub [2, 0, 1, 3] (by decide) rfl) hS
          exact hloop_81 _ ser_21 hS_23 (by first | omega | decide | assumption | rfl) (by first | omega | decide | assumption | rfl) (by rw [h_22]) (Nat.lt_succ_self _) ls _ _ (lv_sub hl [0, 1, 2, 3, 4] rfl) hP hD hS
      · refine lv_aload_n hx hb dX11_joined_19 rfl (lv_at hl 0 rfl) ?_
        refine lv_ldc (v := (-1000001)) hx hb hown (hT _ mw_1239) dX11_joined_20 ?_
        refine kJi (wr := [(k0, .inl (cI, 1201, .inl c0)), (k2, .inl (cI, 1201, .inl c2))]) (va_runV (As := [.int (-1000001)]) (rest := []) ⟨hx, hb, hml, hown, hT⟩ (c_X11_findingG l D cI aK aV k k0 k1 k2 k4 k5 k6 k7 k8 ka kb kl ko H.size c3 c9 cc cd ce cf cg ch ci cj ck cm cn c4 (-1000001) (by first | omega | (simp only [zl_m1000001]; first | done | omega) | decide | assumption | rfl) (by first | omega | (simp only [zl_m1000001]; first | done | omega) | decide | assumption | rfl)) (cwV 1 hT (gV_in mw_1243 mw_1240 mw_1242 mw_p3_8 mw_12) rfl rfl rfl (by decide +kernel) ⟨Nat.le_of_ble_eq_true rfl, Nat.le_of_ble_eq_true rfl⟩) (kRecvX (q0 := 0) (ci := 11) hK hP hD hN hXS hS hA rfl rfl [0, 3] rfl (by decide)) rfl rfl hl.1 rfl (lv_room (Nat.le_of_ble_eq_true rfl)) dX11_joined_22 ⟨Nat.le_of_ble_eq_true rfl, Nat.le_of_ble_eq_true rfl⟩) hP hD hS hA [0, 3] [1, 2] rfl rfl (by decide) (by decide) ?_
        clear hP hD hS
        intro r_124 sc4_126 H locs w_125 hP hD hS
        replace hP : va_P D vwCl [(k0, .inl (cI, 1201, .inl c0)), (k2, .inl (cI, 1201, .inl c2)), (k, .inr (11, [.ref k0, .ref k1, .ref k2, .int c3, .ref k4, .ref k5, .ref k6, .ref k7, .ref k8, .int c9, .ref ka, .ref kb, .int cc, .int cd, .int ce, .int cf, .int cg, .int ch, .int ci, .int cj, .int ck, .ref kl, .int cm, .int cn, .ref ko])), (k4, .inl (cI, 6, .inl sc4_126))] H := hP
        replace hD : va_D A [(k0, .inl (cI, 1201, .inl c0)), (k2, .inl (cI, 1201, .inl c2)), (k, .inr (11, [.ref k0, .ref k1, .ref k2, .int c3, .ref k4, .ref k5, .ref k6, .ref k7, .ref k8, .int c9, .ref ka, .ref kb, .int cc, .int cd, .int ce, .int cf, .int cg, .int ch, .int ci, .int cj, .int ck, .ref kl, .int cm, .int cn, .ref ko])), (k4, .inl (cI, 6, .inl sc4_126))] := hD
        have hr_124 := w_125
        obtain rfl : r_124 = (-1000001) := hr_124.trans (by decide)
        exact hRet (c2, sc4_126) [2, 0, 1, 3] (by (try dsimp only); unfold joinR; (repeat (first | rw [if_pos (by omega)] | rw [if_neg (by omega)]))) hP hD (by decide) rfl hS rfl dX11_joined_25
    · have h_16 : a1.toInt < 0 ∨ 39 < a1.toInt := h_16
      obtain rfl : r_11 = 0 := hr_11.trans (by decide)
      refine b_if_eq hx hb zl_0 (tgt := 19) dX11_joined_11 (by decide) (fun c_127 => ?_) (fun c_127 => by exfalso; omega)
      refine lv_aload_n hx hb dX11_joined_19 rfl (lv_at hl 0 rfl) ?_
      refine lv_ldc (v := (-1000001)) hx hb hown (hT _ mw_1239) dX11_joined_20 ?_
      refine kJi (wr := [(k0, .inl (cI, 1201, .inl c0)), (k2, .inl (cI, 1201, .inl c2))]) (va_runV (As := [.int (-1000001)]) (rest := []) ⟨hx, hb, hml, hown, hT⟩ (c_X11_findingG l D cI aK aV k k0 k1 k2 k4 k5 k6 k7 k8 ka kb kl ko H.size c3 c9 cc cd ce cf cg ch ci cj ck cm cn c4 (-1000001) (by first | omega | (simp only [zl_m1000001]; first | done | omega) | decide | assumption | rfl) (by first | omega | (simp only [zl_m1000001]; first | done | omega) | decide | assumption | rfl)) (cwV 1 hT (gV_in mw_1243 mw_1240 mw_1242 mw_p3_8 mw_12) rfl rfl rfl (by decide +kernel) ⟨Nat.le_of_ble_eq_true rfl, Nat.le_of_ble_eq_true rfl⟩) (kRecvX (q0 := 0) (ci := 11) hK hP hD hN hXS hS hA rfl rfl [0, 3] rfl (by decide)) rfl rfl hl.1 rfl (lv_room (Nat.le_of_ble_eq_true rfl)) dX11_joined_22 ⟨Nat.le_of_ble_eq_true rfl, Nat.le_of_ble_eq_true rfl⟩) hP hD hS hA [0, 3] [1, 2] rfl rfl (by decide) (by decide) ?_
      clear hP hD hS
      intro r_128 sc4_130 H locs w_129 hP hD hS
      replace hP : va_P D vwCl [(k0, .inl (cI, 1201, .inl c0)), (k2, .inl (cI, 1201, .inl c2)), (k, .inr (11, [.ref k0, .ref k1, .ref k2, .int c3, .ref k4, .ref k5, .ref k6, .ref k7, .ref k8, .int c9, .ref ka, .ref kb, .int cc, .int cd, .int ce, .int cf, .int cg, .int ch, .int ci, .int cj, .int ck, .ref kl, .int cm, .int cn, .ref ko])), (k4, .inl (cI, 6, .inl sc4_130))] H := hP
      replace hD : va_D A [(k0, .inl (cI, 1201, .inl c0)), (k2, .inl (cI, 1201, .inl c2)), (k, .inr (11, [.ref k0, .ref k1, .ref k2, .int c3, .ref k4, .ref k5, .ref k6, .ref k7, .ref k8, .int c9, .ref ka, .ref kb, .int cc, .int cd, .int ce, .int cf, .int cg, .int ch, .int ci, .int cj, .int ck, .ref kl, .int cm, .int cn, .ref ko])), (k4, .inl (cI, 6, .inl sc4_130))] := hD
      have hr_128 := w_129
      obtain rfl : r_128 = (-1000001) := hr_128.trans (by decide)
      exact hRet (c2, sc4_130) [2, 0, 1, 3] (by (try dsimp only); unfold joinR; (repeat (first | rw [if_pos (by omega)] | rw [if_neg (by omega)]))) hP hD (by decide) rfl hS rfl dX11_joined_25
  · have h_9 : a0.toInt < 0 ∨ 39 < a0.toInt := h_9
    obtain rfl : r_4 = 0 := hr_4.trans (by decide)
    refine b_if_eq hx hb zl_0 (tgt := 19) dX11_joined_4 (by decide) (fun c_131 => ?_) (fun c_131 => by exfalso; omega)
    refine lv_aload_n hx hb dX11_joined_19 rfl (lv_at hl 0 rfl) ?_
    refine lv_ldc (v := (-1000001)) hx hb hown (hT _ mw_1239) dX11_joined_20 ?_
    refine kJi (wr := [(k0, .inl (cI, 1201, .inl c0)), (k2, .inl (cI, 1201, .inl c2))]) (va_runV (As := [.int (-1000001)]) (rest := []) ⟨hx, hb, hml, hown, hT⟩ (c_X11_findingG l D cI aK aV k k0 k1 k2 k4 k5 k6 k7 k8 ka kb kl ko H.size c3 c9 cc cd ce cf cg ch ci cj ck cm cn c4 (-1000001) (by first | omega | (simp only [zl_m1000001]; first | done | omega) | decide | assumption | rfl) (by first | omega | (simp only [zl_m1000001]; first | done | omega) | decide | assumption | rfl)) (cwV 1 hT (gV_in mw_1243 mw_1240 mw_1242 mw_p3_8 mw_12) rfl rfl rfl (by decide +kernel) ⟨Nat.le_of_ble_eq_true rfl, Nat.le_of_ble_eq_true rfl⟩) (kRecvX (q0 := 0) (ci := 11) hK hP hD hN hXS hS hA rfl rfl [0, 3] rfl (by decide)) rfl rfl hl.1 rfl (lv_room (Nat.le_of_ble_eq_true rfl)) dX11_joined_22 ⟨Nat.le_of_ble_eq_true rfl, Nat.le_of_ble_eq_true rfl⟩) hP hD hS hA [0, 3] [1, 2] rfl rfl (by decide) (by decide) ?_
    clear hP hD hS
    intro r_132 sc4_134 H locs w_133 hP hD hS
    replace hP : va_P D vwCl [(k0, .inl (cI, 1201, .inl c0)), (k2, .inl (cI, 1201, .inl c2)), (k, .inr (11, [.ref k0, .ref k1, .ref k2, .int c3, .ref k4, .ref k5, .ref k6, .ref k7, .ref k8, .int c9, .ref ka, .ref kb, .int cc, .int cd, .int ce, .int cf, .int cg, .int ch, .int ci, .int cj, .int ck, .ref kl, .int cm, .int cn, .ref ko])), (k4, .inl (cI, 6, .inl sc4_134))] H := hP
    replace hD : va_D A [(k0, .inl (cI, 1201, .inl c0)), (k2, .inl (cI, 1201, .inl c2)), (k, .inr (11, [.ref k0, .ref k1, .ref k2, .int c3, .ref k4, .ref k5, .ref k6, .ref k7, .ref k8, .int c9, .ref ka, .ref kb, .int cc, .int cd, .int ce, .int cf, .int cg, .int ch, .int ci, .int cj, .int ck, .ref kl, .int cm, .int cn, .ref ko])), (k4, .inl (cI, 6, .inl sc4_134))] := hD
    have hr_132 := w_133
    obtain rfl : r_132 = (-1000001) := hr_132.trans (by decide)
    exact hRet (c2, sc4_134) [2, 0, 1, 3] (by (try dsimp only); unfold joinR; (repeat (first | rw [if_pos (by omega)] | rw [if_neg (by omega)]))) hP hD (by decide) rfl hS rfl dX11_joined_25
theorem dX11_ran_0 : decode cX11_ran 0 = .ok (.aload_n 0, 1) := by decide +kernel
theorem dX11_ran_1 : decode cX11_ran 1 = .ok (.getfield 267, 3) := by decide +kernel
theorem dX11_ran_4 : decode cX11_ran 4 = .ok (.bipush 40, 2) := by decide +kernel
theorem dX11_ran_6 : decode cX11_ran 6 = .ok (.if_icmp .ge 23, 3) := by decide +kernel
theorem dX11_ran_9 : decode cX11_ran 9 = .ok (.aload_n 0, 1) := by decide +kernel
theorem dX11_ran_10 : decode cX11_ran 10 = .ok (.getfield 31, 3) := by decide +kernel
theorem dX11_ran_13 : decode cX11_ran 13 = .ok (.aload_n 0, 1) := by decide +kernel
theorem dX11_ran_14 : decode cX11_ran 14 = .ok (.getfield 267, 3) := by decide +kernel
theorem dX11_ran_17 : decode cX11_ran 17 = .ok (.iload_n 1, 1) := by decide +kernel
theorem dX11_ran_18 : decode cX11_ran 18 = .ok (.iastore, 1) := by decide +kernel
theorem dX11_ran_19 : decode cX11_ran 19 = .ok (.aload_n 0, 1) := by decide +kernel
theorem dX11_ran_20 : decode cX11_ran 20 = .ok (.dup, 1) := by decide +kernel
theorem dX11_ran_21 : decode cX11_ran 21 = .ok (.getfield 267, 3) := by decide +kernel
theorem dX11_ran_24 : decode cX11_ran 24 = .ok (.iconst 1, 1) := by decide +kernel
theorem dX11_ran_25 : decode cX11_ran 25 = .ok (.iadd, 1) := by decide +kernel
theorem dX11_ran_26 : decode cX11_ran 26 = .ok (.putfield 267, 3) := by decide +kernel
theorem dX11_ran_29 : decode cX11_ran 29 = .ok (.return_, 1) := by decide +kernel
set_option maxHeartbeats 4000000 in
set_option maxRecDepth 100000 in
theorem c_X11_ranG (l : Launch) (D : va_G) (cI : ClassId) (aK aV : Nat → Nat) (k k0 k1 k2 k4 k5 k6 k7 k8 ka kb kl ko : Nat) (sz : Nat) (c3 : Int32) (c9 : Int32) (cc : Int32) (cd : Int32) (ce : Int32) (cf : Int32) (cg : Int32) (ch : Int32) (ci : Int32) (cj : Int32) (ck : Int32) (cm : Int32) (cn : Int32) (c8 : Nat → Int32) (a0 : Int32) (pre0 : 0 ≤ c9.toInt) (pre1 : c9.toInt ≤ 40) : Met l yX11_ran (gW yX11_ran cX11_ran 2 none) ({ frames := 0, cells := 0, slots := 0, locals := 0 } : Room) (kPreX D cI aK aV [.ref k, .int a0] [(k, .inr (11, [.ref k0, .ref k1, .ref k2, .int c3, .ref k4, .ref k5, .ref k6, .ref k7, .ref k8, .int c9, .ref ka, .ref kb, .int cc, .int cd, .int ce, .int cf, .int cg, .int ch, .int ci, .int cj, .int ck, .ref kl, .int cm, .int cn, .ref ko])), (k8, .inl (cI, 40, .inl c8))] sz) (va_Qv (fun (u : Int32 × (Nat → Int32)) => 0 ≤ u.1.toInt ∧ u.1.toInt ≤ 40 ∧ u.1 = mSV c9 ∧ u.2 = gSV c9 c8 a0) (fun u t => kWd D cI (va_A [(k, .inr (11, [.ref k0, .ref k1, .ref k2, .int c3, .ref k4, .ref k5, .ref k6, .ref k7, .ref k8, .int c9, .ref ka, .ref kb, .int cc, .int cd, .int ce, .int cf, .int cg, .int ch, .int ci, .int cj, .int ck, .ref kl, .int cm, .int cn, .ref ko])), (k8, .inl (cI, 40, .inl c8))] sz) [(k, .inr (11, [.ref k0, .ref k1, .ref k2, .int c3, .ref k4, .ref k5, .ref k6, .ref k7, .ref k8, .int u.1, .ref ka, .ref kb, .int cc, .int cd, .int ce, .int cf, .int cg, .int ch, .int ci, .int cj, .int ck, .ref kl, .int cm, .int cn, .ref ko])), (k8, .inl (cI, 40, .inl u.2))] t) (va_A [(k, .inr (11, [.ref k0, .ref k1, .ref k2, .int c3, .ref k4, .ref k5, .ref k6, .ref k7, .ref k8, .int c9, .ref ka, .ref kb, .int cc, .int cd, .int ce, .int cf, .int cg, .int ch, .int ci, .int cj, .int ck, .ref kl, .int cm, .int cn, .ref ko])), (k8, .inl (cI, 40, .inl c8))] sz)) 0 0 (va_A [(k, .inr (11, [.ref k0, .ref k1, .ref k2, .int c3, .ref k4, .ref k5, .ref k6, .ref k7, .ref k8, .int c9, .ref ka, .ref kb, .int cc, .int cd, .int ce, .int cf, .int cg, .int ch, .int ci, .int cj, .int ck, .ref kl, .int cm, .int cn, .ref ko])), (k8, .inl (cI, 40, .inl c8))] sz) := by
  refine kMetVX (own := RX11) (by decide) rfl (Nat.le_of_ble_eq_true rfl) ?_
  intro p e s m args below meth c hx hb hT hown hname hml A Q hK hP hD hS hA hN hXS hRet ls hl
  have hl : lv_has ls 2 [(0, .ref k), (1, .int a0)] := hl
  have lo_c9 := k_lo c9
  have hi_c9 := k_hi c9
  have lo_ci := k_lo ci
  have hi_ci := k_hi ci
  refine lv_aload_n hx hb dX11_ran_0 rfl (lv_at hl 0 rfl) ?_
  refine va_get (D := D) (ci := 11) (v := .int c9) (C := RX11) (T := TX11) (N := 25) hx hb hT giX11 hown hK hP 0 rfl rfl 9 (by decide) (hT (Cond.fieldLink RX11 267 "DesertWireModel" "traces" "I") mw_1165) (fun _ h9 => h9) rfl dX11_ran_1 ?_
  refine lv_bipush (v := 40) hx hb dX11_ran_4 (by decide) ?_
  refine b_icmp_ge hx hb rfl zl_40 (tgt := 29) dX11_ran_6 (by decide) (fun c_1 => ?_) (fun c_1 => ?_)
  · exact hRet (c9, c8) [0, 1] ⟨(by first | omega | decide | assumption | rfl | (dsimp only; first | omega)), (by first | omega | decide | assumption | rfl | (dsimp only; first | omega)), (by unfold mSV; rw [if_neg (by omega)]), (by unfold gSV; rw [if_neg (by omega)])⟩ hP hD (by decide) rfl hS dX11_ran_29
  · refine lv_aload_n hx hb dX11_ran_9 rfl (lv_at hl 0 rfl) ?_
    refine va_get (D := D) (ci := 11) (v := .ref k8) (C := RX11) (T := TX11) (N := 25) hx hb hT giX11 hown hK hP 0 rfl rfl 8 (by decide) (hT (Cond.fieldLink RX11 31 "DesertWireModel" "traced" "[I") mw_1164) (fun _ h9 => h9) rfl dX11_ran_10 ?_
    refine lv_aload_n hx hb dX11_ran_13 rfl (lv_at hl 0 rfl) ?_
    refine va_get (D := D) (ci := 11) (v := .int c9) (C := RX11) (T := TX11) (N := 25) hx hb hT giX11 hown hK hP 0 rfl rfl 9 (by decide) (hT (Cond.fieldLink RX11 267 "DesertWireModel" "traces" "I") mw_1165) (fun _ h9 => h9) rfl dX11_ran_14 ?_
    refine lv_iload_n hx hb dX11_ran_17 rfl (lv_at hl 1 rfl) ?_
    refine va_iast hx hb hK hP hD hS 1 0 rfl rfl (k_in (by omega) (by omega)) dX11_ran_18 ?_
    clear hP hD hS
    intro H locs hP hD hS
    replace hP : va_P D vwCl [(k, .inr (11, [.ref k0, .ref k1, .ref k2, .int c3, .ref k4, .ref k5, .ref k6, .ref k7, .ref k8, .int c9, .ref ka, .ref kb, .int cc, .int cd, .int ce, .int cf, .int cg, .int ch, .int ci, .int cj, .int ck, .ref kl, .int cm, .int cn, .ref ko])), (k8, .inl (cI, 40, .inl (upd c8 c9.toNatClampNeg a0)))] H := hP
    replace hD : va_D A [(k, .inr (11, [.ref k0, .ref k1, .ref k2, .int c3, .ref k4, .ref k5, .ref k6, .ref k7, .ref k8, .int c9, .ref ka, .ref kb, .int cc, .int cd, .int ce, .int cf, .int cg, .int ch, .int ci, .int cj, .int ck, .ref kl, .int cm, .int cn, .ref ko])), (k8, .inl (cI, 40, .inl (upd c8 c9.toNatClampNeg a0)))] := hD
    obtain ⟨f_2, ef_2⟩ : ∃ g : Nat → Int32, g = upd c8 c9.toNatClampNeg a0 := ⟨_, rfl⟩
    rw [← ef_2] at hP hD
    refine lv_aload_n hx hb dX11_ran_19 rfl (lv_at hl 0 rfl) ?_
    refine lv_dup hx hb dX11_ran_20 rfl ?_
    refine va_get (D := D) (ci := 11) (v := .int c9) (C := RX11) (T := TX11) (N := 25) hx hb hT giX11 hown hK hP 0 rfl rfl 9 (by decide) (hT (Cond.fieldLink RX11 267 "DesertWireModel" "traces" "I") mw_1165) (fun _ h9 => h9) rfl dX11_ran_21 ?_
    refine lv_iconst (v := 1) hx hb dX11_ran_24 (by decide) ?_
    refine lv_iadd hx hb dX11_ran_25 ?_
    refine lv_topi (fun v_3 ev_3 => ?_)
    have tv_3 : v_3.toInt = c9.toInt + 1 := by rw [ev_3]; exact k_addv rfl zl_1 (by omega) (by omega)
    refine va_put (D := D) (ci := 11) (v := .int v_3) (ty := .int) (C := RX11) (T := TX11) (N := 25) hx hb hT giX11 tyX11 tyX11_ok nmX11 hown hK hP hD hS 0 rfl rfl 9 (by decide) (hT (Cond.fieldLink RX11 267 "DesertWireModel" "traces" "I") mw_1165) (fun _ h9 => h9) rfl (by decide +kernel) rfl rfl (Nat.le_of_ble_eq_true rfl) dX11_ran_26 ?_
    clear hP hD hS
    intro H locs hP hD hS
    replace hP : va_P D vwCl [(k, .inr (11, [.ref k0, .ref k1, .ref k2, .int c3, .ref k4, .ref k5, .ref k6, .ref k7, .ref k8, .int v_3, .ref ka, .ref kb, .int cc, .int cd, .int ce, .int cf, .int cg, .int ch, .int ci, .int cj, .int ck, .ref kl, .int cm, .int cn, .ref ko])), (k8, .inl (cI, 40, .inl f_2))] H := hP
    replace hD : va_D A [(k, .inr (11, [.ref k0, .ref k1, .ref k2, .int c3, .ref k4, .ref k5, .ref k6, .ref k7, .ref k8, .int v_3, .ref ka, .ref kb, .int cc, .int cd, .int ce, .int cf, .int cg, .int ch, .int ci, .int cj, .int ck, .ref kl, .int cm, .int cn, .ref ko])), (k8, .inl (cI, 40, .inl f_2))] := hD
    exact hRet (v_3, f_2) [0, 1] ⟨(by first | omega | decide | assumption | rfl | (dsimp only; first | omega)), (by first | omega | decide | assumption | rfl | (dsimp only; first | omega)), (by unfold mSV; rw [if_pos (by omega), ev_3]), (by unfold gSV; rw [if_pos (by omega)]; exact up_in ef_2 rfl)⟩ hP hD (by decide) rfl hS dX11_ran_29
theorem dX11_bodyOf_0 : decode cX11_bodyOf 0 = .ok (.bipush 10, 2) := by decide +kernel
theorem dX11_bodyOf_2 : decode cX11_bodyOf 2 = .ok (.iload_n 0, 1) := by decide +kernel
theorem dX11_bodyOf_3 : decode cX11_bodyOf 3 = .ok (.imul, 1) := by decide +kernel
theorem dX11_bodyOf_4 : decode cX11_bodyOf 4 = .ok (.iload_n 1, 1) := by decide +kernel
theorem dX11_bodyOf_5 : decode cX11_bodyOf 5 = .ok (.iadd, 1) := by decide +kernel
theorem dX11_bodyOf_6 : decode cX11_bodyOf 6 = .ok (.tableswitch 272 0 53 #[230, 233, 236, 239, 272, 272, 272, 272, 272, 272, 272, 242, 272, 245, 272, 272, 272, 272, 272, 272, 248, 272, 251, 272, 272, 272, 272, 272, 272, 272, 272, 272, 254, 257, 272, 272, 272, 272, 272, 272, 260, 272, 263, 272, 272, 272, 272, 272, 272, 272, 272, 266, 272, 269], 230) := by decide +kernel
theorem dX11_bodyOf_236 : decode cX11_bodyOf 236 = .ok (.bipush 10, 2) := by decide +kernel
theorem dX11_bodyOf_238 : decode cX11_bodyOf 238 = .ok (.ireturn, 1) := by decide +kernel
theorem dX11_bodyOf_239 : decode cX11_bodyOf 239 = .ok (.bipush 11, 2) := by decide +kernel
theorem dX11_bodyOf_241 : decode cX11_bodyOf 241 = .ok (.ireturn, 1) := by decide +kernel
theorem dX11_bodyOf_242 : decode cX11_bodyOf 242 = .ok (.bipush 12, 2) := by decide +kernel
theorem dX11_bodyOf_244 : decode cX11_bodyOf 244 = .ok (.ireturn, 1) := by decide +kernel
theorem dX11_bodyOf_245 : decode cX11_bodyOf 245 = .ok (.bipush 13, 2) := by decide +kernel
theorem dX11_bodyOf_247 : decode cX11_bodyOf 247 = .ok (.ireturn, 1) := by decide +kernel
theorem dX11_bodyOf_248 : decode cX11_bodyOf 248 = .ok (.bipush 20, 2) := by decide +kernel
theorem dX11_bodyOf_250 : decode cX11_bodyOf 250 = .ok (.ireturn, 1) := by decide +kernel
theorem dX11_bodyOf_251 : decode cX11_bodyOf 251 = .ok (.bipush 21, 2) := by decide +kernel
theorem dX11_bodyOf_253 : decode cX11_bodyOf 253 = .ok (.ireturn, 1) := by decide +kernel
theorem dX11_bodyOf_254 : decode cX11_bodyOf 254 = .ok (.bipush 30, 2) := by decide +kernel
theorem dX11_bodyOf_256 : decode cX11_bodyOf 256 = .ok (.ireturn, 1) := by decide +kernel
theorem dX11_bodyOf_257 : decode cX11_bodyOf 257 = .ok (.bipush 31, 2) := by decide +kernel
theorem dX11_bodyOf_259 : decode cX11_bodyOf 259 = .ok (.ireturn, 1) := by decide +kernel
theorem dX11_bodyOf_260 : decode cX11_bodyOf 260 = .ok (.bipush 40, 2) := by decide +kernel
theorem dX11_bodyOf_262 : decode cX11_bodyOf 262 = .ok (.ireturn, 1) := by decide +kernel
theorem dX11_bodyOf_263 : decode cX11_bodyOf 263 = .ok (.bipush 41, 2) := by decide +kernel
theorem dX11_bodyOf_265 : decode cX11_bodyOf 265 = .ok (.ireturn, 1) := by decide +kernel
theorem dX11_bodyOf_266 : decode cX11_bodyOf 266 = .ok (.bipush 50, 2) := by decide +kernel
theorem dX11_bodyOf_268 : decode cX11_bodyOf 268 = .ok (.ireturn, 1) := by decide +kernel
theorem dX11_bodyOf_269 : decode cX11_bodyOf 269 = .ok (.bipush 51, 2) := by decide +kernel
theorem dX11_bodyOf_271 : decode cX11_bodyOf 271 = .ok (.ireturn, 1) := by decide +kernel
theorem dX11_bodyOf_272 : decode cX11_bodyOf 272 = .ok (.bipush 60, 2) := by decide +kernel
theorem dX11_bodyOf_274 : decode cX11_bodyOf 274 = .ok (.ireturn, 1) := by decide +kernel
theorem dX11_bodyOf_275 : decode cX11_bodyOf 275 = .ok (.bipush 61, 2) := by decide +kernel
theorem dX11_bodyOf_277 : decode cX11_bodyOf 277 = .ok (.ireturn, 1) := by decide +kernel
theorem dX11_bodyOf_278 : decode cX11_bodyOf 278 = .ok (.iconst 0, 1) := by decide +kernel
theorem dX11_bodyOf_279 : decode cX11_bodyOf 279 = .ok (.ireturn, 1) := by decide +kernel
set_option maxHeartbeats 4000000 in
set_option maxRecDepth 100000 in
theorem c_X11_bodyOfG (l : Launch) (D : va_G) (cI : ClassId) (aK aV : Nat → Nat) (sz : Nat) (a0 : Int32) (a1 : Int32) (pre0 : 0 ≤ a0.toInt) (pre1 : a0.toInt ≤ 5) (pre2 : 0 ≤ a1.toInt) (pre3 : a1.toInt ≤ 3) : Met l yX11_bodyOf (gW yX11_bodyOf cX11_bodyOf 2 (some .int)) ({ frames := 0, cells := 0, slots := 0, locals := 0 } : Room) (kPreX D cI aK aV [.int a0, .int a1] [] sz) (va_Qi (fun (r : Int32) (u : Unit) => (r = 10 ∧ a0.toInt = 0 ∧ a1.toInt = 0 ∧ (bKi a0 a1).toInt = 10) ∨ (r = 11 ∧ a0.toInt = 0 ∧ a1.toInt = 1 ∧ (bKi a0 a1).toInt = 11) ∨ (r = 12 ∧ a0.toInt = 0 ∧ a1.toInt = 2 ∧ (bKi a0 a1).toInt = 12) ∨ (r = 13 ∧ a0.toInt = 0 ∧ a1.toInt = 3 ∧ (bKi a0 a1).toInt = 13) ∨ (r = 20 ∧ a0.toInt = 1 ∧ a1.toInt = 1 ∧ (bKi a0 a1).toInt = 20) ∨ (r = 21 ∧ a0.toInt = 1 ∧ a1.toInt = 3 ∧ (bKi a0 a1).toInt = 21) ∨ (r = 30 ∧ a0.toInt = 2 ∧ a1.toInt = 0 ∧ (bKi a0 a1).toInt = 30) ∨ (r = 31 ∧ a0.toInt = 2 ∧ a1.toInt = 2 ∧ (bKi a0 a1).toInt = 31) ∨ (r = 40 ∧ a0.toInt = 3 ∧ a1.toInt = 2 ∧ (bKi a0 a1).toInt = 40) ∨ (r = 41 ∧ a0.toInt = 3 ∧ a1.toInt = 3 ∧ (bKi a0 a1).toInt = 41) ∨ (r = 50 ∧ a0.toInt = 4 ∧ a1.toInt = 0 ∧ (bKi a0 a1).toInt = 50) ∨ (r = 51 ∧ a0.toInt = 4 ∧ a1.toInt = 2 ∧ (bKi a0 a1).toInt = 51) ∨ (r = 60 ∧ a0.toInt = 5 ∧ a1.toInt = 1 ∧ (bKi a0 a1).toInt = 60) ∨ (r = 61 ∧ a0.toInt = 5 ∧ a1.toInt = 3 ∧ (bKi a0 a1).toInt = 61) ∨ (r = 0 ∧ 1 ≤ a0.toInt ∧ (bKi a0 a1).toInt = 0)) (fun u t => kWd D cI (va_A [] sz) [] t) (va_A [] sz)) 0 0 (va_A [] sz) := by
  refine kMetIX (own := RX11) (by decide) rfl (Nat.le_of_ble_eq_true rfl) ?_
  intro p e s m args below meth c hx hb hT hown hname hml A Q hK hP hD hS hA hN hXS hRet ls hl
  have hl : lv_has ls 2 [(0, .int a0), (1, .int a1)] := hl
  have lo_a0 := k_lo a0
  have hi_a0 := k_hi a0
  have lo_a1 := k_lo a1
  have hi_a1 := k_hi a1
  refine lv_bipush (v := 10) hx hb dX11_bodyOf_0 (by decide) ?_
  refine lv_iload_n hx hb dX11_bodyOf_2 rfl (lv_at hl 0 rfl) ?_
  refine lv_imul hx hb dX11_bodyOf_3 ?_
  refine lv_topi (fun v_1 ev_1 => ?_)
  have tv_1 : v_1.toInt = 10 * a0.toInt := by rw [ev_1]; exact k_mulv zl_10 rfl (by omega) (by omega)
  refine lv_iload_n hx hb dX11_bodyOf_4 rfl (lv_at hl 1 rfl) ?_
  refine lv_iadd hx hb dX11_bodyOf_5 ?_
  refine lv_topi (fun v_2 ev_2 => ?_)
  have tv_2 : v_2.toInt = v_1.toInt + a1.toInt := by rw [ev_2]; exact k_addv rfl rfl (by omega) (by omega)
  by_cases c_3 : v_2.toInt = 0
  · refine lv_tableIn (off := 230) (tgt := 236) hx hb dX11_bodyOf_6 (by omega) (by omega) (by rw [c_3]; decide) (by decide) ?_
    refine lv_bipush (v := 10) hx hb dX11_bodyOf_236 (by decide) ?_
    exact hRet () [] (Or.inl ⟨rfl, (by omega), (by omega), (by first | (exfalso; omega) | (unfold bKi; (repeat (first | rw [if_pos (by omega)] | rw [if_neg (by omega)])); decide))⟩) hP hD (by decide) rfl hS rfl dX11_bodyOf_238
  by_cases c_4 : v_2.toInt = 1
  · refine lv_tableIn (off := 233) (tgt := 239) hx hb dX11_bodyOf_6 (by omega) (by omega) (by rw [c_4]; decide) (by decide) ?_
    refine lv_bipush (v := 11) hx hb dX11_bodyOf_239 (by decide) ?_
    exact hRet () [] (Or.inr (Or.inl ⟨rfl, (by omega), (by omega), (by first | (exfalso; omega) | (unfold bKi; (repeat (first | rw [if_pos (by omega)] | rw [if_neg (by omega)])); decide))⟩)) hP hD (by decide) rfl hS rfl dX11_bodyOf_241
  by_cases c_5 : v_2.toInt = 2
  · refine lv_tableIn (off := 236) (tgt := 242) hx hb dX11_bodyOf_6 (by omega) (by omega) (by rw [c_5]; decide) (by decide) ?_
    refine lv_bipush (v := 12) hx hb dX11_bodyOf_242 (by decide) ?_
    exact hRet () [] (Or.inr (Or.inr (Or.inl ⟨rfl, (by omega), (by omega), (by first | (exfalso; omega) | (unfold bKi; (repeat (first | rw [if_pos (by omega)] | rw [if_neg (by omega)])); decide))⟩))) hP hD (by decide) rfl hS rfl dX11_bodyOf_244
  by_cases c_6 : v_2.toInt = 3
  · refine lv_tableIn (off := 239) (tgt := 245) hx hb dX11_bodyOf_6 (by omega) (by omega) (by rw [c_6]; decide) (by decide) ?_
    refine lv_bipush (v := 13) hx hb dX11_bodyOf_245 (by decide) ?_
    exact hRet () [] (Or.inr (Or.inr (Or.inr (Or.inl ⟨rfl, (by omega), (by omega), (by first | (exfalso; omega) | (unfold bKi; (repeat (first | rw [if_pos (by omega)] | rw [if_neg (by omega)])); decide))⟩)))) hP hD (by decide) rfl hS rfl dX11_bodyOf_247
  by_cases c_7 : v_2.toInt = 4
  · refine lv_tableIn (off := 272) (tgt := 278) hx hb dX11_bodyOf_6 (by omega) (by omega) (by rw [c_7]; decide) (by decide) ?_
    refine lv_iconst (v := 0) hx hb dX11_bodyOf_278 (by decide) ?_
    exact hRet () [] (Or.inr (Or.inr (Or.inr (Or.inr (Or.inr (Or.inr (Or.inr (Or.inr (Or.inr (Or.inr (Or.inr (Or.inr (Or.inr (Or.inr (⟨rfl, (by omega), (by first | (exfalso; omega) | (unfold bKi; (repeat (first | rw [if_pos (by omega)] | rw [if_neg (by omega)])); decide))⟩))))))))))))))) hP hD (by decide) rfl hS rfl dX11_bodyOf_279
  by_cases c_8 : v_2.toInt = 5
  · refine lv_tableIn (off := 272) (tgt := 278) hx hb dX11_bodyOf_6 (by omega) (by omega) (by rw [c_8]; decide) (by decide) ?_
    refine lv_iconst (v := 0) hx hb dX11_bodyOf_278 (by decide) ?_
    exact hRet () [] (Or.inr (Or.inr (Or.inr (Or.inr (Or.inr (Or.inr (Or.inr (Or.inr (Or.inr (Or.inr (Or.inr (Or.inr (Or.inr (Or.inr (⟨rfl, (by omega), (by first | (exfalso; omega) | (unfold bKi; (repeat (first | rw [if_pos (by omega)] | rw [if_neg (by omega)])); decide))⟩))))))))))))))) hP hD (by decide) rfl hS rfl dX11_bodyOf_279
  by_cases c_9 : v_2.toInt = 6
  · refine lv_tableIn (off := 272) (tgt := 278) hx hb dX11_bodyOf_6 (by omega) (by omega) (by rw [c_9]; decide) (by decide) ?_
    refine lv_iconst (v := 0) hx hb dX11_bodyOf_278 (by decide) ?_
    exact hRet () [] (Or.inr (Or.inr (Or.inr (Or.inr (Or.inr (Or.inr (Or.inr (Or.inr (Or.inr (Or.inr (Or.inr (Or.inr (Or.inr (Or.inr (⟨rfl, (by omega), (by first | (exfalso; omega) | (unfold bKi; (repeat (first | rw [if_pos (by omega)] | rw [if_neg (by omega)])); decide))⟩))))))))))))))) hP hD (by decide) rfl hS rfl dX11_bodyOf_279
  by_cases c_10 : v_2.toInt = 7
  · refine lv_tableIn (off := 272) (tgt := 278) hx hb dX11_bodyOf_6 (by omega) (by omega) (by rw [c_10]; decide) (by decide) ?_
    refine lv_iconst (v := 0) hx hb dX11_bodyOf_278 (by decide) ?_
    exact hRet () [] (Or.inr (Or.inr (Or.inr (Or.inr (Or.inr (Or.inr (Or.inr (Or.inr (Or.inr (Or.inr (Or.inr (Or.inr (Or.inr (Or.inr (⟨rfl, (by omega), (by first | (exfalso; omega) | (unfold bKi; (repeat (first | rw [if_pos (by omega)] | rw [if_neg (by omega)])); decide))⟩))))))))))))))) hP hD (by decide) rfl hS rfl dX11_bodyOf_279
  by_cases c_11 : v_2.toInt = 8
  · refine lv_tableIn (off := 272) (tgt := 278) hx hb dX11_bodyOf_6 (by omega) (by omega) (by rw [c_11]; decide) (by decide) ?_
    refine lv_iconst (v := 0) hx hb dX11_bodyOf_278 (by decide) ?_
    exact hRet () [] (Or.inr (Or.inr (Or.inr (Or.inr (Or.inr (Or.inr (Or.inr (Or.inr (Or.inr (Or.inr (Or.inr (Or.inr (Or.inr (Or.inr (⟨rfl, (by omega), (by first | (exfalso; omega) | (unfold bKi; (repeat (first | rw [if_pos (by omega)] | rw [if_neg (by omega)])); decide))⟩))))))))))))))) hP hD (by decide) rfl hS rfl dX11_bodyOf_279
  by_cases c_12 : v_2.toInt = 9
  · refine lv_tableIn (off := 272) (tgt := 278) hx hb dX11_bodyOf_6 (by omega) (by omega) (by rw [c_12]; decide) (by decide) ?_
    refine lv_iconst (v := 0) hx hb dX11_bodyOf_278 (by decide) ?_
    exact hRet () [] (Or.inr (Or.inr (Or.inr (Or.inr (Or.inr (Or.inr (Or.inr (Or.inr (Or.inr (Or.inr (Or.inr (Or.inr (Or.inr (Or.inr (⟨rfl, (by omega), (by first | (exfalso; omega) | (unfold bKi; (repeat (first | rw [if_pos (by omega)] | rw [if_neg (by omega)])); decide))⟩))))))))))))))) hP hD (by decide) rfl hS rfl dX11_bodyOf_279
  by_cases c_13 : v_2.toInt = 10
  · refine lv_tableIn (off := 272) (tgt := 278) hx hb dX11_bodyOf_6 (by omega) (by omega) (by rw [c_13]; decide) (by decide) ?_
    refine lv_iconst (v := 0) hx hb dX11_bodyOf_278 (by decide) ?_
    exact hRet () [] (Or.inr (Or.inr (Or.inr (Or.inr (Or.inr (Or.inr (Or.inr (Or.inr (Or.inr (Or.inr (Or.inr (Or.inr (Or.inr (Or.inr (⟨rfl, (by omega), (by first | (exfalso; omega) | (unfold bKi; (repeat (first | rw [if_pos (by omega)] | rw [if_neg (by omega)])); decide))⟩))))))))))))))) hP hD (by decide) rfl hS rfl dX11_bodyOf_279
  by_cases c_14 : v_2.toInt = 11
  · refine lv_tableIn (off := 242) (tgt := 248) hx hb dX11_bodyOf_6 (by omega) (by omega) (by rw [c_14]; decide) (by decide) ?_
    refine lv_bipush (v := 20) hx hb dX11_bodyOf_248 (by decide) ?_
    exact hRet () [] (Or.inr (Or.inr (Or.inr (Or.inr (Or.inl ⟨rfl, (by omega), (by omega), (by first | (exfalso; omega) | (unfold bKi; (repeat (first | rw [if_pos (by omega)] | rw [if_neg (by omega)])); decide))⟩))))) hP hD (by decide) rfl hS rfl dX11_bodyOf_250
  by_cases c_15 : v_2.toInt = 12
  · refine lv_tableIn (off := 272) (tgt := 278) hx hb dX11_bodyOf_6 (by omega) (by omega) (by rw [c_15]; decide) (by decide) ?_
    refine lv_iconst (v := 0) hx hb dX11_bodyOf_278 (by decide) ?_
    exact hRet () [] (Or.inr (Or.inr (Or.inr (Or.inr (Or.inr (Or.inr (Or.inr (Or.inr (Or.inr (Or.inr (Or.inr (Or.inr (Or.inr (Or.inr (⟨rfl, (by omega), (by first | (exfalso; omega) | (unfold bKi; (repeat (first | rw [if_pos (by omega)] | rw [if_neg (by omega)])); decide))⟩))))))))))))))) hP hD (by decide) rfl hS rfl dX11_bodyOf_279
  by_cases c_16 : v_2.toInt = 13
  · refine lv_tableIn (off := 245) (tgt := 251) hx hb dX11_bodyOf_6 (by omega) (by omega) (by rw [c_16]; decide) (by decide) ?_
    refine lv_bipush (v := 21) hx hb dX11_bodyOf_251 (by decide) ?_
    exact hRet () [] (Or.inr (Or.inr (Or.inr (Or.inr (Or.inr (Or.inl ⟨rfl, (by omega), (by omega), (by first | (exfalso; omega) | (unfold bKi; (repeat (first | rw [if_pos (by omega)] | rw [if_neg (by omega)])); decide))⟩)))))) hP hD (by decide) rfl hS rfl dX11_bodyOf_253
  by_cases c_17 : v_2.toInt = 14
  · refine lv_tableIn (off := 272) (tgt := 278) hx hb dX11_bodyOf_6 (by omega) (by omega) (by rw [c_17]; decide) (by decide) ?_
    refine lv_iconst (v := 0) hx hb dX11_bodyOf_278 (by decide) ?_
    exact hRet () [] (Or.inr (Or.inr (Or.inr (Or.inr (Or.inr (Or.inr (Or.inr (Or.inr (Or.inr (Or.inr (Or.inr (Or.inr (Or.inr (Or.inr (⟨rfl, (by omega), (by first | (exfalso; omega) | (unfold bKi; (repeat (first | rw [if_pos (by omega)] | rw [if_neg (by omega)])); decide))⟩))))))))))))))) hP hD (by decide) rfl hS rfl dX11_bodyOf_279
  by_cases c_18 : v_2.toInt = 15
  · refine lv_tableIn (off := 272) (tgt := 278) hx hb dX11_bodyOf_6 (by omega) (by omega) (by rw [c_18]; decide) (by decide) ?_
    refine lv_iconst (v := 0) hx hb dX11_bodyOf_278 (by decide) ?_
    exact hRet () [] (Or.inr (Or.inr (Or.inr (Or.inr (Or.inr (Or.inr (Or.inr (Or.inr (Or.inr (Or.inr (Or.inr (Or.inr (Or.inr (Or.inr (⟨rfl, (by omega), (by first | (exfalso; omega) | (unfold bKi; (repeat (first | rw [if_pos (by omega)] | rw [if_neg (by omega)])); decide))⟩))))))))))))))) hP hD (by decide) rfl hS rfl dX11_bodyOf_279
  by_cases c_19 : v_2.toInt = 16
  · refine lv_tableIn (off := 272) (tgt := 278) hx hb dX11_bodyOf_6 (by omega) (by omega) (by rw [c_19]; decide) (by decide) ?_
    refine lv_iconst (v := 0) hx hb dX11_bodyOf_278 (by decide) ?_
    exact hRet () [] (Or.inr (Or.inr (Or.inr (Or.inr (Or.inr (Or.inr (Or.inr (Or.inr (Or.inr (Or.inr (Or.inr (Or.inr (Or.inr (Or.inr (⟨rfl, (by omega), (by first | (exfalso; omega) | (unfold bKi; (repeat (first | rw [if_pos (by omega)] | rw [if_neg (by omega)])); decide))⟩))))))))))))))) hP hD (by decide) rfl hS rfl dX11_bodyOf_279
  by_cases c_20 : v_2.toInt = 17
  · refine lv_tableIn (off := 272) (tgt := 278) hx hb dX11_bodyOf_6 (by omega) (by omega) (by rw [c_20]; decide) (by decide) ?_
    refine lv_iconst (v := 0) hx hb dX11_bodyOf_278 (by decide) ?_
    exact hRet () [] (Or.inr (Or.inr (Or.inr (Or.inr (Or.inr (Or.inr (Or.inr (Or.inr (Or.inr (Or.inr (Or.inr (Or.inr (Or.inr (Or.inr (⟨rfl, (by omega), (by first | (exfalso; omega) | (unfold bKi; (repeat (first | rw [if_pos (by omega)] | rw [if_neg (by omega)])); decide))⟩))))))))))))))) hP hD (by decide) rfl hS rfl dX11_bodyOf_279
  by_cases c_21 : v_2.toInt = 18
  · refine lv_tableIn (off := 272) (tgt := 278) hx hb dX11_bodyOf_6 (by omega) (by omega) (by rw [c_21]; decide) (by decide) ?_
    refine lv_iconst (v := 0) hx hb dX11_bodyOf_278 (by decide) ?_
    exact hRet () [] (Or.inr (Or.inr (Or.inr (Or.inr (Or.inr (Or.inr (Or.inr (Or.inr (Or.inr (Or.inr (Or.inr (Or.inr (Or.inr (Or.inr (⟨rfl, (by omega), (by first | (exfalso; omega) | (unfold bKi; (repeat (first | rw [if_pos (by omega)] | rw [if_neg (by omega)])); decide))⟩))))))))))))))) hP hD (by decide) rfl hS rfl dX11_bodyOf_279
  by_cases c_22 : v_2.toInt = 19
  · refine lv_tableIn (off := 272) (tgt := 278) hx hb dX11_bodyOf_6 (by omega) (by omega) (by rw [c_22]; decide) (by decide) ?_
    refine lv_iconst (v := 0) hx hb dX11_bodyOf_278 (by decide) ?_
    exact hRet () [] (Or.inr (Or.inr (Or.inr (Or.inr (Or.inr (Or.inr (Or.inr (Or.inr (Or.inr (Or.inr (Or.inr (Or.inr (Or.inr (Or.inr (⟨rfl, (by omega), (by first | (exfalso; omega) | (unfold bKi; (repeat (first | rw [if_pos (by omega)] | rw [if_neg (by omega)])); decide))⟩))))))))))))))) hP hD (by decide) rfl hS rfl dX11_bodyOf_279
  by_cases c_23 : v_2.toInt = 20
  · refine lv_tableIn (off := 248) (tgt := 254) hx hb dX11_bodyOf_6 (by omega) (by omega) (by rw [c_23]; decide) (by decide) ?_
    refine lv_bipush (v := 30) hx hb dX11_bodyOf_254 (by decide) ?_
    exact hRet () [] (Or.inr (Or.inr (Or.inr (Or.inr (Or.inr (Or.inr (Or.inl ⟨rfl, (by omega), (by omega), (by first | (exfalso; omega) | (unfold bKi; (repeat (first | rw [if_pos (by omega)] | rw [if_neg (by omega)])); decide))⟩))))))) hP hD (by decide) rfl hS rfl dX11_bodyOf_256
  by_cases c_24 : v_2.toInt = 21
  · refine lv_tableIn (off := 272) (tgt := 278) hx hb dX11_bodyOf_6 (by omega) (by omega) (by rw [c_24]; decide) (by decide) ?_
    refine lv_iconst (v := 0) hx hb dX11_bodyOf_278 (by decide) ?_
    exact hRet () [] (Or.inr (Or.inr (Or.inr (Or.inr (Or.inr (Or.inr (Or.inr (Or.inr (Or.inr (Or.inr (Or.inr (Or.inr (Or.inr (Or.inr (⟨rfl, (by omega), (by first | (exfalso; omega) | (unfold bKi; (repeat (first | rw [if_pos (by omega)] | rw [if_neg (by omega)])); decide))⟩))))))))))))))) hP hD (by decide) rfl hS rfl dX11_bodyOf_279
  by_cases c_25 : v_2.toInt = 22
  · refine lv_tableIn (off := 251) (tgt := 257) hx hb dX11_bodyOf_6 (by omega) (by omega) (by rw [c_25]; decide) (by decide) ?_
    refine lv_bipush (v := 31) hx hb dX11_bodyOf_257 (by decide) ?_
    exact hRet () [] (Or.inr (Or.inr (Or.inr (Or.inr (Or.inr (Or.inr (Or.inr (Or.inl ⟨rfl, (by omega), (by omega), (by first | (exfalso; omega) | (unfold bKi; (repeat (first | rw [if_pos (by omega)] | rw [if_neg (by omega)])); decide))⟩)))))))) hP hD (by decide) rfl hS rfl dX11_bodyOf_259
  by_cases c_26 : v_2.toInt = 23
  · refine lv_tableIn (off := 272) (tgt := 278) hx hb dX11_bodyOf_6 (by omega) (by omega) (by rw [c_26]; decide) (by decide) ?_
    refine lv_iconst (v := 0) hx hb dX11_bodyOf_278 (by decide) ?_
    exact hRet () [] (Or.inr (Or.inr (Or.inr (Or.inr (Or.inr (Or.inr (Or.inr (Or.inr (Or.inr (Or.inr (Or.inr (Or.inr (Or.inr (Or.inr (⟨rfl, (by omega), (by first | (exfalso; omega) | (unfold bKi; (repeat (first | rw [if_pos (by omega)] | rw [if_neg (by omega)])); decide))⟩))))))))))))))) hP hD (by decide) rfl hS rfl dX11_bodyOf_279
  by_cases c_27 : v_2.toInt = 24
  · refine lv_tableIn (off := 272) (tgt := 278) hx hb dX11_bodyOf_6 (by omega) (by omega) (by rw [c_27]; decide) (by decide) ?_
    refine lv_iconst (v := 0) hx hb dX11_bodyOf_278 (by decide) ?_
    exact hRet () [] (Or.inr (Or.inr (Or.inr (Or.inr (Or.inr (Or.inr (Or.inr (Or.inr (Or.inr (Or.inr (Or.inr (Or.inr (Or.inr (Or.inr (⟨rfl, (by omega), (by first | (exfalso; omega) | (unfold bKi; (repeat (first | rw [if_pos (by omega)] | rw [if_neg (by omega)])); decide))⟩))))))))))))))) hP hD (by decide) rfl hS rfl dX11_bodyOf_279
  by_cases c_28 : v_2.toInt = 25
  · refine lv_tableIn (off := 272) (tgt := 278) hx hb dX11_bodyOf_6 (by omega) (by omega) (by rw [c_28]; decide) (by decide) ?_
    refine lv_iconst (v := 0) hx hb dX11_bodyOf_278 (by decide) ?_
    exact hRet () [] (Or.inr (Or.inr (Or.inr (Or.inr (Or.inr (Or.inr (Or.inr (Or.inr (Or.inr (Or.inr (Or.inr (Or.inr (Or.inr (Or.inr (⟨rfl, (by omega), (by first | (exfalso; omega) | (unfold bKi; (repeat (first | rw [if_pos (by omega)] | rw [if_neg (by omega)])); decide))⟩))))))))))))))) hP hD (by decide) rfl hS rfl dX11_bodyOf_279
  by_cases c_29 : v_2.toInt = 26
  · refine lv_tableIn (off := 272) (tgt := 278) hx hb dX11_bodyOf_6 (by omega) (by omega) (by rw [c_29]; decide) (by decide) ?_
    refine lv_iconst (v := 0) hx hb dX11_bodyOf_278 (by decide) ?_
    exact hRet () [] (Or.inr (Or.inr (Or.inr (Or.inr (Or.inr (Or.inr (Or.inr (Or.inr (Or.inr (Or.inr (Or.inr (Or.inr (Or.inr (Or.inr (⟨rfl, (by omega), (by first | (exfalso; omega) | (unfold bKi; (repeat (first | rw [if_pos (by omega)] | rw [if_neg (by omega)])); decide))⟩))))))))))))))) hP hD (by decide) rfl hS rfl dX11_bodyOf_279
  by_cases c_30 : v_2.toInt = 27
  · refine lv_tableIn (off := 272) (tgt := 278) hx hb dX11_bodyOf_6 (by omega) (by omega) (by rw [c_30]; decide) (by decide) ?_
    refine lv_iconst (v := 0) hx hb dX11_bodyOf_278 (by decide) ?_
    exact hRet () [] (Or.inr (Or.inr (Or.inr (Or.inr (Or.inr (Or.inr (Or.inr (Or.inr (Or.inr (Or.inr (Or.inr (Or.inr (Or.inr (Or.inr (⟨rfl, (by omega), (by first | (exfalso; omega) | (unfold bKi; (repeat (first | rw [if_pos (by omega)] | rw [if_neg (by omega)])); decide))⟩))))))))))))))) hP hD (by decide) rfl hS rfl dX11_bodyOf_279
  by_cases c_31 : v_2.toInt = 28
  · refine lv_tableIn (off := 272) (tgt := 278) hx hb dX11_bodyOf_6 (by omega) (by omega) (by rw [c_31]; decide) (by decide) ?_
    refine lv_iconst (v := 0) hx hb dX11_bodyOf_278 (by decide) ?_
    exact hRet () [] (Or.inr (Or.inr (Or.inr (Or.inr (Or.inr (Or.inr (Or.inr (Or.inr (Or.inr (Or.inr (Or.inr (Or.inr (Or.inr (Or.inr (⟨rfl, (by omega), (by first | (exfalso; omega) | (unfold bKi; (repeat (first | rw [if_pos (by omega)] | rw [if_neg (by omega)])); decide))⟩))))))))))))))) hP hD (by decide) rfl hS rfl dX11_bodyOf_279
  by_cases c_32 : v_2.toInt = 29
  · refine lv_tableIn (off := 272) (tgt := 278) hx hb dX11_bodyOf_6 (by omega) (by omega) (by rw [c_32]; decide) (by decide) ?_
    refine lv_iconst (v := 0) hx hb dX11_bodyOf_278 (by decide) ?_
    exact hRet () [] (Or.inr (Or.inr (Or.inr (Or.inr (Or.inr (Or.inr (Or.inr (Or.inr (Or.inr (Or.inr (Or.inr (Or.inr (Or.inr (Or.inr (⟨rfl, (by omega), (by first | (exfalso; omega) | (unfold bKi; (repeat (first | rw [if_pos (by omega)] | rw [if_neg (by omega)])); decide))⟩))))))))))))))) hP hD (by decide) rfl hS rfl dX11_bodyOf_279
  by_cases c_33 : v_2.toInt = 30
  · refine lv_tableIn (off := 272) (tgt := 278) hx hb dX11_bodyOf_6 (by omega) (by omega) (by rw [c_33]; decide) (by decide) ?_
    refine lv_iconst (v := 0) hx hb dX11_bodyOf_278 (by decide) ?_
    exact hRet () [] (Or.inr (Or.inr (Or.inr (Or.inr (Or.inr (Or.inr (Or.inr (Or.inr (Or.inr (Or.inr (Or.inr (Or.inr (Or.inr (Or.inr (⟨rfl, (by omega), (by first | (exfalso; omega) | (unfold bKi; (repeat (first | rw [if_pos (by omega)] | rw [if_neg (by omega)])); decide))⟩))))))))))))))) hP hD (by decide) rfl hS rfl dX11_bodyOf_279
  by_cases c_34 : v_2.toInt = 31
  · refine lv_tableIn (off := 272) (tgt := 278) hx hb dX11_bodyOf_6 (by omega) (by omega) (by rw [c_34]; decide) (by decide) ?_
    refine lv_iconst (v := 0) hx hb dX11_bodyOf_278 (by decide) ?_
    exact hRet () [] (Or.inr (Or.inr (Or.inr (Or.inr (Or.inr (Or.inr (Or.inr (Or.inr (Or.inr (Or.inr (Or.inr (Or.inr (Or.inr (Or.inr (⟨rfl, (by omega), (by first | (exfalso; omega) | (unfold bKi; (repeat (first | rw [if_pos (by omega)] | rw [if_neg (by omega)])); decide))⟩))))))))))))))) hP hD (by decide) rfl hS rfl dX11_bodyOf_279
  by_cases c_35 : v_2.toInt = 32
  · refine lv_tableIn (off := 254) (tgt := 260) hx hb dX11_bodyOf_6 (by omega) (by omega) (by rw [c_35]; decide) (by decide) ?_
    refine lv_bipush (v := 40) hx hb dX11_bodyOf_260 (by decide) ?_
    exact hRet () [] (Or.inr (Or.inr (Or.inr (Or.inr (Or.inr (Or.inr (Or.inr (Or.inr (Or.inl ⟨rfl, (by omega), (by omega), (by first | (exfalso; omega) | (unfold bKi; (repeat (first | rw [if_pos (by omega)] | rw [if_neg (by omega)])); decide))⟩))))))))) hP hD (by decide) rfl hS rfl dX11_bodyOf_262
  by_cases c_36 : v_2.toInt = 33
  · refine lv_tableIn (off := 257) (tgt := 263) hx hb dX11_bodyOf_6 (by omega) (by omega) (by rw [c_36]; decide) (by decide) ?_
    refine lv_bipush (v := 41) hx hb dX11_bodyOf_263 (by decide) ?_
    exact hRet () [] (Or.inr (Or.inr (Or.inr (Or.inr (Or.inr (Or.inr (Or.inr (Or.inr (Or.inr (Or.inl ⟨rfl, (by omega), (by omega), (by first | (exfalso; omega) | (unfold bKi; (repeat (first | rw [if_pos (by omega)] | rw [if_neg (by omega)])); decide))⟩)))))))))) hP hD (by decide) rfl hS rfl dX11_bodyOf_265
  by_cases c_37 : v_2.toInt = 34
  · refine lv_tableIn (off := 272) (tgt := 278) hx hb dX11_bodyOf_6 (by omega) (by omega) (by rw [c_37]; decide) (by decide) ?_
    refine lv_iconst (v := 0) hx hb dX11_bodyOf_278 (by decide) ?_
    exact hRet () [] (Or.inr (Or.inr (Or.inr (Or.inr (Or.inr (Or.inr (Or.inr (Or.inr (Or.inr (Or.inr (Or.inr (Or.inr (Or.inr (Or.inr (⟨rfl, (by omega), (by first | (exfalso; omega) | (unfold bKi; (repeat (first | rw [if_pos (by omega)] | rw [if_neg (by omega)])); decide))⟩))))))))))))))) hP hD (by decide) rfl hS rfl dX11_bodyOf_279
  by_cases c_38 : v_2.toInt = 35
  · refine lv_tableIn (off := 272) (tgt := 278) hx hb dX11_bodyOf_6 (by omega) (by omega) (by rw [c_38]; decide) (by decide) ?_
    refine lv_iconst (v := 0) hx hb dX11_bodyOf_278 (by decide) ?_
    exact hRet () [] (Or.inr (Or.inr (Or.inr (Or.inr (Or.inr (Or.inr (Or.inr (Or.inr (Or.inr (Or.inr (Or.inr (Or.inr (Or.inr (Or.inr (⟨rfl, (by omega), (by first | (exfalso; omega) | (unfold bKi; (repeat (first | rw [if_pos (by omega)] | rw [if_neg (by omega)])); decide))⟩))))))))))))))) hP hD (by decide) rfl hS rfl dX11_bodyOf_279
  by_cases c_39 : v_2.toInt = 36
  · refine lv_tableIn (off := 272) (tgt := 278) hx hb dX11_bodyOf_6 (by omega) (by omega) (by rw [c_39]; decide) (by decide) ?_
    refine lv_iconst (v := 0) hx hb dX11_bodyOf_278 (by decide) ?_
    exact hRet () [] (Or.inr (Or.inr (Or.inr (Or.inr (Or.inr (Or.inr (Or.inr (Or.inr (Or.inr (Or.inr (Or.inr (Or.inr (Or.inr (Or.inr (⟨rfl, (by omega), (by first | (exfalso; omega) | (unfold bKi; (repeat (first | rw [if_pos (by omega)] | rw [if_neg (by omega)])); decide))⟩))))))))))))))) hP hD (by decide) rfl hS rfl dX11_bodyOf_279
  by_cases c_40 : v_2.toInt = 37
  · refine lv_tableIn (off := 272) (tgt := 278) hx hb dX11_bodyOf_6 (by omega) (by omega) (by rw [c_40]; decide) (by decide) ?_
    refine lv_iconst (v := 0) hx hb dX11_bodyOf_278 (by decide) ?_
    exact hRet () [] (Or.inr (Or.inr (Or.inr (Or.inr (Or.inr (Or.inr (Or.inr (Or.inr (Or.inr (Or.inr (Or.inr (Or.inr (Or.inr (Or.inr (⟨rfl, (by omega), (by first | (exfalso; omega) | (unfold bKi; (repeat (first | rw [if_pos (by omega)] | rw [if_neg (by omega)])); decide))⟩))))))))))))))) hP hD (by decide) rfl hS rfl dX11_bodyOf_279
  by_cases c_41 : v_2.toInt = 38
  · refine lv_tableIn (off := 272) (tgt := 278) hx hb dX11_bodyOf_6 (by omega) (by omega) (by rw [c_41]; decide) (by decide) ?_
    refine lv_iconst (v := 0) hx hb dX11_bodyOf_278 (by decide) ?_
    exact hRet () [] (Or.inr (Or.inr (Or.inr (Or.inr (Or.inr (Or.inr (Or.inr (Or.inr (Or.inr (Or.inr (Or.inr (Or.inr (Or.inr (Or.inr (⟨rfl, (by omega), (by first | (exfalso; omega) | (unfold bKi; (repeat (first | rw [if_pos (by omega)] | rw [if_neg (by omega)])); decide))⟩))))))))))))))) hP hD (by decide) rfl hS rfl dX11_bodyOf_279
  by_cases c_42 : v_2.toInt = 39
  · refine lv_tableIn (off := 272) (tgt := 278) hx hb dX11_bodyOf_6 (by omega) (by omega) (by rw [c_42]; decide) (by decide) ?_
    refine lv_iconst (v := 0) hx hb dX11_bodyOf_278 (by decide) ?_
    exact hRet () [] (Or.inr (Or.inr (Or.inr (Or.inr (Or.inr (Or.inr (Or.inr (Or.inr (Or.inr (Or.inr (Or.inr (Or.inr (Or.inr (Or.inr (⟨rfl, (by omega), (by first | (exfalso; omega) | (unfold bKi; (repeat (first | rw [if_pos (by omega)] | rw [if_neg (by omega)])); decide))⟩))))))))))))))) hP hD (by decide) rfl hS rfl dX11_bodyOf_279
  by_cases c_43 : v_2.toInt = 40
  · refine lv_tableIn (off := 260) (tgt := 266) hx hb dX11_bodyOf_6 (by omega) (by omega) (by rw [c_43]; decide) (by decide) ?_
    refine lv_bipush (v := 50) hx hb dX11_bodyOf_266 (by decide) ?_
    exact hRet () [] (Or.inr (Or.inr (Or.inr (Or.inr (Or.inr (Or.inr (Or.inr (Or.inr (Or.inr (Or.inr (Or.inl ⟨rfl, (by omega), (by omega), (by first | (exfalso; omega) | (unfold bKi; (repeat (first | rw [if_pos (by omega)] | rw [if_neg (by omega)])); decide))⟩))))))))))) hP hD (by decide) rfl hS rfl dX11_bodyOf_268
  by_cases c_44 : v_2.toInt = 41
  · refine lv_tableIn (off := 272) (tgt := 278) hx hb dX11_bodyOf_6 (by omega) (by omega) (by rw [c_44]; decide) (by decide) ?_
    refine lv_iconst (v := 0) hx hb dX11_bodyOf_278 (by decide) ?_
    exact hRet () [] (Or.inr (Or.inr (Or.inr (Or.inr (Or.inr (Or.inr (Or.inr (Or.inr (Or.inr (Or.inr (Or.inr (Or.inr (Or.inr (Or.inr (⟨rfl, (by omega), (by first | (exfalso; omega) | (unfold bKi; (repeat (first | rw [if_pos (by omega)] | rw [if_neg (by omega)])); decide))⟩))))))))))))))) hP hD (by decide) rfl hS rfl dX11_bodyOf_279
  by_cases c_45 : v_2.toInt = 42
  · refine lv_tableIn (off := 263) (tgt := 269) hx hb dX11_bodyOf_6 (by omega) (by omega) (by rw [c_45]; decide) (by decide) ?_
    refine lv_bipush (v := 51) hx hb dX11_bodyOf_269 (by decide) ?_
    exact hRet () [] (Or.inr (Or.inr (Or.inr (Or.inr (Or.inr (Or.inr (Or.inr (Or.inr (Or.inr (Or.inr (Or.inr (Or.inl ⟨rfl, (by omega), (by omega), (by first | (exfalso; omega) | (unfold bKi; (repeat (first | rw [if_pos (by omega)] | rw [if_neg (by omega)])); decide))⟩)))))))))))) hP hD (by decide) rfl hS rfl dX11_bodyOf_271
  by_cases c_46 : v_2.toInt = 43
  · refine lv_tableIn (off := 272) (tgt := 278) hx hb dX11_bodyOf_6 (by omega) (by omega) (by rw [c_46]; decide) (by decide) ?_
    refine lv_iconst (v := 0) hx hb dX11_bodyOf_278 (by decide) ?_
    exact hRet () [] (Or.inr (Or.inr (Or.inr (Or.inr (Or.inr (Or.inr (Or.inr (Or.inr (Or.inr (Or.inr (Or.inr (Or.inr (Or.inr (Or.inr (⟨rfl, (by omega), (by first | (exfalso; omega) | (unfold bKi; (repeat (first | rw [if_pos (by omega)] | rw [if_neg (by omega)])); decide))⟩))))))))))))))) hP hD (by decide) rfl hS rfl dX11_bodyOf_279
  by_cases c_47 : v_2.toInt = 44
  · refine lv_tableIn (off := 272) (tgt := 278) hx hb dX11_bodyOf_6 (by omega) (by omega) (by rw [c_47]; decide) (by decide) ?_
    refine lv_iconst (v := 0) hx hb dX11_bodyOf_278 (by decide) ?_
    exact hRet () [] (Or.inr (Or.inr (Or.inr (Or.inr (Or.inr (Or.inr (Or.inr (Or.inr (Or.inr (Or.inr (Or.inr (Or.inr (Or.inr (Or.inr (⟨rfl, (by omega), (by first | (exfalso; omega) | (unfold bKi; (repeat (first | rw [if_pos (by omega)] | rw [if_neg (by omega)])); decide))⟩))))))))))))))) hP hD (by decide) rfl hS rfl dX11_bodyOf_279
  by_cases c_48 : v_2.toInt = 45
  · refine lv_tableIn (off := 272) (tgt := 278) hx hb dX11_bodyOf_6 (by omega) (by omega) (by rw [c_48]; decide) (by decide) ?_
    refine lv_iconst (v := 0) hx hb dX11_bodyOf_278 (by decide) ?_
    exact hRet () [] (Or.inr (Or.inr (Or.inr (Or.inr (Or.inr (Or.inr (Or.inr (Or.inr (Or.inr (Or.inr (Or.inr (Or.inr (Or.inr (Or.inr (⟨rfl, (by omega), (by first | (exfalso; omega) | (unfold bKi; (repeat (first | rw [if_pos (by omega)] | rw [if_neg (by omega)])); decide))⟩))))))))))))))) hP hD (by decide) rfl hS rfl dX11_bodyOf_279
  by_cases c_49 : v_2.toInt = 46
  · refine lv_tableIn (off := 272) (tgt := 278) hx hb dX11_bodyOf_6 (by omega) (by omega) (by rw [c_49]; decide) (by decide) ?_
    refine lv_iconst (v := 0) hx hb dX11_bodyOf_278 (by decide) ?_
    exact hRet () [] (Or.inr (Or.inr (Or.inr (Or.inr (Or.inr (Or.inr (Or.inr (Or.inr (Or.inr (Or.inr (Or.inr (Or.inr (Or.inr (Or.inr (⟨rfl, (by omega), (by first | (exfalso; omega) | (unfold bKi; (repeat (first | rw [if_pos (by omega)] | rw [if_neg (by omega)])); decide))⟩))))))))))))))) hP hD (by decide) rfl hS rfl dX11_bodyOf_279
  by_cases c_50 : v_2.toInt = 47
  · refine lv_tableIn (off := 272) (tgt := 278) hx hb dX11_bodyOf_6 (by omega) (by omega) (by rw [c_50]; decide) (by decide) ?_
    refine lv_iconst (v := 0) hx hb dX11_bodyOf_278 (by decide) ?_
    exact hRet () [] (Or.inr (Or.inr (Or.inr (Or.inr (Or.inr (Or.inr (Or.inr (Or.inr (Or.inr (Or.inr (Or.inr (Or.inr (Or.inr (Or.inr (⟨rfl, (by omega), (by first | (exfalso; omega) | (unfold bKi; (repeat (first | rw [if_pos (by omega)] | rw [if_neg (by omega)])); decide))⟩))))))))))))))) hP hD (by decide) rfl hS rfl dX11_bodyOf_279
  by_cases c_51 : v_2.toInt = 48
  · refine lv_tableIn (off := 272) (tgt := 278) hx hb dX11_bodyOf_6 (by omega) (by omega) (by rw [c_51]; decide) (by decide) ?_
    refine lv_iconst (v := 0) hx hb dX11_bodyOf_278 (by decide) ?_
    exact hRet () [] (Or.inr (Or.inr (Or.inr (Or.inr (Or.inr (Or.inr (Or.inr (Or.inr (Or.inr (Or.inr (Or.inr (Or.inr (Or.inr (Or.inr (⟨rfl, (by omega), (by first | (exfalso; omega) | (unfold bKi; (repeat (first | rw [if_pos (by omega)] | rw [if_neg (by omega)])); decide))⟩))))))))))))))) hP hD (by decide) rfl hS rfl dX11_bodyOf_279
  by_cases c_52 : v_2.toInt = 49
  · refine lv_tableIn (off := 272) (tgt := 278) hx hb dX11_bodyOf_6 (by omega) (by omega) (by rw [c_52]; decide) (by decide) ?_
    refine lv_iconst (v := 0) hx hb dX11_bodyOf_278 (by decide) ?_
    exact hRet () [] (Or.inr (Or.inr (Or.inr (Or.inr (Or.inr (Or.inr (Or.inr (Or.inr (Or.inr (Or.inr (Or.inr (Or.inr (Or.inr (Or.inr (⟨rfl, (by omega), (by first | (exfalso; omega) | (unfold bKi; (repeat (first | rw [if_pos (by omega)] | rw [if_neg (by omega)])); decide))⟩))))))))))))))) hP hD (by decide) rfl hS rfl dX11_bodyOf_279
  by_cases c_53 : v_2.toInt = 50
  · refine lv_tableIn (off := 272) (tgt := 278) hx hb dX11_bodyOf_6 (by omega) (by omega) (by rw [c_53]; decide) (by decide) ?_
    refine lv_iconst (v := 0) hx hb dX11_bodyOf_278 (by decide) ?_
    exact hRet () [] (Or.inr (Or.inr (Or.inr (Or.inr (Or.inr (Or.inr (Or.inr (Or.inr (Or.inr (Or.inr (Or.inr (Or.inr (Or.inr (Or.inr (⟨rfl, (by omega), (by first | (exfalso; omega) | (unfold bKi; (repeat (first | rw [if_pos (by omega)] | rw [if_neg (by omega)])); decide))⟩))))))))))))))) hP hD (by decide) rfl hS rfl dX11_bodyOf_279
  by_cases c_54 : v_2.toInt = 51
  · refine lv_tableIn (off := 266) (tgt := 272) hx hb dX11_bodyOf_6 (by omega) (by omega) (by rw [c_54]; decide) (by decide) ?_
    refine lv_bipush (v := 60) hx hb dX11_bodyOf_272 (by decide) ?_
    exact hRet () [] (Or.inr (Or.inr (Or.inr (Or.inr (Or.inr (Or.inr (Or.inr (Or.inr (Or.inr (Or.inr (Or.inr (Or.inr (Or.inl ⟨rfl, (by omega), (by omega), (by first | (exfalso; omega) | (unfold bKi; (repeat (first | rw [if_pos (by omega)] | rw [if_neg (by omega)])); decide))⟩))))))))))))) hP hD (by decide) rfl hS rfl dX11_bodyOf_274
  by_cases c_55 : v_2.toInt = 52
  · refine lv_tableIn (off := 272) (tgt := 278) hx hb dX11_bodyOf_6 (by omega) (by omega) (by rw [c_55]; decide) (by decide) ?_
    refine lv_iconst (v := 0) hx hb dX11_bodyOf_278 (by decide) ?_
    exact hRet () [] (Or.inr (Or.inr (Or.inr (Or.inr (Or.inr (Or.inr (Or.inr (Or.inr (Or.inr (Or.inr (Or.inr (Or.inr (Or.inr (Or.inr (⟨rfl, (by omega), (by first | (exfalso; omega) | (unfold bKi; (repeat (first | rw [if_pos (by omega)] | rw [if_neg (by omega)])); decide))⟩))))))))))))))) hP hD (by decide) rfl hS rfl dX11_bodyOf_279
  by_cases c_56 : v_2.toInt = 53
  · refine lv_tableIn (off := 269) (tgt := 275) hx hb dX11_bodyOf_6 (by omega) (by omega) (by rw [c_56]; decide) (by decide) ?_
    refine lv_bipush (v := 61) hx hb dX11_bodyOf_275 (by decide) ?_
    exact hRet () [] (Or.inr (Or.inr (Or.inr (Or.inr (Or.inr (Or.inr (Or.inr (Or.inr (Or.inr (Or.inr (Or.inr (Or.inr (Or.inr (Or.inl ⟨rfl, (by omega), (by omega), (by first | (exfalso; omega) | (unfold bKi; (repeat (first | rw [if_pos (by omega)] | rw [if_neg (by omega)])); decide))⟩)))))))))))))) hP hD (by decide) rfl hS rfl dX11_bodyOf_277
  exfalso; omega
theorem dX11_trace_0 : decode cX11_trace 0 = .ok (.iload_n 1, 1) := by decide +kernel
theorem dX11_trace_1 : decode cX11_trace 1 = .ok (.iconst 0, 1) := by decide +kernel
theorem dX11_trace_2 : decode cX11_trace 2 = .ok (.aload_n 0, 1) := by decide +kernel
theorem dX11_trace_3 : decode cX11_trace 3 = .ok (.getfield 267, 3) := by decide +kernel
theorem dX11_trace_6 : decode cX11_trace 6 = .ok (.iconst 1, 1) := by decide +kernel
theorem dX11_trace_7 : decode cX11_trace 7 = .ok (.isub, 1) := by decide +kernel
theorem dX11_trace_8 : decode cX11_trace 8 = .ok (.invokestatic 47, 3) := by decide +kernel
theorem dX11_trace_11 : decode cX11_trace 11 = .ok (.ifCond .eq 12, 3) := by decide +kernel
theorem dX11_trace_14 : decode cX11_trace 14 = .ok (.aload_n 0, 1) := by decide +kernel
theorem dX11_trace_15 : decode cX11_trace 15 = .ok (.getfield 31, 3) := by decide +kernel
theorem dX11_trace_18 : decode cX11_trace 18 = .ok (.iload_n 1, 1) := by decide +kernel
theorem dX11_trace_19 : decode cX11_trace 19 = .ok (.iaload, 1) := by decide +kernel
theorem dX11_trace_20 : decode cX11_trace 20 = .ok (.goto 9, 3) := by decide +kernel
theorem dX11_trace_23 : decode cX11_trace 23 = .ok (.aload_n 0, 1) := by decide +kernel
theorem dX11_trace_24 : decode cX11_trace 24 = .ok (.ldc 114, 2) := by decide +kernel
theorem dX11_trace_26 : decode cX11_trace 26 = .ok (.invokevirtual 64, 3) := by decide +kernel
theorem dX11_trace_29 : decode cX11_trace 29 = .ok (.ireturn, 1) := by decide +kernel
set_option maxHeartbeats 4000000 in
set_option maxRecDepth 100000 in
theorem c_X11_traceG (l : Launch) (D : va_G) (cI : ClassId) (aK aV : Nat → Nat) (k k0 k1 k2 k4 k5 k6 k7 k8 ka kb kl ko : Nat) (sz : Nat) (c3 : Int32) (c9 : Int32) (cc : Int32) (cd : Int32) (ce : Int32) (cf : Int32) (cg : Int32) (ch : Int32) (ci : Int32) (cj : Int32) (ck : Int32) (cm : Int32) (cn : Int32) (c4 : Nat → Int32) (c8 : Nat → Int32) (a0 : Int32) (pre0 : 0 ≤ c9.toInt) (pre1 : c9.toInt ≤ 40) : Met l yX11_trace (gW yX11_trace cX11_trace 2 (some .int)) ({ frames := 1, cells := 0, slots := 0, locals := 22 } : Room) (kPreX D cI aK aV [.ref k, .int a0] [(k, .inr (11, [.ref k0, .ref k1, .ref k2, .int c3, .ref k4, .ref k5, .ref k6, .ref k7, .ref k8, .int c9, .ref ka, .ref kb, .int cc, .int cd, .int ce, .int cf, .int cg, .int ch, .int ci, .int cj, .int ck, .ref kl, .int cm, .int cn, .ref ko])), (k4, .inl (cI, 6, .inl c4)), (k8, .inl (cI, 40, .inl c8))] sz) (va_Qi (fun (r : Int32) (u : (Nat → Int32)) => ((0 ≤ a0.toInt ∧ a0.toInt < c9.toInt ∧ r = c8 a0.toInt.toNat) ∨ ((a0.toInt < 0 ∨ c9.toInt ≤ a0.toInt) ∧ r = -1000002))) (fun u t => kWd D cI (va_A [(k, .inr (11, [.ref k0, .ref k1, .ref k2, .int c3, .ref k4, .ref k5, .ref k6, .ref k7, .ref k8, .int c9, .ref ka, .ref kb, .int cc, .int cd, .int ce, .int cf, .int cg, .int ch, .int ci, .int cj, .int ck, .ref kl, .int cm, .int cn, .ref ko])), (k4, .inl (cI, 6, .inl c4)), (k8, .inl (cI, 40, .inl c8))] sz) [(k, .inr (11, [.ref k0, .ref k1, .ref k2, .int c3, .ref k4, .ref k5, .ref k6, .ref k7, .ref k8, .int c9, .ref ka, .ref kb, .int cc, .int cd, .int ce, .int cf, .int cg, .int ch, .int ci, .int cj, .int ck, .ref kl, .int cm, .int cn, .ref ko])), (k4, .inl (cI, 6, .inl u)), (k8, .inl (cI, 40, .inl c8))] t) (va_A [(k, .inr (11, [.ref k0, .ref k1, .ref k2, .int c3, .ref k4, .ref k5, .ref k6, .ref k7, .ref k8, .int c9, .ref ka, .ref kb, .int cc, .int cd, .int ce, .int cf, .int cg, .int ch, .int ci, .int cj, .int ck, .ref kl, .int cm, .int cn, .ref ko])), (k4, .inl (cI, 6, .inl c4)), (k8, .inl (cI, 40, .inl c8))] sz)) 0 0 (va_A [(k, .inr (11, [.ref k0, .ref k1, .ref k2, .int c3, .ref k4, .ref k5, .ref k6, .ref k7, .ref k8, .int c9, .ref ka, .ref kb, .int cc, .int cd, .int ce, .int cf, .int cg, .int ch, .int ci, .int cj, .int ck, .ref kl, .int cm, .int cn, .ref ko])), (k4, .inl (cI, 6, .inl c4)), (k8, .inl (cI, 40, .inl c8))] sz) := by
  refine kMetIX (own := RX11) (by decide) rfl (Nat.le_of_ble_eq_true rfl) ?_
  intro p e s m args below meth c hx hb hT hown hname hml A Q hK hP hD hS hA hN hXS hRet ls hl
  have hl : lv_has ls 2 [(0, .ref k), (1, .int a0)] := hl
  have lo_a0 := k_lo a0
  have hi_a0 := k_hi a0
  have lo_c9 := k_lo c9
  have hi_c9 := k_hi c9
  have lo_ci := k_lo ci
  have hi_ci := k_hi ci
  refine lv_iload_n hx hb dX11_trace_0 rfl (lv_at hl 1 rfl) ?_
  refine lv_iconst (v := 0) hx hb dX11_trace_1 (by decide) ?_
  refine lv_aload_n hx hb dX11_trace_2 rfl (lv_at hl 0 rfl) ?_
  refine va_get (D := D) (ci := 11) (v := .int c9) (C := RX11) (T := TX11) (N := 25) hx hb hT giX11 hown hK hP 0 rfl rfl 9 (by decide) (hT (Cond.fieldLink RX11 267 "DesertWireModel" "traces" "I") mw_1165) (fun _ h9 => h9) rfl dX11_trace_3 ?_
  refine lv_iconst (v := 1) hx hb dX11_trace_6 (by decide) ?_
  refine lv_isub hx hb dX11_trace_7 ?_
  refine lv_topi (fun v_1 ev_1 => ?_)
  have tv_1 : v_1.toInt = c9.toInt - 1 := by rw [ev_1]; exact k_subv rfl zl_1 (by omega) (by omega)
  refine kJi (wr := [(k, .inr (11, [.ref k0, .ref k1, .ref k2, .int c3, .ref k4, .ref k5, .ref k6, .ref k7, .ref k8, .int c9, .ref ka, .ref kb, .int cc, .int cd, .int ce, .int cf, .int cg, .int ch, .int ci, .int cj, .int ck, .ref kl, .int cm, .int cn, .ref ko])), (k4, .inl (cI, 6, .inl c4)), (k8, .inl (cI, 40, .inl c8))]) (va_runS (As := [.int a0, .int 0, .int v_1]) (rest := []) ⟨hx, hb, hml, hown, hT⟩ (c_X11_inG l D cI aK aV s.heap.size a0 0 v_1) (cwS 3 hT (gS_in mw_1238 mw_1236 mw_1237 mw_12) rfl rfl rfl (by decide +kernel) ⟨Nat.le_of_ble_eq_true rfl, Nat.le_of_ble_eq_true rfl⟩) (kStatX hK hP hD hN hXS hS hA [] rfl (by decide)) rfl rfl hl.1 rfl (lv_room (Nat.le_of_ble_eq_true rfl)) dX11_trace_8 ⟨Nat.le_of_ble_eq_true rfl, Nat.le_of_ble_eq_true rfl⟩) hP hD hS hA [] [0, 1, 2] rfl rfl (by decide) (by decide) ?_
  clear hP hD hS
  intro r_2 u_4 H locs w_3 hP hD hS
  replace hP : va_P D vwCl [(k, .inr (11, [.ref k0, .ref k1, .ref k2, .int c3, .ref k4, .ref k5, .ref k6, .ref k7, .ref k8, .int c9, .ref ka, .ref kb, .int cc, .int cd, .int ce, .int cf, .int cg, .int ch, .int ci, .int cj, .int ck, .ref kl, .int cm, .int cn, .ref ko])), (k4, .inl (cI, 6, .inl c4)), (k8, .inl (cI, 40, .inl c8))] H := hP
  replace hD : va_D A [(k, .inr (11, [.ref k0, .ref k1, .ref k2, .int c3, .ref k4, .ref k5, .ref k6, .ref k7, .ref k8, .int c9, .ref ka, .ref kb, .int cc, .int cd, .int ce, .int cf, .int cg, .int ch, .int ci, .int cj, .int ck, .ref kl, .int cm, .int cn, .ref ko])), (k4, .inl (cI, 6, .inl c4)), (k8, .inl (cI, 40, .inl c8))] := hD
  rcases w_3 with ⟨hr_2, h_5, h_6⟩ | ⟨hr_2, h_7⟩
  · try simp only [zl_0] at h_5
    have h_5 : 0 ≤ a0.toInt := h_5
    try simp only [zl_0] at h_6
    have h_6 : a0.toInt ≤ v_1.toInt := h_6
    obtain rfl : r_2 = 1 := hr_2.trans (by decide)
    refine b_if_eq hx hb zl_1 (tgt := 23) dX11_trace_11 (by decide) (fun c_8 => by exfalso; omega) (fun c_8 => ?_)
    refine lv_aload_n hx hb dX11_trace_14 rfl (lv_at hl 0 rfl) ?_
    refine va_get (D := D) (ci := 11) (v := .ref k8) (C := RX11) (T := TX11) (N := 25) hx hb hT giX11 hown hK hP 0 rfl rfl 8 (by decide) (hT (Cond.fieldLink RX11 31 "DesertWireModel" "traced" "[I") mw_1164) (fun _ h9 => h9) rfl dX11_trace_15 ?_
    refine lv_iload_n hx hb dX11_trace_18 rfl (lv_at hl 1 rfl) ?_
    refine k_iald (v := (c8 a0.toNatClampNeg)) hx hb hK hP 2 0 rfl rfl (k_in (by omega) (by omega)) rfl dX11_trace_19 ?_
    refine lv_topi (fun v_9 ev_9 => ?_)
    have lo_v_9 := k_lo v_9
    have hi_v_9 := k_hi v_9
    have tv_9 : v_9.toInt = (c8 a0.toNatClampNeg).toInt := by rw [ev_9]
    refine lv_goto (tgt := 29) hx hb dX11_trace_20 (by decide) ?_
    exact hRet c4 [0, 1, 2] (Or.inl ⟨by omega, by omega, by rw [ev_9, k_clamp]⟩) hP hD (by decide) rfl hS rfl dX11_trace_29
  · try simp only [zl_0] at h_7
    have h_7 : a0.toInt < 0 ∨ v_1.toInt < a0.toInt := h_7
    obtain rfl : r_2 = 0 := hr_2.trans (by decide)
    refine b_if_eq hx hb zl_0 (tgt := 23) dX11_trace_11 (by decide) (fun c_10 => ?_) (fun c_10 => by exfalso; omega)
    refine lv_aload_n hx hb dX11_trace_23 rfl (lv_at hl 0 rfl) ?_
    refine lv_ldc (v := (-1000002)) hx hb hown (hT _ mw_1392) dX11_trace_24 ?_
    refine kJi (wr := [(k8, .inl (cI, 40, .inl c8))]) (va_runV (As := [.int (-1000002)]) (rest := []) ⟨hx, hb, hml, hown, hT⟩ (c_X11_findingG l D cI aK aV k k0 k1 k2 k4 k5 k6 k7 k8 ka kb kl ko H.size c3 c9 cc cd ce cf cg ch ci cj ck cm cn c4 (-1000002) (by first | omega | (simp only [zl_m1000002]; first | done | omega) | decide | assumption | rfl) (by first | omega | (simp only [zl_m1000002]; first | done | omega) | decide | assumption | rfl)) (cwV 1 hT (gV_in mw_1243 mw_1240 mw_1242 mw_p3_8 mw_12) rfl rfl rfl (by decide +kernel) ⟨Nat.le_of_ble_eq_true rfl, Nat.le_of_ble_eq_true rfl⟩) (kRecvX (q0 := 0) (ci := 11) hK hP hD hN hXS hS hA rfl rfl [0, 1] rfl (by decide)) rfl rfl hl.1 rfl (lv_room (Nat.le_of_ble_eq_true rfl)) dX11_trace_26 ⟨Nat.le_of_ble_eq_true rfl, Nat.le_of_ble_eq_true rfl⟩) hP hD hS hA [0, 1] [2] rfl rfl (by decide) (by decide) ?_
    clear hP hD hS
    intro r_11 sc4_13 H locs w_12 hP hD hS
    replace hP : va_P D vwCl [(k8, .inl (cI, 40, .inl c8)), (k, .inr (11, [.ref k0, .ref k1, .ref k2, .int c3, .ref k4, .ref k5, .ref k6, .ref k7, .ref k8, .int c9, .ref ka, .ref kb, .int cc, .int cd, .int ce, .int cf, .int cg, .int ch, .int ci, .int cj, .int ck, .ref kl, .int cm, .int cn, .ref ko])), (k4, .inl (cI, 6, .inl sc4_13))] H := hP
    replace hD : va_D A [(k8, .inl (cI, 40, .inl c8)), (k, .inr (11, [.ref k0, .ref k1, .ref k2, .int c3, .ref k4, .ref k5, .ref k6, .ref k7, .ref k8, .int c9, .ref ka, .ref kb, .int cc, .int cd, .int ce, .int cf, .int cg, .int ch, .int ci, .int cj, .int ck, .ref kl, .int cm, .int cn, .ref ko])), (k4, .inl (cI, 6, .inl sc4_13))] := hD
    have hr_11 := w_12
    obtain rfl : r_11 = (-1000002) := hr_11.trans (by decide)
    exact hRet sc4_13 [1, 2, 0] (Or.inr ⟨by omega, rfl⟩) hP hD (by decide) rfl hS rfl dX11_trace_29
theorem dX11_sheet_0 : decode cX11_sheet 0 = .ok (.iload_n 1, 1) := by decide +kernel
theorem dX11_sheet_1 : decode cX11_sheet 1 = .ok (.invokestatic 111, 3) := by decide +kernel
theorem dX11_sheet_4 : decode cX11_sheet 4 = .ok (.ifCond .eq 25, 3) := by decide +kernel
theorem dX11_sheet_7 : decode cX11_sheet 7 = .ok (.iload_n 2, 1) := by decide +kernel
theorem dX11_sheet_8 : decode cX11_sheet 8 = .ok (.ifCond .eq 28, 3) := by decide +kernel
theorem dX11_sheet_11 : decode cX11_sheet 11 = .ok (.iload_n 2, 1) := by decide +kernel
theorem dX11_sheet_12 : decode cX11_sheet 12 = .ok (.bipush 8, 2) := by decide +kernel
theorem dX11_sheet_14 : decode cX11_sheet 14 = .ok (.if_icmp .eq 22, 3) := by decide +kernel
theorem dX11_sheet_17 : decode cX11_sheet 17 = .ok (.iload_n 2, 1) := by decide +kernel
theorem dX11_sheet_18 : decode cX11_sheet 18 = .ok (.bipush 16, 2) := by decide +kernel
theorem dX11_sheet_20 : decode cX11_sheet 20 = .ok (.if_icmp .eq 16, 3) := by decide +kernel
theorem dX11_sheet_23 : decode cX11_sheet 23 = .ok (.iload_n 2, 1) := by decide +kernel
theorem dX11_sheet_24 : decode cX11_sheet 24 = .ok (.bipush 32, 2) := by decide +kernel
theorem dX11_sheet_26 : decode cX11_sheet 26 = .ok (.if_icmp .eq 10, 3) := by decide +kernel
theorem dX11_sheet_29 : decode cX11_sheet 29 = .ok (.aload_n 0, 1) := by decide +kernel
theorem dX11_sheet_30 : decode cX11_sheet 30 = .ok (.ldc 63, 2) := by decide +kernel
theorem dX11_sheet_32 : decode cX11_sheet 32 = .ok (.invokevirtual 64, 3) := by decide +kernel
theorem dX11_sheet_35 : decode cX11_sheet 35 = .ok (.ireturn, 1) := by decide +kernel
theorem dX11_sheet_36 : decode cX11_sheet 36 = .ok (.iload_n 2, 1) := by decide +kernel
theorem dX11_sheet_37 : decode cX11_sheet 37 = .ok (.ifCond .eq 14, 3) := by decide +kernel
theorem dX11_sheet_40 : decode cX11_sheet 40 = .ok (.iload_n 3, 1) := by decide +kernel
theorem dX11_sheet_41 : decode cX11_sheet 41 = .ok (.ifCond .ge 10, 3) := by decide +kernel
theorem dX11_sheet_44 : decode cX11_sheet 44 = .ok (.aload_n 0, 1) := by decide +kernel
theorem dX11_sheet_45 : decode cX11_sheet 45 = .ok (.ldc 94, 2) := by decide +kernel
theorem dX11_sheet_47 : decode cX11_sheet 47 = .ok (.invokevirtual 64, 3) := by decide +kernel
theorem dX11_sheet_50 : decode cX11_sheet 50 = .ok (.ireturn, 1) := by decide +kernel
theorem dX11_sheet_51 : decode cX11_sheet 51 = .ok (.iload_n 2, 1) := by decide +kernel
theorem dX11_sheet_52 : decode cX11_sheet 52 = .ok (.ifCond .eq 16, 3) := by decide +kernel
theorem dX11_sheet_55 : decode cX11_sheet 55 = .ok (.iload_n 3, 1) := by decide +kernel
theorem dX11_sheet_56 : decode cX11_sheet 56 = .ok (.bipush 36, 2) := by decide +kernel
theorem dX11_sheet_58 : decode cX11_sheet 58 = .ok (.if_icmp .le 10, 3) := by decide +kernel
theorem dX11_sheet_61 : decode cX11_sheet 61 = .ok (.aload_n 0, 1) := by decide +kernel
theorem dX11_sheet_62 : decode cX11_sheet 62 = .ok (.ldc 63, 2) := by decide +kernel
theorem dX11_sheet_64 : decode cX11_sheet 64 = .ok (.invokevirtual 64, 3) := by decide +kernel
theorem dX11_sheet_67 : decode cX11_sheet 67 = .ok (.ireturn, 1) := by decide +kernel
theorem dX11_sheet_68 : decode cX11_sheet 68 = .ok (.aload_n 0, 1) := by decide +kernel
theorem dX11_sheet_69 : decode cX11_sheet 69 = .ok (.getfield 22, 3) := by decide +kernel
theorem dX11_sheet_72 : decode cX11_sheet 72 = .ok (.iload_n 1, 1) := by decide +kernel
theorem dX11_sheet_73 : decode cX11_sheet 73 = .ok (.iload_n 2, 1) := by decide +kernel
theorem dX11_sheet_74 : decode cX11_sheet 74 = .ok (.iastore, 1) := by decide +kernel
theorem dX11_sheet_75 : decode cX11_sheet 75 = .ok (.aload_n 0, 1) := by decide +kernel
theorem dX11_sheet_76 : decode cX11_sheet 76 = .ok (.getfield 25, 3) := by decide +kernel
theorem dX11_sheet_79 : decode cX11_sheet 79 = .ok (.iload_n 1, 1) := by decide +kernel
theorem dX11_sheet_80 : decode cX11_sheet 80 = .ok (.iload_n 2, 1) := by decide +kernel
theorem dX11_sheet_81 : decode cX11_sheet 81 = .ok (.ifCond .ne 7, 3) := by decide +kernel
theorem dX11_sheet_84 : decode cX11_sheet 84 = .ok (.iconst 0, 1) := by decide +kernel
theorem dX11_sheet_85 : decode cX11_sheet 85 = .ok (.goto 4, 3) := by decide +kernel
theorem dX11_sheet_88 : decode cX11_sheet 88 = .ok (.iload_n 3, 1) := by decide +kernel
theorem dX11_sheet_89 : decode cX11_sheet 89 = .ok (.iastore, 1) := by decide +kernel
theorem dX11_sheet_90 : decode cX11_sheet 90 = .ok (.iconst 0, 1) := by decide +kernel
theorem dX11_sheet_91 : decode cX11_sheet 91 = .ok (.istore 4, 2) := by decide +kernel
theorem dX11_sheet_93 : decode cX11_sheet 93 = .ok (.iload 4, 2) := by decide +kernel
theorem dX11_sheet_95 : decode cX11_sheet 95 = .ok (.bipush 36, 2) := by decide +kernel
theorem dX11_sheet_97 : decode cX11_sheet 97 = .ok (.if_icmp .ge 22, 3) := by decide +kernel
theorem dX11_sheet_100 : decode cX11_sheet 100 = .ok (.aload_n 0, 1) := by decide +kernel
theorem dX11_sheet_101 : decode cX11_sheet 101 = .ok (.getfield 28, 3) := by decide +kernel
theorem dX11_sheet_104 : decode cX11_sheet 104 = .ok (.bipush 36, 2) := by decide +kernel
theorem dX11_sheet_106 : decode cX11_sheet 106 = .ok (.iload_n 1, 1) := by decide +kernel
theorem dX11_sheet_107 : decode cX11_sheet 107 = .ok (.imul, 1) := by decide +kernel
theorem dX11_sheet_108 : decode cX11_sheet 108 = .ok (.iload 4, 2) := by decide +kernel
theorem dX11_sheet_110 : decode cX11_sheet 110 = .ok (.iadd, 1) := by decide +kernel
theorem dX11_sheet_111 : decode cX11_sheet 111 = .ok (.iconst 0, 1) := by decide +kernel
theorem dX11_sheet_112 : decode cX11_sheet 112 = .ok (.iastore, 1) := by decide +kernel
theorem dX11_sheet_113 : decode cX11_sheet 113 = .ok (.iinc 4 1, 3) := by decide +kernel
theorem dX11_sheet_116 : decode cX11_sheet 116 = .ok (.goto (-23), 3) := by decide +kernel
theorem dX11_sheet_119 : decode cX11_sheet 119 = .ok (.iconst 1, 1) := by decide +kernel
theorem dX11_sheet_120 : decode cX11_sheet 120 = .ok (.ireturn, 1) := by decide +kernel
set_option maxHeartbeats 4000000 in
set_option maxRecDepth 100000 in
theorem c_X11_sheetG (l : Launch) (D : va_G) (cI : ClassId) (aK aV : Nat → Nat) (k k0 k1 k2 k4 k5 k6 k7 k8 ka kb kl ko : Nat) (sz : Nat) (c3 : Int32) (c9 : Int32) (cc : Int32) (cd : Int32) (ce : Int32) (cf : Int32) (cg : Int32) (ch : Int32) (ci : Int32) (cj : Int32) (ck : Int32) (cm : Int32) (cn : Int32) (c4 : Nat → Int32) (c5 : Nat → Int32) (c6 : Nat → Int32) (c7 : Nat → Int32) (a0 : Int32) (a1 : Int32) (a2 : Int32) (pre0 : ∀ k : Nat, k < 4 → 0 ≤ (c6 k).toInt ∧ (c6 k).toInt ≤ 36) : Met l yX11_sheet (gW yX11_sheet cX11_sheet 5 (some .int)) ({ frames := 2, cells := 0, slots := 0, locals := 42 } : Room) (kPreX D cI aK aV [.ref k, .int a0, .int a1, .int a2] [(k, .inr (11, [.ref k0, .ref k1, .ref k2, .int c3, .ref k4, .ref k5, .ref k6, .ref k7, .ref k8, .int c9, .ref ka, .ref kb, .int cc, .int cd, .int ce, .int cf, .int cg, .int ch, .int ci, .int cj, .int ck, .ref kl, .int cm, .int cn, .ref ko])), (k4, .inl (cI, 6, .inl c4)), (k5, .inl (cI, 4, .inl c5)), (k6, .inl (cI, 4, .inl c6)), (k7, .inl (cI, 144, .inl c7))] sz) (va_Qi (fun (r : Int32) (u : (Nat → Int32) × (Nat → Int32) × (Nat → Int32) × (Nat → Int32)) => r = sp_sheet a0 a1 a2 ∧ u.2.1 = shB c5 a0 a1 a2 a1 ∧ u.2.2.1 = shB c6 a0 a1 a2 (shD a1 a2) ∧ u.2.2.2 = shN c7 a0 a1 a2 ∧ (∀ k : Nat, k < 4 → 0 ≤ (u.2.2.1 k).toInt ∧ (u.2.2.1 k).toInt ≤ 36)) (fun u t => kWd D cI (va_A [(k, .inr (11, [.ref k0, .ref k1, .ref k2, .int c3, .ref k4, .ref k5, .ref k6, .ref k7, .ref k8, .int c9, .ref ka, .ref kb, .int cc, .int cd, .int ce, .int cf, .int cg, .int ch, .int ci, .int cj, .int ck, .ref kl, .int cm, .int cn, .ref ko])), (k4, .inl (cI, 6, .inl c4)), (k5, .inl (cI, 4, .inl c5)), (k6, .inl (cI, 4, .inl c6)), (k7, .inl (cI, 144, .inl c7))] sz) [(k, .inr (11, [.ref k0, .ref k1, .ref k2, .int c3, .ref k4, .ref k5, .ref k6, .ref k7, .ref k8, .int c9, .ref ka, .ref kb, .int cc, .int cd, .int ce, .int cf, .int cg, .int ch, .int ci, .int cj, .int ck, .ref kl, .int cm, .int cn, .ref ko])), (k4, .inl (cI, 6, .inl u.1)), (k5, .inl (cI, 4, .inl u.2.1)), (k6, .inl (cI, 4, .inl u.2.2.1)), (k7, .inl (cI, 144, .inl u.2.2.2))] t) (va_A [(k, .inr (11, [.ref k0, .ref k1, .ref k2, .int c3, .ref k4, .ref k5, .ref k6, .ref k7, .ref k8, .int c9, .ref ka, .ref kb, .int cc, .int cd, .int ce, .int cf, .int cg, .int ch, .int ci, .int cj, .int ck, .ref kl, .int cm, .int cn, .ref ko])), (k4, .inl (cI, 6, .inl c4)), (k5, .inl (cI, 4, .inl c5)), (k6, .inl (cI, 4, .inl c6)), (k7, .inl (cI, 144, .inl c7))] sz)) 0 0 (va_A [(k, .inr (11, [.ref k0, .ref k1, .ref k2, .int c3, .ref k4, .ref k5, .ref k6, .ref k7, .ref k8, .int c9, .ref ka, .ref kb, .int cc, .int cd, .int ce, .int cf, .int cg, .int ch, .int ci, .int cj, .int ck, .ref kl, .int cm, .int cn, .ref ko])), (k4, .inl (cI, 6, .inl c4)), (k5, .inl (cI, 4, .inl c5)), (k6, .inl (cI, 4, .inl c6)), (k7, .inl (cI, 144, .inl c7))] sz) := by
  refine kMetIX (own := RX11) (by decide) rfl (Nat.le_of_ble_eq_true rfl) ?_
  intro p e s m args below meth c hx hb hT hown hname hml A Q hK hP hD hS hA hN hXS hRet ls hl
  have hl : lv_has ls 5 [(0, .ref k), (1, .int a0), (2, .int a1), (3, .int a2)] := hl
  have lo_a0 := k_lo a0
  have hi_a0 := k_hi a0
  have lo_a1 := k_lo a1
  have hi_a1 := k_hi a1
  have lo_a2 := k_lo a2
  have hi_a2 := k_hi a2
  have lo_ci := k_lo ci
  have hi_ci := k_hi ci
  refine lv_iload_n hx hb dX11_sheet_0 rfl (lv_at hl 1 rfl) ?_
  refine kJi (wr := [(k, .inr (11, [.ref k0, .ref k1, .ref k2, .int c3, .ref k4, .ref k5, .ref k6, .ref k7, .ref k8, .int c9, .ref ka, .ref kb, .int cc, .int cd, .int ce, .int cf, .int cg, .int ch, .int ci, .int cj, .int ck, .ref kl, .int cm, .int cn, .ref ko])), (k4, .inl (cI, 6, .inl c4)), (k5, .inl (cI, 4, .inl c5)), (k6, .inl (cI, 4, .inl c6)), (k7, .inl (cI, 144, .inl c7))]) (va_runS (As := [.int a0]) (rest := []) ⟨hx, hb, hml, hown, hT⟩ (c_X11_isSheetG l D cI aK aV s.heap.size a0) (cwS 1 hT (gS_in mw_1391 mw_1389 mw_1390 mw_12) rfl rfl rfl (by decide +kernel) ⟨Nat.le_of_ble_eq_true rfl, Nat.le_of_ble_eq_true rfl⟩) (kStatX hK hP hD hN hXS hS hA [] rfl (by decide)) rfl rfl hl.1 rfl (lv_room (Nat.le_of_ble_eq_true rfl)) dX11_sheet_1 ⟨Nat.le_of_ble_eq_true rfl, Nat.le_of_ble_eq_true rfl⟩) hP hD hS hA [] [0, 1, 2, 3, 4] rfl rfl (by decide) (by decide) ?_
  clear hP hD hS
  intro r_1 u_3 H locs w_2 hP hD hS
  replace hP : va_P D vwCl [(k, .inr (11, [.ref k0, .ref k1, .ref k2, .int c3, .ref k4, .ref k5, .ref k6, .ref k7, .ref k8, .int c9, .ref ka, .ref kb, .int cc, .int cd, .int ce, .int cf, .int cg, .int ch, .int ci, .int cj, .int ck, .ref kl, .int cm, .int cn, .ref ko])), (k4, .inl (cI, 6, .inl c4)), (k5, .inl (cI, 4, .inl c5)), (k6, .inl (cI, 4, .inl c6)), (k7, .inl (cI, 144, .inl c7))] H := hP
  replace hD : va_D A [(k, .inr (11, [.ref k0, .ref k1, .ref k2, .int c3, .ref k4, .ref k5, .ref k6, .ref k7, .ref k8, .int c9, .ref ka, .ref kb, .int cc, .int cd, .int ce, .int cf, .int cg, .int ch, .int ci, .int cj, .int ck, .ref kl, .int cm, .int cn, .ref ko])), (k4, .inl (cI, 6, .inl c4)), (k5, .inl (cI, 4, .inl c5)), (k6, .inl (cI, 4, .inl c6)), (k7, .inl (cI, 144, .inl c7))] := hD
  rcases w_2 with ⟨hr_1, h_4, h_5⟩ | ⟨hr_1, h_6⟩
  · have h_4 : 0 ≤ a0.toInt := h_4
    have h_5 : a0.toInt ≤ 3 := h_5
    obtain rfl : r_1 = 1 := hr_1.trans (by decide)
    refine b_if_eq hx hb zl_1 (tgt := 29) dX11_sheet_4 (by decide) (fun c_7 => by exfalso; omega) (fun c_7 => ?_)
    refine lv_iload_n hx hb dX11_sheet_7 rfl (lv_at hl 2 rfl) ?_
    refine b_if_eq hx hb rfl (tgt := 36) dX11_sheet_8 (by decide) (fun c_8 => ?_) (fun c_8 => ?_)
    · refine lv_iload_n hx hb dX11_sheet_36 rfl (lv_at hl 2 rfl) ?_
      refine b_if_eq hx hb rfl (tgt := 51) dX11_sheet_37 (by decide) (fun c_9 => ?_) (fun c_9 => by exfalso; omega)
      refine lv_iload_n hx hb dX11_sheet_51 rfl (lv_at hl 2 rfl) ?_
      refine b_if_eq hx hb rfl (tgt := 68) dX11_sheet_52 (by decide) (fun c_10 => ?_) (fun c_10 => by exfalso; omega)
      refine lv_aload_n hx hb dX11_sheet_68 rfl (lv_at hl 0 rfl) ?_
      refine va_get (D := D) (ci := 11) (v := .ref k5) (C := RX11) (T := TX11) (N := 25) hx hb hT giX11 hown hK hP 0 rfl rfl 5 (by decide) (hT (Cond.fieldLink RX11 22 "DesertWireModel" "bits" "[I") mw_1161) (fun _ h9 => h9) rfl dX11_sheet_69 ?_
      refine lv_iload_n hx hb dX11_sheet_72 rfl (lv_at hl 1 rfl) ?_
      refine lv_iload_n hx hb dX11_sheet_73 rfl (lv_at hl 2 rfl) ?_
      refine va_iast hx hb hK hP hD hS 2 0 rfl rfl (k_in (by omega) (by omega)) dX11_sheet_74 ?_
      clear hP hD hS
      intro H locs hP hD hS
      replace hP : va_P D vwCl [(k, .inr (11, [.ref k0, .ref k1, .ref k2, .int c3, .ref k4, .ref k5, .ref k6, .ref k7, .ref k8, .int c9, .ref ka, .ref kb, .int cc, .int cd, .int ce, .int cf, .int cg, .int ch, .int ci, .int cj, .int ck, .ref kl, .int cm, .int cn, .ref ko])), (k4, .inl (cI, 6, .inl c4)), (k5, .inl (cI, 4, .inl (upd c5 a0.toNatClampNeg a1))), (k6, .inl (cI, 4, .inl c6)), (k7, .inl (cI, 144, .inl c7))] H := hP
      replace hD : va_D A [(k, .inr (11, [.ref k0, .ref k1, .ref k2, .int c3, .ref k4, .ref k5, .ref k6, .ref k7, .ref k8, .int c9, .ref ka, .ref kb, .int cc, .int cd, .int ce, .int cf, .int cg, .int ch, .int ci, .int cj, .int ck, .ref kl, .int cm, .int cn, .ref ko])), (k4, .inl (cI, 6, .inl c4)), (k5, .inl (cI, 4, .inl (upd c5 a0.toNatClampNeg a1))), (k6, .inl (cI, 4, .inl c6)), (k7, .inl (cI, 144, .inl c7))] := hD
      obtain ⟨f_11, ef_11⟩ : ∃ g : Nat → Int32, g = upd c5 a0.toNatClampNeg a1 := ⟨_, rfl⟩
      rw [← ef_11] at hP hD
      refine lv_aload_n hx hb dX11_sheet_75 rfl (lv_at hl 0 rfl) ?_
      refine va_get (D := D) (ci := 11) (v := .ref k6) (C := RX11) (T := TX11) (N := 25) hx hb hT giX11 hown hK hP 0 rfl rfl 6 (by decide) (hT (Cond.fieldLink RX11 25 "DesertWireModel" "size" "[I") mw_1162) (fun _ h9 => h9) rfl dX11_sheet_76 ?_
      refine lv_iload_n hx hb dX11_sheet_79 rfl (lv_at hl 1 rfl) ?_
      refine lv_iload_n hx hb dX11_sheet_80 rfl (lv_at hl 2 rfl) ?_
      refine b_if_ne hx hb rfl (tgt := 88) dX11_sheet_81 (by decide) (fun c_12 => by exfalso; omega) (fun c_12 => ?_)
      refine lv_iconst (v := 0) hx hb dX11_sheet_84 (by decide) ?_
      refine lv_goto (tgt := 89) hx hb dX11_sheet_85 (by decide) ?_
      refine va_iast hx hb hK hP hD hS 3 0 rfl rfl (k_in (by omega) (by omega)) dX11_sheet_89 ?_
      clear hP hD hS
      intro H locs hP hD hS
      replace hP : va_P D vwCl [(k, .inr (11, [.ref k0, .ref k1, .ref k2, .int c3, .ref k4, .ref k5, .ref k6, .ref k7, .ref k8, .int c9, .ref ka, .ref kb, .int cc, .int cd, .int ce, .int cf, .int cg, .int ch, .int ci, .int cj, .int ck, .ref kl, .int cm, .int cn, .ref ko])), (k4, .inl (cI, 6, .inl c4)), (k5, .inl (cI, 4, .inl f_11)), (k6, .inl (cI, 4, .inl (upd c6 a0.toNatClampNeg 0))), (k7, .inl (cI, 144, .inl c7))] H := hP
      replace hD : va_D A [(k, .inr (11, [.ref k0, .ref k1, .ref k2, .int c3, .ref k4, .ref k5, .ref k6, .ref k7, .ref k8, .int c9, .ref ka, .ref kb, .int cc, .int cd, .int ce, .int cf, .int cg, .int ch, .int ci, .int cj, .int ck, .ref kl, .int cm, .int cn, .ref ko])), (k4, .inl (cI, 6, .inl c4)), (k5, .inl (cI, 4, .inl f_11)), (k6, .inl (cI, 4, .inl (upd c6 a0.toNatClampNeg 0))), (k7, .inl (cI, 144, .inl c7))] := hD
      obtain ⟨f_13, ef_13⟩ : ∃ g : Nat → Int32, g = upd c6 a0.toNatClampNeg 0 := ⟨_, rfl⟩
      rw [← ef_13] at hP hD
      refine lv_iconst (v := 0) hx hb dX11_sheet_90 (by decide) ?_
      refine lv_istore (lv' := [(4, .int 0), (0, .ref k), (1, .int a0), (2, .int a1), (3, .int a2)]) hx hb dX11_sheet_91 hl (by decide) rfl ?_
      clear hl
      intro ls hl
      have hloop_93 : ∀ (fu_ : Nat) (l93_4 : Int32) (g93_k7 : Nat → Int32), 0 ≤ l93_4.toInt → l93_4.toInt ≤ 36 → g93_k7 = zr c7 (36 * a0.toInt.toNat) l93_4.toInt.toNat → (36 - l93_4.toInt).toNat < fu_ → ∀ (ls : Array Slot) (H : Heap) (locs : List Loc), lv_has ls 5 [(4, .int l93_4), (0, .ref k), (1, .int a0), (2, .int a1), (3, .int a2)] → va_P D vwCl [(k, .inr (11, [.ref k0, .ref k1, .ref k2, .int c3, .ref k4, .ref k5, .ref k6, .ref k7, .ref k8, .int c9, .ref ka, .ref kb, .int cc, .int cd, .int ce, .int cf, .int cg, .int ch, .int ci, .int cj, .int ck, .ref kl, .int cm, .int cn, .ref ko])), (k4, .inl (cI, 6, .inl c4)), (k5, .inl (cI, 4, .inl f_11)), (k6, .inl (cI, 4, .inl f_13)), (k7, .inl (cI, 144, .inl g93_k7))] H → va_D A [(k, .inr (11, [.ref k0, .ref k1, .ref k2, .int c3, .ref k4, .ref k5, .ref k6, .ref k7, .ref k8, .int c9, .ref ka, .ref kb, .int cc, .int cd, .int ce, .int cf, .int cg, .int ch, .int ci, .int cj, .int ck, .ref kl, .int cm, .int cn, .ref ko])), (k4, .inl (cI, 6, .inl c4)), (k5, .inl (cI, 4, .inl f_11)), (k6, .inl (cI, 4, .inl f_13)), (k7, .inl (cI, 144, .inl g93_k7))] → va_S A s.heap H locs → W p l e ({ frames := 2, cells := 0, slots := 0, locals := 42 } : Room) s m args below meth c H locs 0 0 Q (F0 m 93 ls []) := by
        intro fu_; induction fu_ with
        | zero => intro l93_4 g93_k7 i93_0 i93_1 i93_2 hm; exact absurd hm (by omega)
        | succ fu_ ih93 =>
            intro l93_4 g93_k7 i93_0 i93_1 i93_2 hm ls H locs hl hP hD hS
            have lo_l93_4 := k_lo l93_4
            have hi_l93_4 := k_hi l93_4
            have i93_2 : g93_k7 = zr c7 (36 * a0.toInt.toNat) l93_4.toInt.toNat := i93_2
            refine lv_iload hx hb dX11_sheet_93 (lv_at hl 0 rfl) ?_
            refine lv_bipush (v := 36) hx hb dX11_sheet_95 (by decide) ?_
            refine b_icmp_ge hx hb rfl zl_36 (tgt := 119) dX11_sheet_97 (by decide) (fun c_14 => ?_) (fun c_14 => ?_)
            · refine lv_iconst (v := 1) hx hb dX11_sheet_119 (by decide) ?_
              exact hRet (c4, f_11, f_13, g93_k7) [0, 1, 2, 3, 4] ⟨(by (try dsimp only); unfold sp_sheet; (repeat (first | rw [if_pos (by omega)] | rw [if_neg (by omega)]))), (by (try dsimp only); unfold shB; (repeat (first | rw [if_pos (by omega)] | rw [if_neg (by omega)])); first | done | exact ef_11), (by (try dsimp only); unfold shB; (repeat (first | rw [if_pos (by omega)] | rw [if_neg (by omega)])); rw [ef_13]; unfold shD; (repeat (first | rw [if_pos (by omega)] | rw [if_neg (by omega)]))), (by unfold shN; (repeat (first | rw [if_pos (by omega)] | rw [if_neg (by omega)])); rw [i93_2, show l93_4.toInt.toNat = 36 from by omega]), (k_PL pre0 ef_13 (by first | omega | (rw [zl_0]; omega)) (by first | omega | (rw [zl_0]; omega)))⟩ hP hD (by decide) rfl hS rfl dX11_sheet_120
            · refine lv_aload_n hx hb dX11_sheet_100 rfl (lv_at hl 1 rfl) ?_
              refine va_get (D := D) (ci := 11) (v := .ref k7) (C := RX11) (T := TX11) (N := 25) hx hb hT giX11 hown hK hP 0 rfl rfl 7 (by decide) (hT (Cond.fieldLink RX11 28 "DesertWireModel" "number" "[I") mw_1163) (fun _ h9 => h9) rfl dX11_sheet_101 ?_
              refine lv_bipush (v := 36) hx hb dX11_sheet_104 (by decide) ?_
              refine lv_iload_n hx hb dX11_sheet_106 rfl (lv_at hl 2 rfl) ?_
              refine lv_imul hx hb dX11_sheet_107 ?_
              refine lv_topi (fun v_15 ev_15 => ?_)
              have tv_15 : v_15.toInt = 36 * a0.toInt := by rw [ev_15]; exact k_mulv zl_36 rfl (by omega) (by omega)
              refine lv_iload hx hb dX11_sheet_108 (lv_at hl 0 rfl) ?_
              refine lv_iadd hx hb dX11_sheet_110 ?_
              refine lv_topi (fun v_16 ev_16 => ?_)
              have tv_16 : v_16.toInt = v_15.toInt + l93_4.toInt := by rw [ev_16]; exact k_addv rfl rfl (by omega) (by omega)
              refine lv_iconst (v := 0) hx hb dX11_sheet_111 (by decide) ?_
              refine va_iast hx hb hK hP hD hS 4 0 rfl rfl (k_in (by omega) (by omega)) dX11_sheet_112 ?_
              clear hP hD hS
              intro H locs hP hD hS
              replace hP : va_P D vwCl [(k, .inr (11, [.ref k0, .ref k1, .ref k2, .int c3, .ref k4, .ref k5, .ref k6, .ref k7, .ref k8, .int c9, .ref ka, .ref kb, .int cc, .int cd, .int ce, .int cf, .int cg, .int ch, .int ci, .int cj, .int ck, .ref kl, .int cm, .int cn, .ref ko])), (k4, .inl (cI, 6, .inl c4)), (k5, .inl (cI, 4, .inl f_11)), (k6, .inl (cI, 4, .inl f_13)), (k7, .inl (cI, 144, .inl (upd g93_k7 v_16.toNatClampNeg 0)))] H := hP
              replace hD : va_D A [(k, .inr (11, [.ref k0, .ref k1, .ref k2, .int c3, .ref k4, .ref k5, .ref k6, .ref k7, .ref k8, .int c9, .ref ka, .ref kb, .int cc, .int cd, .int ce, .int cf, .int cg, .int ch, .int ci, .int cj, .int ck, .ref kl, .int cm, .int cn, .ref ko])), (k4, .inl (cI, 6, .inl c4)), (k5, .inl (cI, 4, .inl f_11)), (k6, .inl (cI, 4, .inl f_13)), (k7, .inl (cI, 144, .inl (upd g93_k7 v_16.toNatClampNeg 0)))] := hD
              obtain ⟨f_17, ef_17⟩ : ∃ g : Nat → Int32, g = upd g93_k7 v_16.toNatClampNeg 0 := ⟨_, rfl⟩
              rw [← ef_17] at hP hD
              obtain ⟨v_18, ev_18⟩ : ∃ y : Int32, y = l93_4 + 1 := ⟨_, rfl⟩
              have tv_18 : v_18.toInt = l93_4.toInt + 1 := by rw [ev_18]; exact k_addv rfl zl_1 (by omega) (by omega)
              refine lv_iinc (v := v_18) (lv' := [(4, .int v_18), (0, .ref k), (1, .int a0), (2, .int a1), (3, .int a2)]) hx hb dX11_sheet_113 hl (k := 0) rfl (by rw [ev_18]; rfl) (by decide) rfl ?_
              clear hl
              intro ls hl
              refine lv_goto (tgt := 93) hx hb dX11_sheet_116 (by decide) ?_
              exact ih93 v_18 f_17 (by first | omega | decide | assumption | rfl) (by first | omega | decide | assumption | rfl) (zr_step i93_2 (by omega) (by omega) ef_17 (by omega) rfl) (by omega) ls _ _ (lv_sub hl [0, 1, 2, 3, 4] rfl) (hP.sub [0, 1, 2, 3, 4] rfl) (hD.sub [0, 1, 2, 3, 4] (by decide) rfl) hS
      exact hloop_93 _ 0 c7 (by first | omega | (simp only [zl_0]; first | done | omega) | decide | assumption | rfl) (by first | omega | (simp only [zl_0]; first | done | omega) | decide | assumption | rfl) (zr_0 zl_0) (Nat.lt_succ_self _) ls _ _ (lv_sub hl [0, 1, 2, 3, 4] rfl) hP hD hS
    · refine lv_iload_n hx hb dX11_sheet_11 rfl (lv_at hl 2 rfl) ?_
      refine lv_bipush (v := 8) hx hb dX11_sheet_12 (by decide) ?_
      refine b_icmp_eq hx hb rfl zl_8 (tgt := 36) dX11_sheet_14 (by decide) (fun c_19 => ?_) (fun c_19 => ?_)
      · refine lv_iload_n hx hb dX11_sheet_36 rfl (lv_at hl 2 rfl) ?_
        refine b_if_eq hx hb rfl (tgt := 51) dX11_sheet_37 (by decide) (fun c_20 => by exfalso; omega) (fun c_20 => ?_)
        refine lv_iload_n hx hb dX11_sheet_40 rfl (lv_at hl 3 rfl) ?_
        refine b_if_ge hx hb rfl (tgt := 51) dX11_sheet_41 (by decide) (fun c_21 => ?_) (fun c_21 => ?_)
        · refine lv_iload_n hx hb dX11_sheet_51 rfl (lv_at hl 2 rfl) ?_
          refine b_if_eq hx hb rfl (tgt := 68) dX11_sheet_52 (by decide) (fun c_22 => by exfalso; omega) (fun c_22 => ?_)
          refine lv_iload_n hx hb dX11_sheet_55 rfl (lv_at hl 3 rfl) ?_
          refine lv_bipush (v := 36) hx hb dX11_sheet_56 (by decide) ?_
          refine b_icmp_le hx hb rfl zl_36 (tgt := 68) dX11_sheet_58 (by decide) (fun c_23 => ?_) (fun c_23 => ?_)
          · refine lv_aload_n hx hb dX11_sheet_68 rfl (lv_at hl 0 rfl) ?_
            refine va_get (D := D) (ci := 11) (v := .ref k5) (C := RX11) (T := TX11) (N := 25) hx hb hT giX11 hown hK hP 0 rfl rfl 5 (by decide) (hT (Cond.fieldLink RX11 22 "DesertWireModel" "bits" "[I") mw_1161) (fun _ h9 => h9) rfl dX11_sheet_69 ?_
            refine lv_iload_n hx hb dX11_sheet_72 rfl (lv_at hl 1 rfl) ?_
            refine lv_iload_n hx hb dX11_sheet_73 rfl (lv_at hl 2 rfl) ?_
            refine va_iast hx hb hK hP hD hS 2 0 rfl rfl (k_in (by omega) (by omega)) dX11_sheet_74 ?_
            clear hP hD hS
            intro H locs hP hD hS
            replace hP : va_P D vwCl [(k, .inr (11, [.ref k0, .ref k1, .ref k2, .int c3, .ref k4, .ref k5, .ref k6, .ref k7, .ref k8, .int c9, .ref ka, .ref kb, .int cc, .int cd, .int ce, .int cf, .int cg, .int ch, .int ci, .int cj, .int ck, .ref kl, .int cm, .int cn, .ref ko])), (k4, .inl (cI, 6, .inl c4)), (k5, .inl (cI, 4, .inl (upd c5 a0.toNatClampNeg a1))), (k6, .inl (cI, 4, .inl c6)), (k7, .inl (cI, 144, .inl c7))] H := hP
            replace hD : va_D A [(k, .inr (11, [.ref k0, .ref k1, .ref k2, .int c3, .ref k4, .ref k5, .ref k6, .ref k7, .ref k8, .int c9, .ref ka, .ref kb, .int cc, .int cd, .int ce, .int cf, .int cg, .int ch, .int ci, .int cj, .int ck, .ref kl, .int cm, .int cn, .ref ko])), (k4, .inl (cI, 6, .inl c4)), (k5, .inl (cI, 4, .inl (upd c5 a0.toNatClampNeg a1))), (k6, .inl (cI, 4, .inl c6)), (k7, .inl (cI, 144, .inl c7))] := hD
            obtain ⟨f_24, ef_24⟩ : ∃ g : Nat → Int32, g = upd c5 a0.toNatClampNeg a1 := ⟨_, rfl⟩
            rw [← ef_24] at hP hD
            refine lv_aload_n hx hb dX11_sheet_75 rfl (lv_at hl 0 rfl) ?_
            refine va_get (D := D) (ci := 11) (v := .ref k6) (C := RX11) (T := TX11) (N := 25) hx hb hT giX11 hown hK hP 0 rfl rfl 6 (by decide) (hT (Cond.fieldLink RX11 25 "DesertWireModel" "size" "[I") mw_1162) (fun _ h9 => h9) rfl dX11_sheet_76 ?_
            refine lv_iload_n hx hb dX11_sheet_79 rfl (lv_at hl 1 rfl) ?_
            refine lv_iload_n hx hb dX11_sheet_80 rfl (lv_at hl 2 rfl) ?_
            refine b_if_ne hx hb rfl (tgt := 88) dX11_sheet_81 (by decide) (fun c_25 => ?_) (fun c_25 => by exfalso; omega)
            refine lv_iload_n hx hb dX11_sheet_88 rfl (lv_at hl 3 rfl) ?_
            refine va_iast hx hb hK hP hD hS 3 0 rfl rfl (k_in (by omega) (by omega)) dX11_sheet_89 ?_
            clear hP hD hS
            intro H locs hP hD hS
            replace hP : va_P D vwCl [(k, .inr (11, [.ref k0, .ref k1, .ref k2, .int c3, .ref k4, .ref k5, .ref k6, .ref k7, .ref k8, .int c9, .ref ka, .ref kb, .int cc, .int cd, .int ce, .int cf, .int cg, .int ch, .int ci, .int cj, .int ck, .ref kl, .int cm, .int cn, .ref ko])), (k4, .inl (cI, 6, .inl c4)), (k5, .inl (cI, 4, .inl f_24)), (k6, .inl (cI, 4, .inl (upd c6 a0.toNatClampNeg a2))), (k7, .inl (cI, 144, .inl c7))] H := hP
            replace hD : va_D A [(k, .inr (11, [.ref k0, .ref k1, .ref k2, .int c3, .ref k4, .ref k5, .ref k6, .ref k7, .ref k8, .int c9, .ref ka, .ref kb, .int cc, .int cd, .int ce, .int cf, .int cg, .int ch, .int ci, .int cj, .int ck, .ref kl, .int cm, .int cn, .ref ko])), (k4, .inl (cI, 6, .inl c4)), (k5, .inl (cI, 4, .inl f_24)), (k6, .inl (cI, 4, .inl (upd c6 a0.toNatClampNeg a2))), (k7, .inl (cI, 144, .inl c7))] := hD
            obtain ⟨f_26, ef_26⟩ : ∃ g : Nat → Int32, g = upd c6 a0.toNatClampNeg a2 := ⟨_, rfl⟩
            rw [← ef_26] at hP hD
            refine lv_iconst (v := 0) hx hb dX11_sheet_90 (by decide) ?_
            refine lv_istore (lv' := [(4, .int 0), (0, .ref k), (1, .int a0), (2, .int a1), (3, .int a2)]) hx hb dX11_sheet_91 hl (by decide) rfl ?_
            clear hl
            intro ls hl
            have hloop_93 : ∀ (fu_ : Nat) (l93_4 : Int32) (g93_k7 : Nat → Int32), 0 ≤ l93_4.toInt → l93_4.toInt ≤ 36 → g93_k7 = zr c7 (36 * a0.toInt.toNat) l93_4.toInt.toNat → (36 - l93_4.toInt).toNat < fu_ → ∀ (ls : Array Slot) (H : Heap) (locs : List Loc), lv_has ls 5 [(4, .int l93_4), (0, .ref k), (1, .int a0), (2, .int a1), (3, .int a2)] → va_P D vwCl [(k, .inr (11, [.ref k0, .ref k1, .ref k2, .int c3, .ref k4, .ref k5, .ref k6, .ref k7, .ref k8, .int c9, .ref ka, .ref kb, .int cc, .int cd, .int ce, .int cf, .int cg, .int ch, .int ci, .int cj, .int ck, .ref kl, .int cm, .int cn, .ref ko])), (k4, .inl (cI, 6, .inl c4)), (k5, .inl (cI, 4, .inl f_24)), (k6, .inl (cI, 4, .inl f_26)), (k7, .inl (cI, 144, .inl g93_k7))] H → va_D A [(k, .inr (11, [.ref k0, .ref k1, .ref k2, .int c3, .ref k4, .ref k5, .ref k6, .ref k7, .ref k8, .int c9, .ref ka, .ref kb, .int cc, .int cd, .int ce, .int cf, .int cg, .int ch, .int ci, .int cj, .int ck, .ref kl, .int cm, .int cn, .ref ko])), (k4, .inl (cI, 6, .inl c4)), (k5, .inl (cI, 4, .inl f_24)), (k6, .inl (cI, 4, .inl f_26)), (k7, .inl (cI, 144, .inl g93_k7))] → va_S A s.heap H locs → W p l e ({ frames := 2, cells := 0, slots := 0, locals := 42 } : Room) s m args below meth c H locs 0 0 Q (F0 m 93 ls []) := by
              intro fu_; induction fu_ with
              | zero => intro l93_4 g93_k7 i93_0 i93_1 i93_2 hm; exact absurd hm (by omega)
              | succ fu_ ih93 =>
                  intro l93_4 g93_k7 i93_0 i93_1 i93_2 hm ls H locs hl hP hD hS
                  have lo_l93_4 := k_lo l93_4
                  have hi_l93_4 := k_hi l93_4
                  have i93_2 : g93_k7 = zr c7 (36 * a0.toInt.toNat) l93_4.toInt.toNat := i93_2
                  refine lv_iload hx hb dX11_sheet_93 (lv_at hl 0 rfl) ?_
                  refine lv_bipush (v := 36) hx hb dX11_sheet_95 (by decide) ?_
                  refine b_icmp_ge hx hb rfl zl_36 (tgt := 119) dX11_sheet_97 (by decide) (fun c_27 => ?_) (fun c_27 => ?_)
                  · refine lv_iconst (v := 1) hx hb dX11_sheet_119 (by decide) ?_
                    exact hRet (c4, f_24, f_26, g93_k7) [0, 1, 2, 3, 4] ⟨(by (try dsimp only); unfold sp_sheet; (repeat (first | rw [if_pos (by omega)] | rw [if_neg (by omega)]))), (by (try dsimp only); unfold shB; (repeat (first | rw [if_pos (by omega)] | rw [if_neg (by omega)])); first | done | exact ef_24), (by (try dsimp only); unfold shB; (repeat (first | rw [if_pos (by omega)] | rw [if_neg (by omega)])); rw [ef_26]; unfold shD; (repeat (first | rw [if_pos (by omega)] | rw [if_neg (by omega)]))), (by unfold shN; (repeat (first | rw [if_pos (by omega)] | rw [if_neg (by omega)])); rw [i93_2, show l93_4.toInt.toNat = 36 from by omega]), (k_PL pre0 ef_26 (by first | omega | (rw [zl_0]; omega)) (by first | omega | (rw [zl_0]; omega)))⟩ hP hD (by decide) rfl hS rfl dX11_sheet_120
                  · refine lv_aload_n hx hb dX11_sheet_100 rfl (lv_at hl 1 rfl) ?_
                    refine va_get (D := D) (ci := 11) (v := .ref k7) (C := RX11) (T := TX11) (N := 25) hx hb hT giX11 hown hK hP 0 rfl rfl 7 (by decide) (hT (Cond.fieldLink RX11 28 "DesertWireModel" "number" "[I") mw_1163) (fun _ h9 => h9) rfl dX11_sheet_101 ?_
                    refine lv_bipush (v := 36) hx hb dX11_sheet_104 (by decide) ?_
                    refine lv_iload_n hx hb dX11_sheet_106 rfl (lv_at hl 2 rfl) ?_
                    refine lv_imul hx hb dX11_sheet_107 ?_
                    refine lv_topi (fun v_28 ev_28 => ?_)
                    have tv_28 : v_28.toInt = 36 * a0.toInt := by rw [ev_28]; exact k_mulv zl_36 rfl (by omega) (by omega)
                    refine lv_iload hx hb dX11_sheet_108 (lv_at hl 0 rfl) ?_
                    refine lv_iadd hx hb dX11_sheet_110 ?_
                    refine lv_topi (fun v_29 ev_29 => ?_)
                    have tv_29 : v_29.toInt = v_28.toInt + l93_4.toInt := by rw [ev_29]; exact k_addv rfl rfl (by omega) (by omega)
                    refine lv_iconst (v := 0) hx hb dX11_sheet_111 (by decide) ?_
                    refine va_iast hx hb hK hP hD hS 4 0 rfl rfl (k_in (by omega) (by omega)) dX11_sheet_112 ?_
                    clear hP hD hS
                    intro H locs hP hD hS
                    replace hP : va_P D vwCl [(k, .inr (11, [.ref k0, .ref k1, .ref k2, .int c3, .ref k4, .ref k5, .ref k6, .ref k7, .ref k8, .int c9, .ref ka, .ref kb, .int cc, .int cd, .int ce, .int cf, .int cg, .int ch, .int ci, .int cj, .int ck, .ref kl, .int cm, .int cn, .ref ko])), (k4, .inl (cI, 6, .inl c4)), (k5, .inl (cI, 4, .inl f_24)), (k6, .inl (cI, 4, .inl f_26)), (k7, .inl (cI, 144, .inl (upd g93_k7 v_29.toNatClampNeg 0)))] H := hP
                    replace hD : va_D A [(k, .inr (11, [.ref k0, .ref k1, .ref k2, .int c3, .ref k4, .ref k5, .ref k6, .ref k7, .ref k8, .int c9, .ref ka, .ref kb, .int cc, .int cd, .int ce, .int cf, .int cg, .int ch, .int ci, .int cj, .int ck, .ref kl, .int cm, .int cn, .ref ko])), (k4, .inl (cI, 6, .inl c4)), (k5, .inl (cI, 4, .inl f_24)), (k6, .inl (cI, 4, .inl f_26)), (k7, .inl (cI, 144, .inl (upd g93_k7 v_29.toNatClampNeg 0)))] := hD
                    obtain ⟨f_30, ef_30⟩ : ∃ g : Nat → Int32, g = upd g93_k7 v_29.toNatClampNeg 0 := ⟨_, rfl⟩
                    rw [← ef_30] at hP hD
                    obtain ⟨v_31, ev_31⟩ : ∃ y : Int32, y = l93_4 + 1 := ⟨_, rfl⟩
                    have tv_31 : v_31.toInt = l93_4.toInt + 1 := by rw [ev_31]; exact k_addv rfl zl_1 (by omega) (by omega)
                    refine lv_iinc (v := v_31) (lv' := [(4, .int v_31), (0, .ref k), (1, .int a0), (2, .int a1), (3, .int a2)]) hx hb dX11_sheet_113 hl (k := 0) rfl (by rw [ev_31]; rfl) (by decide) rfl ?_
                    clear hl
                    intro ls hl
                    refine lv_goto (tgt := 93) hx hb dX11_sheet_116 (by decide) ?_
                    exact ih93 v_31 f_30 (by first | omega | decide | assumption | rfl) (by first | omega | decide | assumption | rfl) (zr_step i93_2 (by omega) (by omega) ef_30 (by omega) rfl) (by omega) ls _ _ (lv_sub hl [0, 1, 2, 3, 4] rfl) (hP.sub [0, 1, 2, 3, 4] rfl) (hD.sub [0, 1, 2, 3, 4] (by decide) rfl) hS
            exact hloop_93 _ 0 c7 (by first | omega | (simp only [zl_0]; first | done | omega) | decide | assumption | rfl) (by first | omega | (simp only [zl_0]; first | done | omega) | decide | assumption | rfl) (zr_0 zl_0) (Nat.lt_succ_self _) ls _ _ (lv_sub hl [0, 1, 2, 3, 4] rfl) hP hD hS
          · refine lv_aload_n hx hb dX11_sheet_61 rfl (lv_at hl 0 rfl) ?_
            refine lv_ldc (v := (-1000001)) hx hb hown (hT _ mw_1239) dX11_sheet_62 ?_
            refine kJi (wr := [(k5, .inl (cI, 4, .inl c5)), (k6, .inl (cI, 4, .inl c6)), (k7, .inl (cI, 144, .inl c7))]) (va_runV (As := [.int (-1000001)]) (rest := []) ⟨hx, hb, hml, hown, hT⟩ (c_X11_findingG l D cI aK aV k k0 k1 k2 k4 k5 k6 k7 k8 ka kb kl ko H.size c3 c9 cc cd ce cf cg ch ci cj ck cm cn c4 (-1000001) (by first | omega | (simp only [zl_m1000001]; first | done | omega) | decide | assumption | rfl) (by first | omega | (simp only [zl_m1000001]; first | done | omega) | decide | assumption | rfl)) (cwV 1 hT (gV_in mw_1243 mw_1240 mw_1242 mw_p3_8 mw_12) rfl rfl rfl (by decide +kernel) ⟨Nat.le_of_ble_eq_true rfl, Nat.le_of_ble_eq_true rfl⟩) (kRecvX (q0 := 0) (ci := 11) hK hP hD hN hXS hS hA rfl rfl [0, 1] rfl (by decide)) rfl rfl hl.1 rfl (lv_room (Nat.le_of_ble_eq_true rfl)) dX11_sheet_64 ⟨Nat.le_of_ble_eq_true rfl, Nat.le_of_ble_eq_true rfl⟩) hP hD hS hA [0, 1] [2, 3, 4] rfl rfl (by decide) (by decide) ?_
            clear hP hD hS
            intro r_32 sc4_34 H locs w_33 hP hD hS
            replace hP : va_P D vwCl [(k5, .inl (cI, 4, .inl c5)), (k6, .inl (cI, 4, .inl c6)), (k7, .inl (cI, 144, .inl c7)), (k, .inr (11, [.ref k0, .ref k1, .ref k2, .int c3, .ref k4, .ref k5, .ref k6, .ref k7, .ref k8, .int c9, .ref ka, .ref kb, .int cc, .int cd, .int ce, .int cf, .int cg, .int ch, .int ci, .int cj, .int ck, .ref kl, .int cm, .int cn, .ref ko])), (k4, .inl (cI, 6, .inl sc4_34))] H := hP
            replace hD : va_D A [(k5, .inl (cI, 4, .inl c5)), (k6, .inl (cI, 4, .inl c6)), (k7, .inl (cI, 144, .inl c7)), (k, .inr (11, [.ref k0, .ref k1, .ref k2, .int c3, .ref k4, .ref k5, .ref k6, .ref k7, .ref k8, .int c9, .ref ka, .ref kb, .int cc, .int cd, .int ce, .int cf, .int cg, .int ch, .int ci, .int cj, .int ck, .ref kl, .int cm, .int cn, .ref ko])), (k4, .inl (cI, 6, .inl sc4_34))] := hD
            have hr_32 := w_33
            obtain rfl : r_32 = (-1000001) := hr_32.trans (by decide)
            exact hRet (sc4_34, c5, c6, c7) [3, 4, 0, 1, 2] ⟨(by (try dsimp only); unfold sp_sheet; (repeat (first | rw [if_pos (by omega)] | rw [if_neg (by omega)]))), (by (try dsimp only); unfold shB; (repeat (first | rw [if_pos (by omega)] | rw [if_neg (by omega)]))), (by (try dsimp only); unfold shB; (repeat (first | rw [if_pos (by omega)] | rw [if_neg (by omega)]))), (by (try dsimp only); unfold shN; (repeat (first | rw [if_pos (by omega)] | rw [if_neg (by omega)]))), pre0⟩ hP hD (by decide) rfl hS rfl dX11_sheet_67
        · refine lv_aload_n hx hb dX11_sheet_44 rfl (lv_at hl 0 rfl) ?_
          refine lv_ldc (v := (-1000003)) hx hb hown (hT _ mw_1356) dX11_sheet_45 ?_
          refine kJi (wr := [(k5, .inl (cI, 4, .inl c5)), (k6, .inl (cI, 4, .inl c6)), (k7, .inl (cI, 144, .inl c7))]) (va_runV (As := [.int (-1000003)]) (rest := []) ⟨hx, hb, hml, hown, hT⟩ (c_X11_findingG l D cI aK aV k k0 k1 k2 k4 k5 k6 k7 k8 ka kb kl ko H.size c3 c9 cc cd ce cf cg ch ci cj ck cm cn c4 (-1000003) (by first | omega | (simp only [zl_m1000003]; first | done | omega) | decide | assumption | rfl) (by first | omega | (simp only [zl_m1000003]; first | done | omega) | decide | assumption | rfl)) (cwV 1 hT (gV_in mw_1243 mw_1240 mw_1242 mw_p3_8 mw_12) rfl rfl rfl (by decide +kernel) ⟨Nat.le_of_ble_eq_true rfl, Nat.le_of_ble_eq_true rfl⟩) (kRecvX (q0 := 0) (ci := 11) hK hP hD hN hXS hS hA rfl rfl [0, 1] rfl (by decide)) rfl rfl hl.1 rfl (lv_room (Nat.le_of_ble_eq_true rfl)) dX11_sheet_47 ⟨Nat.le_of_ble_eq_true rfl, Nat.le_of_ble_eq_true rfl⟩) hP hD hS hA [0, 1] [2, 3, 4] rfl rfl (by decide) (by decide) ?_
          clear hP hD hS
          intro r_35 sc4_37 H locs w_36 hP hD hS
          replace hP : va_P D vwCl [(k5, .inl (cI, 4, .inl c5)), (k6, .inl (cI, 4, .inl c6)), (k7, .inl (cI, 144, .inl c7)), (k, .inr (11, [.ref k0, .ref k1, .ref k2, .int c3, .ref k4, .ref k5, .ref k6, .ref k7, .ref k8, .int c9, .ref ka, .ref kb, .int cc, .int cd, .int ce, .int cf, .int cg, .int ch, .int ci, .int cj, .int ck, .ref kl, .int cm, .int cn, .ref ko])), (k4, .inl (cI, 6, .inl sc4_37))] H := hP
          replace hD : va_D A [(k5, .inl (cI, 4, .inl c5)), (k6, .inl (cI, 4, .inl c6)), (k7, .inl (cI, 144, .inl c7)), (k, .inr (11, [.ref k0, .ref k1, .ref k2, .int c3, .ref k4, .ref k5, .ref k6, .ref k7, .ref k8, .int c9, .ref ka, .ref kb, .int cc, .int cd, .int ce, .int cf, .int cg, .int ch, .int ci, .int cj, .int ck, .ref kl, .int cm, .int cn, .ref ko])), (k4, .inl (cI, 6, .inl sc4_37))] := hD
          have hr_35 := w_36
          obtain rfl : r_35 = (-1000003) := hr_35.trans (by decide)
          exact hRet (sc4_37, c5, c6, c7) [3, 4, 0, 1, 2] ⟨(by (try dsimp only); unfold sp_sheet; (repeat (first | rw [if_pos (by omega)] | rw [if_neg (by omega)]))), (by (try dsimp only); unfold shB; (repeat (first | rw [if_pos (by omega)] | rw [if_neg (by omega)]))), (by (try dsimp only); unfold shB; (repeat (first | rw [if_pos (by omega)] | rw [if_neg (by omega)]))), (by (try dsimp only); unfold shN; (repeat (first | rw [if_pos (by omega)] | rw [if_neg (by omega)]))), pre0⟩ hP hD (by decide) rfl hS rfl dX11_sheet_50
      · refine lv_iload_n hx hb dX11_sheet_17 rfl (lv_at hl 2 rfl) ?_
        refine lv_bipush (v := 16) hx hb dX11_sheet_18 (by decide) ?_
        refine b_icmp_eq hx hb rfl zl_16 (tgt := 36) dX11_sheet_20 (by decide) (fun c_38 => ?_) (fun c_38 => ?_)
        · refine lv_iload_n hx hb dX11_sheet_36 rfl (lv_at hl 2 rfl) ?_
          refine b_if_eq hx hb rfl (tgt := 51) dX11_sheet_37 (by decide) (fun c_39 => by exfalso; omega) (fun c_39 => ?_)
          refine lv_iload_n hx hb dX11_sheet_40 rfl (lv_at hl 3 rfl) ?_
          refine b_if_ge hx hb rfl (tgt := 51) dX11_sheet_41 (by decide) (fun c_40 => ?_) (fun c_40 => ?_)
          · refine lv_iload_n hx hb dX11_sheet_51 rfl (lv_at hl 2 rfl) ?_
            refine b_if_eq hx hb rfl (tgt := 68) dX11_sheet_52 (by decide) (fun c_41 => by exfalso; omega) (fun c_41 => ?_)
            refine lv_iload_n hx hb dX11_sheet_55 rfl (lv_at hl 3 rfl) ?_
            refine lv_bipush (v := 36) hx hb dX11_sheet_56 (by decide) ?_
            refine b_icmp_le hx hb rfl zl_36 (tgt := 68) dX11_sheet_58 (by decide) (fun c_42 => ?_) (fun c_42 => ?_)
            · refine lv_aload_n hx hb dX11_sheet_68 rfl (lv_at hl 0 rfl) ?_
              refine va_get (D := D) (ci := 11) (v := .ref k5) (C := RX11) (T := TX11) (N := 25) hx hb hT giX11 hown hK hP 0 rfl rfl 5 (by decide) (hT (Cond.fieldLink RX11 22 "DesertWireModel" "bits" "[I") mw_1161) (fun _ h9 => h9) rfl dX11_sheet_69 ?_
              refine lv_iload_n hx hb dX11_sheet_72 rfl (lv_at hl 1 rfl) ?_
              refine lv_iload_n hx hb dX11_sheet_73 rfl (lv_at hl 2 rfl) ?_
              refine va_iast hx hb hK hP hD hS 2 0 rfl rfl (k_in (by omega) (by omega)) dX11_sheet_74 ?_
              clear hP hD hS
              intro H locs hP hD hS
              replace hP : va_P D vwCl [(k, .inr (11, [.ref k0, .ref k1, .ref k2, .int c3, .ref k4, .ref k5, .ref k6, .ref k7, .ref k8, .int c9, .ref ka, .ref kb, .int cc, .int cd, .int ce, .int cf, .int cg, .int ch, .int ci, .int cj, .int ck, .ref kl, .int cm, .int cn, .ref ko])), (k4, .inl (cI, 6, .inl c4)), (k5, .inl (cI, 4, .inl (upd c5 a0.toNatClampNeg a1))), (k6, .inl (cI, 4, .inl c6)), (k7, .inl (cI, 144, .inl c7))] H := hP
              replace hD : va_D A [(k, .inr (11, [.ref k0, .ref k1, .ref k2, .int c3, .ref k4, .ref k5, .ref k6, .ref k7, .ref k8, .int c9, .ref ka, .ref kb, .int cc, .int cd, .int ce, .int cf, .int cg, .int ch, .int ci, .int cj, .int ck, .ref kl, .int cm, .int cn, .ref ko])), (k4, .inl (cI, 6, .inl c4)), (k5, .inl (cI, 4, .inl (upd c5 a0.toNatClampNeg a1))), (k6, .inl (cI, 4, .inl c6)), (k7, .inl (cI, 144, .inl c7))] := hD
              obtain ⟨f_43, ef_43⟩ : ∃ g : Nat → Int32, g = upd c5 a0.toNatClampNeg a1 := ⟨_, rfl⟩
              rw [← ef_43] at hP hD
              refine lv_aload_n hx hb dX11_sheet_75 rfl (lv_at hl 0 rfl) ?_
              refine va_get (D := D) (ci := 11) (v := .ref k6) (C := RX11) (T := TX11) (N := 25) hx hb hT giX11 hown hK hP 0 rfl rfl 6 (by decide) (hT (Cond.fieldLink RX11 25 "DesertWireModel" "size" "[I") mw_1162) (fun _ h9 => h9) rfl dX11_sheet_76 ?_
              refine lv_iload_n hx hb dX11_sheet_79 rfl (lv_at hl 1 rfl) ?_
              refine lv_iload_n hx hb dX11_sheet_80 rfl (lv_at hl 2 rfl) ?_
              refine b_if_ne hx hb rfl (tgt := 88) dX11_sheet_81 (by decide) (fun c_44 => ?_) (fun c_44 => by exfalso; omega)
              refine lv_iload_n hx hb dX11_sheet_88 rfl (lv_at hl 3 rfl) ?_
              refine va_iast hx hb hK hP hD hS 3 0 rfl rfl (k_in (by omega) (by omega)) dX11_sheet_89 ?_
              clear hP hD hS
              intro H locs hP hD hS
              replace hP : va_P D vwCl [(k, .inr (11, [.ref k0, .ref k1, .ref k2, .int c3, .ref k4, .ref k5, .ref k6, .ref k7, .ref k8, .int c9, .ref ka, .ref kb, .int cc, .int cd, .int ce, .int cf, .int cg, .int ch, .int ci, .int cj, .int ck, .ref kl, .int cm, .int cn, .ref ko])), (k4, .inl (cI, 6, .inl c4)), (k5, .inl (cI, 4, .inl f_43)), (k6, .inl (cI, 4, .inl (upd c6 a0.toNatClampNeg a2))), (k7, .inl (cI, 144, .inl c7))] H := hP
              replace hD : va_D A [(k, .inr (11, [.ref k0, .ref k1, .ref k2, .int c3, .ref k4, .ref k5, .ref k6, .ref k7, .ref k8, .int c9, .ref ka, .ref kb, .int cc, .int cd, .int ce, .int cf, .int cg, .int ch, .int ci, .int cj, .int ck, .ref kl, .int cm, .int cn, .ref ko])), (k4, .inl (cI, 6, .inl c4)), (k5, .inl (cI, 4, .inl f_43)), (k6, .inl (cI, 4, .inl (upd c6 a0.toNatClampNeg a2))), (k7, .inl (cI, 144, .inl c7))] := hD
              obtain ⟨f_45, ef_45⟩ : ∃ g : Nat → Int32, g = upd c6 a0.toNatClampNeg a2 := ⟨_, rfl⟩
              rw [← ef_45] at hP hD
              refine lv_iconst (v := 0) hx hb dX11_sheet_90 (by decide) ?_
              refine lv_istore (lv' := [(4, .int 0), (0, .ref k), (1, .int a0), (2, .int a1), (3, .int a2)]) hx hb dX11_sheet_91 hl (by decide) rfl ?_
              clear hl
              intro ls hl
              have hloop_93 : ∀ (fu_ : Nat) (l93_4 : Int32) (g93_k7 : Nat → Int32), 0 ≤ l93_4.toInt → l93_4.toInt ≤ 36 → g93_k7 = zr c7 (36 * a0.toInt.toNat) l93_4.toInt.toNat → (36 - l93_4.toInt).toNat < fu_ → ∀ (ls : Array Slot) (H : Heap) (locs : List Loc), lv_has ls 5 [(4, .int l93_4), (0, .ref k), (1, .int a0), (2, .int a1), (3, .int a2)] → va_P D vwCl [(k, .inr (11, [.ref k0, .ref k1, .ref k2, .int c3, .ref k4, .ref k5, .ref k6, .ref k7, .ref k8, .int c9, .ref ka, .ref kb, .int cc, .int cd, .int ce, .int cf, .int cg, .int ch, .int ci, .int cj, .int ck, .ref kl, .int cm, .int cn, .ref ko])), (k4, .inl (cI, 6, .inl c4)), (k5, .inl (cI, 4, .inl f_43)), (k6, .inl (cI, 4, .inl f_45)), (k7, .inl (cI, 144, .inl g93_k7))] H → va_D A [(k, .inr (11, [.ref k0, .ref k1, .ref k2, .int c3, .ref k4, .ref k5, .ref k6, .ref k7, .ref k8, .int c9, .ref ka, .ref kb, .int cc, .int cd, .int ce, .int cf, .int cg, .int ch, .int ci, .int cj, .int ck, .ref kl, .int cm, .int cn, .ref ko])), (k4, .inl (cI, 6, .inl c4)), (k5, .inl (cI, 4, .inl f_43)), (k6, .inl (cI, 4, .inl f_45)), (k7, .inl (cI, 144, .inl g93_k7))] → va_S A s.heap H locs → W p l e ({ frames := 2, cells := 0, slots := 0, locals := 42 } : Room) s m args below meth c H locs 0 0 Q (F0 m 93 ls []) := by
                intro fu_; induction fu_ with
                | zero => intro l93_4 g93_k7 i93_0 i93_1 i93_2 hm; exact absurd hm (by omega)
                | succ fu_ ih93 =>
                    intro l93_4 g93_k7 i93_0 i93_1 i93_2 hm ls H locs hl hP hD hS
                    have lo_l93_4 := k_lo l93_4
                    have hi_l93_4 := k_hi l93_4
                    have i93_2 : g93_k7 = zr c7 (36 * a0.toInt.toNat) l93_4.toInt.toNat := i93_2
                    refine lv_iload hx hb dX11_sheet_93 (lv_at hl 0 rfl) ?_
                    refine lv_bipush (v := 36) hx hb dX11_sheet_95 (by decide) ?_
                    refine b_icmp_ge hx hb rfl zl_36 (tgt := 119) dX11_sheet_97 (by decide) (fun c_46 => ?_) (fun c_46 => ?_)
                    · refine lv_iconst (v := 1) hx hb dX11_sheet_119 (by decide) ?_
                      exact hRet (c4, f_43, f_45, g93_k7) [0, 1, 2, 3, 4] ⟨(by (try dsimp only); unfold sp_sheet; (repeat (first | rw [if_pos (by omega)] | rw [if_neg (by omega)]))), (by (try dsimp only); unfold shB; (repeat (first | rw [if_pos (by omega)] | rw [if_neg (by omega)])); first | done | exact ef_43), (by (try dsimp only); unfold shB; (repeat (first | rw [if_pos (by omega)] | rw [if_neg (by omega)])); rw [ef_45]; unfold shD; (repeat (first | rw [if_pos (by omega)] | rw [if_neg (by omega)]))), (by unfold shN; (repeat (first | rw [if_pos (by omega)] | rw [if_neg (by omega)])); rw [i93_2, show l93_4.toInt.toNat = 36 from by omega]), (k_PL pre0 ef_45 (by first | omega | (rw [zl_0]; omega)) (by first | omega | (rw [zl_0]; omega)))⟩ hP hD (by decide) rfl hS rfl dX11_sheet_120
                    · refine lv_aload_n hx hb dX11_sheet_100 rfl (lv_at hl 1 rfl) ?_
                      refine va_get (D := D) (ci := 11) (v := .ref k7) (C := RX11) (T := TX11) (N := 25) hx hb hT giX11 hown hK hP 0 rfl rfl 7 (by decide) (hT (Cond.fieldLink RX11 28 "DesertWireModel" "number" "[I") mw_1163) (fun _ h9 => h9) rfl dX11_sheet_101 ?_
                      refine lv_bipush (v := 36) hx hb dX11_sheet_104 (by decide) ?_
                      refine lv_iload_n hx hb dX11_sheet_106 rfl (lv_at hl 2 rfl) ?_
                      refine lv_imul hx hb dX11_sheet_107 ?_
                      refine lv_topi (fun v_47 ev_47 => ?_)
                      have tv_47 : v_47.toInt = 36 * a0.toInt := by rw [ev_47]; exact k_mulv zl_36 rfl (by omega) (by omega)
                      refine lv_iload hx hb dX11_sheet_108 (lv_at hl 0 rfl) ?_
                      refine lv_iadd hx hb dX11_sheet_110 ?_
                      refine lv_topi (fun v_48 ev_48 => ?_)
                      have tv_48 : v_48.toInt = v_47.toInt + l93_4.toInt := by rw [ev_48]; exact k_addv rfl rfl (by omega) (by omega)
                      refine lv_iconst (v := 0) hx hb dX11_sheet_111 (by decide) ?_
                      refine va_iast hx hb hK hP hD hS 4 0 rfl rfl (k_in (by omega) (by omega)) dX11_sheet_112 ?_
                      clear hP hD hS
                      intro H locs hP hD hS
                      replace hP : va_P D vwCl [(k, .inr (11, [.ref k0, .ref k1, .ref k2, .int c3, .ref k4, .ref k5, .ref k6, .ref k7, .ref k8, .int c9, .ref ka, .ref kb, .int cc, .int cd, .int ce, .int cf, .int cg, .int ch, .int ci, .int cj, .int ck, .ref kl, .int cm, .int cn, .ref ko])), (k4, .inl (cI, 6, .inl c4)), (k5, .inl (cI, 4, .inl f_43)), (k6, .inl (cI, 4, .inl f_45)), (k7, .inl (cI, 144, .inl (upd g93_k7 v_48.toNatClampNeg 0)))] H := hP
                      replace hD : va_D A [(k, .inr (11, [.ref k0, .ref k1, .ref k2, .int c3, .ref k4, .ref k5, .ref k6, .ref k7, .ref k8, .int c9, .ref ka, .ref kb, .int cc, .int cd, .int ce, .int cf, .int cg, .int ch, .int ci, .int cj, .int ck, .ref kl, .int cm, .int cn, .ref ko])), (k4, .inl (cI, 6, .inl c4)), (k5, .inl (cI, 4, .inl f_43)), (k6, .inl (cI, 4, .inl f_45)), (k7, .inl (cI, 144, .inl (upd g93_k7 v_48.toNatClampNeg 0)))] := hD
                      obtain ⟨f_49, ef_49⟩ : ∃ g : Nat → Int32, g = upd g93_k7 v_48.toNatClampNeg 0 := ⟨_, rfl⟩
                      rw [← ef_49] at hP hD
                      obtain ⟨v_50, ev_50⟩ : ∃ y : Int32, y = l93_4 + 1 := ⟨_, rfl⟩
                      have tv_50 : v_50.toInt = l93_4.toInt + 1 := by rw [ev_50]; exact k_addv rfl zl_1 (by omega) (by omega)
                      refine lv_iinc (v := v_50) (lv' := [(4, .int v_50), (0, .ref k), (1, .int a0), (2, .int a1), (3, .int a2)]) hx hb dX11_sheet_113 hl (k := 0) rfl (by rw [ev_50]; rfl) (by decide) rfl ?_
                      clear hl
                      intro ls hl
                      refine lv_goto (tgt := 93) hx hb dX11_sheet_116 (by decide) ?_
                      exact ih93 v_50 f_49 (by first | omega | decide | assumption | rfl) (by first | omega | decide | assumption | rfl) (zr_step i93_2 (by omega) (by omega) ef_49 (by omega) rfl) (by omega) ls _ _ (lv_sub hl [0, 1, 2, 3, 4] rfl) (hP.sub [0, 1, 2, 3, 4] rfl) (hD.sub [0, 1, 2, 3, 4] (by decide) rfl) hS
              exact hloop_93 _ 0 c7 (by first | omega | (simp only [zl_0]; first | done | omega) | decide | assumption | rfl) (by first | omega | (simp only [zl_0]; first | done | omega) | decide | assumption | rfl) (zr_0 zl_0) (Nat.lt_succ_self _) ls _ _ (lv_sub hl [0, 1, 2, 3, 4] rfl) hP hD hS
            · refine lv_aload_n hx hb dX11_sheet_61 rfl (lv_at hl 0 rfl) ?_
              refine lv_ldc (v := (-1000001)) hx hb hown (hT _ mw_1239) dX11_sheet_62 ?_
              refine kJi (wr := [(k5, .inl (cI, 4, .inl c5)), (k6, .inl (cI, 4, .inl c6)), (k7, .inl (cI, 144, .inl c7))]) (va_runV (As := [.int (-1000001)]) (rest := []) ⟨hx, hb, hml, hown, hT⟩ (c_X11_findingG l D cI aK aV k k0 k1 k2 k4 k5 k6 k7 k8 ka kb kl ko H.size c3 c9 cc cd ce cf cg ch ci cj ck cm cn c4 (-1000001) (by first | omega | (simp only [zl_m1000001]; first | done | omega) | decide | assumption | rfl) (by first | omega | (simp only [zl_m1000001]; first | done | omega) | decide | assumption | rfl)) (cwV 1 hT (gV_in mw_1243 mw_1240 mw_1242 mw_p3_8 mw_12) rfl rfl rfl (by decide +kernel) ⟨Nat.le_of_ble_eq_true rfl, Nat.le_of_ble_eq_true rfl⟩) (kRecvX (q0 := 0) (ci := 11) hK hP hD hN hXS hS hA rfl rfl [0, 1] rfl (by decide)) rfl rfl hl.1 rfl (lv_room (Nat.le_of_ble_eq_true rfl)) dX11_sheet_64 ⟨Nat.le_of_ble_eq_true rfl, Nat.le_of_ble_eq_true rfl⟩) hP hD hS hA [0, 1] [2, 3, 4] rfl rfl (by decide) (by decide) ?_
              clear hP hD hS
              intro r_51 sc4_53 H locs w_52 hP hD hS
              replace hP : va_P D vwCl [(k5, .inl (cI, 4, .inl c5)), (k6, .inl (cI, 4, .inl c6)), (k7, .inl (cI, 144, .inl c7)), (k, .inr (11, [.ref k0, .ref k1, .ref k2, .int c3, .ref k4, .ref k5, .ref k6, .ref k7, .ref k8, .int c9, .ref ka, .ref kb, .int cc, .int cd, .int ce, .int cf, .int cg, .int ch, .int ci, .int cj, .int ck, .ref kl, .int cm, .int cn, .ref ko])), (k4, .inl (cI, 6, .inl sc4_53))] H := hP
              replace hD : va_D A [(k5, .inl (cI, 4, .inl c5)), (k6, .inl (cI, 4, .inl c6)), (k7, .inl (cI, 144, .inl c7)), (k, .inr (11, [.ref k0, .ref k1, .ref k2, .int c3, .ref k4, .ref k5, .ref k6, .ref k7, .ref k8, .int c9, .ref ka, .ref kb, .int cc, .int cd, .int ce, .int cf, .int cg, .int ch, .int ci, .int cj, .int ck, .ref kl, .int cm, .int cn, .ref ko])), (k4, .inl (cI, 6, .inl sc4_53))] := hD
              have hr_51 := w_52
              obtain rfl : r_51 = (-1000001) := hr_51.trans (by decide)
              exact hRet (sc4_53, c5, c6, c7) [3, 4, 0, 1, 2] ⟨(by (try dsimp only); unfold sp_sheet; (repeat (first | rw [if_pos (by omega)] | rw [if_neg (by omega)]))), (by (try dsimp only); unfold shB; (repeat (first | rw [if_pos (by omega)] | rw [if_neg (by omega)]))), (by (try dsimp only); unfold shB; (repeat (first | rw [if_pos (by omega)] | rw [if_neg (by omega)]))), (by (try dsimp only); unfold shN; (repeat (first | rw [if_pos (by omega)] | rw [if_neg (by omega)]))), pre0⟩ hP hD (by decide) rfl hS rfl dX11_sheet_67
          · refine lv_aload_n hx hb dX11_sheet_44 rfl (lv_at hl 0 rfl) ?_
            refine lv_ldc (v := (-1000003)) hx hb hown (hT _ mw_1356) dX11_sheet_45 ?_
            refine kJi (wr := [(k5, .inl (cI, 4, .inl c5)), (k6, .inl (cI, 4, .inl c6)), (k7, .inl (cI, 144, .inl c7))]) (va_runV (As := [.int (-1000003)]) (rest := []) ⟨hx, hb, hml, hown, hT⟩ (c_X11_findingG l D cI aK aV k k0 k1 k2 k4 k5 k6 k7 k8 ka kb kl ko H.size c3 c9 cc cd ce cf cg ch ci cj ck cm cn c4 (-1000003) (by first | omega | (simp only [zl_m1000003]; first | done | omega) | decide | assumption | rfl) (by first | omega | (simp only [zl_m1000003]; first | done | omega) | decide | assumption | rfl)) (cwV 1 hT (gV_in mw_1243 mw_1240 mw_1242 mw_p3_8 mw_12) rfl rfl rfl (by decide +kernel) ⟨Nat.le_of_ble_eq_true rfl, Nat.le_of_ble_eq_true rfl⟩) (kRecvX (q0 := 0) (ci := 11) hK hP hD hN hXS hS hA rfl rfl [0, 1] rfl (by decide)) rfl rfl hl.1 rfl (lv_room (Nat.le_of_ble_eq_true rfl)) dX11_sheet_47 ⟨Nat.le_of_ble_eq_true rfl, Nat.le_of_ble_eq_true rfl⟩) hP hD hS hA [0, 1] [2, 3, 4] rfl rfl (by decide) (by decide) ?_
            clear hP hD hS
            intro r_54 sc4_56 H locs w_55 hP hD hS
            replace hP : va_P D vwCl [(k5, .inl (cI, 4, .inl c5)), (k6, .inl (cI, 4, .inl c6)), (k7, .inl (cI, 144, .inl c7)), (k, .inr (11, [.ref k0, .ref k1, .ref k2, .int c3, .ref k4, .ref k5, .ref k6, .ref k7, .ref k8, .int c9, .ref ka, .ref kb, .int cc, .int cd, .int ce, .int cf, .int cg, .int ch, .int ci, .int cj, .int ck, .ref kl, .int cm, .int cn, .ref ko])), (k4, .inl (cI, 6, .inl sc4_56))] H := hP
            replace hD : va_D A [(k5, .inl (cI, 4, .inl c5)), (k6, .inl (cI, 4, .inl c6)), (k7, .inl (cI, 144, .inl c7)), (k, .inr (11, [.ref k0, .ref k1, .ref k2, .int c3, .ref k4, .ref k5, .ref k6, .ref k7, .ref k8, .int c9, .ref ka, .ref kb, .int cc, .int cd, .int ce, .int cf, .int cg, .int ch, .int ci, .int cj, .int ck, .ref kl, .int cm, .int cn, .ref ko])), (k4, .inl (cI, 6, .inl sc4_56))] := hD
            have hr_54 := w_55
            obtain rfl : r_54 = (-1000003) := hr_54.trans (by decide)
            exact hRet (sc4_56, c5, c6, c7) [3, 4, 0, 1, 2] ⟨(by (try dsimp only); unfold sp_sheet; (repeat (first | rw [if_pos (by omega)] | rw [if_neg (by omega)]))), (by (try dsimp only); unfold shB; (repeat (first | rw [if_pos (by omega)] | rw [if_neg (by omega)]))), (by (try dsimp only); unfold shB; (repeat (first | rw [if_pos (by omega)] | rw [if_neg (by omega)]))), (by (try dsimp only); unfold shN; (repeat (first | rw [if_pos (by omega)] | rw [if_neg (by omega)]))), pre0⟩ hP hD (by decide) rfl hS rfl dX11_sheet_50
        · refine lv_iload_n hx hb dX11_sheet_23 rfl (lv_at hl 2 rfl) ?_
          refine lv_bipush (v := 32) hx hb dX11_sheet_24 (by decide) ?_
          refine b_icmp_eq hx hb rfl zl_32 (tgt := 36) dX11_sheet_26 (by decide) (fun c_57 => ?_) (fun c_57 => ?_)
          · refine lv_iload_n hx hb dX11_sheet_36 rfl (lv_at hl 2 rfl) ?_
            refine b_if_eq hx hb rfl (tgt := 51) dX11_sheet_37 (by decide) (fun c_58 => by exfalso; omega) (fun c_58 => ?_)
            refine lv_iload_n hx hb dX11_sheet_40 rfl (lv_at hl 3 rfl) ?_
            refine b_if_ge hx hb rfl (tgt := 51) dX11_sheet_41 (by decide) (fun c_59 => ?_) (fun c_59 => ?_)
            · refine lv_iload_n hx hb dX11_sheet_51 rfl (lv_at hl 2 rfl) ?_
              refine b_if_eq hx hb rfl (tgt := 68) dX11_sheet_52 (by decide) (fun c_60 => by exfalso; omega) (fun c_60 => ?_)
              refine lv_iload_n hx hb dX11_sheet_55 rfl (lv_at hl 3 rfl) ?_
              refine lv_bipush (v := 36) hx hb dX11_sheet_56 (by decide) ?_
              refine b_icmp_le hx hb rfl zl_36 (tgt := 68) dX11_sheet_58 (by decide) (fun c_61 => ?_) (fun c_61 => ?_)
              · refine lv_aload_n hx hb dX11_sheet_68 rfl (lv_at hl 0 rfl) ?_
                refine va_get (D := D) (ci := 11) (v := .ref k5) (C := RX11) (T := TX11) (N := 25) hx hb hT giX11 hown hK hP 0 rfl rfl 5 (by decide) (hT (Cond.fieldLink RX11 22 "DesertWireModel" "bits" "[I") mw_1161) (fun _ h9 => h9) rfl dX11_sheet_69 ?_
                refine lv_iload_n hx hb dX11_sheet_72 rfl (lv_at hl 1 rfl) ?_
                refine lv_iload_n hx hb dX11_sheet_73 rfl (lv_at hl 2 rfl) ?_
                refine va_iast hx hb hK hP hD hS 2 0 rfl rfl (k_in (by omega) (by omega)) dX11_sheet_74 ?_
                clear hP hD hS
                intro H locs hP hD hS
                replace hP : va_P D vwCl [(k, .inr (11, [.ref k0, .ref k1, .ref k2, .int c3, .ref k4, .ref k5, .ref k6, .ref k7, .ref k8, .int c9, .ref ka, .ref kb, .int cc, .int cd, .int ce, .int cf, .int cg, .int ch, .int ci, .int cj, .int ck, .ref kl, .int cm, .int cn, .ref ko])), (k4, .inl (cI, 6, .inl c4)), (k5, .inl (cI, 4, .inl (upd c5 a0.toNatClampNeg a1))), (k6, .inl (cI, 4, .inl c6)), (k7, .inl (cI, 144, .inl c7))] H := hP
                replace hD : va_D A [(k, .inr (11, [.ref k0, .ref k1, .ref k2, .int c3, .ref k4, .ref k5, .ref k6, .ref k7, .ref k8, .int c9, .ref ka, .ref kb, .int cc, .int cd, .int ce, .int cf, .int cg, .int ch, .int ci, .int cj, .int ck, .ref kl, .int cm, .int cn, .ref ko])), (k4, .inl (cI, 6, .inl c4)), (k5, .inl (cI, 4, .inl (upd c5 a0.toNatClampNeg a1))), (k6, .inl (cI, 4, .inl c6)), (k7, .inl (cI, 144, .inl c7))] := hD
                obtain ⟨f_62, ef_62⟩ : ∃ g : Nat → Int32, g = upd c5 a0.toNatClampNeg a1 := ⟨_, rfl⟩
                rw [← ef_62] at hP hD
                refine lv_aload_n hx hb dX11_sheet_75 rfl (lv_at hl 0 rfl) ?_
                refine va_get (D := D) (ci := 11) (v := .ref k6) (C := RX11) (T := TX11) (N := 25) hx hb hT giX11 hown hK hP 0 rfl rfl 6 (by decide) (hT (Cond.fieldLink RX11 25 "DesertWireModel" "size" "[I") mw_1162) (fun _ h9 => h9) rfl dX11_sheet_76 ?_
                refine lv_iload_n hx hb dX11_sheet_79 rfl (lv_at hl 1 rfl) ?_
                refine lv_iload_n hx hb dX11_sheet_80 rfl (lv_at hl 2 rfl) ?_
                refine b_if_ne hx hb rfl (tgt := 88) dX11_sheet_81 (by decide) (fun c_63 => ?_) (fun c_63 => by exfalso; omega)
                refine lv_iload_n hx hb dX11_sheet_88 rfl (lv_at hl 3 rfl) ?_
                refine va_iast hx hb hK hP hD hS 3 0 rfl rfl (k_in (by omega) (by omega)) dX11_sheet_89 ?_
                clear hP hD hS
                intro H locs hP hD hS
                replace hP : va_P D vwCl [(k, .inr (11, [.ref k0, .ref k1, .ref k2, .int c3, .ref k4, .ref k5, .ref k6, .ref k7, .ref k8, .int c9, .ref ka, .ref kb, .int cc, .int cd, .int ce, .int cf, .int cg, .int ch, .int ci, .int cj, .int ck, .ref kl, .int cm, .int cn, .ref ko])), (k4, .inl (cI, 6, .inl c4)), (k5, .inl (cI, 4, .inl f_62)), (k6, .inl (cI, 4, .inl (upd c6 a0.toNatClampNeg a2))), (k7, .inl (cI, 144, .inl c7))] H := hP
                replace hD : va_D A [(k, .inr (11, [.ref k0, .ref k1, .ref k2, .int c3, .ref k4, .ref k5, .ref k6, .ref k7, .ref k8, .int c9, .ref ka, .ref kb, .int cc, .int cd, .int ce, .int cf, .int cg, .int ch, .int ci, .int cj, .int ck, .ref kl, .int cm, .int cn, .ref ko])), (k4, .inl (cI, 6, .inl c4)), (k5, .inl (cI, 4, .inl f_62)), (k6, .inl (cI, 4, .inl (upd c6 a0.toNatClampNeg a2))), (k7, .inl (cI, 144, .inl c7))] := hD
                obtain ⟨f_64, ef_64⟩ : ∃ g : Nat → Int32, g = upd c6 a0.toNatClampNeg a2 := ⟨_, rfl⟩
                rw [← ef_64] at hP hD
                refine lv_iconst (v := 0) hx hb dX11_sheet_90 (by decide) ?_
                refine lv_istore (lv' := [(4, .int 0), (0, .ref k), (1, .int a0), (2, .int a1), (3, .int a2)]) hx hb dX11_sheet_91 hl (by decide) rfl ?_
                clear hl
                intro ls hl
                have hloop_93 : ∀ (fu_ : Nat) (l93_4 : Int32) (g93_k7 : Nat → Int32), 0 ≤ l93_4.toInt → l93_4.toInt ≤ 36 → g93_k7 = zr c7 (36 * a0.toInt.toNat) l93_4.toInt.toNat → (36 - l93_4.toInt).toNat < fu_ → ∀ (ls : Array Slot) (H : Heap) (locs : List Loc), lv_has ls 5 [(4, .int l93_4), (0, .ref k), (1, .int a0), (2, .int a1), (3, .int a2)] → va_P D vwCl [(k, .inr (11, [.ref k0, .ref k1, .ref k2, .int c3, .ref k4, .ref k5, .ref k6, .ref k7, .ref k8, .int c9, .ref ka, .ref kb, .int cc, .int cd, .int ce, .int cf, .int cg, .int ch, .int ci, .int cj, .int ck, .ref kl, .int cm, .int cn, .ref ko])), (k4, .inl (cI, 6, .inl c4)), (k5, .inl (cI, 4, .inl f_62)), (k6, .inl (cI, 4, .inl f_64)), (k7, .inl (cI, 144, .inl g93_k7))] H → va_D A [(k, .inr (11, [.ref k0, .ref k1, .ref k2, .int c3, .ref k4, .ref k5, .ref k6, .ref k7, .ref k8, .int c9, .ref ka, .ref kb, .int cc, .int cd, .int ce, .int cf, .int cg, .int ch, .int ci, .int cj, .int ck, .ref kl, .int cm, .int cn, .ref ko])), (k4, .inl (cI, 6, .inl c4)), (k5, .inl (cI, 4, .inl f_62)), (k6, .inl (cI, 4, .inl f_64)), (k7, .inl (cI, 144, .inl g93_k7))] → va_S A s.heap H locs → W p l e ({ frames := 2, cells := 0, slots := 0, locals := 42 } : Room) s m args below meth c H locs 0 0 Q (F0 m 93 ls []) := by
                  intro fu_; induction fu_ with
                  | zero => intro l93_4 g93_k7 i93_0 i93_1 i93_2 hm; exact absurd hm (by omega)
                  | succ fu_ ih93 =>
                      intro l93_4 g93_k7 i93_0 i93_1 i93_2 hm ls H locs hl hP hD hS
                      have lo_l93_4 := k_lo l93_4
                      have hi_l93_4 := k_hi l93_4
                      have i93_2 : g93_k7 = zr c7 (36 * a0.toInt.toNat) l93_4.toInt.toNat := i93_2
                      refine lv_iload hx hb dX11_sheet_93 (lv_at hl 0 rfl) ?_
                      refine lv_bipush (v := 36) hx hb dX11_sheet_95 (by decide) ?_
                      refine b_icmp_ge hx hb rfl zl_36 (tgt := 119) dX11_sheet_97 (by decide) (fun c_65 => ?_) (fun c_65 => ?_)
                      · refine lv_iconst (v := 1) hx hb dX11_sheet_119 (by decide) ?_
                        exact hRet (c4, f_62, f_64, g93_k7) [0, 1, 2, 3, 4] ⟨(by (try dsimp only); unfold sp_sheet; (repeat (first | rw [if_pos (by omega)] | rw [if_neg (by omega)]))), (by (try dsimp only); unfold shB; (repeat (first | rw [if_pos (by omega)] | rw [if_neg (by omega)])); first | done | exact ef_62), (by (try dsimp only); unfold shB; (repeat (first | rw [if_pos (by omega)] | rw [if_neg (by omega)])); rw [ef_64]; unfold shD; (repeat (first | rw [if_pos (by omega)] | rw [if_neg (by omega)]))), (by unfold shN; (repeat (first | rw [if_pos (by omega)] | rw [if_neg (by omega)])); rw [i93_2, show l93_4.toInt.toNat = 36 from by omega]), (k_PL pre0 ef_64 (by first | omega | (rw [zl_0]; omega)) (by first | omega | (rw [zl_0]; omega)))⟩ hP hD (by decide) rfl hS rfl dX11_sheet_120
                      · refine lv_aload_n hx hb dX11_sheet_100 rfl (lv_at hl 1 rfl) ?_
                        refine va_get (D := D) (ci := 11) (v := .ref k7) (C := RX11) (T := TX11) (N := 25) hx hb hT giX11 hown hK hP 0 rfl rfl 7 (by decide) (hT (Cond.fieldLink RX11 28 "DesertWireModel" "number" "[I") mw_1163) (fun _ h9 => h9) rfl dX11_sheet_101 ?_
                        refine lv_bipush (v := 36) hx hb dX11_sheet_104 (by decide) ?_
                        refine lv_iload_n hx hb dX11_sheet_106 rfl (lv_at hl 2 rfl) ?_
                        refine lv_imul hx hb dX11_sheet_107 ?_
                        refine lv_topi (fun v_66 ev_66 => ?_)
                        have tv_66 : v_66.toInt = 36 * a0.toInt := by rw [ev_66]; exact k_mulv zl_36 rfl (by omega) (by omega)
                        refine lv_iload hx hb dX11_sheet_108 (lv_at hl 0 rfl) ?_
                        refine lv_iadd hx hb dX11_sheet_110 ?_
                        refine lv_topi (fun v_67 ev_67 => ?_)
                        have tv_67 : v_67.toInt = v_66.toInt + l93_4.toInt := by rw [ev_67]; exact k_addv rfl rfl (by omega) (by omega)
                        refine lv_iconst (v := 0) hx hb dX11_sheet_111 (by decide) ?_
                        refine va_iast hx hb hK hP hD hS 4 0 rfl rfl (k_in (by omega) (by omega)) dX11_sheet_112 ?_
                        clear hP hD hS
                        intro H locs hP hD hS
                        replace hP : va_P D vwCl [(k, .inr (11, [.ref k0, .ref k1, .ref k2, .int c3, .ref k4, .ref k5, .ref k6, .ref k7, .ref k8, .int c9, .ref ka, .ref kb, .int cc, .int cd, .int ce, .int cf, .int cg, .int ch, .int ci, .int cj, .int ck, .ref kl, .int cm, .int cn, .ref ko])), (k4, .inl (cI, 6, .inl c4)), (k5, .inl (cI, 4, .inl f_62)), (k6, .inl (cI, 4, .inl f_64)), (k7, .inl (cI, 144, .inl (upd g93_k7 v_67.toNatClampNeg 0)))] H := hP
                        replace hD : va_D A [(k, .inr (11, [.ref k0, .ref k1, .ref k2, .int c3, .ref k4, .ref k5, .ref k6, .ref k7, .ref k8, .int c9, .ref ka, .ref kb, .int cc, .int cd, .int ce, .int cf, .int cg, .int ch, .int ci, .int cj, .int ck, .ref kl, .int cm, .int cn, .ref ko])), (k4, .inl (cI, 6, .inl c4)), (k5, .inl (cI, 4, .inl f_62)), (k6, .inl (cI, 4, .inl f_64)), (k7, .inl (cI, 144, .inl (upd g93_k7 v_67.toNatClampNeg 0)))] := hD
                        obtain ⟨f_68, ef_68⟩ : ∃ g : Nat → Int32, g = upd g93_k7 v_67.toNatClampNeg 0 := ⟨_, rfl⟩
                        rw [← ef_68] at hP hD
                        obtain ⟨v_69, ev_69⟩ : ∃ y : Int32, y = l93_4 + 1 := ⟨_, rfl⟩
                        have tv_69 : v_69.toInt = l93_4.toInt + 1 := by rw [ev_69]; exact k_addv rfl zl_1 (by omega) (by omega)
                        refine lv_iinc (v := v_69) (lv' := [(4, .int v_69), (0, .ref k), (1, .int a0), (2, .int a1), (3, .int a2)]) hx hb dX11_sheet_113 hl (k := 0) rfl (by rw [ev_69]; rfl) (by decide) rfl ?_
                        clear hl
                        intro ls hl
                        refine lv_goto (tgt := 93) hx hb dX11_sheet_116 (by decide) ?_
                        exact ih93 v_69 f_68 (by first | omega | decide | assumption | rfl) (by first | omega | decide | assumption | rfl) (zr_step i93_2 (by omega) (by omega) ef_68 (by omega) rfl) (by omega) ls _ _ (lv_sub hl [0, 1, 2, 3, 4] rfl) (hP.sub [0, 1, 2, 3, 4] rfl) (hD.sub [0, 1, 2, 3, 4] (by decide) rfl) hS
                exact hloop_93 _ 0 c7 (by first | omega | (simp only [zl_0]; first | done | omega) | decide | assumption | rfl) (by first | omega | (simp only [zl_0]; first | done | omega) | decide | assumption | rfl) (zr_0 zl_0) (Nat.lt_succ_self _) ls _ _ (lv_sub hl [0, 1, 2, 3, 4] rfl) hP hD hS
              · refine lv_aload_n hx hb dX11_sheet_61 rfl (lv_at hl 0 rfl) ?_
                refine lv_ldc (v := (-1000001)) hx hb hown (hT _ mw_1239) dX11_sheet_62 ?_
                refine kJi (wr := [(k5, .inl (cI, 4, .inl c5)), (k6, .inl (cI, 4, .inl c6)), (k7, .inl (cI, 144, .inl c7))]) (va_runV (As := [.int (-1000001)]) (rest := []) ⟨hx, hb, hml, hown, hT⟩ (c_X11_findingG l D cI aK aV k k0 k1 k2 k4 k5 k6 k7 k8 ka kb kl ko H.size c3 c9 cc cd ce cf cg ch ci cj ck cm cn c4 (-1000001) (by first | omega | (simp only [zl_m1000001]; first | done | omega) | decide | assumption | rfl) (by first | omega | (simp only [zl_m1000001]; first | done | omega) | decide | assumption | rfl)) (cwV 1 hT (gV_in mw_1243 mw_1240 mw_1242 mw_p3_8 mw_12) rfl rfl rfl (by decide +kernel) ⟨Nat.le_of_ble_eq_true rfl, Nat.le_of_ble_eq_true rfl⟩) (kRecvX (q0 := 0) (ci := 11) hK hP hD hN hXS hS hA rfl rfl [0, 1] rfl (by decide)) rfl rfl hl.1 rfl (lv_room (Nat.le_of_ble_eq_true rfl)) dX11_sheet_64 ⟨Nat.le_of_ble_eq_true rfl, Nat.le_of_ble_eq_true rfl⟩) hP hD hS hA [0, 1] [2, 3, 4] rfl rfl (by decide) (by decide) ?_
                clear hP hD hS
                intro r_70 sc4_72 H locs w_71 hP hD hS
                replace hP : va_P D vwCl [(k5, .inl (cI, 4, .inl c5)), (k6, .inl (cI, 4, .inl c6)), (k7, .inl (cI, 144, .inl c7)), (k, .inr (11, [.ref k0, .ref k1, .ref k2, .int c3, .ref k4, .ref k5, .ref k6, .ref k7, .ref k8, .int c9, .ref ka, .ref kb, .int cc, .int cd, .int ce, .int cf, .int cg, .int ch, .int ci, .int cj, .int ck, .ref kl, .int cm, .int cn, .ref ko])), (k4, .inl (cI, 6, .inl sc4_72))] H := hP
                replace hD : va_D A [(k5, .inl (cI, 4, .inl c5)), (k6, .inl (cI, 4, .inl c6)), (k7, .inl (cI, 144, .inl c7)), (k, .inr (11, [.ref k0, .ref k1, .ref k2, .int c3, .ref k4, .ref k5, .ref k6, .ref k7, .ref k8, .int c9, .ref ka, .ref kb, .int cc, .int cd, .int ce, .int cf, .int cg, .int ch, .int ci, .int cj, .int ck, .ref kl, .int cm, .int cn, .ref ko])), (k4, .inl (cI, 6, .inl sc4_72))] := hD
                have hr_70 := w_71
                obtain rfl : r_70 = (-1000001) := hr_70.trans (by decide)
                exact hRet (sc4_72, c5, c6, c7) [3, 4, 0, 1, 2] ⟨(by (try dsimp only); unfold sp_sheet; (repeat (first | rw [if_pos (by omega)] | rw [if_neg (by omega)]))), (by (try dsimp only); unfold shB; (repeat (first | rw [if_pos (by omega)] | rw [if_neg (by omega)]))), (by (try dsimp only); unfold shB; (repeat (first | rw [if_pos (by omega)] | rw [if_neg (by omega)]))), (by (try dsimp only); unfold shN; (repeat (first | rw [if_pos (by omega)] | rw [if_neg (by omega)]))), pre0⟩ hP hD (by decide) rfl hS rfl dX11_sheet_67
            · refine lv_aload_n hx hb dX11_sheet_44 rfl (lv_at hl 0 rfl) ?_
              refine lv_ldc (v := (-1000003)) hx hb hown (hT _ mw_1356) dX11_sheet_45 ?_
              refine kJi (wr := [(k5, .inl (cI, 4, .inl c5)), (k6, .inl (cI, 4, .inl c6)), (k7, .inl (cI, 144, .inl c7))]) (va_runV (As := [.int (-1000003)]) (rest := []) ⟨hx, hb, hml, hown, hT⟩ (c_X11_findingG l D cI aK aV k k0 k1 k2 k4 k5 k6 k7 k8 ka kb kl ko H.size c3 c9 cc cd ce cf cg ch ci cj ck cm cn c4 (-1000003) (by first | omega | (simp only [zl_m1000003]; first | done | omega) | decide | assumption | rfl) (by first | omega | (simp only [zl_m1000003]; first | done | omega) | decide | assumption | rfl)) (cwV 1 hT (gV_in mw_1243 mw_1240 mw_1242 mw_p3_8 mw_12) rfl rfl rfl (by decide +kernel) ⟨Nat.le_of_ble_eq_true rfl, Nat.le_of_ble_eq_true rfl⟩) (kRecvX (q0 := 0) (ci := 11) hK hP hD hN hXS hS hA rfl rfl [0, 1] rfl (by decide)) rfl rfl hl.1 rfl (lv_room (Nat.le_of_ble_eq_true rfl)) dX11_sheet_47 ⟨Nat.le_of_ble_eq_true rfl, Nat.le_of_ble_eq_true rfl⟩) hP hD hS hA [0, 1] [2, 3, 4] rfl rfl (by decide) (by decide) ?_
              clear hP hD hS
              intro r_73 sc4_75 H locs w_74 hP hD hS
              replace hP : va_P D vwCl [(k5, .inl (cI, 4, .inl c5)), (k6, .inl (cI, 4, .inl c6)), (k7, .inl (cI, 144, .inl c7)), (k, .inr (11, [.ref k0, .ref k1, .ref k2, .int c3, .ref k4, .ref k5, .ref k6, .ref k7, .ref k8, .int c9, .ref ka, .ref kb, .int cc, .int cd, .int ce, .int cf, .int cg, .int ch, .int ci, .int cj, .int ck, .ref kl, .int cm, .int cn, .ref ko])), (k4, .inl (cI, 6, .inl sc4_75))] H := hP
              replace hD : va_D A [(k5, .inl (cI, 4, .inl c5)), (k6, .inl (cI, 4, .inl c6)), (k7, .inl (cI, 144, .inl c7)), (k, .inr (11, [.ref k0, .ref k1, .ref k2, .int c3, .ref k4, .ref k5, .ref k6, .ref k7, .ref k8, .int c9, .ref ka, .ref kb, .int cc, .int cd, .int ce, .int cf, .int cg, .int ch, .int ci, .int cj, .int ck, .ref kl, .int cm, .int cn, .ref ko])), (k4, .inl (cI, 6, .inl sc4_75))] := hD
              have hr_73 := w_74
              obtain rfl : r_73 = (-1000003) := hr_73.trans (by decide)
              exact hRet (sc4_75, c5, c6, c7) [3, 4, 0, 1, 2] ⟨(by (try dsimp only); unfold sp_sheet; (repeat (first | rw [if_pos (by omega)] | rw [if_neg (by omega)]))), (by (try dsimp only); unfold shB; (repeat (first | rw [if_pos (by omega)] | rw [if_neg (by omega)]))), (by (try dsimp only); unfold shB; (repeat (first | rw [if_pos (by omega)] | rw [if_neg (by omega)]))), (by (try dsimp only); unfold shN; (repeat (first | rw [if_pos (by omega)] | rw [if_neg (by omega)]))), pre0⟩ hP hD (by decide) rfl hS rfl dX11_sheet_50
          · refine lv_aload_n hx hb dX11_sheet_29 rfl (lv_at hl 0 rfl) ?_
            refine lv_ldc (v := (-1000001)) hx hb hown (hT _ mw_1239) dX11_sheet_30 ?_
            refine kJi (wr := [(k5, .inl (cI, 4, .inl c5)), (k6, .inl (cI, 4, .inl c6)), (k7, .inl (cI, 144, .inl c7))]) (va_runV (As := [.int (-1000001)]) (rest := []) ⟨hx, hb, hml, hown, hT⟩ (c_X11_findingG l D cI aK aV k k0 k1 k2 k4 k5 k6 k7 k8 ka kb kl ko H.size c3 c9 cc cd ce cf cg ch ci cj ck cm cn c4 (-1000001) (by first | omega | (simp only [zl_m1000001]; first | done | omega) | decide | assumption | rfl) (by first | omega | (simp only [zl_m1000001]; first | done | omega) | decide | assumption | rfl)) (cwV 1 hT (gV_in mw_1243 mw_1240 mw_1242 mw_p3_8 mw_12) rfl rfl rfl (by decide +kernel) ⟨Nat.le_of_ble_eq_true rfl, Nat.le_of_ble_eq_true rfl⟩) (kRecvX (q0 := 0) (ci := 11) hK hP hD hN hXS hS hA rfl rfl [0, 1] rfl (by decide)) rfl rfl hl.1 rfl (lv_room (Nat.le_of_ble_eq_true rfl)) dX11_sheet_32 ⟨Nat.le_of_ble_eq_true rfl, Nat.le_of_ble_eq_true rfl⟩) hP hD hS hA [0, 1] [2, 3, 4] rfl rfl (by decide) (by decide) ?_
            clear hP hD hS
            intro r_76 sc4_78 H locs w_77 hP hD hS
            replace hP : va_P D vwCl [(k5, .inl (cI, 4, .inl c5)), (k6, .inl (cI, 4, .inl c6)), (k7, .inl (cI, 144, .inl c7)), (k, .inr (11, [.ref k0, .ref k1, .ref k2, .int c3, .ref k4, .ref k5, .ref k6, .ref k7, .ref k8, .int c9, .ref ka, .ref kb, .int cc, .int cd, .int ce, .int cf, .int cg, .int ch, .int ci, .int cj, .int ck, .ref kl, .int cm, .int cn, .ref ko])), (k4, .inl (cI, 6, .inl sc4_78))] H := hP
            replace hD : va_D A [(k5, .inl (cI, 4, .inl c5)), (k6, .inl (cI, 4, .inl c6)), (k7, .inl (cI, 144, .inl c7)), (k, .inr (11, [.ref k0, .ref k1, .ref k2, .int c3, .ref k4, .ref k5, .ref k6, .ref k7, .ref k8, .int c9, .ref ka, .ref kb, .int cc, .int cd, .int ce, .int cf, .int cg, .int ch, .int ci, .int cj, .int ck, .ref kl, .int cm, .int cn, .ref ko])), (k4, .inl (cI, 6, .inl sc4_78))] := hD
            have hr_76 := w_77
            obtain rfl : r_76 = (-1000001) := hr_76.trans (by decide)
            exact hRet (sc4_78, c5, c6, c7) [3, 4, 0, 1, 2] ⟨(by (try dsimp only); unfold sp_sheet; (repeat (first | rw [if_pos (by omega)] | rw [if_neg (by omega)]))), (by (try dsimp only); unfold shB; (repeat (first | rw [if_pos (by omega)] | rw [if_neg (by omega)]))), (by (try dsimp only); unfold shB; (repeat (first | rw [if_pos (by omega)] | rw [if_neg (by omega)]))), (by (try dsimp only); unfold shN; (repeat (first | rw [if_pos (by omega)] | rw [if_neg (by omega)]))), pre0⟩ hP hD (by decide) rfl hS rfl dX11_sheet_35
  · have h_6 : a0.toInt < 0 ∨ 3 < a0.toInt := h_6
    obtain rfl : r_1 = 0 := hr_1.trans (by decide)
    refine b_if_eq hx hb zl_0 (tgt := 29) dX11_sheet_4 (by decide) (fun c_79 => ?_) (fun c_79 => by exfalso; omega)
    refine lv_aload_n hx hb dX11_sheet_29 rfl (lv_at hl 0 rfl) ?_
    refine lv_ldc (v := (-1000001)) hx hb hown (hT _ mw_1239) dX11_sheet_30 ?_
    refine kJi (wr := [(k5, .inl (cI, 4, .inl c5)), (k6, .inl (cI, 4, .inl c6)), (k7, .inl (cI, 144, .inl c7))]) (va_runV (As := [.int (-1000001)]) (rest := []) ⟨hx, hb, hml, hown, hT⟩ (c_X11_findingG l D cI aK aV k k0 k1 k2 k4 k5 k6 k7 k8 ka kb kl ko H.size c3 c9 cc cd ce cf cg ch ci cj ck cm cn c4 (-1000001) (by first | omega | (simp only [zl_m1000001]; first | done | omega) | decide | assumption | rfl) (by first | omega | (simp only [zl_m1000001]; first | done | omega) | decide | assumption | rfl)) (cwV 1 hT (gV_in mw_1243 mw_1240 mw_1242 mw_p3_8 mw_12) rfl rfl rfl (by decide +kernel) ⟨Nat.le_of_ble_eq_true rfl, Nat.le_of_ble_eq_true rfl⟩) (kRecvX (q0 := 0) (ci := 11) hK hP hD hN hXS hS hA rfl rfl [0, 1] rfl (by decide)) rfl rfl hl.1 rfl (lv_room (Nat.le_of_ble_eq_true rfl)) dX11_sheet_32 ⟨Nat.le_of_ble_eq_true rfl, Nat.le_of_ble_eq_true rfl⟩) hP hD hS hA [0, 1] [2, 3, 4] rfl rfl (by decide) (by decide) ?_
    clear hP hD hS
    intro r_80 sc4_82 H locs w_81 hP hD hS
    replace hP : va_P D vwCl [(k5, .inl (cI, 4, .inl c5)), (k6, .inl (cI, 4, .inl c6)), (k7, .inl (cI, 144, .inl c7)), (k, .inr (11, [.ref k0, .ref k1, .ref k2, .int c3, .ref k4, .ref k5, .ref k6, .ref k7, .ref k8, .int c9, .ref ka, .ref kb, .int cc, .int cd, .int ce, .int cf, .int cg, .int ch, .int ci, .int cj, .int ck, .ref kl, .int cm, .int cn, .ref ko])), (k4, .inl (cI, 6, .inl sc4_82))] H := hP
    replace hD : va_D A [(k5, .inl (cI, 4, .inl c5)), (k6, .inl (cI, 4, .inl c6)), (k7, .inl (cI, 144, .inl c7)), (k, .inr (11, [.ref k0, .ref k1, .ref k2, .int c3, .ref k4, .ref k5, .ref k6, .ref k7, .ref k8, .int c9, .ref ka, .ref kb, .int cc, .int cd, .int ce, .int cf, .int cg, .int ch, .int ci, .int cj, .int ck, .ref kl, .int cm, .int cn, .ref ko])), (k4, .inl (cI, 6, .inl sc4_82))] := hD
    have hr_80 := w_81
    obtain rfl : r_80 = (-1000001) := hr_80.trans (by decide)
    exact hRet (sc4_82, c5, c6, c7) [3, 4, 0, 1, 2] ⟨(by (try dsimp only); unfold sp_sheet; (repeat (first | rw [if_pos (by omega)] | rw [if_neg (by omega)]))), (by (try dsimp only); unfold shB; (repeat (first | rw [if_pos (by omega)] | rw [if_neg (by omega)]))), (by (try dsimp only); unfold shB; (repeat (first | rw [if_pos (by omega)] | rw [if_neg (by omega)]))), (by (try dsimp only); unfold shN; (repeat (first | rw [if_pos (by omega)] | rw [if_neg (by omega)]))), pre0⟩ hP hD (by decide) rfl hS rfl dX11_sheet_35
theorem dX11_put_0 : decode cX11_put 0 = .ok (.iload_n 1, 1) := by decide +kernel
theorem dX11_put_1 : decode cX11_put 1 = .ok (.invokestatic 111, 3) := by decide +kernel
theorem dX11_put_4 : decode cX11_put 4 = .ok (.ifCond .ne 10, 3) := by decide +kernel
theorem dX11_put_7 : decode cX11_put 7 = .ok (.aload_n 0, 1) := by decide +kernel
theorem dX11_put_8 : decode cX11_put 8 = .ok (.ldc 63, 2) := by decide +kernel
theorem dX11_put_10 : decode cX11_put 10 = .ok (.invokevirtual 64, 3) := by decide +kernel
theorem dX11_put_13 : decode cX11_put 13 = .ok (.ireturn, 1) := by decide +kernel
theorem dX11_put_14 : decode cX11_put 14 = .ok (.aload_n 0, 1) := by decide +kernel
theorem dX11_put_15 : decode cX11_put 15 = .ok (.getfield 22, 3) := by decide +kernel
theorem dX11_put_18 : decode cX11_put 18 = .ok (.iload_n 1, 1) := by decide +kernel
theorem dX11_put_19 : decode cX11_put 19 = .ok (.iaload, 1) := by decide +kernel
theorem dX11_put_20 : decode cX11_put 20 = .ok (.ifCond .ne 10, 3) := by decide +kernel
theorem dX11_put_23 : decode cX11_put 23 = .ok (.aload_n 0, 1) := by decide +kernel
theorem dX11_put_24 : decode cX11_put 24 = .ok (.ldc 114, 2) := by decide +kernel
theorem dX11_put_26 : decode cX11_put 26 = .ok (.invokevirtual 64, 3) := by decide +kernel
theorem dX11_put_29 : decode cX11_put 29 = .ok (.ireturn, 1) := by decide +kernel
theorem dX11_put_30 : decode cX11_put 30 = .ok (.iload_n 2, 1) := by decide +kernel
theorem dX11_put_31 : decode cX11_put 31 = .ok (.iconst 0, 1) := by decide +kernel
theorem dX11_put_32 : decode cX11_put 32 = .ok (.aload_n 0, 1) := by decide +kernel
theorem dX11_put_33 : decode cX11_put 33 = .ok (.getfield 25, 3) := by decide +kernel
theorem dX11_put_36 : decode cX11_put 36 = .ok (.iload_n 1, 1) := by decide +kernel
theorem dX11_put_37 : decode cX11_put 37 = .ok (.iaload, 1) := by decide +kernel
theorem dX11_put_38 : decode cX11_put 38 = .ok (.iconst 1, 1) := by decide +kernel
theorem dX11_put_39 : decode cX11_put 39 = .ok (.isub, 1) := by decide +kernel
theorem dX11_put_40 : decode cX11_put 40 = .ok (.invokestatic 47, 3) := by decide +kernel
theorem dX11_put_43 : decode cX11_put 43 = .ok (.ifCond .ne 10, 3) := by decide +kernel
theorem dX11_put_46 : decode cX11_put 46 = .ok (.aload_n 0, 1) := by decide +kernel
theorem dX11_put_47 : decode cX11_put 47 = .ok (.ldc 63, 2) := by decide +kernel
theorem dX11_put_49 : decode cX11_put 49 = .ok (.invokevirtual 64, 3) := by decide +kernel
theorem dX11_put_52 : decode cX11_put 52 = .ok (.ireturn, 1) := by decide +kernel
theorem dX11_put_53 : decode cX11_put 53 = .ok (.bipush 32, 2) := by decide +kernel
theorem dX11_put_55 : decode cX11_put 55 = .ok (.aload_n 0, 1) := by decide +kernel
theorem dX11_put_56 : decode cX11_put 56 = .ok (.getfield 22, 3) := by decide +kernel
theorem dX11_put_59 : decode cX11_put 59 = .ok (.iload_n 1, 1) := by decide +kernel
theorem dX11_put_60 : decode cX11_put 60 = .ok (.iaload, 1) := by decide +kernel
theorem dX11_put_61 : decode cX11_put 61 = .ok (.isub, 1) := by decide +kernel
theorem dX11_put_62 : decode cX11_put 62 = .ok (.istore 4, 2) := by decide +kernel
theorem dX11_put_64 : decode cX11_put 64 = .ok (.aload_n 0, 1) := by decide +kernel
theorem dX11_put_65 : decode cX11_put 65 = .ok (.getfield 28, 3) := by decide +kernel
theorem dX11_put_68 : decode cX11_put 68 = .ok (.bipush 36, 2) := by decide +kernel
theorem dX11_put_70 : decode cX11_put 70 = .ok (.iload_n 1, 1) := by decide +kernel
theorem dX11_put_71 : decode cX11_put 71 = .ok (.imul, 1) := by decide +kernel
theorem dX11_put_72 : decode cX11_put 72 = .ok (.iload_n 2, 1) := by decide +kernel
theorem dX11_put_73 : decode cX11_put 73 = .ok (.iadd, 1) := by decide +kernel
theorem dX11_put_74 : decode cX11_put 74 = .ok (.iload_n 3, 1) := by decide +kernel
theorem dX11_put_75 : decode cX11_put 75 = .ok (.iload 4, 2) := by decide +kernel
theorem dX11_put_77 : decode cX11_put 77 = .ok (.ishl, 1) := by decide +kernel
theorem dX11_put_78 : decode cX11_put 78 = .ok (.iload 4, 2) := by decide +kernel
theorem dX11_put_80 : decode cX11_put 80 = .ok (.ishr, 1) := by decide +kernel
theorem dX11_put_81 : decode cX11_put 81 = .ok (.iastore, 1) := by decide +kernel
theorem dX11_put_82 : decode cX11_put 82 = .ok (.iconst 1, 1) := by decide +kernel
theorem dX11_put_83 : decode cX11_put 83 = .ok (.ireturn, 1) := by decide +kernel
set_option maxHeartbeats 4000000 in
set_option maxRecDepth 100000 in
theorem c_X11_putG (l : Launch) (D : va_G) (cI : ClassId) (aK aV : Nat → Nat) (k k0 k1 k2 k4 k5 k6 k7 k8 ka kb kl ko : Nat) (sz : Nat) (c3 : Int32) (c9 : Int32) (cc : Int32) (cd : Int32) (ce : Int32) (cf : Int32) (cg : Int32) (ch : Int32) (ci : Int32) (cj : Int32) (ck : Int32) (cm : Int32) (cn : Int32) (c4 : Nat → Int32) (c5 : Nat → Int32) (c6 : Nat → Int32) (c7 : Nat → Int32) (a0 : Int32) (a1 : Int32) (a2 : Int32) (pre0 : ∀ k : Nat, k < 4 → 0 ≤ (c6 k).toInt ∧ (c6 k).toInt ≤ 36) (pre1 : ∀ k : Nat, k < 4 → (c5 k).toInt = 0 ∨ (c5 k).toInt = 8 ∨ (c5 k).toInt = 16 ∨ (c5 k).toInt = 32) : Met l yX11_put (gW yX11_put cX11_put 5 (some .int)) ({ frames := 2, cells := 0, slots := 0, locals := 42 } : Room) (kPreX D cI aK aV [.ref k, .int a0, .int a1, .int a2] [(k, .inr (11, [.ref k0, .ref k1, .ref k2, .int c3, .ref k4, .ref k5, .ref k6, .ref k7, .ref k8, .int c9, .ref ka, .ref kb, .int cc, .int cd, .int ce, .int cf, .int cg, .int ch, .int ci, .int cj, .int ck, .ref kl, .int cm, .int cn, .ref ko])), (k4, .inl (cI, 6, .inl c4)), (k5, .inl (cI, 4, .inl c5)), (k6, .inl (cI, 4, .inl c6)), (k7, .inl (cI, 144, .inl c7))] sz) (va_Qi (fun (r : Int32) (u : (Nat → Int32) × (Nat → Int32)) => r = putR c5 c6 a0 a1 ∧ u.2 = putS c5 c6 c7 a0 a1 a2) (fun u t => kWd D cI (va_A [(k, .inr (11, [.ref k0, .ref k1, .ref k2, .int c3, .ref k4, .ref k5, .ref k6, .ref k7, .ref k8, .int c9, .ref ka, .ref kb, .int cc, .int cd, .int ce, .int cf, .int cg, .int ch, .int ci, .int cj, .int ck, .ref kl, .int cm, .int cn, .ref ko])), (k4, .inl (cI, 6, .inl c4)), (k5, .inl (cI, 4, .inl c5)), (k6, .inl (cI, 4, .inl c6)), (k7, .inl (cI, 144, .inl c7))] sz) [(k, .inr (11, [.ref k0, .ref k1, .ref k2, .int c3, .ref k4, .ref k5, .ref k6, .ref k7, .ref k8, .int c9, .ref ka, .ref kb, .int cc, .int cd, .int ce, .int cf, .int cg, .int ch, .int ci, .int cj, .int ck, .ref kl, .int cm, .int cn, .ref ko])), (k4, .inl (cI, 6, .inl u.1)), (k5, .inl (cI, 4, .inl c5)), (k6, .inl (cI, 4, .inl c6)), (k7, .inl (cI, 144, .inl u.2))] t) (va_A [(k, .inr (11, [.ref k0, .ref k1, .ref k2, .int c3, .ref k4, .ref k5, .ref k6, .ref k7, .ref k8, .int c9, .ref ka, .ref kb, .int cc, .int cd, .int ce, .int cf, .int cg, .int ch, .int ci, .int cj, .int ck, .ref kl, .int cm, .int cn, .ref ko])), (k4, .inl (cI, 6, .inl c4)), (k5, .inl (cI, 4, .inl c5)), (k6, .inl (cI, 4, .inl c6)), (k7, .inl (cI, 144, .inl c7))] sz)) 0 0 (va_A [(k, .inr (11, [.ref k0, .ref k1, .ref k2, .int c3, .ref k4, .ref k5, .ref k6, .ref k7, .ref k8, .int c9, .ref ka, .ref kb, .int cc, .int cd, .int ce, .int cf, .int cg, .int ch, .int ci, .int cj, .int ck, .ref kl, .int cm, .int cn, .ref ko])), (k4, .inl (cI, 6, .inl c4)), (k5, .inl (cI, 4, .inl c5)), (k6, .inl (cI, 4, .inl c6)), (k7, .inl (cI, 144, .inl c7))] sz) := by
  refine kMetIX (own := RX11) (by decide) rfl (Nat.le_of_ble_eq_true rfl) ?_
  intro p e s m args below meth c hx hb hT hown hname hml A Q hK hP hD hS hA hN hXS hRet ls hl
  have hl : lv_has ls 5 [(0, .ref k), (1, .int a0), (2, .int a1), (3, .int a2)] := hl
  have lo_a0 := k_lo a0
  have hi_a0 := k_hi a0
  have lo_a1 := k_lo a1
  have hi_a1 := k_hi a1
  have lo_a2 := k_lo a2
  have hi_a2 := k_hi a2
  have lo_ci := k_lo ci
  have hi_ci := k_hi ci
  have hln : 0 ≤ a0.toInt → a0.toInt ≤ 3 → 0 ≤ (c6 a0.toNatClampNeg).toInt ∧ (c6 a0.toNatClampNeg).toInt ≤ 36 := fun z0 z1 => pre0 a0.toNatClampNeg (by rw [k_clamp]; omega)
  have hbk : 0 ≤ a0.toInt → a0.toInt ≤ 3 → (c5 a0.toNatClampNeg).toInt = 0 ∨ (c5 a0.toNatClampNeg).toInt = 8 ∨ (c5 a0.toNatClampNeg).toInt = 16 ∨ (c5 a0.toNatClampNeg).toInt = 32 := fun z0 z1 => pre1 a0.toNatClampNeg (by rw [k_clamp]; omega)
  refine lv_iload_n hx hb dX11_put_0 rfl (lv_at hl 1 rfl) ?_
  refine kJi (wr := [(k, .inr (11, [.ref k0, .ref k1, .ref k2, .int c3, .ref k4, .ref k5, .ref k6, .ref k7, .ref k8, .int c9, .ref ka, .ref kb, .int cc, .int cd, .int ce, .int cf, .int cg, .int ch, .int ci, .int cj, .int ck, .ref kl, .int cm, .int cn, .ref ko])), (k4, .inl (cI, 6, .inl c4)), (k5, .inl (cI, 4, .inl c5)), (k6, .inl (cI, 4, .inl c6)), (k7, .inl (cI, 144, .inl c7))]) (va_runS (As := [.int a0]) (rest := []) ⟨hx, hb, hml, hown, hT⟩ (c_X11_isSheetG l D cI aK aV s.heap.size a0) (cwS 1 hT (gS_in mw_1391 mw_1389 mw_1390 mw_12) rfl rfl rfl (by decide +kernel) ⟨Nat.le_of_ble_eq_true rfl, Nat.le_of_ble_eq_true rfl⟩) (kStatX hK hP hD hN hXS hS hA [] rfl (by decide)) rfl rfl hl.1 rfl (lv_room (Nat.le_of_ble_eq_true rfl)) dX11_put_1 ⟨Nat.le_of_ble_eq_true rfl, Nat.le_of_ble_eq_true rfl⟩) hP hD hS hA [] [0, 1, 2, 3, 4] rfl rfl (by decide) (by decide) ?_
  clear hP hD hS
  intro r_1 u_3 H locs w_2 hP hD hS
  replace hP : va_P D vwCl [(k, .inr (11, [.ref k0, .ref k1, .ref k2, .int c3, .ref k4, .ref k5, .ref k6, .ref k7, .ref k8, .int c9, .ref ka, .ref kb, .int cc, .int cd, .int ce, .int cf, .int cg, .int ch, .int ci, .int cj, .int ck, .ref kl, .int cm, .int cn, .ref ko])), (k4, .inl (cI, 6, .inl c4)), (k5, .inl (cI, 4, .inl c5)), (k6, .inl (cI, 4, .inl c6)), (k7, .inl (cI, 144, .inl c7))] H := hP
  replace hD : va_D A [(k, .inr (11, [.ref k0, .ref k1, .ref k2, .int c3, .ref k4, .ref k5, .ref k6, .ref k7, .ref k8, .int c9, .ref ka, .ref kb, .int cc, .int cd, .int ce, .int cf, .int cg, .int ch, .int ci, .int cj, .int ck, .ref kl, .int cm, .int cn, .ref ko])), (k4, .inl (cI, 6, .inl c4)), (k5, .inl (cI, 4, .inl c5)), (k6, .inl (cI, 4, .inl c6)), (k7, .inl (cI, 144, .inl c7))] := hD
  rcases w_2 with ⟨hr_1, h_4, h_5⟩ | ⟨hr_1, h_6⟩
  · have h_4 : 0 ≤ a0.toInt := h_4
    have h_5 : a0.toInt ≤ 3 := h_5
    obtain rfl : r_1 = 1 := hr_1.trans (by decide)
    refine b_if_ne hx hb zl_1 (tgt := 14) dX11_put_4 (by decide) (fun c_7 => ?_) (fun c_7 => by exfalso; omega)
    refine lv_aload_n hx hb dX11_put_14 rfl (lv_at hl 0 rfl) ?_
    refine va_get (D := D) (ci := 11) (v := .ref k5) (C := RX11) (T := TX11) (N := 25) hx hb hT giX11 hown hK hP 0 rfl rfl 5 (by decide) (hT (Cond.fieldLink RX11 22 "DesertWireModel" "bits" "[I") mw_1161) (fun _ h9 => h9) rfl dX11_put_15 ?_
    refine lv_iload_n hx hb dX11_put_18 rfl (lv_at hl 1 rfl) ?_
    refine k_iald (v := (c5 a0.toNatClampNeg)) hx hb hK hP 2 0 rfl rfl (k_in (by omega) (by omega)) rfl dX11_put_19 ?_
    refine lv_topi (fun v_8 ev_8 => ?_)
    have lo_v_8 := k_lo v_8
    have hi_v_8 := k_hi v_8
    have tv_8 : v_8.toInt = (c5 a0.toNatClampNeg).toInt := by rw [ev_8]
    refine b_if_ne hx hb rfl (tgt := 30) dX11_put_20 (by decide) (fun c_9 => ?_) (fun c_9 => ?_)
    · refine lv_iload_n hx hb dX11_put_30 rfl (lv_at hl 2 rfl) ?_
      refine lv_iconst (v := 0) hx hb dX11_put_31 (by decide) ?_
      refine lv_aload_n hx hb dX11_put_32 rfl (lv_at hl 0 rfl) ?_
      refine va_get (D := D) (ci := 11) (v := .ref k6) (C := RX11) (T := TX11) (N := 25) hx hb hT giX11 hown hK hP 0 rfl rfl 6 (by decide) (hT (Cond.fieldLink RX11 25 "DesertWireModel" "size" "[I") mw_1162) (fun _ h9 => h9) rfl dX11_put_33 ?_
      refine lv_iload_n hx hb dX11_put_36 rfl (lv_at hl 1 rfl) ?_
      refine k_iald (v := (c6 a0.toNatClampNeg)) hx hb hK hP 3 0 rfl rfl (k_in (by omega) (by omega)) rfl dX11_put_37 ?_
      refine lv_topi (fun v_10 ev_10 => ?_)
      have lo_v_10 := k_lo v_10
      have hi_v_10 := k_hi v_10
      have tv_10 : v_10.toInt = (c6 a0.toNatClampNeg).toInt := by rw [ev_10]
      have b_11 : 0 ≤ v_10.toInt ∧ v_10.toInt ≤ 36 := by rw [tv_10]; exact pre0 a0.toNatClampNeg (by rw [k_clamp]; omega)
      refine lv_iconst (v := 1) hx hb dX11_put_38 (by decide) ?_
      refine lv_isub hx hb dX11_put_39 ?_
      refine lv_topi (fun v_12 ev_12 => ?_)
      have tv_12 : v_12.toInt = v_10.toInt - 1 := by rw [ev_12]; exact k_subv rfl zl_1 (by omega) (by omega)
      refine kJi (wr := [(k, .inr (11, [.ref k0, .ref k1, .ref k2, .int c3, .ref k4, .ref k5, .ref k6, .ref k7, .ref k8, .int c9, .ref ka, .ref kb, .int cc, .int cd, .int ce, .int cf, .int cg, .int ch, .int ci, .int cj, .int ck, .ref kl, .int cm, .int cn, .ref ko])), (k4, .inl (cI, 6, .inl c4)), (k5, .inl (cI, 4, .inl c5)), (k6, .inl (cI, 4, .inl c6)), (k7, .inl (cI, 144, .inl c7))]) (va_runS (As := [.int a1, .int 0, .int v_12]) (rest := []) ⟨hx, hb, hml, hown, hT⟩ (c_X11_inG l D cI aK aV H.size a1 0 v_12) (cwS 3 hT (gS_in mw_1238 mw_1236 mw_1237 mw_12) rfl rfl rfl (by decide +kernel) ⟨Nat.le_of_ble_eq_true rfl, Nat.le_of_ble_eq_true rfl⟩) (kStatX hK hP hD hN hXS hS hA [] rfl (by decide)) rfl rfl hl.1 rfl (lv_room (Nat.le_of_ble_eq_true rfl)) dX11_put_40 ⟨Nat.le_of_ble_eq_true rfl, Nat.le_of_ble_eq_true rfl⟩) hP hD hS hA [] [0, 1, 2, 3, 4] rfl rfl (by decide) (by decide) ?_
      clear hP hD hS
      intro r_13 u_15 H locs w_14 hP hD hS
      replace hP : va_P D vwCl [(k, .inr (11, [.ref k0, .ref k1, .ref k2, .int c3, .ref k4, .ref k5, .ref k6, .ref k7, .ref k8, .int c9, .ref ka, .ref kb, .int cc, .int cd, .int ce, .int cf, .int cg, .int ch, .int ci, .int cj, .int ck, .ref kl, .int cm, .int cn, .ref ko])), (k4, .inl (cI, 6, .inl c4)), (k5, .inl (cI, 4, .inl c5)), (k6, .inl (cI, 4, .inl c6)), (k7, .inl (cI, 144, .inl c7))] H := hP
      replace hD : va_D A [(k, .inr (11, [.ref k0, .ref k1, .ref k2, .int c3, .ref k4, .ref k5, .ref k6, .ref k7, .ref k8, .int c9, .ref ka, .ref kb, .int cc, .int cd, .int ce, .int cf, .int cg, .int ch, .int ci, .int cj, .int ck, .ref kl, .int cm, .int cn, .ref ko])), (k4, .inl (cI, 6, .inl c4)), (k5, .inl (cI, 4, .inl c5)), (k6, .inl (cI, 4, .inl c6)), (k7, .inl (cI, 144, .inl c7))] := hD
      rcases w_14 with ⟨hr_13, h_16, h_17⟩ | ⟨hr_13, h_18⟩
      · try simp only [zl_0] at h_16
        have h_16 : 0 ≤ a1.toInt := h_16
        try simp only [zl_0] at h_17
        have h_17 : a1.toInt ≤ v_12.toInt := h_17
        obtain rfl : r_13 = 1 := hr_13.trans (by decide)
        refine b_if_ne hx hb zl_1 (tgt := 53) dX11_put_43 (by decide) (fun c_19 => ?_) (fun c_19 => by exfalso; omega)
        refine lv_bipush (v := 32) hx hb dX11_put_53 (by decide) ?_
        refine lv_aload_n hx hb dX11_put_55 rfl (lv_at hl 0 rfl) ?_
        refine va_get (D := D) (ci := 11) (v := .ref k5) (C := RX11) (T := TX11) (N := 25) hx hb hT giX11 hown hK hP 0 rfl rfl 5 (by decide) (hT (Cond.fieldLink RX11 22 "DesertWireModel" "bits" "[I") mw_1161) (fun _ h9 => h9) rfl dX11_put_56 ?_
        refine lv_iload_n hx hb dX11_put_59 rfl (lv_at hl 1 rfl) ?_
        refine k_iald (v := (c5 a0.toNatClampNeg)) hx hb hK hP 2 0 rfl rfl (k_in (by omega) (by omega)) rfl dX11_put_60 ?_
        refine lv_topi (fun v_20 ev_20 => ?_)
        have lo_v_20 := k_lo v_20
        have hi_v_20 := k_hi v_20
        have tv_20 : v_20.toInt = (c5 a0.toNatClampNeg).toInt := by rw [ev_20]
        refine lv_isub hx hb dX11_put_61 ?_
        refine lv_topi (fun v_21 ev_21 => ?_)
        have lo_v_21 := k_lo v_21
        have hi_v_21 := k_hi v_21
        refine lv_istore (lv' := [(4, .int v_21), (0, .ref k), (1, .int a0), (2, .int a1), (3, .int a2)]) hx hb dX11_put_62 hl (by decide) rfl ?_
        clear hl
        intro ls hl
        refine lv_aload_n hx hb dX11_put_64 rfl (lv_at hl 1 rfl) ?_
        refine va_get (D := D) (ci := 11) (v := .ref k7) (C := RX11) (T := TX11) (N := 25) hx hb hT giX11 hown hK hP 0 rfl rfl 7 (by decide) (hT (Cond.fieldLink RX11 28 "DesertWireModel" "number" "[I") mw_1163) (fun _ h9 => h9) rfl dX11_put_65 ?_
        refine lv_bipush (v := 36) hx hb dX11_put_68 (by decide) ?_
        refine lv_iload_n hx hb dX11_put_70 rfl (lv_at hl 2 rfl) ?_
        refine lv_imul hx hb dX11_put_71 ?_
        refine lv_topi (fun v_22 ev_22 => ?_)
        have tv_22 : v_22.toInt = 36 * a0.toInt := by rw [ev_22]; exact k_mulv zl_36 rfl (by omega) (by omega)
        refine lv_iload_n hx hb dX11_put_72 rfl (lv_at hl 3 rfl) ?_
        refine lv_iadd hx hb dX11_put_73 ?_
        refine lv_topi (fun v_23 ev_23 => ?_)
        have tv_23 : v_23.toInt = v_22.toInt + a1.toInt := by rw [ev_23]; exact k_addv rfl rfl (by omega) (by omega)
        refine lv_iload_n hx hb dX11_put_74 rfl (lv_at hl 4 rfl) ?_
        refine lv_iload hx hb dX11_put_75 (lv_at hl 0 rfl) ?_
        refine lv_ishl hx hb dX11_put_77 ?_
        refine lv_topi (fun v_24 ev_24 => ?_)
        have lo_v_24 := k_lo v_24
        have hi_v_24 := k_hi v_24
        refine lv_iload hx hb dX11_put_78 (lv_at hl 0 rfl) ?_
        refine lv_ishr hx hb dX11_put_80 ?_
        refine lv_topi (fun v_25 ev_25 => ?_)
        have lo_v_25 := k_lo v_25
        have hi_v_25 := k_hi v_25
        refine va_iast hx hb hK hP hD hS 4 0 rfl rfl (k_in (by omega) (by omega)) dX11_put_81 ?_
        clear hP hD hS
        intro H locs hP hD hS
        replace hP : va_P D vwCl [(k, .inr (11, [.ref k0, .ref k1, .ref k2, .int c3, .ref k4, .ref k5, .ref k6, .ref k7, .ref k8, .int c9, .ref ka, .ref kb, .int cc, .int cd, .int ce, .int cf, .int cg, .int ch, .int ci, .int cj, .int ck, .ref kl, .int cm, .int cn, .ref ko])), (k4, .inl (cI, 6, .inl c4)), (k5, .inl (cI, 4, .inl c5)), (k6, .inl (cI, 4, .inl c6)), (k7, .inl (cI, 144, .inl (upd c7 v_23.toNatClampNeg v_25)))] H := hP
        replace hD : va_D A [(k, .inr (11, [.ref k0, .ref k1, .ref k2, .int c3, .ref k4, .ref k5, .ref k6, .ref k7, .ref k8, .int c9, .ref ka, .ref kb, .int cc, .int cd, .int ce, .int cf, .int cg, .int ch, .int ci, .int cj, .int ck, .ref kl, .int cm, .int cn, .ref ko])), (k4, .inl (cI, 6, .inl c4)), (k5, .inl (cI, 4, .inl c5)), (k6, .inl (cI, 4, .inl c6)), (k7, .inl (cI, 144, .inl (upd c7 v_23.toNatClampNeg v_25)))] := hD
        obtain ⟨f_26, ef_26⟩ : ∃ g : Nat → Int32, g = upd c7 v_23.toNatClampNeg v_25 := ⟨_, rfl⟩
        rw [← ef_26] at hP hD
        refine lv_iconst (v := 1) hx hb dX11_put_82 (by decide) ?_
        exact hRet (c4, f_26) [0, 1, 2, 3, 4] ⟨(by (try dsimp only); unfold putR; (repeat (first | rw [if_pos (by omega)] | rw [if_neg (by omega)]))), (by unfold putS; rw [if_pos (by omega), nrw_sh (b := c5 a0.toNatClampNeg) (y := v_21) (by have z := pre1 a0.toNatClampNeg (by rw [k_clamp]; omega); omega) (by have z := pre1 a0.toNatClampNeg (by rw [k_clamp]; omega); rw [ev_21]; exact k_subv zl_32 tv_20 (by omega) (by omega)) ev_24 ev_25]; exact up_in ef_26 (by omega))⟩ hP hD (by decide) rfl hS rfl dX11_put_83
      · try simp only [zl_0] at h_18
        have h_18 : a1.toInt < 0 ∨ v_12.toInt < a1.toInt := h_18
        obtain rfl : r_13 = 0 := hr_13.trans (by decide)
        refine b_if_ne hx hb zl_0 (tgt := 53) dX11_put_43 (by decide) (fun c_27 => by exfalso; omega) (fun c_27 => ?_)
        refine lv_aload_n hx hb dX11_put_46 rfl (lv_at hl 0 rfl) ?_
        refine lv_ldc (v := (-1000001)) hx hb hown (hT _ mw_1239) dX11_put_47 ?_
        refine kJi (wr := [(k5, .inl (cI, 4, .inl c5)), (k6, .inl (cI, 4, .inl c6)), (k7, .inl (cI, 144, .inl c7))]) (va_runV (As := [.int (-1000001)]) (rest := []) ⟨hx, hb, hml, hown, hT⟩ (c_X11_findingG l D cI aK aV k k0 k1 k2 k4 k5 k6 k7 k8 ka kb kl ko H.size c3 c9 cc cd ce cf cg ch ci cj ck cm cn c4 (-1000001) (by first | omega | (simp only [zl_m1000001]; first | done | omega) | decide | assumption | rfl) (by first | omega | (simp only [zl_m1000001]; first | done | omega) | decide | assumption | rfl)) (cwV 1 hT (gV_in mw_1243 mw_1240 mw_1242 mw_p3_8 mw_12) rfl rfl rfl (by decide +kernel) ⟨Nat.le_of_ble_eq_true rfl, Nat.le_of_ble_eq_true rfl⟩) (kRecvX (q0 := 0) (ci := 11) hK hP hD hN hXS hS hA rfl rfl [0, 1] rfl (by decide)) rfl rfl hl.1 rfl (lv_room (Nat.le_of_ble_eq_true rfl)) dX11_put_49 ⟨Nat.le_of_ble_eq_true rfl, Nat.le_of_ble_eq_true rfl⟩) hP hD hS hA [0, 1] [2, 3, 4] rfl rfl (by decide) (by decide) ?_
        clear hP hD hS
        intro r_28 sc4_30 H locs w_29 hP hD hS
        replace hP : va_P D vwCl [(k5, .inl (cI, 4, .inl c5)), (k6, .inl (cI, 4, .inl c6)), (k7, .inl (cI, 144, .inl c7)), (k, .inr (11, [.ref k0, .ref k1, .ref k2, .int c3, .ref k4, .ref k5, .ref k6, .ref k7, .ref k8, .int c9, .ref ka, .ref kb, .int cc, .int cd, .int ce, .int cf, .int cg, .int ch, .int ci, .int cj, .int ck, .ref kl, .int cm, .int cn, .ref ko])), (k4, .inl (cI, 6, .inl sc4_30))] H := hP
        replace hD : va_D A [(k5, .inl (cI, 4, .inl c5)), (k6, .inl (cI, 4, .inl c6)), (k7, .inl (cI, 144, .inl c7)), (k, .inr (11, [.ref k0, .ref k1, .ref k2, .int c3, .ref k4, .ref k5, .ref k6, .ref k7, .ref k8, .int c9, .ref ka, .ref kb, .int cc, .int cd, .int ce, .int cf, .int cg, .int ch, .int ci, .int cj, .int ck, .ref kl, .int cm, .int cn, .ref ko])), (k4, .inl (cI, 6, .inl sc4_30))] := hD
        have hr_28 := w_29
        obtain rfl : r_28 = (-1000001) := hr_28.trans (by decide)
        exact hRet (sc4_30, c7) [3, 4, 0, 1, 2] ⟨(by (try dsimp only); unfold putR; (repeat (first | rw [if_pos (by omega)] | rw [if_neg (by omega)]))), (by (try dsimp only); unfold putS; (repeat (first | rw [if_pos (by omega)] | rw [if_neg (by omega)])))⟩ hP hD (by decide) rfl hS rfl dX11_put_52
    · refine lv_aload_n hx hb dX11_put_23 rfl (lv_at hl 0 rfl) ?_
      refine lv_ldc (v := (-1000002)) hx hb hown (hT _ mw_1392) dX11_put_24 ?_
      refine kJi (wr := [(k5, .inl (cI, 4, .inl c5)), (k6, .inl (cI, 4, .inl c6)), (k7, .inl (cI, 144, .inl c7))]) (va_runV (As := [.int (-1000002)]) (rest := []) ⟨hx, hb, hml, hown, hT⟩ (c_X11_findingG l D cI aK aV k k0 k1 k2 k4 k5 k6 k7 k8 ka kb kl ko H.size c3 c9 cc cd ce cf cg ch ci cj ck cm cn c4 (-1000002) (by first | omega | (simp only [zl_m1000002]; first | done | omega) | decide | assumption | rfl) (by first | omega | (simp only [zl_m1000002]; first | done | omega) | decide | assumption | rfl)) (cwV 1 hT (gV_in mw_1243 mw_1240 mw_1242 mw_p3_8 mw_12) rfl rfl rfl (by decide +kernel) ⟨Nat.le_of_ble_eq_true rfl, Nat.le_of_ble_eq_true rfl⟩) (kRecvX (q0 := 0) (ci := 11) hK hP hD hN hXS hS hA rfl rfl [0, 1] rfl (by decide)) rfl rfl hl.1 rfl (lv_room (Nat.le_of_ble_eq_true rfl)) dX11_put_26 ⟨Nat.le_of_ble_eq_true rfl, Nat.le_of_ble_eq_true rfl⟩) hP hD hS hA [0, 1] [2, 3, 4] rfl rfl (by decide) (by decide) ?_
      clear hP hD hS
      intro r_31 sc4_33 H locs w_32 hP hD hS
      replace hP : va_P D vwCl [(k5, .inl (cI, 4, .inl c5)), (k6, .inl (cI, 4, .inl c6)), (k7, .inl (cI, 144, .inl c7)), (k, .inr (11, [.ref k0, .ref k1, .ref k2, .int c3, .ref k4, .ref k5, .ref k6, .ref k7, .ref k8, .int c9, .ref ka, .ref kb, .int cc, .int cd, .int ce, .int cf, .int cg, .int ch, .int ci, .int cj, .int ck, .ref kl, .int cm, .int cn, .ref ko])), (k4, .inl (cI, 6, .inl sc4_33))] H := hP
      replace hD : va_D A [(k5, .inl (cI, 4, .inl c5)), (k6, .inl (cI, 4, .inl c6)), (k7, .inl (cI, 144, .inl c7)), (k, .inr (11, [.ref k0, .ref k1, .ref k2, .int c3, .ref k4, .ref k5, .ref k6, .ref k7, .ref k8, .int c9, .ref ka, .ref kb, .int cc, .int cd, .int ce, .int cf, .int cg, .int ch, .int ci, .int cj, .int ck, .ref kl, .int cm, .int cn, .ref ko])), (k4, .inl (cI, 6, .inl sc4_33))] := hD
      have hr_31 := w_32
      obtain rfl : r_31 = (-1000002) := hr_31.trans (by decide)
      exact hRet (sc4_33, c7) [3, 4, 0, 1, 2] ⟨(by (try dsimp only); unfold putR; (repeat (first | rw [if_pos (by omega)] | rw [if_neg (by omega)]))), (by (try dsimp only); unfold putS; (repeat (first | rw [if_pos (by omega)] | rw [if_neg (by omega)])))⟩ hP hD (by decide) rfl hS rfl dX11_put_29
  · have h_6 : a0.toInt < 0 ∨ 3 < a0.toInt := h_6
    obtain rfl : r_1 = 0 := hr_1.trans (by decide)
    refine b_if_ne hx hb zl_0 (tgt := 14) dX11_put_4 (by decide) (fun c_34 => by exfalso; omega) (fun c_34 => ?_)
    refine lv_aload_n hx hb dX11_put_7 rfl (lv_at hl 0 rfl) ?_
    refine lv_ldc (v := (-1000001)) hx hb hown (hT _ mw_1239) dX11_put_8 ?_
    refine kJi (wr := [(k5, .inl (cI, 4, .inl c5)), (k6, .inl (cI, 4, .inl c6)), (k7, .inl (cI, 144, .inl c7))]) (va_runV (As := [.int (-1000001)]) (rest := []) ⟨hx, hb, hml, hown, hT⟩ (c_X11_findingG l D cI aK aV k k0 k1 k2 k4 k5 k6 k7 k8 ka kb kl ko H.size c3 c9 cc cd ce cf cg ch ci cj ck cm cn c4 (-1000001) (by first | omega | (simp only [zl_m1000001]; first | done | omega) | decide | assumption | rfl) (by first | omega | (simp only [zl_m1000001]; first | done | omega) | decide | assumption | rfl)) (cwV 1 hT (gV_in mw_1243 mw_1240 mw_1242 mw_p3_8 mw_12) rfl rfl rfl (by decide +kernel) ⟨Nat.le_of_ble_eq_true rfl, Nat.le_of_ble_eq_true rfl⟩) (kRecvX (q0 := 0) (ci := 11) hK hP hD hN hXS hS hA rfl rfl [0, 1] rfl (by decide)) rfl rfl hl.1 rfl (lv_room (Nat.le_of_ble_eq_true rfl)) dX11_put_10 ⟨Nat.le_of_ble_eq_true rfl, Nat.le_of_ble_eq_true rfl⟩) hP hD hS hA [0, 1] [2, 3, 4] rfl rfl (by decide) (by decide) ?_
    clear hP hD hS
    intro r_35 sc4_37 H locs w_36 hP hD hS
    replace hP : va_P D vwCl [(k5, .inl (cI, 4, .inl c5)), (k6, .inl (cI, 4, .inl c6)), (k7, .inl (cI, 144, .inl c7)), (k, .inr (11, [.ref k0, .ref k1, .ref k2, .int c3, .ref k4, .ref k5, .ref k6, .ref k7, .ref k8, .int c9, .ref ka, .ref kb, .int cc, .int cd, .int ce, .int cf, .int cg, .int ch, .int ci, .int cj, .int ck, .ref kl, .int cm, .int cn, .ref ko])), (k4, .inl (cI, 6, .inl sc4_37))] H := hP
    replace hD : va_D A [(k5, .inl (cI, 4, .inl c5)), (k6, .inl (cI, 4, .inl c6)), (k7, .inl (cI, 144, .inl c7)), (k, .inr (11, [.ref k0, .ref k1, .ref k2, .int c3, .ref k4, .ref k5, .ref k6, .ref k7, .ref k8, .int c9, .ref ka, .ref kb, .int cc, .int cd, .int ce, .int cf, .int cg, .int ch, .int ci, .int cj, .int ck, .ref kl, .int cm, .int cn, .ref ko])), (k4, .inl (cI, 6, .inl sc4_37))] := hD
    have hr_35 := w_36
    obtain rfl : r_35 = (-1000001) := hr_35.trans (by decide)
    exact hRet (sc4_37, c7) [3, 4, 0, 1, 2] ⟨(by (try dsimp only); unfold putR; (repeat (first | rw [if_pos (by omega)] | rw [if_neg (by omega)]))), (by (try dsimp only); unfold putS; (repeat (first | rw [if_pos (by omega)] | rw [if_neg (by omega)])))⟩ hP hD (by decide) rfl hS rfl dX11_put_13
theorem dX11_move_0 : decode cX11_move 0 = .ok (.iload_n 1, 1) := by decide +kernel
theorem dX11_move_1 : decode cX11_move 1 = .ok (.invokestatic 111, 3) := by decide +kernel
theorem dX11_move_4 : decode cX11_move 4 = .ok (.ifCond .eq 10, 3) := by decide +kernel
theorem dX11_move_7 : decode cX11_move 7 = .ok (.iload_n 3, 1) := by decide +kernel
theorem dX11_move_8 : decode cX11_move 8 = .ok (.invokestatic 111, 3) := by decide +kernel
theorem dX11_move_11 : decode cX11_move 11 = .ok (.ifCond .ne 10, 3) := by decide +kernel
theorem dX11_move_14 : decode cX11_move 14 = .ok (.aload_n 0, 1) := by decide +kernel
theorem dX11_move_15 : decode cX11_move 15 = .ok (.ldc 63, 2) := by decide +kernel
theorem dX11_move_17 : decode cX11_move 17 = .ok (.invokevirtual 64, 3) := by decide +kernel
theorem dX11_move_20 : decode cX11_move 20 = .ok (.ireturn, 1) := by decide +kernel
theorem dX11_move_21 : decode cX11_move 21 = .ok (.aload_n 0, 1) := by decide +kernel
theorem dX11_move_22 : decode cX11_move 22 = .ok (.getfield 22, 3) := by decide +kernel
theorem dX11_move_25 : decode cX11_move 25 = .ok (.iload_n 1, 1) := by decide +kernel
theorem dX11_move_26 : decode cX11_move 26 = .ok (.iaload, 1) := by decide +kernel
theorem dX11_move_27 : decode cX11_move 27 = .ok (.ifCond .eq 12, 3) := by decide +kernel
theorem dX11_move_30 : decode cX11_move 30 = .ok (.aload_n 0, 1) := by decide +kernel
theorem dX11_move_31 : decode cX11_move 31 = .ok (.getfield 22, 3) := by decide +kernel
theorem dX11_move_34 : decode cX11_move 34 = .ok (.iload_n 3, 1) := by decide +kernel
theorem dX11_move_35 : decode cX11_move 35 = .ok (.iaload, 1) := by decide +kernel
theorem dX11_move_36 : decode cX11_move 36 = .ok (.ifCond .ne 10, 3) := by decide +kernel
theorem dX11_move_39 : decode cX11_move 39 = .ok (.aload_n 0, 1) := by decide +kernel
theorem dX11_move_40 : decode cX11_move 40 = .ok (.ldc 114, 2) := by decide +kernel
theorem dX11_move_42 : decode cX11_move 42 = .ok (.invokevirtual 64, 3) := by decide +kernel
theorem dX11_move_45 : decode cX11_move 45 = .ok (.ireturn, 1) := by decide +kernel
theorem dX11_move_46 : decode cX11_move 46 = .ok (.aload_n 0, 1) := by decide +kernel
theorem dX11_move_47 : decode cX11_move 47 = .ok (.getfield 22, 3) := by decide +kernel
theorem dX11_move_50 : decode cX11_move 50 = .ok (.iload_n 1, 1) := by decide +kernel
theorem dX11_move_51 : decode cX11_move 51 = .ok (.iaload, 1) := by decide +kernel
theorem dX11_move_52 : decode cX11_move 52 = .ok (.aload_n 0, 1) := by decide +kernel
theorem dX11_move_53 : decode cX11_move 53 = .ok (.getfield 22, 3) := by decide +kernel
theorem dX11_move_56 : decode cX11_move 56 = .ok (.iload_n 3, 1) := by decide +kernel
theorem dX11_move_57 : decode cX11_move 57 = .ok (.iaload, 1) := by decide +kernel
theorem dX11_move_58 : decode cX11_move 58 = .ok (.if_icmp .eq 10, 3) := by decide +kernel
theorem dX11_move_61 : decode cX11_move 61 = .ok (.aload_n 0, 1) := by decide +kernel
theorem dX11_move_62 : decode cX11_move 62 = .ok (.ldc 83, 2) := by decide +kernel
theorem dX11_move_64 : decode cX11_move 64 = .ok (.invokevirtual 64, 3) := by decide +kernel
theorem dX11_move_67 : decode cX11_move 67 = .ok (.ireturn, 1) := by decide +kernel
theorem dX11_move_68 : decode cX11_move 68 = .ok (.iload 5, 2) := by decide +kernel
theorem dX11_move_70 : decode cX11_move 70 = .ok (.ifCond .lt 39, 3) := by decide +kernel
theorem dX11_move_73 : decode cX11_move 73 = .ok (.iload_n 2, 1) := by decide +kernel
theorem dX11_move_74 : decode cX11_move 74 = .ok (.ifCond .lt 35, 3) := by decide +kernel
theorem dX11_move_77 : decode cX11_move 77 = .ok (.iload 4, 2) := by decide +kernel
theorem dX11_move_79 : decode cX11_move 79 = .ok (.ifCond .lt 30, 3) := by decide +kernel
theorem dX11_move_82 : decode cX11_move 82 = .ok (.iload_n 2, 1) := by decide +kernel
theorem dX11_move_83 : decode cX11_move 83 = .ok (.aload_n 0, 1) := by decide +kernel
theorem dX11_move_84 : decode cX11_move 84 = .ok (.getfield 25, 3) := by decide +kernel
theorem dX11_move_87 : decode cX11_move 87 = .ok (.iload_n 1, 1) := by decide +kernel
theorem dX11_move_88 : decode cX11_move 88 = .ok (.iaload, 1) := by decide +kernel
theorem dX11_move_89 : decode cX11_move 89 = .ok (.iload 5, 2) := by decide +kernel
theorem dX11_move_91 : decode cX11_move 91 = .ok (.isub, 1) := by decide +kernel
theorem dX11_move_92 : decode cX11_move 92 = .ok (.if_icmp .gt 17, 3) := by decide +kernel
theorem dX11_move_95 : decode cX11_move 95 = .ok (.iload 4, 2) := by decide +kernel
theorem dX11_move_97 : decode cX11_move 97 = .ok (.aload_n 0, 1) := by decide +kernel
theorem dX11_move_98 : decode cX11_move 98 = .ok (.getfield 25, 3) := by decide +kernel
theorem dX11_move_101 : decode cX11_move 101 = .ok (.iload_n 3, 1) := by decide +kernel
theorem dX11_move_102 : decode cX11_move 102 = .ok (.iaload, 1) := by decide +kernel
theorem dX11_move_103 : decode cX11_move 103 = .ok (.iload 5, 2) := by decide +kernel
theorem dX11_move_105 : decode cX11_move 105 = .ok (.isub, 1) := by decide +kernel
theorem dX11_move_106 : decode cX11_move 106 = .ok (.if_icmp .le 10, 3) := by decide +kernel
theorem dX11_move_109 : decode cX11_move 109 = .ok (.aload_n 0, 1) := by decide +kernel
theorem dX11_move_110 : decode cX11_move 110 = .ok (.ldc 63, 2) := by decide +kernel
theorem dX11_move_112 : decode cX11_move 112 = .ok (.invokevirtual 64, 3) := by decide +kernel
theorem dX11_move_115 : decode cX11_move 115 = .ok (.ireturn, 1) := by decide +kernel
theorem dX11_move_116 : decode cX11_move 116 = .ok (.iconst 0, 1) := by decide +kernel
theorem dX11_move_117 : decode cX11_move 117 = .ok (.istore 6, 2) := by decide +kernel
theorem dX11_move_119 : decode cX11_move 119 = .ok (.iload 6, 2) := by decide +kernel
theorem dX11_move_121 : decode cX11_move 121 = .ok (.iload 5, 2) := by decide +kernel
theorem dX11_move_123 : decode cX11_move 123 = .ok (.if_icmp .ge 25, 3) := by decide +kernel
theorem dX11_move_126 : decode cX11_move 126 = .ok (.aload_n 0, 1) := by decide +kernel
theorem dX11_move_127 : decode cX11_move 127 = .ok (.getfield 43, 3) := by decide +kernel
theorem dX11_move_130 : decode cX11_move 130 = .ok (.iload 6, 2) := by decide +kernel
theorem dX11_move_132 : decode cX11_move 132 = .ok (.aload_n 0, 1) := by decide +kernel
theorem dX11_move_133 : decode cX11_move 133 = .ok (.iload_n 1, 1) := by decide +kernel
theorem dX11_move_134 : decode cX11_move 134 = .ok (.iload_n 2, 1) := by decide +kernel
theorem dX11_move_135 : decode cX11_move 135 = .ok (.iload 6, 2) := by decide +kernel
theorem dX11_move_137 : decode cX11_move 137 = .ok (.iadd, 1) := by decide +kernel
theorem dX11_move_138 : decode cX11_move 138 = .ok (.invokevirtual 115, 3) := by decide +kernel
theorem dX11_move_141 : decode cX11_move 141 = .ok (.iastore, 1) := by decide +kernel
theorem dX11_move_142 : decode cX11_move 142 = .ok (.iinc 6 1, 3) := by decide +kernel
theorem dX11_move_145 : decode cX11_move 145 = .ok (.goto (-26), 3) := by decide +kernel
theorem dX11_move_148 : decode cX11_move 148 = .ok (.iconst 0, 1) := by decide +kernel
theorem dX11_move_149 : decode cX11_move 149 = .ok (.istore 6, 2) := by decide +kernel
theorem dX11_move_151 : decode cX11_move 151 = .ok (.iload 6, 2) := by decide +kernel
theorem dX11_move_153 : decode cX11_move 153 = .ok (.iload 5, 2) := by decide +kernel
theorem dX11_move_155 : decode cX11_move 155 = .ok (.if_icmp .ge 31, 3) := by decide +kernel
theorem dX11_move_158 : decode cX11_move 158 = .ok (.aload_n 0, 1) := by decide +kernel
theorem dX11_move_159 : decode cX11_move 159 = .ok (.getfield 28, 3) := by decide +kernel
theorem dX11_move_162 : decode cX11_move 162 = .ok (.bipush 36, 2) := by decide +kernel
theorem dX11_move_164 : decode cX11_move 164 = .ok (.iload_n 3, 1) := by decide +kernel
theorem dX11_move_165 : decode cX11_move 165 = .ok (.imul, 1) := by decide +kernel
theorem dX11_move_166 : decode cX11_move 166 = .ok (.iload 4, 2) := by decide +kernel
theorem dX11_move_168 : decode cX11_move 168 = .ok (.iadd, 1) := by decide +kernel
theorem dX11_move_169 : decode cX11_move 169 = .ok (.iload 6, 2) := by decide +kernel
theorem dX11_move_171 : decode cX11_move 171 = .ok (.iadd, 1) := by decide +kernel
theorem dX11_move_172 : decode cX11_move 172 = .ok (.aload_n 0, 1) := by decide +kernel
theorem dX11_move_173 : decode cX11_move 173 = .ok (.getfield 43, 3) := by decide +kernel
theorem dX11_move_176 : decode cX11_move 176 = .ok (.iload 6, 2) := by decide +kernel
theorem dX11_move_178 : decode cX11_move 178 = .ok (.iaload, 1) := by decide +kernel
theorem dX11_move_179 : decode cX11_move 179 = .ok (.iastore, 1) := by decide +kernel
theorem dX11_move_180 : decode cX11_move 180 = .ok (.iinc 6 1, 3) := by decide +kernel
theorem dX11_move_183 : decode cX11_move 183 = .ok (.goto (-32), 3) := by decide +kernel
theorem dX11_move_186 : decode cX11_move 186 = .ok (.iload 5, 2) := by decide +kernel
theorem dX11_move_188 : decode cX11_move 188 = .ok (.ireturn, 1) := by decide +kernel
set_option maxHeartbeats 4000000 in
set_option maxRecDepth 100000 in
theorem c_X11_moveG (l : Launch) (D : va_G) (cI : ClassId) (aK aV : Nat → Nat) (k k0 k1 k2 k4 k5 k6 k7 k8 ka kb kl ko : Nat) (sz : Nat) (c3 : Int32) (c9 : Int32) (cc : Int32) (cd : Int32) (ce : Int32) (cf : Int32) (cg : Int32) (ch : Int32) (ci : Int32) (cj : Int32) (ck : Int32) (cm : Int32) (cn : Int32) (c4 : Nat → Int32) (c5 : Nat → Int32) (c6 : Nat → Int32) (c7 : Nat → Int32) (co : Nat → Int32) (a0 : Int32) (a1 : Int32) (a2 : Int32) (a3 : Int32) (a4 : Int32) (pre0 : ∀ k : Nat, k < 4 → 0 ≤ (c6 k).toInt ∧ (c6 k).toInt ≤ 36) : Met l yX11_move (gW yX11_move cX11_move 7 (some .int)) ({ frames := 2, cells := 0, slots := 0, locals := 42 } : Room) (kPreX D cI aK aV [.ref k, .int a0, .int a1, .int a2, .int a3, .int a4] [(k, .inr (11, [.ref k0, .ref k1, .ref k2, .int c3, .ref k4, .ref k5, .ref k6, .ref k7, .ref k8, .int c9, .ref ka, .ref kb, .int cc, .int cd, .int ce, .int cf, .int cg, .int ch, .int ci, .int cj, .int ck, .ref kl, .int cm, .int cn, .ref ko])), (k4, .inl (cI, 6, .inl c4)), (k5, .inl (cI, 4, .inl c5)), (k6, .inl (cI, 4, .inl c6)), (k7, .inl (cI, 144, .inl c7)), (ko, .inl (cI, 36, .inl co))] sz) (va_Qi (fun (r : Int32) (u : (Nat → Int32) × (Nat → Int32) × (Nat → Int32)) => r = moveR c5 c6 a0 a1 a2 a3 a4 ∧ u.2.1 = moveS c5 c6 c7 a0 a1 a2 a3 a4) (fun u t => kWd D cI (va_A [(k, .inr (11, [.ref k0, .ref k1, .ref k2, .int c3, .ref k4, .ref k5, .ref k6, .ref k7, .ref k8, .int c9, .ref ka, .ref kb, .int cc, .int cd, .int ce, .int cf, .int cg, .int ch, .int ci, .int cj, .int ck, .ref kl, .int cm, .int cn, .ref ko])), (k4, .inl (cI, 6, .inl c4)), (k5, .inl (cI, 4, .inl c5)), (k6, .inl (cI, 4, .inl c6)), (k7, .inl (cI, 144, .inl c7)), (ko, .inl (cI, 36, .inl co))] sz) [(k, .inr (11, [.ref k0, .ref k1, .ref k2, .int c3, .ref k4, .ref k5, .ref k6, .ref k7, .ref k8, .int c9, .ref ka, .ref kb, .int cc, .int cd, .int ce, .int cf, .int cg, .int ch, .int ci, .int cj, .int ck, .ref kl, .int cm, .int cn, .ref ko])), (k4, .inl (cI, 6, .inl u.1)), (k5, .inl (cI, 4, .inl c5)), (k6, .inl (cI, 4, .inl c6)), (k7, .inl (cI, 144, .inl u.2.1)), (ko, .inl (cI, 36, .inl u.2.2))] t) (va_A [(k, .inr (11, [.ref k0, .ref k1, .ref k2, .int c3, .ref k4, .ref k5, .ref k6, .ref k7, .ref k8, .int c9, .ref ka, .ref kb, .int cc, .int cd, .int ce, .int cf, .int cg, .int ch, .int ci, .int cj, .int ck, .ref kl, .int cm, .int cn, .ref ko])), (k4, .inl (cI, 6, .inl c4)), (k5, .inl (cI, 4, .inl c5)), (k6, .inl (cI, 4, .inl c6)), (k7, .inl (cI, 144, .inl c7)), (ko, .inl (cI, 36, .inl co))] sz)) 0 0 (va_A [(k, .inr (11, [.ref k0, .ref k1, .ref k2, .int c3, .ref k4, .ref k5, .ref k6, .ref k7, .ref k8, .int c9, .ref ka, .ref kb, .int cc, .int cd, .int ce, .int cf, .int cg, .int ch, .int ci, .int cj, .int ck, .ref kl, .int cm, .int cn, .ref ko])), (k4, .inl (cI, 6, .inl c4)), (k5, .inl (cI, 4, .inl c5)), (k6, .inl (cI, 4, .inl c6)), (k7, .inl (cI, 144, .inl c7)), (ko, .inl (cI, 36, .inl co))] sz) := by
  refine kMetIX (own := RX11) (by decide) rfl (Nat.le_of_ble_eq_true rfl) ?_
  intro p e s m args below meth c hx hb hT hown hname hml A Q hK hP hD hS hA hN hXS hRet ls hl
  have hl : lv_has ls 7 [(0, .ref k), (1, .int a0), (2, .int a1), (3, .int a2), (4, .int a3), (5, .int a4)] := hl
  have lo_a0 := k_lo a0
  have hi_a0 := k_hi a0
  have lo_a1 := k_lo a1
  have hi_a1 := k_hi a1
  have lo_a2 := k_lo a2
  have hi_a2 := k_hi a2
  have lo_a3 := k_lo a3
  have hi_a3 := k_hi a3
  have lo_a4 := k_lo a4
  have hi_a4 := k_hi a4
  have lo_ci := k_lo ci
  have hi_ci := k_hi ci
  have hln_a0 : 0 ≤ a0.toInt → a0.toInt ≤ 3 → 0 ≤ (c6 a0.toNatClampNeg).toInt ∧ (c6 a0.toNatClampNeg).toInt ≤ 36 := fun z0 z1 => pre0 a0.toNatClampNeg (by rw [k_clamp]; omega)
  have hln_a2 : 0 ≤ a2.toInt → a2.toInt ≤ 3 → 0 ≤ (c6 a2.toNatClampNeg).toInt ∧ (c6 a2.toNatClampNeg).toInt ≤ 36 := fun z0 z1 => pre0 a2.toNatClampNeg (by rw [k_clamp]; omega)
  refine lv_iload_n hx hb dX11_move_0 rfl (lv_at hl 1 rfl) ?_
  refine kJi (wr := [(k, .inr (11, [.ref k0, .ref k1, .ref k2, .int c3, .ref k4, .ref k5, .ref k6, .ref k7, .ref k8, .int c9, .ref ka, .ref kb, .int cc, .int cd, .int ce, .int cf, .int cg, .int ch, .int ci, .int cj, .int ck, .ref kl, .int cm, .int cn, .ref ko])), (k4, .inl (cI, 6, .inl c4)), (k5, .inl (cI, 4, .inl c5)), (k6, .inl (cI, 4, .inl c6)), (k7, .inl (cI, 144, .inl c7)), (ko, .inl (cI, 36, .inl co))]) (va_runS (As := [.int a0]) (rest := []) ⟨hx, hb, hml, hown, hT⟩ (c_X11_isSheetG l D cI aK aV s.heap.size a0) (cwS 1 hT (gS_in mw_1391 mw_1389 mw_1390 mw_12) rfl rfl rfl (by decide +kernel) ⟨Nat.le_of_ble_eq_true rfl, Nat.le_of_ble_eq_true rfl⟩) (kStatX hK hP hD hN hXS hS hA [] rfl (by decide)) rfl rfl hl.1 rfl (lv_room (Nat.le_of_ble_eq_true rfl)) dX11_move_1 ⟨Nat.le_of_ble_eq_true rfl, Nat.le_of_ble_eq_true rfl⟩) hP hD hS hA [] [0, 1, 2, 3, 4, 5] rfl rfl (by decide) (by decide) ?_
  clear hP hD hS
  intro r_1 u_3 H locs w_2 hP hD hS
  replace hP : va_P D vwCl [(k, .inr (11, [.ref k0, .ref k1, .ref k2, .int c3, .ref k4, .ref k5, .ref k6, .ref k7, .ref k8, .int c9, .ref ka, .ref kb, .int cc, .int cd, .int ce, .int cf, .int cg, .int ch, .int ci, .int cj, .int ck, .ref kl, .int cm, .int cn, .ref ko])), (k4, .inl (cI, 6, .inl c4)), (k5, .inl (cI, 4, .inl c5)), (k6, .inl (cI, 4, .inl c6)), (k7, .inl (cI, 144, .inl c7)), (ko, .inl (cI, 36, .inl co))] H := hP
  replace hD : va_D A [(k, .inr (11, [.ref k0, .ref k1, .ref k2, .int c3, .ref k4, .ref k5, .ref k6, .ref k7, .ref k8, .int c9, .ref ka, .ref kb, .int cc, .int cd, .int ce, .int cf, .int cg, .int ch, .int ci, .int cj, .int ck, .ref kl, .int cm, .int cn, .ref ko])), (k4, .inl (cI, 6, .inl c4)), (k5, .inl (cI, 4, .inl c5)), (k6, .inl (cI, 4, .inl c6)), (k7, .inl (cI, 144, .inl c7)), (ko, .inl (cI, 36, .inl co))] := hD
  rcases w_2 with ⟨hr_1, h_4, h_5⟩ | ⟨hr_1, h_6⟩
  · have h_4 : 0 ≤ a0.toInt := h_4
    have h_5 : a0.toInt ≤ 3 := h_5
    obtain rfl : r_1 = 1 := hr_1.trans (by decide)
    refine b_if_eq hx hb zl_1 (tgt := 14) dX11_move_4 (by decide) (fun c_7 => by exfalso; omega) (fun c_7 => ?_)
    refine lv_iload_n hx hb dX11_move_7 rfl (lv_at hl 3 rfl) ?_
    refine kJi (wr := [(k, .inr (11, [.ref k0, .ref k1, .ref k2, .int c3, .ref k4, .ref k5, .ref k6, .ref k7, .ref k8, .int c9, .ref ka, .ref kb, .int cc, .int cd, .int ce, .int cf, .int cg, .int ch, .int ci, .int cj, .int ck, .ref kl, .int cm, .int cn, .ref ko])), (k4, .inl (cI, 6, .inl c4)), (k5, .inl (cI, 4, .inl c5)), (k6, .inl (cI, 4, .inl c6)), (k7, .inl (cI, 144, .inl c7)), (ko, .inl (cI, 36, .inl co))]) (va_runS (As := [.int a2]) (rest := []) ⟨hx, hb, hml, hown, hT⟩ (c_X11_isSheetG l D cI aK aV H.size a2) (cwS 1 hT (gS_in mw_1391 mw_1389 mw_1390 mw_12) rfl rfl rfl (by decide +kernel) ⟨Nat.le_of_ble_eq_true rfl, Nat.le_of_ble_eq_true rfl⟩) (kStatX hK hP hD hN hXS hS hA [] rfl (by decide)) rfl rfl hl.1 rfl (lv_room (Nat.le_of_ble_eq_true rfl)) dX11_move_8 ⟨Nat.le_of_ble_eq_true rfl, Nat.le_of_ble_eq_true rfl⟩) hP hD hS hA [] [0, 1, 2, 3, 4, 5] rfl rfl (by decide) (by decide) ?_
    clear hP hD hS
    intro r_8 u_10 H locs w_9 hP hD hS
    replace hP : va_P D vwCl [(k, .inr (11, [.ref k0, .ref k1, .ref k2, .int c3, .ref k4, .ref k5, .ref k6, .ref k7, .ref k8, .int c9, .ref ka, .ref kb, .int cc, .int cd, .int ce, .int cf, .int cg, .int ch, .int ci, .int cj, .int ck, .ref kl, .int cm, .int cn, .ref ko])), (k4, .inl (cI, 6, .inl c4)), (k5, .inl (cI, 4, .inl c5)), (k6, .inl (cI, 4, .inl c6)), (k7, .inl (cI, 144, .inl c7)), (ko, .inl (cI, 36, .inl co))] H := hP
    replace hD : va_D A [(k, .inr (11, [.ref k0, .ref k1, .ref k2, .int c3, .ref k4, .ref k5, .ref k6, .ref k7, .ref k8, .int c9, .ref ka, .ref kb, .int cc, .int cd, .int ce, .int cf, .int cg, .int ch, .int ci, .int cj, .int ck, .ref kl, .int cm, .int cn, .ref ko])), (k4, .inl (cI, 6, .inl c4)), (k5, .inl (cI, 4, .inl c5)), (k6, .inl (cI, 4, .inl c6)), (k7, .inl (cI, 144, .inl c7)), (ko, .inl (cI, 36, .inl co))] := hD
    rcases w_9 with ⟨hr_8, h_11, h_12⟩ | ⟨hr_8, h_13⟩
    · have h_11 : 0 ≤ a2.toInt := h_11
      have h_12 : a2.toInt ≤ 3 := h_12
      obtain rfl : r_8 = 1 := hr_8.trans (by decide)
      refine b_if_ne hx hb zl_1 (tgt := 21) dX11_move_11 (by decide) (fun c_14 => ?_) (fun c_14 => by exfalso; omega)
      refine lv_aload_n hx hb dX11_move_21 rfl (lv_at hl 0 rfl) ?_
      refine va_get (D := D) (ci := 11) (v := .ref k5) (C := RX11) (T := TX11) (N := 25) hx hb hT giX11 hown hK hP 0 rfl rfl 5 (by decide) (hT (Cond.fieldLink RX11 22 "DesertWireModel" "bits" "[I") mw_1161) (fun _ h9 => h9) rfl dX11_move_22 ?_
      refine lv_iload_n hx hb dX11_move_25 rfl (lv_at hl 1 rfl) ?_
      refine k_iald (v := (c5 a0.toNatClampNeg)) hx hb hK hP 2 0 rfl rfl (k_in (by omega) (by omega)) rfl dX11_move_26 ?_
      refine lv_topi (fun v_15 ev_15 => ?_)
      have lo_v_15 := k_lo v_15
      have hi_v_15 := k_hi v_15
      have tv_15 : v_15.toInt = (c5 a0.toNatClampNeg).toInt := by rw [ev_15]
      refine b_if_eq hx hb rfl (tgt := 39) dX11_move_27 (by decide) (fun c_16 => ?_) (fun c_16 => ?_)
      · refine lv_aload_n hx hb dX11_move_39 rfl (lv_at hl 0 rfl) ?_
        refine lv_ldc (v := (-1000002)) hx hb hown (hT _ mw_1392) dX11_move_40 ?_
        refine kJi (wr := [(k5, .inl (cI, 4, .inl c5)), (k6, .inl (cI, 4, .inl c6)), (k7, .inl (cI, 144, .inl c7)), (ko, .inl (cI, 36, .inl co))]) (va_runV (As := [.int (-1000002)]) (rest := []) ⟨hx, hb, hml, hown, hT⟩ (c_X11_findingG l D cI aK aV k k0 k1 k2 k4 k5 k6 k7 k8 ka kb kl ko H.size c3 c9 cc cd ce cf cg ch ci cj ck cm cn c4 (-1000002) (by first | omega | (simp only [zl_m1000002]; first | done | omega) | decide | assumption | rfl) (by first | omega | (simp only [zl_m1000002]; first | done | omega) | decide | assumption | rfl)) (cwV 1 hT (gV_in mw_1243 mw_1240 mw_1242 mw_p3_8 mw_12) rfl rfl rfl (by decide +kernel) ⟨Nat.le_of_ble_eq_true rfl, Nat.le_of_ble_eq_true rfl⟩) (kRecvX (q0 := 0) (ci := 11) hK hP hD hN hXS hS hA rfl rfl [0, 1] rfl (by decide)) rfl rfl hl.1 rfl (lv_room (Nat.le_of_ble_eq_true rfl)) dX11_move_42 ⟨Nat.le_of_ble_eq_true rfl, Nat.le_of_ble_eq_true rfl⟩) hP hD hS hA [0, 1] [2, 3, 4, 5] rfl rfl (by decide) (by decide) ?_
        clear hP hD hS
        intro r_17 sc4_19 H locs w_18 hP hD hS
        replace hP : va_P D vwCl [(k5, .inl (cI, 4, .inl c5)), (k6, .inl (cI, 4, .inl c6)), (k7, .inl (cI, 144, .inl c7)), (ko, .inl (cI, 36, .inl co)), (k, .inr (11, [.ref k0, .ref k1, .ref k2, .int c3, .ref k4, .ref k5, .ref k6, .ref k7, .ref k8, .int c9, .ref ka, .ref kb, .int cc, .int cd, .int ce, .int cf, .int cg, .int ch, .int ci, .int cj, .int ck, .ref kl, .int cm, .int cn, .ref ko])), (k4, .inl (cI, 6, .inl sc4_19))] H := hP
        replace hD : va_D A [(k5, .inl (cI, 4, .inl c5)), (k6, .inl (cI, 4, .inl c6)), (k7, .inl (cI, 144, .inl c7)), (ko, .inl (cI, 36, .inl co)), (k, .inr (11, [.ref k0, .ref k1, .ref k2, .int c3, .ref k4, .ref k5, .ref k6, .ref k7, .ref k8, .int c9, .ref ka, .ref kb, .int cc, .int cd, .int ce, .int cf, .int cg, .int ch, .int ci, .int cj, .int ck, .ref kl, .int cm, .int cn, .ref ko])), (k4, .inl (cI, 6, .inl sc4_19))] := hD
        have hr_17 := w_18
        obtain rfl : r_17 = (-1000002) := hr_17.trans (by decide)
        exact hRet (sc4_19, c7, co) [4, 5, 0, 1, 2, 3] ⟨(by (try dsimp only); unfold moveR; (repeat (first | rw [if_pos (by omega)] | rw [if_neg (by omega)]))), (by (try dsimp only); unfold moveS; (repeat (first | rw [if_pos (by omega)] | rw [if_neg (by omega)])))⟩ hP hD (by decide) rfl hS rfl dX11_move_45
      · refine lv_aload_n hx hb dX11_move_30 rfl (lv_at hl 0 rfl) ?_
        refine va_get (D := D) (ci := 11) (v := .ref k5) (C := RX11) (T := TX11) (N := 25) hx hb hT giX11 hown hK hP 0 rfl rfl 5 (by decide) (hT (Cond.fieldLink RX11 22 "DesertWireModel" "bits" "[I") mw_1161) (fun _ h9 => h9) rfl dX11_move_31 ?_
        refine lv_iload_n hx hb dX11_move_34 rfl (lv_at hl 3 rfl) ?_
        refine k_iald (v := (c5 a2.toNatClampNeg)) hx hb hK hP 2 0 rfl rfl (k_in (by omega) (by omega)) rfl dX11_move_35 ?_
        refine lv_topi (fun v_20 ev_20 => ?_)
        have lo_v_20 := k_lo v_20
        have hi_v_20 := k_hi v_20
        have tv_20 : v_20.toInt = (c5 a2.toNatClampNeg).toInt := by rw [ev_20]
        refine b_if_ne hx hb rfl (tgt := 46) dX11_move_36 (by decide) (fun c_21 => ?_) (fun c_21 => ?_)
        · refine lv_aload_n hx hb dX11_move_46 rfl (lv_at hl 0 rfl) ?_
          refine va_get (D := D) (ci := 11) (v := .ref k5) (C := RX11) (T := TX11) (N := 25) hx hb hT giX11 hown hK hP 0 rfl rfl 5 (by decide) (hT (Cond.fieldLink RX11 22 "DesertWireModel" "bits" "[I") mw_1161) (fun _ h9 => h9) rfl dX11_move_47 ?_
          refine lv_iload_n hx hb dX11_move_50 rfl (lv_at hl 1 rfl) ?_
          refine k_iald (v := (c5 a0.toNatClampNeg)) hx hb hK hP 2 0 rfl rfl (k_in (by omega) (by omega)) rfl dX11_move_51 ?_
          refine lv_topi (fun v_22 ev_22 => ?_)
          have lo_v_22 := k_lo v_22
          have hi_v_22 := k_hi v_22
          have tv_22 : v_22.toInt = (c5 a0.toNatClampNeg).toInt := by rw [ev_22]
          refine lv_aload_n hx hb dX11_move_52 rfl (lv_at hl 0 rfl) ?_
          refine va_get (D := D) (ci := 11) (v := .ref k5) (C := RX11) (T := TX11) (N := 25) hx hb hT giX11 hown hK hP 0 rfl rfl 5 (by decide) (hT (Cond.fieldLink RX11 22 "DesertWireModel" "bits" "[I") mw_1161) (fun _ h9 => h9) rfl dX11_move_53 ?_
          refine lv_iload_n hx hb dX11_move_56 rfl (lv_at hl 3 rfl) ?_
          refine k_iald (v := (c5 a2.toNatClampNeg)) hx hb hK hP 2 0 rfl rfl (k_in (by omega) (by omega)) rfl dX11_move_57 ?_
          refine lv_topi (fun v_23 ev_23 => ?_)
          have lo_v_23 := k_lo v_23
          have hi_v_23 := k_hi v_23
          have tv_23 : v_23.toInt = (c5 a2.toNatClampNeg).toInt := by rw [ev_23]
          refine b_icmp_eq hx hb rfl rfl (tgt := 68) dX11_move_58 (by decide) (fun c_24 => ?_) (fun c_24 => ?_)
          · refine lv_iload hx hb dX11_move_68 (lv_at hl 5 rfl) ?_
            refine b_if_lt hx hb rfl (tgt := 109) dX11_move_70 (by decide) (fun c_25 => ?_) (fun c_25 => ?_)
            · refine lv_aload_n hx hb dX11_move_109 rfl (lv_at hl 0 rfl) ?_
              refine lv_ldc (v := (-1000001)) hx hb hown (hT _ mw_1239) dX11_move_110 ?_
              refine kJi (wr := [(k5, .inl (cI, 4, .inl c5)), (k6, .inl (cI, 4, .inl c6)), (k7, .inl (cI, 144, .inl c7)), (ko, .inl (cI, 36, .inl co))]) (va_runV (As := [.int (-1000001)]) (rest := []) ⟨hx, hb, hml, hown, hT⟩ (c_X11_findingG l D cI aK aV k k0 k1 k2 k4 k5 k6 k7 k8 ka kb kl ko H.size c3 c9 cc cd ce cf cg ch ci cj ck cm cn c4 (-1000001) (by first | omega | (simp only [zl_m1000001]; first | done | omega) | decide | assumption | rfl) (by first | omega | (simp only [zl_m1000001]; first | done | omega) | decide | assumption | rfl)) (cwV 1 hT (gV_in mw_1243 mw_1240 mw_1242 mw_p3_8 mw_12) rfl rfl rfl (by decide +kernel) ⟨Nat.le_of_ble_eq_true rfl, Nat.le_of_ble_eq_true rfl⟩) (kRecvX (q0 := 0) (ci := 11) hK hP hD hN hXS hS hA rfl rfl [0, 1] rfl (by decide)) rfl rfl hl.1 rfl (lv_room (Nat.le_of_ble_eq_true rfl)) dX11_move_112 ⟨Nat.le_of_ble_eq_true rfl, Nat.le_of_ble_eq_true rfl⟩) hP hD hS hA [0, 1] [2, 3, 4, 5] rfl rfl (by decide) (by decide) ?_
              clear hP hD hS
              intro r_26 sc4_28 H locs w_27 hP hD hS
              replace hP : va_P D vwCl [(k5, .inl (cI, 4, .inl c5)), (k6, .inl (cI, 4, .inl c6)), (k7, .inl (cI, 144, .inl c7)), (ko, .inl (cI, 36, .inl co)), (k, .inr (11, [.ref k0, .ref k1, .ref k2, .int c3, .ref k4, .ref k5, .ref k6, .ref k7, .ref k8, .int c9, .ref ka, .ref kb, .int cc, .int cd, .int ce, .int cf, .int cg, .int ch, .int ci, .int cj, .int ck, .ref kl, .int cm, .int cn, .ref ko])), (k4, .inl (cI, 6, .inl sc4_28))] H := hP
              replace hD : va_D A [(k5, .inl (cI, 4, .inl c5)), (k6, .inl (cI, 4, .inl c6)), (k7, .inl (cI, 144, .inl c7)), (ko, .inl (cI, 36, .inl co)), (k, .inr (11, [.ref k0, .ref k1, .ref k2, .int c3, .ref k4, .ref k5, .ref k6, .ref k7, .ref k8, .int c9, .ref ka, .ref kb, .int cc, .int cd, .int ce, .int cf, .int cg, .int ch, .int ci, .int cj, .int ck, .ref kl, .int cm, .int cn, .ref ko])), (k4, .inl (cI, 6, .inl sc4_28))] := hD
              have hr_26 := w_27
              obtain rfl : r_26 = (-1000001) := hr_26.trans (by decide)
              exact hRet (sc4_28, c7, co) [4, 5, 0, 1, 2, 3] ⟨(by (try dsimp only); unfold moveR; (repeat (first | rw [if_pos (by omega)] | rw [if_neg (by omega)]))), (by (try dsimp only); unfold moveS; (repeat (first | rw [if_pos (by omega)] | rw [if_neg (by omega)])))⟩ hP hD (by decide) rfl hS rfl dX11_move_115
            · refine lv_iload_n hx hb dX11_move_73 rfl (lv_at hl 2 rfl) ?_
              refine b_if_lt hx hb rfl (tgt := 109) dX11_move_74 (by decide) (fun c_29 => ?_) (fun c_29 => ?_)
              · refine lv_aload_n hx hb dX11_move_109 rfl (lv_at hl 0 rfl) ?_
                refine lv_ldc (v := (-1000001)) hx hb hown (hT _ mw_1239) dX11_move_110 ?_
                refine kJi (wr := [(k5, .inl (cI, 4, .inl c5)), (k6, .inl (cI, 4, .inl c6)), (k7, .inl (cI, 144, .inl c7)), (ko, .inl (cI, 36, .inl co))]) (va_runV (As := [.int (-1000001)]) (rest := []) ⟨hx, hb, hml, hown, hT⟩ (c_X11_findingG l D cI aK aV k k0 k1 k2 k4 k5 k6 k7 k8 ka kb kl ko H.size c3 c9 cc cd ce cf cg ch ci cj ck cm cn c4 (-1000001) (by first | omega | (simp only [zl_m1000001]; first | done | omega) | decide | assumption | rfl) (by first | omega | (simp only [zl_m1000001]; first | done | omega) | decide | assumption | rfl)) (cwV 1 hT (gV_in mw_1243 mw_1240 mw_1242 mw_p3_8 mw_12) rfl rfl rfl (by decide +kernel) ⟨Nat.le_of_ble_eq_true rfl, Nat.le_of_ble_eq_true rfl⟩) (kRecvX (q0 := 0) (ci := 11) hK hP hD hN hXS hS hA rfl rfl [0, 1] rfl (by decide)) rfl rfl hl.1 rfl (lv_room (Nat.le_of_ble_eq_true rfl)) dX11_move_112 ⟨Nat.le_of_ble_eq_true rfl, Nat.le_of_ble_eq_true rfl⟩) hP hD hS hA [0, 1] [2, 3, 4, 5] rfl rfl (by decide) (by decide) ?_
                clear hP hD hS
                intro r_30 sc4_32 H locs w_31 hP hD hS
                replace hP : va_P D vwCl [(k5, .inl (cI, 4, .inl c5)), (k6, .inl (cI, 4, .inl c6)), (k7, .inl (cI, 144, .inl c7)), (ko, .inl (cI, 36, .inl co)), (k, .inr (11, [.ref k0, .ref k1, .ref k2, .int c3, .ref k4, .ref k5, .ref k6, .ref k7, .ref k8, .int c9, .ref ka, .ref kb, .int cc, .int cd, .int ce, .int cf, .int cg, .int ch, .int ci, .int cj, .int ck, .ref kl, .int cm, .int cn, .ref ko])), (k4, .inl (cI, 6, .inl sc4_32))] H := hP
                replace hD : va_D A [(k5, .inl (cI, 4, .inl c5)), (k6, .inl (cI, 4, .inl c6)), (k7, .inl (cI, 144, .inl c7)), (ko, .inl (cI, 36, .inl co)), (k, .inr (11, [.ref k0, .ref k1, .ref k2, .int c3, .ref k4, .ref k5, .ref k6, .ref k7, .ref k8, .int c9, .ref ka, .ref kb, .int cc, .int cd, .int ce, .int cf, .int cg, .int ch, .int ci, .int cj, .int ck, .ref kl, .int cm, .int cn, .ref ko])), (k4, .inl (cI, 6, .inl sc4_32))] := hD
                have hr_30 := w_31
                obtain rfl : r_30 = (-1000001) := hr_30.trans (by decide)
                exact hRet (sc4_32, c7, co) [4, 5, 0, 1, 2, 3] ⟨(by (try dsimp only); unfold moveR; (repeat (first | rw [if_pos (by omega)] | rw [if_neg (by omega)]))), (by (try dsimp only); unfold moveS; (repeat (first | rw [if_pos (by omega)] | rw [if_neg (by omega)])))⟩ hP hD (by decide) rfl hS rfl dX11_move_115
              · refine lv_iload hx hb dX11_move_77 (lv_at hl 4 rfl) ?_
                refine b_if_lt hx hb rfl (tgt := 109) dX11_move_79 (by decide) (fun c_33 => ?_) (fun c_33 => ?_)
                · refine lv_aload_n hx hb dX11_move_109 rfl (lv_at hl 0 rfl) ?_
                  refine lv_ldc (v := (-1000001)) hx hb hown (hT _ mw_1239) dX11_move_110 ?_
                  refine kJi (wr := [(k5, .inl (cI, 4, .inl c5)), (k6, .inl (cI, 4, .inl c6)), (k7, .inl (cI, 144, .inl c7)), (ko, .inl (cI, 36, .inl co))]) (va_runV (As := [.int (-1000001)]) (rest := []) ⟨hx, hb, hml, hown, hT⟩ (c_X11_findingG l D cI aK aV k k0 k1 k2 k4 k5 k6 k7 k8 ka kb kl ko H.size c3 c9 cc cd ce cf cg ch ci cj ck cm cn c4 (-1000001) (by first | omega | (simp only [zl_m1000001]; first | done | omega) | decide | assumption | rfl) (by first | omega | (simp only [zl_m1000001]; first | done | omega) | decide | assumption | rfl)) (cwV 1 hT (gV_in mw_1243 mw_1240 mw_1242 mw_p3_8 mw_12) rfl rfl rfl (by decide +kernel) ⟨Nat.le_of_ble_eq_true rfl, Nat.le_of_ble_eq_true rfl⟩) (kRecvX (q0 := 0) (ci := 11) hK hP hD hN hXS hS hA rfl rfl [0, 1] rfl (by decide)) rfl rfl hl.1 rfl (lv_room (Nat.le_of_ble_eq_true rfl)) dX11_move_112 ⟨Nat.le_of_ble_eq_true rfl, Nat.le_of_ble_eq_true rfl⟩) hP hD hS hA [0, 1] [2, 3, 4, 5] rfl rfl (by decide) (by decide) ?_
                  clear hP hD hS
                  intro r_34 sc4_36 H locs w_35 hP hD hS
                  replace hP : va_P D vwCl [(k5, .inl (cI, 4, .inl c5)), (k6, .inl (cI, 4, .inl c6)), (k7, .inl (cI, 144, .inl c7)), (ko, .inl (cI, 36, .inl co)), (k, .inr (11, [.ref k0, .ref k1, .ref k2, .int c3, .ref k4, .ref k5, .ref k6, .ref k7, .ref k8, .int c9, .ref ka, .ref kb, .int cc, .int cd, .int ce, .int cf, .int cg, .int ch, .int ci, .int cj, .int ck, .ref kl, .int cm, .int cn, .ref ko])), (k4, .inl (cI, 6, .inl sc4_36))] H := hP
                  replace hD : va_D A [(k5, .inl (cI, 4, .inl c5)), (k6, .inl (cI, 4, .inl c6)), (k7, .inl (cI, 144, .inl c7)), (ko, .inl (cI, 36, .inl co)), (k, .inr (11, [.ref k0, .ref k1, .ref k2, .int c3, .ref k4, .ref k5, .ref k6, .ref k7, .ref k8, .int c9, .ref ka, .ref kb, .int cc, .int cd, .int ce, .int cf, .int cg, .int ch, .int ci, .int cj, .int ck, .ref kl, .int cm, .int cn, .ref ko])), (k4, .inl (cI, 6, .inl sc4_36))] := hD
                  have hr_34 := w_35
                  obtain rfl : r_34 = (-1000001) := hr_34.trans (by decide)
                  exact hRet (sc4_36, c7, co) [4, 5, 0, 1, 2, 3] ⟨(by (try dsimp only); unfold moveR; (repeat (first | rw [if_pos (by omega)] | rw [if_neg (by omega)]))), (by (try dsimp only); unfold moveS; (repeat (first | rw [if_pos (by omega)] | rw [if_neg (by omega)])))⟩ hP hD (by decide) rfl hS rfl dX11_move_115
                · refine lv_iload_n hx hb dX11_move_82 rfl (lv_at hl 2 rfl) ?_
                  refine lv_aload_n hx hb dX11_move_83 rfl (lv_at hl 0 rfl) ?_
                  refine va_get (D := D) (ci := 11) (v := .ref k6) (C := RX11) (T := TX11) (N := 25) hx hb hT giX11 hown hK hP 0 rfl rfl 6 (by decide) (hT (Cond.fieldLink RX11 25 "DesertWireModel" "size" "[I") mw_1162) (fun _ h9 => h9) rfl dX11_move_84 ?_
                  refine lv_iload_n hx hb dX11_move_87 rfl (lv_at hl 1 rfl) ?_
                  refine k_iald (v := (c6 a0.toNatClampNeg)) hx hb hK hP 3 0 rfl rfl (k_in (by omega) (by omega)) rfl dX11_move_88 ?_
                  refine lv_topi (fun v_37 ev_37 => ?_)
                  have lo_v_37 := k_lo v_37
                  have hi_v_37 := k_hi v_37
                  have tv_37 : v_37.toInt = (c6 a0.toNatClampNeg).toInt := by rw [ev_37]
                  have b_38 : 0 ≤ v_37.toInt ∧ v_37.toInt ≤ 36 := by rw [tv_37]; exact pre0 a0.toNatClampNeg (by rw [k_clamp]; omega)
                  refine lv_iload hx hb dX11_move_89 (lv_at hl 5 rfl) ?_
                  refine lv_isub hx hb dX11_move_91 ?_
                  refine lv_topi (fun v_39 ev_39 => ?_)
                  have tv_39 : v_39.toInt = v_37.toInt - a4.toInt := by rw [ev_39]; exact k_subv rfl rfl (by omega) (by omega)
                  refine b_icmp_gt hx hb rfl rfl (tgt := 109) dX11_move_92 (by decide) (fun c_40 => ?_) (fun c_40 => ?_)
                  · refine lv_aload_n hx hb dX11_move_109 rfl (lv_at hl 0 rfl) ?_
                    refine lv_ldc (v := (-1000001)) hx hb hown (hT _ mw_1239) dX11_move_110 ?_
                    refine kJi (wr := [(k5, .inl (cI, 4, .inl c5)), (k6, .inl (cI, 4, .inl c6)), (k7, .inl (cI, 144, .inl c7)), (ko, .inl (cI, 36, .inl co))]) (va_runV (As := [.int (-1000001)]) (rest := []) ⟨hx, hb, hml, hown, hT⟩ (c_X11_findingG l D cI aK aV k k0 k1 k2 k4 k5 k6 k7 k8 ka kb kl ko H.size c3 c9 cc cd ce cf cg ch ci cj ck cm cn c4 (-1000001) (by first | omega | (simp only [zl_m1000001]; first | done | omega) | decide | assumption | rfl) (by first | omega | (simp only [zl_m1000001]; first | done | omega) | decide | assumption | rfl)) (cwV 1 hT (gV_in mw_1243 mw_1240 mw_1242 mw_p3_8 mw_12) rfl rfl rfl (by decide +kernel) ⟨Nat.le_of_ble_eq_true rfl, Nat.le_of_ble_eq_true rfl⟩) (kRecvX (q0 := 0) (ci := 11) hK hP hD hN hXS hS hA rfl rfl [0, 1] rfl (by decide)) rfl rfl hl.1 rfl (lv_room (Nat.le_of_ble_eq_true rfl)) dX11_move_112 ⟨Nat.le_of_ble_eq_true rfl, Nat.le_of_ble_eq_true rfl⟩) hP hD hS hA [0, 1] [2, 3, 4, 5] rfl rfl (by decide) (by decide) ?_
                    clear hP hD hS
                    intro r_41 sc4_43 H locs w_42 hP hD hS
                    replace hP : va_P D vwCl [(k5, .inl (cI, 4, .inl c5)), (k6, .inl (cI, 4, .inl c6)), (k7, .inl (cI, 144, .inl c7)), (ko, .inl (cI, 36, .inl co)), (k, .inr (11, [.ref k0, .ref k1, .ref k2, .int c3, .ref k4, .ref k5, .ref k6, .ref k7, .ref k8, .int c9, .ref ka, .ref kb, .int cc, .int cd, .int ce, .int cf, .int cg, .int ch, .int ci, .int cj, .int ck, .ref kl, .int cm, .int cn, .ref ko])), (k4, .inl (cI, 6, .inl sc4_43))] H := hP
                    replace hD : va_D A [(k5, .inl (cI, 4, .inl c5)), (k6, .inl (cI, 4, .inl c6)), (k7, .inl (cI, 144, .inl c7)), (ko, .inl (cI, 36, .inl co)), (k, .inr (11, [.ref k0, .ref k1, .ref k2, .int c3, .ref k4, .ref k5, .ref k6, .ref k7, .ref k8, .int c9, .ref ka, .ref kb, .int cc, .int cd, .int ce, .int cf, .int cg, .int ch, .int ci, .int cj, .int ck, .ref kl, .int cm, .int cn, .ref ko])), (k4, .inl (cI, 6, .inl sc4_43))] := hD
                    have hr_41 := w_42
                    obtain rfl : r_41 = (-1000001) := hr_41.trans (by decide)
                    exact hRet (sc4_43, c7, co) [4, 5, 0, 1, 2, 3] ⟨(by (try dsimp only); unfold moveR; (repeat (first | rw [if_pos (by omega)] | rw [if_neg (by omega)]))), (by (try dsimp only); unfold moveS; (repeat (first | rw [if_pos (by omega)] | rw [if_neg (by omega)])))⟩ hP hD (by decide) rfl hS rfl dX11_move_115
                  · refine lv_iload hx hb dX11_move_95 (lv_at hl 4 rfl) ?_
                    refine lv_aload_n hx hb dX11_move_97 rfl (lv_at hl 0 rfl) ?_
                    refine va_get (D := D) (ci := 11) (v := .ref k6) (C := RX11) (T := TX11) (N := 25) hx hb hT giX11 hown hK hP 0 rfl rfl 6 (by decide) (hT (Cond.fieldLink RX11 25 "DesertWireModel" "size" "[I") mw_1162) (fun _ h9 => h9) rfl dX11_move_98 ?_
                    refine lv_iload_n hx hb dX11_move_101 rfl (lv_at hl 3 rfl) ?_
                    refine k_iald (v := (c6 a2.toNatClampNeg)) hx hb hK hP 3 0 rfl rfl (k_in (by omega) (by omega)) rfl dX11_move_102 ?_
                    refine lv_topi (fun v_44 ev_44 => ?_)
                    have lo_v_44 := k_lo v_44
                    have hi_v_44 := k_hi v_44
                    have tv_44 : v_44.toInt = (c6 a2.toNatClampNeg).toInt := by rw [ev_44]
                    have b_45 : 0 ≤ v_44.toInt ∧ v_44.toInt ≤ 36 := by rw [tv_44]; exact pre0 a2.toNatClampNeg (by rw [k_clamp]; omega)
                    refine lv_iload hx hb dX11_move_103 (lv_at hl 5 rfl) ?_
                    refine lv_isub hx hb dX11_move_105 ?_
                    refine lv_topi (fun v_46 ev_46 => ?_)
                    have tv_46 : v_46.toInt = v_44.toInt - a4.toInt := by rw [ev_46]; exact k_subv rfl rfl (by omega) (by omega)
                    refine b_icmp_le hx hb rfl rfl (tgt := 116) dX11_move_106 (by decide) (fun c_47 => ?_) (fun c_47 => ?_)
                    · refine lv_iconst (v := 0) hx hb dX11_move_116 (by decide) ?_
                      refine lv_istore (lv' := [(6, .int 0), (0, .ref k), (1, .int a0), (2, .int a1), (3, .int a2), (4, .int a3), (5, .int a4)]) hx hb dX11_move_117 hl (by decide) rfl ?_
                      clear hl
                      intro ls hl
                      have hloop_119 : ∀ (fu_ : Nat) (l119_6 : Int32) (g119_ko : Nat → Int32), 0 ≤ l119_6.toInt → l119_6.toInt ≤ a4.toInt → (∀ j : Nat, j < l119_6.toInt.toNat → g119_ko j = c7 (36 * a0.toInt.toNat + a1.toInt.toNat + j)) → (a4.toInt - l119_6.toInt).toNat < fu_ → ∀ (ls : Array Slot) (H : Heap) (locs : List Loc), lv_has ls 7 [(6, .int l119_6), (0, .ref k), (1, .int a0), (2, .int a1), (3, .int a2), (4, .int a3), (5, .int a4)] → va_P D vwCl [(k, .inr (11, [.ref k0, .ref k1, .ref k2, .int c3, .ref k4, .ref k5, .ref k6, .ref k7, .ref k8, .int c9, .ref ka, .ref kb, .int cc, .int cd, .int ce, .int cf, .int cg, .int ch, .int ci, .int cj, .int ck, .ref kl, .int cm, .int cn, .ref ko])), (k4, .inl (cI, 6, .inl c4)), (k5, .inl (cI, 4, .inl c5)), (k6, .inl (cI, 4, .inl c6)), (k7, .inl (cI, 144, .inl c7)), (ko, .inl (cI, 36, .inl g119_ko))] H → va_D A [(k, .inr (11, [.ref k0, .ref k1, .ref k2, .int c3, .ref k4, .ref k5, .ref k6, .ref k7, .ref k8, .int c9, .ref ka, .ref kb, .int cc, .int cd, .int ce, .int cf, .int cg, .int ch, .int ci, .int cj, .int ck, .ref kl, .int cm, .int cn, .ref ko])), (k4, .inl (cI, 6, .inl c4)), (k5, .inl (cI, 4, .inl c5)), (k6, .inl (cI, 4, .inl c6)), (k7, .inl (cI, 144, .inl c7)), (ko, .inl (cI, 36, .inl g119_ko))] → va_S A s.heap H locs → W p l e ({ frames := 2, cells := 0, slots := 0, locals := 42 } : Room) s m args below meth c H locs 0 0 Q (F0 m 119 ls []) := by
                        intro fu_; induction fu_ with
                        | zero => intro l119_6 g119_ko i119_0 i119_1 i119_2 hm; exact absurd hm (by omega)
                        | succ fu_ ih119 =>
                            intro l119_6 g119_ko i119_0 i119_1 i119_2 hm ls H locs hl hP hD hS
                            have lo_l119_6 := k_lo l119_6
                            have hi_l119_6 := k_hi l119_6
                            refine lv_iload hx hb dX11_move_119 (lv_at hl 0 rfl) ?_
                            refine lv_iload hx hb dX11_move_121 (lv_at hl 6 rfl) ?_
                            refine b_icmp_ge hx hb rfl rfl (tgt := 148) dX11_move_123 (by decide) (fun c_48 => ?_) (fun c_48 => ?_)
                            · refine lv_iconst (v := 0) hx hb dX11_move_148 (by decide) ?_
                              refine lv_istore (lv' := [(6, .int 0), (0, .ref k), (1, .int a0), (2, .int a1), (3, .int a2), (4, .int a3), (5, .int a4)]) hx hb dX11_move_149 hl (by decide) rfl ?_
                              clear hl
                              intro ls hl
                              have hloop_151 : ∀ (fu_ : Nat) (l151_6 : Int32) (g151_k7 : Nat → Int32), 0 ≤ l151_6.toInt → l151_6.toInt ≤ a4.toInt → g151_k7 = va_cpy c7 c7 (36 * a0.toInt.toNat + a1.toInt.toNat) (36 * a2.toInt.toNat + a3.toInt.toNat) l151_6.toInt.toNat → (a4.toInt - l151_6.toInt).toNat < fu_ → ∀ (ls : Array Slot) (H : Heap) (locs : List Loc), lv_has ls 7 [(6, .int l151_6), (0, .ref k), (1, .int a0), (2, .int a1), (3, .int a2), (4, .int a3), (5, .int a4)] → va_P D vwCl [(k, .inr (11, [.ref k0, .ref k1, .ref k2, .int c3, .ref k4, .ref k5, .ref k6, .ref k7, .ref k8, .int c9, .ref ka, .ref kb, .int cc, .int cd, .int ce, .int cf, .int cg, .int ch, .int ci, .int cj, .int ck, .ref kl, .int cm, .int cn, .ref ko])), (k4, .inl (cI, 6, .inl c4)), (k5, .inl (cI, 4, .inl c5)), (k6, .inl (cI, 4, .inl c6)), (k7, .inl (cI, 144, .inl g151_k7)), (ko, .inl (cI, 36, .inl g119_ko))] H → va_D A [(k, .inr (11, [.ref k0, .ref k1, .ref k2, .int c3, .ref k4, .ref k5, .ref k6, .ref k7, .ref k8, .int c9, .ref ka, .ref kb, .int cc, .int cd, .int ce, .int cf, .int cg, .int ch, .int ci, .int cj, .int ck, .ref kl, .int cm, .int cn, .ref ko])), (k4, .inl (cI, 6, .inl c4)), (k5, .inl (cI, 4, .inl c5)), (k6, .inl (cI, 4, .inl c6)), (k7, .inl (cI, 144, .inl g151_k7)), (ko, .inl (cI, 36, .inl g119_ko))] → va_S A s.heap H locs → W p l e ({ frames := 2, cells := 0, slots := 0, locals := 42 } : Room) s m args below meth c H locs 0 0 Q (F0 m 151 ls []) := by
                                intro fu_; induction fu_ with
                                | zero => intro l151_6 g151_k7 i151_0 i151_1 i151_2 hm; exact absurd hm (by omega)
                                | succ fu_ ih151 =>
                                    intro l151_6 g151_k7 i151_0 i151_1 i151_2 hm ls H locs hl hP hD hS
                                    have lo_l151_6 := k_lo l151_6
                                    have hi_l151_6 := k_hi l151_6
                                    have i151_2 : g151_k7 = va_cpy c7 c7 (36 * a0.toInt.toNat + a1.toInt.toNat) (36 * a2.toInt.toNat + a3.toInt.toNat) l151_6.toInt.toNat := i151_2
                                    refine lv_iload hx hb dX11_move_151 (lv_at hl 0 rfl) ?_
                                    refine lv_iload hx hb dX11_move_153 (lv_at hl 6 rfl) ?_
                                    refine b_icmp_ge hx hb rfl rfl (tgt := 186) dX11_move_155 (by decide) (fun c_49 => ?_) (fun c_49 => ?_)
                                    · refine lv_iload hx hb dX11_move_186 (lv_at hl 6 rfl) ?_
                                      exact hRet (c4, g151_k7, g119_ko) [0, 1, 2, 3, 4, 5] ⟨(by (try dsimp only); unfold moveR; (repeat (first | rw [if_pos (by omega)] | rw [if_neg (by omega)]))), (by unfold moveS; rw [if_pos (by omega), show a4.toInt.toNat = l151_6.toInt.toNat from by omega]; exact i151_2)⟩ hP hD (by decide) rfl hS rfl dX11_move_188
                                    · refine lv_aload_n hx hb dX11_move_158 rfl (lv_at hl 1 rfl) ?_
                                      refine va_get (D := D) (ci := 11) (v := .ref k7) (C := RX11) (T := TX11) (N := 25) hx hb hT giX11 hown hK hP 0 rfl rfl 7 (by decide) (hT (Cond.fieldLink RX11 28 "DesertWireModel" "number" "[I") mw_1163) (fun _ h9 => h9) rfl dX11_move_159 ?_
                                      refine lv_bipush (v := 36) hx hb dX11_move_162 (by decide) ?_
                                      refine lv_iload_n hx hb dX11_move_164 rfl (lv_at hl 4 rfl) ?_
                                      refine lv_imul hx hb dX11_move_165 ?_
                                      refine lv_topi (fun v_50 ev_50 => ?_)
                                      have tv_50 : v_50.toInt = 36 * a2.toInt := by rw [ev_50]; exact k_mulv zl_36 rfl (by omega) (by omega)
                                      refine lv_iload hx hb dX11_move_166 (lv_at hl 5 rfl) ?_
                                      refine lv_iadd hx hb dX11_move_168 ?_
                                      refine lv_topi (fun v_51 ev_51 => ?_)
                                      have tv_51 : v_51.toInt = v_50.toInt + a3.toInt := by rw [ev_51]; exact k_addv rfl rfl (by omega) (by omega)
                                      refine lv_iload hx hb dX11_move_169 (lv_at hl 0 rfl) ?_
                                      refine lv_iadd hx hb dX11_move_171 ?_
                                      refine lv_topi (fun v_52 ev_52 => ?_)
                                      have tv_52 : v_52.toInt = v_51.toInt + l151_6.toInt := by rw [ev_52]; exact k_addv rfl rfl (by omega) (by omega)
                                      refine lv_aload_n hx hb dX11_move_172 rfl (lv_at hl 1 rfl) ?_
                                      refine va_get (D := D) (ci := 11) (v := .ref ko) (C := RX11) (T := TX11) (N := 25) hx hb hT giX11 hown hK hP 0 rfl rfl 24 (by decide) (hT (Cond.fieldLink RX11 43 "DesertWireModel" "carried" "[I") mw_1180) (fun _ h9 => h9) rfl dX11_move_173 ?_
                                      refine lv_iload hx hb dX11_move_176 (lv_at hl 0 rfl) ?_
                                      refine k_iald (v := (g119_ko l151_6.toNatClampNeg)) hx hb hK hP 5 0 rfl rfl (k_in (by omega) (by omega)) rfl dX11_move_178 ?_
                                      refine lv_topi (fun v_53 ev_53 => ?_)
                                      have lo_v_53 := k_lo v_53
                                      have hi_v_53 := k_hi v_53
                                      have tv_53 : v_53.toInt = (g119_ko l151_6.toNatClampNeg).toInt := by rw [ev_53]
                                      refine va_iast hx hb hK hP hD hS 4 0 rfl rfl (k_in (by omega) (by omega)) dX11_move_179 ?_
                                      clear hP hD hS
                                      intro H locs hP hD hS
                                      replace hP : va_P D vwCl [(k, .inr (11, [.ref k0, .ref k1, .ref k2, .int c3, .ref k4, .ref k5, .ref k6, .ref k7, .ref k8, .int c9, .ref ka, .ref kb, .int cc, .int cd, .int ce, .int cf, .int cg, .int ch, .int ci, .int cj, .int ck, .ref kl, .int cm, .int cn, .ref ko])), (k4, .inl (cI, 6, .inl c4)), (k5, .inl (cI, 4, .inl c5)), (k6, .inl (cI, 4, .inl c6)), (k7, .inl (cI, 144, .inl (upd g151_k7 v_52.toNatClampNeg v_53))), (ko, .inl (cI, 36, .inl g119_ko))] H := hP
                                      replace hD : va_D A [(k, .inr (11, [.ref k0, .ref k1, .ref k2, .int c3, .ref k4, .ref k5, .ref k6, .ref k7, .ref k8, .int c9, .ref ka, .ref kb, .int cc, .int cd, .int ce, .int cf, .int cg, .int ch, .int ci, .int cj, .int ck, .ref kl, .int cm, .int cn, .ref ko])), (k4, .inl (cI, 6, .inl c4)), (k5, .inl (cI, 4, .inl c5)), (k6, .inl (cI, 4, .inl c6)), (k7, .inl (cI, 144, .inl (upd g151_k7 v_52.toNatClampNeg v_53))), (ko, .inl (cI, 36, .inl g119_ko))] := hD
                                      obtain ⟨f_54, ef_54⟩ : ∃ g : Nat → Int32, g = upd g151_k7 v_52.toNatClampNeg v_53 := ⟨_, rfl⟩
                                      rw [← ef_54] at hP hD
                                      obtain ⟨v_55, ev_55⟩ : ∃ y : Int32, y = l151_6 + 1 := ⟨_, rfl⟩
                                      have tv_55 : v_55.toInt = l151_6.toInt + 1 := by rw [ev_55]; exact k_addv rfl zl_1 (by omega) (by omega)
                                      refine lv_iinc (v := v_55) (lv' := [(6, .int v_55), (0, .ref k), (1, .int a0), (2, .int a1), (3, .int a2), (4, .int a3), (5, .int a4)]) hx hb dX11_move_180 hl (k := 0) rfl (by rw [ev_55]; rfl) (by decide) rfl ?_
                                      clear hl
                                      intro ls hl
                                      refine lv_goto (tgt := 151) hx hb dX11_move_183 (by decide) ?_
                                      exact ih151 v_55 f_54 (by first | omega | decide | assumption | rfl) (by first | omega | decide | assumption | rfl) (cpy_step i151_2 (by omega) (by omega) ef_54 (by omega) (by rw [ev_53, k_clamp]; exact i119_2 _ (by omega))) (by omega) ls _ _ (lv_sub hl [0, 1, 2, 3, 4, 5, 6] rfl) (hP.sub [0, 1, 2, 3, 4, 5] rfl) (hD.sub [0, 1, 2, 3, 4, 5] (by decide) rfl) hS
                              exact hloop_151 _ 0 c7 (by first | omega | (simp only [zl_0]; first | done | omega) | decide | assumption | rfl) (by first | omega | (simp only [zl_0]; first | done | omega) | decide | assumption | rfl) (cpy_0 zl_0) (Nat.lt_succ_self _) ls _ _ (lv_sub hl [0, 1, 2, 3, 4, 5, 6] rfl) hP hD hS
                            · refine lv_aload_n hx hb dX11_move_126 rfl (lv_at hl 1 rfl) ?_
                              refine va_get (D := D) (ci := 11) (v := .ref ko) (C := RX11) (T := TX11) (N := 25) hx hb hT giX11 hown hK hP 0 rfl rfl 24 (by decide) (hT (Cond.fieldLink RX11 43 "DesertWireModel" "carried" "[I") mw_1180) (fun _ h9 => h9) rfl dX11_move_127 ?_
                              refine lv_iload hx hb dX11_move_130 (lv_at hl 0 rfl) ?_
                              refine lv_aload_n hx hb dX11_move_132 rfl (lv_at hl 1 rfl) ?_
                              refine lv_iload_n hx hb dX11_move_133 rfl (lv_at hl 2 rfl) ?_
                              refine lv_iload_n hx hb dX11_move_134 rfl (lv_at hl 3 rfl) ?_
                              refine lv_iload hx hb dX11_move_135 (lv_at hl 0 rfl) ?_
                              refine lv_iadd hx hb dX11_move_137 ?_
                              refine lv_topi (fun v_56 ev_56 => ?_)
                              have tv_56 : v_56.toInt = a1.toInt + l119_6.toInt := by rw [ev_56]; exact k_addv rfl rfl (by omega) (by omega)
                              refine kJi (wr := [(k4, .inl (cI, 6, .inl c4)), (k5, .inl (cI, 4, .inl c5)), (k6, .inl (cI, 4, .inl c6)), (ko, .inl (cI, 36, .inl g119_ko))]) (va_runV (As := [.int a0, .int v_56]) (rest := [.int l119_6, .ref ko]) ⟨hx, hb, hml, hown, hT⟩ (c_X11_atG l D cI aK aV k k0 k1 k2 k4 k5 k6 k7 k8 ka kb kl ko H.size c3 c9 cc cd ce cf cg ch ci cj ck cm cn c7 a0 v_56 (by first | omega | decide | assumption | rfl) (by first | omega | decide | assumption | rfl) (by first | omega | decide | assumption | rfl) (by first | omega | decide | assumption | rfl)) (cwV 2 hT (gV_in mw_1396 mw_1393 mw_1395 mw_p5_2 mw_12) rfl rfl rfl (by decide +kernel) ⟨Nat.le_of_ble_eq_true rfl, Nat.le_of_ble_eq_true rfl⟩) (kRecvX (q0 := 0) (ci := 11) hK hP hD hN hXS hS hA rfl rfl [0, 4] rfl (by decide)) rfl rfl hl.1 rfl (lv_room (Nat.le_of_ble_eq_true rfl)) dX11_move_138 ⟨Nat.le_of_ble_eq_true rfl, Nat.le_of_ble_eq_true rfl⟩) hP hD hS hA [0, 4] [1, 2, 3, 5] rfl rfl (by decide) (by decide) ?_
                              clear hP hD hS
                              intro r_57 u_59 H locs w_58 hP hD hS
                              replace hP : va_P D vwCl [(k4, .inl (cI, 6, .inl c4)), (k5, .inl (cI, 4, .inl c5)), (k6, .inl (cI, 4, .inl c6)), (ko, .inl (cI, 36, .inl g119_ko)), (k, .inr (11, [.ref k0, .ref k1, .ref k2, .int c3, .ref k4, .ref k5, .ref k6, .ref k7, .ref k8, .int c9, .ref ka, .ref kb, .int cc, .int cd, .int ce, .int cf, .int cg, .int ch, .int ci, .int cj, .int ck, .ref kl, .int cm, .int cn, .ref ko])), (k7, .inl (cI, 144, .inl c7))] H := hP
                              replace hD : va_D A [(k4, .inl (cI, 6, .inl c4)), (k5, .inl (cI, 4, .inl c5)), (k6, .inl (cI, 4, .inl c6)), (ko, .inl (cI, 36, .inl g119_ko)), (k, .inr (11, [.ref k0, .ref k1, .ref k2, .int c3, .ref k4, .ref k5, .ref k6, .ref k7, .ref k8, .int c9, .ref ka, .ref kb, .int cc, .int cd, .int ce, .int cf, .int cg, .int ch, .int ci, .int cj, .int ck, .ref kl, .int cm, .int cn, .ref ko])), (k7, .inl (cI, 144, .inl c7))] := hD
                              have h_60 := w_58
                              have h_60 : r_57 = c7 (36 * a0.toInt.toNat + v_56.toInt.toNat) := h_60
                              have h_60 : r_57 = c7 (36 * a0.toInt.toNat + v_56.toInt.toNat) := h_60
                              have lo_r_57 := k_lo r_57
                              have hi_r_57 := k_hi r_57
                              refine va_iast hx hb hK hP hD hS 3 0 rfl rfl (k_in (by omega) (by omega)) dX11_move_141 ?_
                              clear hP hD hS
                              intro H locs hP hD hS
                              replace hP : va_P D vwCl [(k4, .inl (cI, 6, .inl c4)), (k5, .inl (cI, 4, .inl c5)), (k6, .inl (cI, 4, .inl c6)), (ko, .inl (cI, 36, .inl (upd g119_ko l119_6.toNatClampNeg r_57))), (k, .inr (11, [.ref k0, .ref k1, .ref k2, .int c3, .ref k4, .ref k5, .ref k6, .ref k7, .ref k8, .int c9, .ref ka, .ref kb, .int cc, .int cd, .int ce, .int cf, .int cg, .int ch, .int ci, .int cj, .int ck, .ref kl, .int cm, .int cn, .ref ko])), (k7, .inl (cI, 144, .inl c7))] H := hP
                              replace hD : va_D A [(k4, .inl (cI, 6, .inl c4)), (k5, .inl (cI, 4, .inl c5)), (k6, .inl (cI, 4, .inl c6)), (ko, .inl (cI, 36, .inl (upd g119_ko l119_6.toNatClampNeg r_57))), (k, .inr (11, [.ref k0, .ref k1, .ref k2, .int c3, .ref k4, .ref k5, .ref k6, .ref k7, .ref k8, .int c9, .ref ka, .ref kb, .int cc, .int cd, .int ce, .int cf, .int cg, .int ch, .int ci, .int cj, .int ck, .ref kl, .int cm, .int cn, .ref ko])), (k7, .inl (cI, 144, .inl c7))] := hD
                              obtain ⟨f_61, ef_61⟩ : ∃ g : Nat → Int32, g = upd g119_ko l119_6.toNatClampNeg r_57 := ⟨_, rfl⟩
                              rw [← ef_61] at hP hD
                              obtain ⟨v_62, ev_62⟩ : ∃ y : Int32, y = l119_6 + 1 := ⟨_, rfl⟩
                              have tv_62 : v_62.toInt = l119_6.toInt + 1 := by rw [ev_62]; exact k_addv rfl zl_1 (by omega) (by omega)
                              refine lv_iinc (v := v_62) (lv' := [(6, .int v_62), (0, .ref k), (1, .int a0), (2, .int a1), (3, .int a2), (4, .int a3), (5, .int a4)]) hx hb dX11_move_142 hl (k := 0) rfl (by rw [ev_62]; rfl) (by decide) rfl ?_
                              clear hl
                              intro ls hl
                              refine lv_goto (tgt := 119) hx hb dX11_move_145 (by decide) ?_
                              exact ih119 v_62 f_61 (by first | omega | decide | assumption | rfl) (by first | omega | decide | assumption | rfl) (cr_step i119_2 (by omega) (by omega) ef_61 h_60 (by omega)) (by omega) ls _ _ (lv_sub hl [0, 1, 2, 3, 4, 5, 6] rfl) (hP.sub [4, 0, 1, 2, 5, 3] rfl) (hD.sub [4, 0, 1, 2, 5, 3] (by decide) rfl) hS
                      exact hloop_119 _ 0 co (by first | omega | (simp only [zl_0]; first | done | omega) | decide | assumption | rfl) (by first | omega | (simp only [zl_0]; first | done | omega) | decide | assumption | rfl) (fun j hj => by rw [zl_0] at hj; omega) (Nat.lt_succ_self _) ls _ _ (lv_sub hl [0, 1, 2, 3, 4, 5, 6] rfl) hP hD hS
                    · refine lv_aload_n hx hb dX11_move_109 rfl (lv_at hl 0 rfl) ?_
                      refine lv_ldc (v := (-1000001)) hx hb hown (hT _ mw_1239) dX11_move_110 ?_
                      refine kJi (wr := [(k5, .inl (cI, 4, .inl c5)), (k6, .inl (cI, 4, .inl c6)), (k7, .inl (cI, 144, .inl c7)), (ko, .inl (cI, 36, .inl co))]) (va_runV (As := [.int (-1000001)]) (rest := []) ⟨hx, hb, hml, hown, hT⟩ (c_X11_findingG l D cI aK aV k k0 k1 k2 k4 k5 k6 k7 k8 ka kb kl ko H.size c3 c9 cc cd ce cf cg ch ci cj ck cm cn c4 (-1000001) (by first | omega | (simp only [zl_m1000001]; first | done | omega) | decide | assumption | rfl) (by first | omega | (simp only [zl_m1000001]; first | done | omega) | decide | assumption | rfl)) (cwV 1 hT (gV_in mw_1243 mw_1240 mw_1242 mw_p3_8 mw_12) rfl rfl rfl (by decide +kernel) ⟨Nat.le_of_ble_eq_true rfl, Nat.le_of_ble_eq_true rfl⟩) (kRecvX (q0 := 0) (ci := 11) hK hP hD hN hXS hS hA rfl rfl [0, 1] rfl (by decide)) rfl rfl hl.1 rfl (lv_room (Nat.le_of_ble_eq_true rfl)) dX11_move_112 ⟨Nat.le_of_ble_eq_true rfl, Nat.le_of_ble_eq_true rfl⟩) hP hD hS hA [0, 1] [2, 3, 4, 5] rfl rfl (by decide) (by decide) ?_
                      clear hP hD hS
                      intro r_63 sc4_65 H locs w_64 hP hD hS
                      replace hP : va_P D vwCl [(k5, .inl (cI, 4, .inl c5)), (k6, .inl (cI, 4, .inl c6)), (k7, .inl (cI, 144, .inl c7)), (ko, .inl (cI, 36, .inl co)), (k, .inr (11, [.ref k0, .ref k1, .ref k2, .int c3, .ref k4, .ref k5, .ref k6, .ref k7, .ref k8, .int c9, .ref ka, .ref kb, .int cc, .int cd, .int ce, .int cf, .int cg, .int ch, .int ci, .int cj, .int ck, .ref kl, .int cm, .int cn, .ref ko])), (k4, .inl (cI, 6, .inl sc4_65))] H := hP
                      replace hD : va_D A [(k5, .inl (cI, 4, .inl c5)), (k6, .inl (cI, 4, .inl c6)), (k7, .inl (cI, 144, .inl c7)), (ko, .inl (cI, 36, .inl co)), (k, .inr (11, [.ref k0, .ref k1, .ref k2, .int c3, .ref k4, .ref k5, .ref k6, .ref k7, .ref k8, .int c9, .ref ka, .ref kb, .int cc, .int cd, .int ce, .int cf, .int cg, .int ch, .int ci, .int cj, .int ck, .ref kl, .int cm, .int cn, .ref ko])), (k4, .inl (cI, 6, .inl sc4_65))] := hD
                      have hr_63 := w_64
                      obtain rfl : r_63 = (-1000001) := hr_63.trans (by decide)
                      exact hRet (sc4_65, c7, co) [4, 5, 0, 1, 2, 3] ⟨(by (try dsimp only); unfold moveR; (repeat (first | rw [if_pos (by omega)] | rw [if_neg (by omega)]))), (by (try dsimp only); unfold moveS; (repeat (first | rw [if_pos (by omega)] | rw [if_neg (by omega)])))⟩ hP hD (by decide) rfl hS rfl dX11_move_115
          · refine lv_aload_n hx hb dX11_move_61 rfl (lv_at hl 0 rfl) ?_
            refine lv_ldc (v := (-1000005)) hx hb hown (hT _ mw_1283) dX11_move_62 ?_
            refine kJi (wr := [(k5, .inl (cI, 4, .inl c5)), (k6, .inl (cI, 4, .inl c6)), (k7, .inl (cI, 144, .inl c7)), (ko, .inl (cI, 36, .inl co))]) (va_runV (As := [.int (-1000005)]) (rest := []) ⟨hx, hb, hml, hown, hT⟩ (c_X11_findingG l D cI aK aV k k0 k1 k2 k4 k5 k6 k7 k8 ka kb kl ko H.size c3 c9 cc cd ce cf cg ch ci cj ck cm cn c4 (-1000005) (by first | omega | (simp only [zl_m1000005]; first | done | omega) | decide | assumption | rfl) (by first | omega | (simp only [zl_m1000005]; first | done | omega) | decide | assumption | rfl)) (cwV 1 hT (gV_in mw_1243 mw_1240 mw_1242 mw_p3_8 mw_12) rfl rfl rfl (by decide +kernel) ⟨Nat.le_of_ble_eq_true rfl, Nat.le_of_ble_eq_true rfl⟩) (kRecvX (q0 := 0) (ci := 11) hK hP hD hN hXS hS hA rfl rfl [0, 1] rfl (by decide)) rfl rfl hl.1 rfl (lv_room (Nat.le_of_ble_eq_true rfl)) dX11_move_64 ⟨Nat.le_of_ble_eq_true rfl, Nat.le_of_ble_eq_true rfl⟩) hP hD hS hA [0, 1] [2, 3, 4, 5] rfl rfl (by decide) (by decide) ?_
            clear hP hD hS
            intro r_66 sc4_68 H locs w_67 hP hD hS
            replace hP : va_P D vwCl [(k5, .inl (cI, 4, .inl c5)), (k6, .inl (cI, 4, .inl c6)), (k7, .inl (cI, 144, .inl c7)), (ko, .inl (cI, 36, .inl co)), (k, .inr (11, [.ref k0, .ref k1, .ref k2, .int c3, .ref k4, .ref k5, .ref k6, .ref k7, .ref k8, .int c9, .ref ka, .ref kb, .int cc, .int cd, .int ce, .int cf, .int cg, .int ch, .int ci, .int cj, .int ck, .ref kl, .int cm, .int cn, .ref ko])), (k4, .inl (cI, 6, .inl sc4_68))] H := hP
            replace hD : va_D A [(k5, .inl (cI, 4, .inl c5)), (k6, .inl (cI, 4, .inl c6)), (k7, .inl (cI, 144, .inl c7)), (ko, .inl (cI, 36, .inl co)), (k, .inr (11, [.ref k0, .ref k1, .ref k2, .int c3, .ref k4, .ref k5, .ref k6, .ref k7, .ref k8, .int c9, .ref ka, .ref kb, .int cc, .int cd, .int ce, .int cf, .int cg, .int ch, .int ci, .int cj, .int ck, .ref kl, .int cm, .int cn, .ref ko])), (k4, .inl (cI, 6, .inl sc4_68))] := hD
            have hr_66 := w_67
            obtain rfl : r_66 = (-1000005) := hr_66.trans (by decide)
            exact hRet (sc4_68, c7, co) [4, 5, 0, 1, 2, 3] ⟨(by (try dsimp only); unfold moveR; (repeat (first | rw [if_pos (by omega)] | rw [if_neg (by omega)]))), (by (try dsimp only); unfold moveS; (repeat (first | rw [if_pos (by omega)] | rw [if_neg (by omega)])))⟩ hP hD (by decide) rfl hS rfl dX11_move_67
        · refine lv_aload_n hx hb dX11_move_39 rfl (lv_at hl 0 rfl) ?_
          refine lv_ldc (v := (-1000002)) hx hb hown (hT _ mw_1392) dX11_move_40 ?_
          refine kJi (wr := [(k5, .inl (cI, 4, .inl c5)), (k6, .inl (cI, 4, .inl c6)), (k7, .inl (cI, 144, .inl c7)), (ko, .inl (cI, 36, .inl co))]) (va_runV (As := [.int (-1000002)]) (rest := []) ⟨hx, hb, hml, hown, hT⟩ (c_X11_findingG l D cI aK aV k k0 k1 k2 k4 k5 k6 k7 k8 ka kb kl ko H.size c3 c9 cc cd ce cf cg ch ci cj ck cm cn c4 (-1000002) (by first | omega | (simp only [zl_m1000002]; first | done | omega) | decide | assumption | rfl) (by first | omega | (simp only [zl_m1000002]; first | done | omega) | decide | assumption | rfl)) (cwV 1 hT (gV_in mw_1243 mw_1240 mw_1242 mw_p3_8 mw_12) rfl rfl rfl (by decide +kernel) ⟨Nat.le_of_ble_eq_true rfl, Nat.le_of_ble_eq_true rfl⟩) (kRecvX (q0 := 0) (ci := 11) hK hP hD hN hXS hS hA rfl rfl [0, 1] rfl (by decide)) rfl rfl hl.1 rfl (lv_room (Nat.le_of_ble_eq_true rfl)) dX11_move_42 ⟨Nat.le_of_ble_eq_true rfl, Nat.le_of_ble_eq_true rfl⟩) hP hD hS hA [0, 1] [2, 3, 4, 5] rfl rfl (by decide) (by decide) ?_
          clear hP hD hS
          intro r_69 sc4_71 H locs w_70 hP hD hS
          replace hP : va_P D vwCl [(k5, .inl (cI, 4, .inl c5)), (k6, .inl (cI, 4, .inl c6)), (k7, .inl (cI, 144, .inl c7)), (ko, .inl (cI, 36, .inl co)), (k, .inr (11, [.ref k0, .ref k1, .ref k2, .int c3, .ref k4, .ref k5, .ref k6, .ref k7, .ref k8, .int c9, .ref ka, .ref kb, .int cc, .int cd, .int ce, .int cf, .int cg, .int ch, .int ci, .int cj, .int ck, .ref kl, .int cm, .int cn, .ref ko])), (k4, .inl (cI, 6, .inl sc4_71))] H := hP
          replace hD : va_D A [(k5, .inl (cI, 4, .inl c5)), (k6, .inl (cI, 4, .inl c6)), (k7, .inl (cI, 144, .inl c7)), (ko, .inl (cI, 36, .inl co)), (k, .inr (11, [.ref k0, .ref k1, .ref k2, .int c3, .ref k4, .ref k5, .ref k6, .ref k7, .ref k8, .int c9, .ref ka, .ref kb, .int cc, .int cd, .int ce, .int cf, .int cg, .int ch, .int ci, .int cj, .int ck, .ref kl, .int cm, .int cn, .ref ko])), (k4, .inl (cI, 6, .inl sc4_71))] := hD
          have hr_69 := w_70
          obtain rfl : r_69 = (-1000002) := hr_69.trans (by decide)
          exact hRet (sc4_71, c7, co) [4, 5, 0, 1, 2, 3] ⟨(by (try dsimp only); unfold moveR; (repeat (first | rw [if_pos (by omega)] | rw [if_neg (by omega)]))), (by (try dsimp only); unfold moveS; (repeat (first | rw [if_pos (by omega)] | rw [if_neg (by omega)])))⟩ hP hD (by decide) rfl hS rfl dX11_move_45
    · have h_13 : a2.toInt < 0 ∨ 3 < a2.toInt := h_13
      obtain rfl : r_8 = 0 := hr_8.trans (by decide)
      refine b_if_ne hx hb zl_0 (tgt := 21) dX11_move_11 (by decide) (fun c_72 => by exfalso; omega) (fun c_72 => ?_)
      refine lv_aload_n hx hb dX11_move_14 rfl (lv_at hl 0 rfl) ?_
      refine lv_ldc (v := (-1000001)) hx hb hown (hT _ mw_1239) dX11_move_15 ?_
      refine kJi (wr := [(k5, .inl (cI, 4, .inl c5)), (k6, .inl (cI, 4, .inl c6)), (k7, .inl (cI, 144, .inl c7)), (ko, .inl (cI, 36, .inl co))]) (va_runV (As := [.int (-1000001)]) (rest := []) ⟨hx, hb, hml, hown, hT⟩ (c_X11_findingG l D cI aK aV k k0 k1 k2 k4 k5 k6 k7 k8 ka kb kl ko H.size c3 c9 cc cd ce cf cg ch ci cj ck cm cn c4 (-1000001) (by first | omega | (simp only [zl_m1000001]; first | done | omega) | decide | assumption | rfl) (by first | omega | (simp only [zl_m1000001]; first | done | omega) | decide | assumption | rfl)) (cwV 1 hT (gV_in mw_1243 mw_1240 mw_1242 mw_p3_8 mw_12) rfl rfl rfl (by decide +kernel) ⟨Nat.le_of_ble_eq_true rfl, Nat.le_of_ble_eq_true rfl⟩) (kRecvX (q0 := 0) (ci := 11) hK hP hD hN hXS hS hA rfl rfl [0, 1] rfl (by decide)) rfl rfl hl.1 rfl (lv_room (Nat.le_of_ble_eq_true rfl)) dX11_move_17 ⟨Nat.le_of_ble_eq_true rfl, Nat.le_of_ble_eq_true rfl⟩) hP hD hS hA [0, 1] [2, 3, 4, 5] rfl rfl (by decide) (by decide) ?_
      clear hP hD hS
      intro r_73 sc4_75 H locs w_74 hP hD hS
      replace hP : va_P D vwCl [(k5, .inl (cI, 4, .inl c5)), (k6, .inl (cI, 4, .inl c6)), (k7, .inl (cI, 144, .inl c7)), (ko, .inl (cI, 36, .inl co)), (k, .inr (11, [.ref k0, .ref k1, .ref k2, .int c3, .ref k4, .ref k5, .ref k6, .ref k7, .ref k8, .int c9, .ref ka, .ref kb, .int cc, .int cd, .int ce, .int cf, .int cg, .int ch, .int ci, .int cj, .int ck, .ref kl, .int cm, .int cn, .ref ko])), (k4, .inl (cI, 6, .inl sc4_75))] H := hP
      replace hD : va_D A [(k5, .inl (cI, 4, .inl c5)), (k6, .inl (cI, 4, .inl c6)), (k7, .inl (cI, 144, .inl c7)), (ko, .inl (cI, 36, .inl co)), (k, .inr (11, [.ref k0, .ref k1, .ref k2, .int c3, .ref k4, .ref k5, .ref k6, .ref k7, .ref k8, .int c9, .ref ka, .ref kb, .int cc, .int cd, .int ce, .int cf, .int cg, .int ch, .int ci, .int cj, .int ck, .ref kl, .int cm, .int cn, .ref ko])), (k4, .inl (cI, 6, .inl sc4_75))] := hD
      have hr_73 := w_74
      obtain rfl : r_73 = (-1000001) := hr_73.trans (by decide)
      exact hRet (sc4_75, c7, co) [4, 5, 0, 1, 2, 3] ⟨(by (try dsimp only); unfold moveR; (repeat (first | rw [if_pos (by omega)] | rw [if_neg (by omega)]))), (by (try dsimp only); unfold moveS; (repeat (first | rw [if_pos (by omega)] | rw [if_neg (by omega)])))⟩ hP hD (by decide) rfl hS rfl dX11_move_20
  · have h_6 : a0.toInt < 0 ∨ 3 < a0.toInt := h_6
    obtain rfl : r_1 = 0 := hr_1.trans (by decide)
    refine b_if_eq hx hb zl_0 (tgt := 14) dX11_move_4 (by decide) (fun c_76 => ?_) (fun c_76 => by exfalso; omega)
    refine lv_aload_n hx hb dX11_move_14 rfl (lv_at hl 0 rfl) ?_
    refine lv_ldc (v := (-1000001)) hx hb hown (hT _ mw_1239) dX11_move_15 ?_
    refine kJi (wr := [(k5, .inl (cI, 4, .inl c5)), (k6, .inl (cI, 4, .inl c6)), (k7, .inl (cI, 144, .inl c7)), (ko, .inl (cI, 36, .inl co))]) (va_runV (As := [.int (-1000001)]) (rest := []) ⟨hx, hb, hml, hown, hT⟩ (c_X11_findingG l D cI aK aV k k0 k1 k2 k4 k5 k6 k7 k8 ka kb kl ko H.size c3 c9 cc cd ce cf cg ch ci cj ck cm cn c4 (-1000001) (by first | omega | (simp only [zl_m1000001]; first | done | omega) | decide | assumption | rfl) (by first | omega | (simp only [zl_m1000001]; first | done | omega) | decide | assumption | rfl)) (cwV 1 hT (gV_in mw_1243 mw_1240 mw_1242 mw_p3_8 mw_12) rfl rfl rfl (by decide +kernel) ⟨Nat.le_of_ble_eq_true rfl, Nat.le_of_ble_eq_true rfl⟩) (kRecvX (q0 := 0) (ci := 11) hK hP hD hN hXS hS hA rfl rfl [0, 1] rfl (by decide)) rfl rfl hl.1 rfl (lv_room (Nat.le_of_ble_eq_true rfl)) dX11_move_17 ⟨Nat.le_of_ble_eq_true rfl, Nat.le_of_ble_eq_true rfl⟩) hP hD hS hA [0, 1] [2, 3, 4, 5] rfl rfl (by decide) (by decide) ?_
    clear hP hD hS
    intro r_77 sc4_79 H locs w_78 hP hD hS
    replace hP : va_P D vwCl [(k5, .inl (cI, 4, .inl c5)), (k6, .inl (cI, 4, .inl c6)), (k7, .inl (cI, 144, .inl c7)), (ko, .inl (cI, 36, .inl co)), (k, .inr (11, [.ref k0, .ref k1, .ref k2, .int c3, .ref k4, .ref k5, .ref k6, .ref k7, .ref k8, .int c9, .ref ka, .ref kb, .int cc, .int cd, .int ce, .int cf, .int cg, .int ch, .int ci, .int cj, .int ck, .ref kl, .int cm, .int cn, .ref ko])), (k4, .inl (cI, 6, .inl sc4_79))] H := hP
    replace hD : va_D A [(k5, .inl (cI, 4, .inl c5)), (k6, .inl (cI, 4, .inl c6)), (k7, .inl (cI, 144, .inl c7)), (ko, .inl (cI, 36, .inl co)), (k, .inr (11, [.ref k0, .ref k1, .ref k2, .int c3, .ref k4, .ref k5, .ref k6, .ref k7, .ref k8, .int c9, .ref ka, .ref kb, .int cc, .int cd, .int ce, .int cf, .int cg, .int ch, .int ci, .int cj, .int ck, .ref kl, .int cm, .int cn, .ref ko])), (k4, .inl (cI, 6, .inl sc4_79))] := hD
    have hr_77 := w_78
    obtain rfl : r_77 = (-1000001) := hr_77.trans (by decide)
    exact hRet (sc4_79, c7, co) [4, 5, 0, 1, 2, 3] ⟨(by (try dsimp only); unfold moveR; (repeat (first | rw [if_pos (by omega)] | rw [if_neg (by omega)]))), (by (try dsimp only); unfold moveS; (repeat (first | rw [if_pos (by omega)] | rw [if_neg (by omega)])))⟩ hP hD (by decide) rfl hS rfl dX11_move_20
theorem dX11_check_0 : decode cX11_check 0 = .ok (.aload_n 0, 1) := by decide +kernel
theorem dX11_check_1 : decode cX11_check 1 = .ok (.getfield 9, 3) := by decide +kernel
theorem dX11_check_4 : decode cX11_check 4 = .ok (.iconst 5, 1) := by decide +kernel
theorem dX11_check_5 : decode cX11_check 5 = .ok (.iaload, 1) := by decide +kernel
theorem dX11_check_6 : decode cX11_check 6 = .ok (.istore_n 1, 1) := by decide +kernel
theorem dX11_check_7 : decode cX11_check 7 = .ok (.aload_n 0, 1) := by decide +kernel
theorem dX11_check_8 : decode cX11_check 8 = .ok (.getfield 9, 3) := by decide +kernel
theorem dX11_check_11 : decode cX11_check 11 = .ok (.iconst 5, 1) := by decide +kernel
theorem dX11_check_12 : decode cX11_check 12 = .ok (.iconst 0, 1) := by decide +kernel
theorem dX11_check_13 : decode cX11_check 13 = .ok (.iastore, 1) := by decide +kernel
theorem dX11_check_14 : decode cX11_check 14 = .ok (.iconst 0, 1) := by decide +kernel
theorem dX11_check_15 : decode cX11_check 15 = .ok (.istore_n 2, 1) := by decide +kernel
theorem dX11_check_16 : decode cX11_check 16 = .ok (.iload_n 2, 1) := by decide +kernel
theorem dX11_check_17 : decode cX11_check 17 = .ok (.iload_n 1, 1) := by decide +kernel
theorem dX11_check_18 : decode cX11_check 18 = .ok (.if_icmp .ge 31, 3) := by decide +kernel
theorem dX11_check_21 : decode cX11_check 21 = .ok (.aload_n 0, 1) := by decide +kernel
theorem dX11_check_22 : decode cX11_check 22 = .ok (.getfield 9, 3) := by decide +kernel
theorem dX11_check_25 : decode cX11_check 25 = .ok (.sipush 1181, 3) := by decide +kernel
theorem dX11_check_28 : decode cX11_check 28 = .ok (.iload_n 2, 1) := by decide +kernel
theorem dX11_check_29 : decode cX11_check 29 = .ok (.iadd, 1) := by decide +kernel
theorem dX11_check_30 : decode cX11_check 30 = .ok (.iaload, 1) := by decide +kernel
theorem dX11_check_31 : decode cX11_check 31 = .ok (.aload_n 0, 1) := by decide +kernel
theorem dX11_check_32 : decode cX11_check 32 = .ok (.iload_n 2, 1) := by decide +kernel
theorem dX11_check_33 : decode cX11_check 33 = .ok (.invokevirtual 102, 3) := by decide +kernel
theorem dX11_check_36 : decode cX11_check 36 = .ok (.if_icmp .eq 7, 3) := by decide +kernel
theorem dX11_check_39 : decode cX11_check 39 = .ok (.iconst 1, 1) := by decide +kernel
theorem dX11_check_40 : decode cX11_check 40 = .ok (.iload_n 2, 1) := by decide +kernel
theorem dX11_check_41 : decode cX11_check 41 = .ok (.iadd, 1) := by decide +kernel
theorem dX11_check_42 : decode cX11_check 42 = .ok (.ireturn, 1) := by decide +kernel
theorem dX11_check_43 : decode cX11_check 43 = .ok (.iinc 2 1, 3) := by decide +kernel
theorem dX11_check_46 : decode cX11_check 46 = .ok (.goto (-30), 3) := by decide +kernel
theorem dX11_check_49 : decode cX11_check 49 = .ok (.iconst 0, 1) := by decide +kernel
theorem dX11_check_50 : decode cX11_check 50 = .ok (.ireturn, 1) := by decide +kernel
set_option maxHeartbeats 4000000 in
set_option maxRecDepth 100000 in
theorem c_X11_checkG (l : Launch) (D : va_G) (cI : ClassId) (aK aV : Nat → Nat) (k k0 k1 k2 k4 k5 k6 k7 k8 ka kb kl ko : Nat) (sz : Nat) (c3 : Int32) (c9 : Int32) (cc : Int32) (cd : Int32) (ce : Int32) (cf : Int32) (cg : Int32) (ch : Int32) (ci : Int32) (cj : Int32) (ck : Int32) (cm : Int32) (cn : Int32) (c0 : Nat → Int32) (pre0 : SIX c0 (-1)) : Met l yX11_check (gW yX11_check cX11_check 3 (some .int)) ({ frames := 4, cells := 0, slots := 0, locals := 88 } : Room) (kPreX D cI aK aV [.ref k] [(k, .inr (11, [.ref k0, .ref k1, .ref k2, .int c3, .ref k4, .ref k5, .ref k6, .ref k7, .ref k8, .int c9, .ref ka, .ref kb, .int cc, .int cd, .int ce, .int cf, .int cg, .int ch, .int ci, .int cj, .int ck, .ref kl, .int cm, .int cn, .ref ko])), (k0, .inl (cI, 1201, .inl c0))] sz) (va_Qi (fun (r : Int32) (u : (Nat → Int32)) => SIX u (-1) ∧ r = chkR c0 ∧ u = upd c0 5 0) (fun u t => kWd D cI (va_A [(k, .inr (11, [.ref k0, .ref k1, .ref k2, .int c3, .ref k4, .ref k5, .ref k6, .ref k7, .ref k8, .int c9, .ref ka, .ref kb, .int cc, .int cd, .int ce, .int cf, .int cg, .int ch, .int ci, .int cj, .int ck, .ref kl, .int cm, .int cn, .ref ko])), (k0, .inl (cI, 1201, .inl c0))] sz) [(k, .inr (11, [.ref k0, .ref k1, .ref k2, .int c3, .ref k4, .ref k5, .ref k6, .ref k7, .ref k8, .int c9, .ref ka, .ref kb, .int cc, .int cd, .int ce, .int cf, .int cg, .int ch, .int ci, .int cj, .int ck, .ref kl, .int cm, .int cn, .ref ko])), (k0, .inl (cI, 1201, .inl u))] t) (va_A [(k, .inr (11, [.ref k0, .ref k1, .ref k2, .int c3, .ref k4, .ref k5, .ref k6, .ref k7, .ref k8, .int c9, .ref ka, .ref kb, .int cc, .int cd, .int ce, .int cf, .int cg, .int ch, .int ci, .int cj, .int ck, .ref kl, .int cm, .int cn, .ref ko])), (k0, .inl (cI, 1201, .inl c0))] sz)) 0 0 (va_A [(k, .inr (11, [.ref k0, .ref k1, .ref k2, .int c3, .ref k4, .ref k5, .ref k6, .ref k7, .ref k8, .int c9, .ref ka, .ref kb, .int cc, .int cd, .int ce, .int cf, .int cg, .int ch, .int ci, .int cj, .int ck, .ref kl, .int cm, .int cn, .ref ko])), (k0, .inl (cI, 1201, .inl c0))] sz) := by
  refine kMetIX (own := RX11) (by decide) rfl (Nat.le_of_ble_eq_true rfl) ?_
  intro p e s m args below meth c hx hb hT hown hname hml A Q hK hP hD hS hA hN hXS hRet ls hl
  have hl : lv_has ls 3 [(0, .ref k)] := hl
  have lo_ci := k_lo ci
  have hi_ci := k_hi ci
  have hn5 := SB.n5 (And.left pre0)
  have pre0 : SIX c0 (-1) := pre0
  have nb_1 : 0 ≤ (c0 0).toInt ∧ (c0 0).toInt ≤ 2000 := SB.n0 (And.left pre0)
  have nb_2 : 0 ≤ (c0 1).toInt ∧ (c0 1).toInt ≤ 60 := SB.n1 (And.left pre0)
  have nb_3 : 0 ≤ (c0 2).toInt ∧ (c0 2).toInt ≤ 4 := SB.n2 (And.left pre0)
  refine lv_aload_n hx hb dX11_check_0 rfl (lv_at hl 0 rfl) ?_
  refine va_get (D := D) (ci := 11) (v := .ref k0) (C := RX11) (T := TX11) (N := 25) hx hb hT giX11 hown hK hP 0 rfl rfl 0 (by decide) (hT (Cond.fieldLink RX11 9 "DesertWireModel" "s" "[I") mw_1156) (fun _ h9 => h9) rfl dX11_check_1 ?_
  refine lv_iconst (v := 5) hx hb dX11_check_4 (by decide) ?_
  refine k_iald (v := (c0 5)) hx hb hK hP 1 0 rfl rfl (k_inl (by decide)) rfl dX11_check_5 ?_
  refine lv_topi (fun v_4 ev_4 => ?_)
  have lo_v_4 := k_lo v_4
  have hi_v_4 := k_hi v_4
  have tv_4 : v_4.toInt = (c0 5).toInt := by rw [ev_4]
  have b_5 : 0 ≤ v_4.toInt ∧ v_4.toInt ≤ 20 := by first | (rw [tv_4]; exact SB.n5 (And.left pre0)) | exact SB.n5 (And.left pre0) | omega
  refine lv_istore_n (lv' := [(1, .int v_4), (0, .ref k)]) hx hb dX11_check_6 rfl hl (by decide) rfl ?_
  clear hl
  intro ls hl
  refine lv_aload_n hx hb dX11_check_7 rfl (lv_at hl 1 rfl) ?_
  refine va_get (D := D) (ci := 11) (v := .ref k0) (C := RX11) (T := TX11) (N := 25) hx hb hT giX11 hown hK hP 0 rfl rfl 0 (by decide) (hT (Cond.fieldLink RX11 9 "DesertWireModel" "s" "[I") mw_1156) (fun _ h9 => h9) rfl dX11_check_8 ?_
  refine lv_iconst (v := 5) hx hb dX11_check_11 (by decide) ?_
  refine lv_iconst (v := 0) hx hb dX11_check_12 (by decide) ?_
  refine va_iast hx hb hK hP hD hS 1 0 rfl rfl (k_inl (by decide)) dX11_check_13 ?_
  clear hP hD hS
  intro H locs hP hD hS
  replace hP : va_P D vwCl [(k, .inr (11, [.ref k0, .ref k1, .ref k2, .int c3, .ref k4, .ref k5, .ref k6, .ref k7, .ref k8, .int c9, .ref ka, .ref kb, .int cc, .int cd, .int ce, .int cf, .int cg, .int ch, .int ci, .int cj, .int ck, .ref kl, .int cm, .int cn, .ref ko])), (k0, .inl (cI, 1201, .inl (upd c0 5 0)))] H := hP
  replace hD : va_D A [(k, .inr (11, [.ref k0, .ref k1, .ref k2, .int c3, .ref k4, .ref k5, .ref k6, .ref k7, .ref k8, .int c9, .ref ka, .ref kb, .int cc, .int cd, .int ce, .int cf, .int cg, .int ch, .int ci, .int cj, .int ck, .ref kl, .int cm, .int cn, .ref ko])), (k0, .inl (cI, 1201, .inl (upd c0 5 0)))] := hD
  obtain ⟨f_6, ef_6⟩ : ∃ g : Nat → Int32, g = upd c0 5 0 := ⟨_, rfl⟩
  rw [← ef_6] at hP hD
  have hS_7 : SIX f_6 (-1) := SIX.n pre0 ef_6 zl_0 (by decide) (by decide) (by omega)
  have n_8 : (f_6 0).toInt = (c0 0).toInt := by rw [updN ef_6 (by omega)]
  have n_9 : (f_6 1).toInt = (c0 1).toInt := by rw [updN ef_6 (by omega)]
  have n_10 : (f_6 2).toInt = (c0 2).toInt := by rw [updN ef_6 (by omega)]
  refine lv_iconst (v := 0) hx hb dX11_check_14 (by decide) ?_
  refine lv_istore_n (lv' := [(2, .int 0), (1, .int v_4), (0, .ref k)]) hx hb dX11_check_15 rfl hl (by decide) rfl ?_
  clear hl
  intro ls hl
  have hloop_16 : ∀ (fu_ : Nat) (l16_2 : Int32), 0 ≤ l16_2.toInt → chkF c0 l16_2.toInt.toNat ((c0 5).toInt - l16_2.toInt).toNat = chkR c0 → 0 ≤ l16_2.toInt → l16_2.toInt ≤ (c0 5).toInt → (v_4.toInt - l16_2.toInt).toNat < fu_ → ∀ (ls : Array Slot) (H : Heap) (locs : List Loc), lv_has ls 3 [(2, .int l16_2), (1, .int v_4), (0, .ref k)] → va_P D vwCl [(k, .inr (11, [.ref k0, .ref k1, .ref k2, .int c3, .ref k4, .ref k5, .ref k6, .ref k7, .ref k8, .int c9, .ref ka, .ref kb, .int cc, .int cd, .int ce, .int cf, .int cg, .int ch, .int ci, .int cj, .int ck, .ref kl, .int cm, .int cn, .ref ko])), (k0, .inl (cI, 1201, .inl f_6))] H → va_D A [(k, .inr (11, [.ref k0, .ref k1, .ref k2, .int c3, .ref k4, .ref k5, .ref k6, .ref k7, .ref k8, .int c9, .ref ka, .ref kb, .int cc, .int cd, .int ce, .int cf, .int cg, .int ch, .int ci, .int cj, .int ck, .ref kl, .int cm, .int cn, .ref ko])), (k0, .inl (cI, 1201, .inl f_6))] → va_S A s.heap H locs → W p l e ({ frames := 4, cells := 0, slots := 0, locals := 88 } : Room) s m args below meth c H locs 0 0 Q (F0 m 16 ls []) := by
    intro fu_; induction fu_ with
    | zero => intro l16_2 i16_0 i16_1 i16_2 i16_3 hm; exact absurd hm (by omega)
    | succ fu_ ih16 =>
        intro l16_2 i16_0 i16_1 i16_2 i16_3 hm ls H locs hl hP hD hS
        have lo_l16_2 := k_lo l16_2
        have hi_l16_2 := k_hi l16_2
        refine lv_iload_n hx hb dX11_check_16 rfl (lv_at hl 0 rfl) ?_
        refine lv_iload_n hx hb dX11_check_17 rfl (lv_at hl 1 rfl) ?_
        refine b_icmp_ge hx hb rfl rfl (tgt := 49) dX11_check_18 (by decide) (fun c_11 => ?_) (fun c_11 => ?_)
        · refine lv_iconst (v := 0) hx hb dX11_check_49 (by decide) ?_
          exact hRet f_6 [0, 1] ⟨hS_7, ((chk_e (by omega)).symm.trans i16_1), ef_6⟩ hP hD (by decide) rfl hS rfl dX11_check_50
        · refine lv_aload_n hx hb dX11_check_21 rfl (lv_at hl 2 rfl) ?_
          refine va_get (D := D) (ci := 11) (v := .ref k0) (C := RX11) (T := TX11) (N := 25) hx hb hT giX11 hown hK hP 0 rfl rfl 0 (by decide) (hT (Cond.fieldLink RX11 9 "DesertWireModel" "s" "[I") mw_1156) (fun _ h9 => h9) rfl dX11_check_22 ?_
          refine lv_sipush (v := 1181) hx hb dX11_check_25 (by decide) ?_
          refine lv_iload_n hx hb dX11_check_28 rfl (lv_at hl 0 rfl) ?_
          refine lv_iadd hx hb dX11_check_29 ?_
          refine lv_topi (fun v_12 ev_12 => ?_)
          have tv_12 : v_12.toInt = 1181 + l16_2.toInt := by rw [ev_12]; exact k_addv zl_1181 rfl (by omega) (by omega)
          refine k_iald (v := (f_6 v_12.toNatClampNeg)) hx hb hK hP 1 0 rfl rfl (k_in (by omega) (by omega)) rfl dX11_check_30 ?_
          refine lv_topi (fun v_13 ev_13 => ?_)
          have lo_v_13 := k_lo v_13
          have hi_v_13 := k_hi v_13
          have tv_13 : v_13.toInt = (f_6 v_12.toNatClampNeg).toInt := by rw [ev_13]
          refine lv_aload_n hx hb dX11_check_31 rfl (lv_at hl 2 rfl) ?_
          refine lv_iload_n hx hb dX11_check_32 rfl (lv_at hl 0 rfl) ?_
          refine kJi (wr := []) (va_runV (As := [.int l16_2]) (rest := [.int v_13]) ⟨hx, hb, hml, hown, hT⟩ (c_X11_leakOfG l D cI aK aV k k0 k1 k2 k4 k5 k6 k7 k8 ka kb kl ko H.size c3 c9 cc cd ce cf cg ch ci cj ck cm cn f_6 l16_2 (And.left hS_7)) (cwV 1 hT (gV_in mw_1372 mw_1369 mw_1371 mw_p4_14 mw_12) rfl rfl rfl (by decide +kernel) ⟨Nat.le_of_ble_eq_true rfl, Nat.le_of_ble_eq_true rfl⟩) (kRecvX (q0 := 0) (ci := 11) hK hP hD hN hXS hS hA rfl rfl [0, 1] rfl (by decide)) rfl rfl hl.1 rfl (lv_room (Nat.le_of_ble_eq_true rfl)) dX11_check_33 ⟨Nat.le_of_ble_eq_true rfl, Nat.le_of_ble_eq_true rfl⟩) hP hD hS hA [0, 1] [] rfl rfl (by decide) (by decide) ?_
          clear hP hD hS
          intro r_14 u_16 H locs w_15 hP hD hS
          replace hP : va_P D vwCl [(k, .inr (11, [.ref k0, .ref k1, .ref k2, .int c3, .ref k4, .ref k5, .ref k6, .ref k7, .ref k8, .int c9, .ref ka, .ref kb, .int cc, .int cd, .int ce, .int cf, .int cg, .int ch, .int ci, .int cj, .int ck, .ref kl, .int cm, .int cn, .ref ko])), (k0, .inl (cI, 1201, .inl f_6))] H := hP
          replace hD : va_D A [(k, .inr (11, [.ref k0, .ref k1, .ref k2, .int c3, .ref k4, .ref k5, .ref k6, .ref k7, .ref k8, .int c9, .ref ka, .ref kb, .int cc, .int cd, .int ce, .int cf, .int cg, .int ch, .int ci, .int cj, .int ck, .ref kl, .int cm, .int cn, .ref ko])), (k0, .inl (cI, 1201, .inl f_6))] := hD
          have h_17 := w_15
          have h_17 : r_14 = lkF f_6 l16_2.toInt := h_17
          have lo_r_14 := k_lo r_14
          have hi_r_14 := k_hi r_14
          refine b_icmp_eq hx hb rfl rfl (tgt := 43) dX11_check_36 (by decide) (fun c_18 => ?_) (fun c_18 => ?_)
          · obtain ⟨v_19, ev_19⟩ : ∃ y : Int32, y = l16_2 + 1 := ⟨_, rfl⟩
            have tv_19 : v_19.toInt = l16_2.toInt + 1 := by rw [ev_19]; exact k_addv rfl zl_1 (by omega) (by omega)
            refine lv_iinc (v := v_19) (lv' := [(2, .int v_19), (1, .int v_4), (0, .ref k)]) hx hb dX11_check_43 hl (k := 0) rfl (by rw [ev_19]; rfl) (by decide) rfl ?_
            clear hl
            intro ls hl
            refine lv_goto (tgt := 16) hx hb dX11_check_46 (by decide) ?_
            exact ih16 v_19 (by first | omega | decide | assumption | rfl) ((chk_y (by omega) (by omega) (by omega) (by rw [show c0 (1181 + l16_2.toInt.toNat) = v_13 from (by rw [rd_in (k := 1181 + l16_2.toInt.toNat) ev_13 (by omega), ef_6, sp_ne (by omega)]), ← lkF_at (g := f_6) (f := c0) (fun i hi => by rw [ef_6, sp_ne (by omega)]) (by omega) (by omega), ← h_17]; omega)).symm.trans i16_1) (by first | omega | decide | assumption | rfl) (by first | omega | decide | assumption | rfl) (by omega) ls _ _ (lv_sub hl [0, 1, 2] rfl) (hP.sub [0, 1] rfl) (hD.sub [0, 1] (by decide) rfl) hS
          · refine lv_iconst (v := 1) hx hb dX11_check_39 (by decide) ?_
            refine lv_iload_n hx hb dX11_check_40 rfl (lv_at hl 0 rfl) ?_
            refine lv_iadd hx hb dX11_check_41 ?_
            refine lv_topi (fun v_20 ev_20 => ?_)
            have tv_20 : v_20.toInt = 1 + l16_2.toInt := by rw [ev_20]; exact k_addv zl_1 rfl (by omega) (by omega)
            exact hRet f_6 [0, 1] ⟨hS_7, ((chk_n (by omega) (by omega) (by omega) (by omega) (by rw [show c0 (1181 + l16_2.toInt.toNat) = v_13 from (by rw [rd_in (k := 1181 + l16_2.toInt.toNat) ev_13 (by omega), ef_6, sp_ne (by omega)]), ← lkF_at (g := f_6) (f := c0) (fun i hi => by rw [ef_6, sp_ne (by omega)]) (by omega) (by omega), ← h_17]; omega)).symm.trans i16_1), ef_6⟩ hP hD (by decide) rfl hS rfl dX11_check_42
  exact hloop_16 _ 0 (by first | omega | (simp only [zl_0]; first | done | omega) | decide | assumption | rfl) (by unfold chkR; rw [zl_0, show ((c0 5).toInt - 0).toNat = (c0 5).toInt.toNat from by omega]; rfl) (by first | omega | (simp only [zl_0]; first | done | omega) | decide | assumption | rfl) (by first | omega | (simp only [zl_0]; first | done | omega) | decide | assumption | rfl) (Nat.lt_succ_self _) ls _ _ (lv_sub hl [0, 1, 2] rfl) hP hD hS
theorem dX11_count_0 : decode cX11_count 0 = .ok (.iconst 0, 1) := by decide +kernel
theorem dX11_count_1 : decode cX11_count 1 = .ok (.istore_n 2, 1) := by decide +kernel
theorem dX11_count_2 : decode cX11_count 2 = .ok (.iload_n 1, 1) := by decide +kernel
theorem dX11_count_3 : decode cX11_count 3 = .ok (.tableswitch 290 0 12 #[65, 72, 101, 108, 144, 151, 158, 165, 170, 177, 182, 219, 248], 65) := by decide +kernel
theorem dX11_count_68 : decode cX11_count 68 = .ok (.aload_n 0, 1) := by decide +kernel
theorem dX11_count_69 : decode cX11_count 69 = .ok (.getfield 9, 3) := by decide +kernel
theorem dX11_count_72 : decode cX11_count 72 = .ok (.iconst 1, 1) := by decide +kernel
theorem dX11_count_73 : decode cX11_count 73 = .ok (.iaload, 1) := by decide +kernel
theorem dX11_count_74 : decode cX11_count 74 = .ok (.ireturn, 1) := by decide +kernel
theorem dX11_count_75 : decode cX11_count 75 = .ok (.iconst 0, 1) := by decide +kernel
theorem dX11_count_76 : decode cX11_count 76 = .ok (.istore_n 3, 1) := by decide +kernel
theorem dX11_count_77 : decode cX11_count 77 = .ok (.iload_n 3, 1) := by decide +kernel
theorem dX11_count_78 : decode cX11_count 78 = .ok (.aload_n 0, 1) := by decide +kernel
theorem dX11_count_79 : decode cX11_count 79 = .ok (.getfield 9, 3) := by decide +kernel
theorem dX11_count_82 : decode cX11_count 82 = .ok (.iconst 1, 1) := by decide +kernel
theorem dX11_count_83 : decode cX11_count 83 = .ok (.iaload, 1) := by decide +kernel
theorem dX11_count_84 : decode cX11_count 84 = .ok (.if_icmp .ge 18, 3) := by decide +kernel
theorem dX11_count_87 : decode cX11_count 87 = .ok (.iload_n 2, 1) := by decide +kernel
theorem dX11_count_88 : decode cX11_count 88 = .ok (.aload_n 0, 1) := by decide +kernel
theorem dX11_count_89 : decode cX11_count 89 = .ok (.iload_n 3, 1) := by decide +kernel
theorem dX11_count_90 : decode cX11_count 90 = .ok (.iconst 4, 1) := by decide +kernel
theorem dX11_count_91 : decode cX11_count 91 = .ok (.invokevirtual 55, 3) := by decide +kernel
theorem dX11_count_94 : decode cX11_count 94 = .ok (.iadd, 1) := by decide +kernel
theorem dX11_count_95 : decode cX11_count 95 = .ok (.istore_n 2, 1) := by decide +kernel
theorem dX11_count_96 : decode cX11_count 96 = .ok (.iinc 3 1, 3) := by decide +kernel
theorem dX11_count_99 : decode cX11_count 99 = .ok (.goto (-22), 3) := by decide +kernel
theorem dX11_count_102 : decode cX11_count 102 = .ok (.iload_n 2, 1) := by decide +kernel
theorem dX11_count_103 : decode cX11_count 103 = .ok (.ireturn, 1) := by decide +kernel
theorem dX11_count_104 : decode cX11_count 104 = .ok (.aload_n 0, 1) := by decide +kernel
theorem dX11_count_105 : decode cX11_count 105 = .ok (.getfield 9, 3) := by decide +kernel
theorem dX11_count_108 : decode cX11_count 108 = .ok (.iconst 2, 1) := by decide +kernel
theorem dX11_count_109 : decode cX11_count 109 = .ok (.iaload, 1) := by decide +kernel
theorem dX11_count_110 : decode cX11_count 110 = .ok (.ireturn, 1) := by decide +kernel
theorem dX11_count_111 : decode cX11_count 111 = .ok (.iconst 0, 1) := by decide +kernel
theorem dX11_count_112 : decode cX11_count 112 = .ok (.istore_n 3, 1) := by decide +kernel
theorem dX11_count_113 : decode cX11_count 113 = .ok (.iload_n 3, 1) := by decide +kernel
theorem dX11_count_114 : decode cX11_count 114 = .ok (.aload_n 0, 1) := by decide +kernel
theorem dX11_count_115 : decode cX11_count 115 = .ok (.getfield 9, 3) := by decide +kernel
theorem dX11_count_118 : decode cX11_count 118 = .ok (.iconst 2, 1) := by decide +kernel
theorem dX11_count_119 : decode cX11_count 119 = .ok (.iaload, 1) := by decide +kernel
theorem dX11_count_120 : decode cX11_count 120 = .ok (.if_icmp .ge 25, 3) := by decide +kernel
theorem dX11_count_123 : decode cX11_count 123 = .ok (.iload_n 2, 1) := by decide +kernel
theorem dX11_count_124 : decode cX11_count 124 = .ok (.aload_n 0, 1) := by decide +kernel
theorem dX11_count_125 : decode cX11_count 125 = .ok (.iload_n 3, 1) := by decide +kernel
theorem dX11_count_126 : decode cX11_count 126 = .ok (.invokevirtual 127, 3) := by decide +kernel
theorem dX11_count_129 : decode cX11_count 129 = .ok (.ifCond .eq 7, 3) := by decide +kernel
theorem dX11_count_132 : decode cX11_count 132 = .ok (.iconst 1, 1) := by decide +kernel
theorem dX11_count_133 : decode cX11_count 133 = .ok (.goto 4, 3) := by decide +kernel
theorem dX11_count_136 : decode cX11_count 136 = .ok (.iconst 0, 1) := by decide +kernel
theorem dX11_count_137 : decode cX11_count 137 = .ok (.iadd, 1) := by decide +kernel
theorem dX11_count_138 : decode cX11_count 138 = .ok (.istore_n 2, 1) := by decide +kernel
theorem dX11_count_139 : decode cX11_count 139 = .ok (.iinc 3 1, 3) := by decide +kernel
theorem dX11_count_142 : decode cX11_count 142 = .ok (.goto (-29), 3) := by decide +kernel
theorem dX11_count_145 : decode cX11_count 145 = .ok (.iload_n 2, 1) := by decide +kernel
theorem dX11_count_146 : decode cX11_count 146 = .ok (.ireturn, 1) := by decide +kernel
theorem dX11_count_147 : decode cX11_count 147 = .ok (.aload_n 0, 1) := by decide +kernel
theorem dX11_count_148 : decode cX11_count 148 = .ok (.getfield 9, 3) := by decide +kernel
theorem dX11_count_151 : decode cX11_count 151 = .ok (.iconst 3, 1) := by decide +kernel
theorem dX11_count_152 : decode cX11_count 152 = .ok (.iaload, 1) := by decide +kernel
theorem dX11_count_153 : decode cX11_count 153 = .ok (.ireturn, 1) := by decide +kernel
theorem dX11_count_154 : decode cX11_count 154 = .ok (.aload_n 0, 1) := by decide +kernel
theorem dX11_count_155 : decode cX11_count 155 = .ok (.getfield 9, 3) := by decide +kernel
theorem dX11_count_158 : decode cX11_count 158 = .ok (.iconst 0, 1) := by decide +kernel
theorem dX11_count_159 : decode cX11_count 159 = .ok (.iaload, 1) := by decide +kernel
theorem dX11_count_160 : decode cX11_count 160 = .ok (.ireturn, 1) := by decide +kernel
theorem dX11_count_161 : decode cX11_count 161 = .ok (.aload_n 0, 1) := by decide +kernel
theorem dX11_count_162 : decode cX11_count 162 = .ok (.getfield 9, 3) := by decide +kernel
theorem dX11_count_165 : decode cX11_count 165 = .ok (.iconst 4, 1) := by decide +kernel
theorem dX11_count_166 : decode cX11_count 166 = .ok (.iaload, 1) := by decide +kernel
theorem dX11_count_167 : decode cX11_count 167 = .ok (.ireturn, 1) := by decide +kernel
theorem dX11_count_168 : decode cX11_count 168 = .ok (.aload_n 0, 1) := by decide +kernel
theorem dX11_count_169 : decode cX11_count 169 = .ok (.getfield 267, 3) := by decide +kernel
theorem dX11_count_172 : decode cX11_count 172 = .ok (.ireturn, 1) := by decide +kernel
theorem dX11_count_173 : decode cX11_count 173 = .ok (.aload_n 0, 1) := by decide +kernel
theorem dX11_count_174 : decode cX11_count 174 = .ok (.getfield 9, 3) := by decide +kernel
theorem dX11_count_177 : decode cX11_count 177 = .ok (.iconst 5, 1) := by decide +kernel
theorem dX11_count_178 : decode cX11_count 178 = .ok (.iaload, 1) := by decide +kernel
theorem dX11_count_179 : decode cX11_count 179 = .ok (.ireturn, 1) := by decide +kernel
theorem dX11_count_180 : decode cX11_count 180 = .ok (.aload_n 0, 1) := by decide +kernel
theorem dX11_count_181 : decode cX11_count 181 = .ok (.invokevirtual 261, 3) := by decide +kernel
theorem dX11_count_184 : decode cX11_count 184 = .ok (.ireturn, 1) := by decide +kernel
theorem dX11_count_185 : decode cX11_count 185 = .ok (.iconst 0, 1) := by decide +kernel
theorem dX11_count_186 : decode cX11_count 186 = .ok (.istore_n 3, 1) := by decide +kernel
theorem dX11_count_187 : decode cX11_count 187 = .ok (.iload_n 3, 1) := by decide +kernel
theorem dX11_count_188 : decode cX11_count 188 = .ok (.aload_n 0, 1) := by decide +kernel
theorem dX11_count_189 : decode cX11_count 189 = .ok (.getfield 9, 3) := by decide +kernel
theorem dX11_count_192 : decode cX11_count 192 = .ok (.iconst 1, 1) := by decide +kernel
theorem dX11_count_193 : decode cX11_count 193 = .ok (.iaload, 1) := by decide +kernel
theorem dX11_count_194 : decode cX11_count 194 = .ok (.if_icmp .ge 26, 3) := by decide +kernel
theorem dX11_count_197 : decode cX11_count 197 = .ok (.iload_n 2, 1) := by decide +kernel
theorem dX11_count_198 : decode cX11_count 198 = .ok (.aload_n 0, 1) := by decide +kernel
theorem dX11_count_199 : decode cX11_count 199 = .ok (.iload_n 3, 1) := by decide +kernel
theorem dX11_count_200 : decode cX11_count 200 = .ok (.iconst 3, 1) := by decide +kernel
theorem dX11_count_201 : decode cX11_count 201 = .ok (.invokevirtual 84, 3) := by decide +kernel
theorem dX11_count_204 : decode cX11_count 204 = .ok (.ifCond .eq 7, 3) := by decide +kernel
theorem dX11_count_207 : decode cX11_count 207 = .ok (.iconst 1, 1) := by decide +kernel
theorem dX11_count_208 : decode cX11_count 208 = .ok (.goto 4, 3) := by decide +kernel
theorem dX11_count_211 : decode cX11_count 211 = .ok (.iconst 0, 1) := by decide +kernel
theorem dX11_count_212 : decode cX11_count 212 = .ok (.iadd, 1) := by decide +kernel
theorem dX11_count_213 : decode cX11_count 213 = .ok (.istore_n 2, 1) := by decide +kernel
theorem dX11_count_214 : decode cX11_count 214 = .ok (.iinc 3 1, 3) := by decide +kernel
theorem dX11_count_217 : decode cX11_count 217 = .ok (.goto (-30), 3) := by decide +kernel
theorem dX11_count_220 : decode cX11_count 220 = .ok (.iload_n 2, 1) := by decide +kernel
theorem dX11_count_221 : decode cX11_count 221 = .ok (.ireturn, 1) := by decide +kernel
theorem dX11_count_222 : decode cX11_count 222 = .ok (.iconst 0, 1) := by decide +kernel
theorem dX11_count_223 : decode cX11_count 223 = .ok (.istore_n 3, 1) := by decide +kernel
theorem dX11_count_224 : decode cX11_count 224 = .ok (.iload_n 3, 1) := by decide +kernel
theorem dX11_count_225 : decode cX11_count 225 = .ok (.aload_n 0, 1) := by decide +kernel
theorem dX11_count_226 : decode cX11_count 226 = .ok (.getfield 9, 3) := by decide +kernel
theorem dX11_count_229 : decode cX11_count 229 = .ok (.iconst 2, 1) := by decide +kernel
theorem dX11_count_230 : decode cX11_count 230 = .ok (.iaload, 1) := by decide +kernel
theorem dX11_count_231 : decode cX11_count 231 = .ok (.if_icmp .ge 18, 3) := by decide +kernel
theorem dX11_count_234 : decode cX11_count 234 = .ok (.iload_n 2, 1) := by decide +kernel
theorem dX11_count_235 : decode cX11_count 235 = .ok (.aload_n 0, 1) := by decide +kernel
theorem dX11_count_236 : decode cX11_count 236 = .ok (.iload_n 3, 1) := by decide +kernel
theorem dX11_count_237 : decode cX11_count 237 = .ok (.iconst 2, 1) := by decide +kernel
theorem dX11_count_238 : decode cX11_count 238 = .ok (.invokevirtual 124, 3) := by decide +kernel
theorem dX11_count_241 : decode cX11_count 241 = .ok (.iadd, 1) := by decide +kernel
theorem dX11_count_242 : decode cX11_count 242 = .ok (.istore_n 2, 1) := by decide +kernel
theorem dX11_count_243 : decode cX11_count 243 = .ok (.iinc 3 1, 3) := by decide +kernel
theorem dX11_count_246 : decode cX11_count 246 = .ok (.goto (-22), 3) := by decide +kernel
theorem dX11_count_249 : decode cX11_count 249 = .ok (.iload_n 2, 1) := by decide +kernel
theorem dX11_count_250 : decode cX11_count 250 = .ok (.ireturn, 1) := by decide +kernel
theorem dX11_count_251 : decode cX11_count 251 = .ok (.iconst 0, 1) := by decide +kernel
theorem dX11_count_252 : decode cX11_count 252 = .ok (.istore_n 3, 1) := by decide +kernel
theorem dX11_count_253 : decode cX11_count 253 = .ok (.iload_n 3, 1) := by decide +kernel
theorem dX11_count_254 : decode cX11_count 254 = .ok (.aload_n 0, 1) := by decide +kernel
theorem dX11_count_255 : decode cX11_count 255 = .ok (.getfield 9, 3) := by decide +kernel
theorem dX11_count_258 : decode cX11_count 258 = .ok (.iconst 1, 1) := by decide +kernel
theorem dX11_count_259 : decode cX11_count 259 = .ok (.iaload, 1) := by decide +kernel
theorem dX11_count_260 : decode cX11_count 260 = .ok (.if_icmp .ge 31, 3) := by decide +kernel
theorem dX11_count_263 : decode cX11_count 263 = .ok (.iload_n 2, 1) := by decide +kernel
theorem dX11_count_264 : decode cX11_count 264 = .ok (.aload_n 0, 1) := by decide +kernel
theorem dX11_count_265 : decode cX11_count 265 = .ok (.iload_n 3, 1) := by decide +kernel
theorem dX11_count_266 : decode cX11_count 266 = .ok (.iconst 5, 1) := by decide +kernel
theorem dX11_count_267 : decode cX11_count 267 = .ok (.invokevirtual 84, 3) := by decide +kernel
theorem dX11_count_270 : decode cX11_count 270 = .ok (.ifCond .eq 12, 3) := by decide +kernel
theorem dX11_count_273 : decode cX11_count 273 = .ok (.aload_n 0, 1) := by decide +kernel
theorem dX11_count_274 : decode cX11_count 274 = .ok (.iload_n 3, 1) := by decide +kernel
theorem dX11_count_275 : decode cX11_count 275 = .ok (.iconst 5, 1) := by decide +kernel
theorem dX11_count_276 : decode cX11_count 276 = .ok (.invokevirtual 55, 3) := by decide +kernel
theorem dX11_count_279 : decode cX11_count 279 = .ok (.goto 4, 3) := by decide +kernel
theorem dX11_count_282 : decode cX11_count 282 = .ok (.iconst 0, 1) := by decide +kernel
theorem dX11_count_283 : decode cX11_count 283 = .ok (.iadd, 1) := by decide +kernel
theorem dX11_count_284 : decode cX11_count 284 = .ok (.istore_n 2, 1) := by decide +kernel
theorem dX11_count_285 : decode cX11_count 285 = .ok (.iinc 3 1, 3) := by decide +kernel
theorem dX11_count_288 : decode cX11_count 288 = .ok (.goto (-35), 3) := by decide +kernel
theorem dX11_count_291 : decode cX11_count 291 = .ok (.iload_n 2, 1) := by decide +kernel
theorem dX11_count_292 : decode cX11_count 292 = .ok (.ireturn, 1) := by decide +kernel
theorem dX11_count_293 : decode cX11_count 293 = .ok (.aload_n 0, 1) := by decide +kernel
theorem dX11_count_294 : decode cX11_count 294 = .ok (.ldc 63, 2) := by decide +kernel
theorem dX11_count_296 : decode cX11_count 296 = .ok (.invokevirtual 64, 3) := by decide +kernel
theorem dX11_count_299 : decode cX11_count 299 = .ok (.ireturn, 1) := by decide +kernel
set_option maxHeartbeats 4000000 in
set_option maxRecDepth 100000 in
theorem c_X11_countG (l : Launch) (D : va_G) (cI : ClassId) (aK aV : Nat → Nat) (k k0 k1 k2 k4 k5 k6 k7 k8 ka kb kl ko : Nat) (sz : Nat) (c3 : Int32) (c9 : Int32) (cc : Int32) (cd : Int32) (ce : Int32) (cf : Int32) (cg : Int32) (ch : Int32) (ci : Int32) (cj : Int32) (ck : Int32) (cm : Int32) (cn : Int32) (c0 : Nat → Int32) (c4 : Nat → Int32) (a0 : Int32) (pre0 : SIX c0 (-1)) (pre1 : 0 ≤ c9.toInt) (pre2 : c9.toInt ≤ 40) : Met l yX11_count (gW yX11_count cX11_count 4 (some .int)) ({ frames := 5, cells := 0, slots := 0, locals := 109 } : Room) (kPreX D cI aK aV [.ref k, .int a0] [(k, .inr (11, [.ref k0, .ref k1, .ref k2, .int c3, .ref k4, .ref k5, .ref k6, .ref k7, .ref k8, .int c9, .ref ka, .ref kb, .int cc, .int cd, .int ce, .int cf, .int cg, .int ch, .int ci, .int cj, .int ck, .ref kl, .int cm, .int cn, .ref ko])), (k0, .inl (cI, 1201, .inl c0)), (k4, .inl (cI, 6, .inl c4))] sz) (va_Qi (fun (r : Int32) (u : (Nat → Int32)) => r = cntR c0 a0 (c0 3) (c0 4) c9) (fun u t => kWd D cI (va_A [(k, .inr (11, [.ref k0, .ref k1, .ref k2, .int c3, .ref k4, .ref k5, .ref k6, .ref k7, .ref k8, .int c9, .ref ka, .ref kb, .int cc, .int cd, .int ce, .int cf, .int cg, .int ch, .int ci, .int cj, .int ck, .ref kl, .int cm, .int cn, .ref ko])), (k0, .inl (cI, 1201, .inl c0)), (k4, .inl (cI, 6, .inl c4))] sz) [(k, .inr (11, [.ref k0, .ref k1, .ref k2, .int c3, .ref k4, .ref k5, .ref k6, .ref k7, .ref k8, .int c9, .ref ka, .ref kb, .int cc, .int cd, .int ce, .int cf, .int cg, .int ch, .int ci, .int cj, .int ck, .ref kl, .int cm, .int cn, .ref ko])), (k0, .inl (cI, 1201, .inl c0)), (k4, .inl (cI, 6, .inl u))] t) (va_A [(k, .inr (11, [.ref k0, .ref k1, .ref k2, .int c3, .ref k4, .ref k5, .ref k6, .ref k7, .ref k8, .int c9, .ref ka, .ref kb, .int cc, .int cd, .int ce, .int cf, .int cg, .int ch, .int ci, .int cj, .int ck, .ref kl, .int cm, .int cn, .ref ko])), (k0, .inl (cI, 1201, .inl c0)), (k4, .inl (cI, 6, .inl c4))] sz)) 0 0 (va_A [(k, .inr (11, [.ref k0, .ref k1, .ref k2, .int c3, .ref k4, .ref k5, .ref k6, .ref k7, .ref k8, .int c9, .ref ka, .ref kb, .int cc, .int cd, .int ce, .int cf, .int cg, .int ch, .int ci, .int cj, .int ck, .ref kl, .int cm, .int cn, .ref ko])), (k0, .inl (cI, 1201, .inl c0)), (k4, .inl (cI, 6, .inl c4))] sz) := by
  refine kMetIX (own := RX11) (by decide) rfl (Nat.le_of_ble_eq_true rfl) ?_
  intro p e s m args below meth c hx hb hT hown hname hml A Q hK hP hD hS hA hN hXS hRet ls hl
  have hl : lv_has ls 4 [(0, .ref k), (1, .int a0)] := hl
  have lo_a0 := k_lo a0
  have hi_a0 := k_hi a0
  have lo_c9 := k_lo c9
  have hi_c9 := k_hi c9
  have lo_ci := k_lo ci
  have hi_ci := k_hi ci
  have pre0 : SIX c0 (-1) := pre0
  have nb_1 : 0 ≤ (c0 0).toInt ∧ (c0 0).toInt ≤ 2000 := SB.n0 (And.left pre0)
  have nb_2 : 0 ≤ (c0 1).toInt ∧ (c0 1).toInt ≤ 60 := SB.n1 (And.left pre0)
  have nb_3 : 0 ≤ (c0 2).toInt ∧ (c0 2).toInt ≤ 4 := SB.n2 (And.left pre0)
  refine lv_iconst (v := 0) hx hb dX11_count_0 (by decide) ?_
  refine lv_istore_n (lv' := [(2, .int 0), (0, .ref k), (1, .int a0)]) hx hb dX11_count_1 rfl hl (by decide) rfl ?_
  clear hl
  intro ls hl
  refine lv_iload_n hx hb dX11_count_2 rfl (lv_at hl 2 rfl) ?_
  by_cases c_4 : a0.toInt = 0
  · refine lv_tableIn (off := 65) (tgt := 68) hx hb dX11_count_3 (by omega) (by omega) (by rw [c_4]; decide) (by decide) ?_
    refine lv_aload_n hx hb dX11_count_68 rfl (lv_at hl 1 rfl) ?_
    refine va_get (D := D) (ci := 11) (v := .ref k0) (C := RX11) (T := TX11) (N := 25) hx hb hT giX11 hown hK hP 0 rfl rfl 0 (by decide) (hT (Cond.fieldLink RX11 9 "DesertWireModel" "s" "[I") mw_1156) (fun _ h9 => h9) rfl dX11_count_69 ?_
    refine lv_iconst (v := 1) hx hb dX11_count_72 (by decide) ?_
    refine k_iald (v := (c0 1)) hx hb hK hP 1 0 rfl rfl (k_inl (by decide)) rfl dX11_count_73 ?_
    refine lv_topi (fun v_5 ev_5 => ?_)
    have lo_v_5 := k_lo v_5
    have hi_v_5 := k_hi v_5
    have tv_5 : v_5.toInt = (c0 1).toInt := by rw [ev_5]
    have b_6 : 0 ≤ v_5.toInt ∧ v_5.toInt ≤ 60 := by first | (rw [tv_5]; exact SB.n1 (And.left pre0)) | exact SB.n1 (And.left pre0) | omega
    exact hRet c4 [0, 1, 2] (by (try dsimp only); unfold cntR; (repeat (first | rw [if_pos (by omega)] | rw [if_neg (by omega)])); first | done | exact (ev_5)) hP hD (by decide) rfl hS rfl dX11_count_74
  by_cases c_7 : a0.toInt = 1
  · refine lv_tableIn (off := 72) (tgt := 75) hx hb dX11_count_3 (by omega) (by omega) (by rw [c_7]; decide) (by decide) ?_
    refine lv_iconst (v := 0) hx hb dX11_count_75 (by decide) ?_
    refine lv_istore_n (lv' := [(3, .int 0), (2, .int 0), (0, .ref k), (1, .int a0)]) hx hb dX11_count_76 rfl hl (by decide) rfl ?_
    clear hl
    intro ls hl
    have hloop_77 : ∀ (fu_ : Nat) (l77_2 : Int32) (l77_3 : Int32), 0 ≤ l77_3.toInt → 0 ≤ l77_3.toInt → l77_3.toInt ≤ (c0 1).toInt → l77_2 = sumN (dnT c0) l77_3.toInt.toNat → ((c0 1).toInt - l77_3.toInt).toNat < fu_ → ∀ (ls : Array Slot) (H : Heap) (locs : List Loc), lv_has ls 4 [(3, .int l77_3), (2, .int l77_2), (0, .ref k), (1, .int a0)] → va_P D vwCl [(k, .inr (11, [.ref k0, .ref k1, .ref k2, .int c3, .ref k4, .ref k5, .ref k6, .ref k7, .ref k8, .int c9, .ref ka, .ref kb, .int cc, .int cd, .int ce, .int cf, .int cg, .int ch, .int ci, .int cj, .int ck, .ref kl, .int cm, .int cn, .ref ko])), (k0, .inl (cI, 1201, .inl c0)), (k4, .inl (cI, 6, .inl c4))] H → va_D A [(k, .inr (11, [.ref k0, .ref k1, .ref k2, .int c3, .ref k4, .ref k5, .ref k6, .ref k7, .ref k8, .int c9, .ref ka, .ref kb, .int cc, .int cd, .int ce, .int cf, .int cg, .int ch, .int ci, .int cj, .int ck, .ref kl, .int cm, .int cn, .ref ko])), (k0, .inl (cI, 1201, .inl c0)), (k4, .inl (cI, 6, .inl c4))] → va_S A s.heap H locs → W p l e ({ frames := 5, cells := 0, slots := 0, locals := 109 } : Room) s m args below meth c H locs 0 0 Q (F0 m 77 ls []) := by
      intro fu_; induction fu_ with
      | zero => intro l77_2 l77_3 i77_0 i77_1 i77_2 i77_3 hm; exact absurd hm (by omega)
      | succ fu_ ih77 =>
          intro l77_2 l77_3 i77_0 i77_1 i77_2 i77_3 hm ls H locs hl hP hD hS
          have lo_l77_2 := k_lo l77_2
          have hi_l77_2 := k_hi l77_2
          have lo_l77_3 := k_lo l77_3
          have hi_l77_3 := k_hi l77_3
          have i77_3 : l77_2 = sumN (dnT c0) l77_3.toInt.toNat := i77_3
          refine lv_iload_n hx hb dX11_count_77 rfl (lv_at hl 0 rfl) ?_
          refine lv_aload_n hx hb dX11_count_78 rfl (lv_at hl 2 rfl) ?_
          refine va_get (D := D) (ci := 11) (v := .ref k0) (C := RX11) (T := TX11) (N := 25) hx hb hT giX11 hown hK hP 0 rfl rfl 0 (by decide) (hT (Cond.fieldLink RX11 9 "DesertWireModel" "s" "[I") mw_1156) (fun _ h9 => h9) rfl dX11_count_79 ?_
          refine lv_iconst (v := 1) hx hb dX11_count_82 (by decide) ?_
          refine k_iald (v := (c0 1)) hx hb hK hP 1 0 rfl rfl (k_inl (by decide)) rfl dX11_count_83 ?_
          refine lv_topi (fun v_8 ev_8 => ?_)
          have lo_v_8 := k_lo v_8
          have hi_v_8 := k_hi v_8
          have tv_8 : v_8.toInt = (c0 1).toInt := by rw [ev_8]
          have b_9 : 0 ≤ v_8.toInt ∧ v_8.toInt ≤ 60 := by first | (rw [tv_8]; exact SB.n1 (And.left pre0)) | exact SB.n1 (And.left pre0) | omega
          refine b_icmp_ge hx hb rfl rfl (tgt := 102) dX11_count_84 (by decide) (fun c_10 => ?_) (fun c_10 => ?_)
          · refine lv_iload_n hx hb dX11_count_102 rfl (lv_at hl 1 rfl) ?_
            exact hRet c4 [0, 1, 2] (by (try dsimp only); unfold cntR; (repeat (first | rw [if_pos (by omega)] | rw [if_neg (by omega)])); first | done | exact (by rw [show (c0 1).toInt.toNat = l77_3.toInt.toNat from by omega]; exact i77_3)) hP hD (by decide) rfl hS rfl dX11_count_103
          · refine lv_iload_n hx hb dX11_count_87 rfl (lv_at hl 1 rfl) ?_
            refine lv_aload_n hx hb dX11_count_88 rfl (lv_at hl 2 rfl) ?_
            refine lv_iload_n hx hb dX11_count_89 rfl (lv_at hl 0 rfl) ?_
            refine lv_iconst (v := 4) hx hb dX11_count_90 (by decide) ?_
            refine kJi (wr := [(k4, .inl (cI, 6, .inl c4))]) (va_runV (As := [.int l77_3, .int 4]) (rest := [.int l77_2]) ⟨hx, hb, hml, hown, hT⟩ (c_X11_workG4 l D cI aK aV k k0 k1 k2 k4 k5 k6 k7 k8 ka kb kl ko H.size c3 c9 cc cd ce cf cg ch ci cj ck cm cn c0 l77_3 4 (by first | omega | (simp only [zl_4]; first | done | omega) | decide | assumption | rfl) (by first | omega | (simp only [zl_4]; first | done | omega) | decide | assumption | rfl) (by first | omega | (simp only [zl_4]; first | done | omega) | decide | assumption | rfl)) (cwV 2 hT (gV_in mw_1276 mw_1273 mw_1275 mw_p3_12 mw_12) rfl rfl rfl (by decide +kernel) ⟨Nat.le_of_ble_eq_true rfl, Nat.le_of_ble_eq_true rfl⟩) (kRecvX (q0 := 0) (ci := 11) hK hP hD hN hXS hS hA rfl rfl [0, 1] rfl (by decide)) rfl rfl hl.1 rfl (lv_room (Nat.le_of_ble_eq_true rfl)) dX11_count_91 ⟨Nat.le_of_ble_eq_true rfl, Nat.le_of_ble_eq_true rfl⟩) hP hD hS hA [0, 1] [2] rfl rfl (by decide) (by decide) ?_
            clear hP hD hS
            intro r_11 u_13 H locs w_12 hP hD hS
            replace hP : va_P D vwCl [(k4, .inl (cI, 6, .inl c4)), (k, .inr (11, [.ref k0, .ref k1, .ref k2, .int c3, .ref k4, .ref k5, .ref k6, .ref k7, .ref k8, .int c9, .ref ka, .ref kb, .int cc, .int cd, .int ce, .int cf, .int cg, .int ch, .int ci, .int cj, .int ck, .ref kl, .int cm, .int cn, .ref ko])), (k0, .inl (cI, 1201, .inl c0))] H := hP
            replace hD : va_D A [(k4, .inl (cI, 6, .inl c4)), (k, .inr (11, [.ref k0, .ref k1, .ref k2, .int c3, .ref k4, .ref k5, .ref k6, .ref k7, .ref k8, .int c9, .ref ka, .ref kb, .int cc, .int cd, .int ce, .int cf, .int cg, .int ch, .int ci, .int cj, .int ck, .ref kl, .int cm, .int cn, .ref ko])), (k0, .inl (cI, 1201, .inl c0))] := hD
            have h_14 := w_12
            have h_14 : r_11 = wW c0 l77_3 4 := h_14
            have t_15 : r_11.toInt = (wW c0 l77_3 4).toInt := by rw [h_14]
            have b_16 : 0 ≤ r_11.toInt ∧ r_11.toInt ≤ 1 := by rw [h_14]; exact SB.w4 (And.left pre0) (by omega) (by omega)
            have lo_r_11 := k_lo r_11
            have hi_r_11 := k_hi r_11
            refine lv_iadd hx hb dX11_count_94 ?_
            refine lv_topi (fun v_17 ev_17 => ?_)
            have lo_v_17 := k_lo v_17
            have hi_v_17 := k_hi v_17
            refine lv_istore_n (lv' := [(2, .int v_17), (3, .int l77_3), (0, .ref k), (1, .int a0)]) hx hb dX11_count_95 rfl hl (by decide) rfl ?_
            clear hl
            intro ls hl
            obtain ⟨v_18, ev_18⟩ : ∃ y : Int32, y = l77_3 + 1 := ⟨_, rfl⟩
            have tv_18 : v_18.toInt = l77_3.toInt + 1 := by rw [ev_18]; exact k_addv rfl zl_1 (by omega) (by omega)
            refine lv_iinc (v := v_18) (lv' := [(3, .int v_18), (2, .int v_17), (0, .ref k), (1, .int a0)]) hx hb dX11_count_96 hl (k := 1) rfl (by rw [ev_18]; rfl) (by decide) rfl ?_
            clear hl
            intro ls hl
            refine lv_goto (tgt := 77) hx hb dX11_count_99 (by decide) ?_
            exact ih77 v_17 v_18 (by first | omega | decide | assumption | rfl) (by first | omega | decide | assumption | rfl) (by first | omega | decide | assumption | rfl) (su_s i77_3 (by omega) (by omega) h_14 ev_17) (by omega) ls _ _ (lv_sub hl [0, 1, 2, 3] rfl) (hP.sub [1, 2, 0] rfl) (hD.sub [1, 2, 0] (by decide) rfl) hS
    exact hloop_77 _ 0 0 (by first | omega | (simp only [zl_0]; first | done | omega) | decide | assumption | rfl) (by first | omega | (simp only [zl_0]; first | done | omega) | decide | assumption | rfl) (by first | omega | (simp only [zl_0]; first | done | omega) | decide | assumption | rfl) (by rw [zl_0]; rfl) (Nat.lt_succ_self _) ls _ _ (lv_sub hl [0, 1, 2, 3] rfl) hP hD hS
  by_cases c_19 : a0.toInt = 2
  · refine lv_tableIn (off := 101) (tgt := 104) hx hb dX11_count_3 (by omega) (by omega) (by rw [c_19]; decide) (by decide) ?_
    refine lv_aload_n hx hb dX11_count_104 rfl (lv_at hl 1 rfl) ?_
    refine va_get (D := D) (ci := 11) (v := .ref k0) (C := RX11) (T := TX11) (N := 25) hx hb hT giX11 hown hK hP 0 rfl rfl 0 (by decide) (hT (Cond.fieldLink RX11 9 "DesertWireModel" "s" "[I") mw_1156) (fun _ h9 => h9) rfl dX11_count_105 ?_
    refine lv_iconst (v := 2) hx hb dX11_count_108 (by decide) ?_
    refine k_iald (v := (c0 2)) hx hb hK hP 1 0 rfl rfl (k_inl (by decide)) rfl dX11_count_109 ?_
    refine lv_topi (fun v_20 ev_20 => ?_)
    have lo_v_20 := k_lo v_20
    have hi_v_20 := k_hi v_20
    have tv_20 : v_20.toInt = (c0 2).toInt := by rw [ev_20]
    have b_21 : 0 ≤ v_20.toInt ∧ v_20.toInt ≤ 4 := by first | (rw [tv_20]; exact SB.n2 (And.left pre0)) | exact SB.n2 (And.left pre0) | omega
    exact hRet c4 [0, 1, 2] (by (try dsimp only); unfold cntR; (repeat (first | rw [if_pos (by omega)] | rw [if_neg (by omega)])); first | done | exact (ev_20)) hP hD (by decide) rfl hS rfl dX11_count_110
  by_cases c_22 : a0.toInt = 3
  · refine lv_tableIn (off := 108) (tgt := 111) hx hb dX11_count_3 (by omega) (by omega) (by rw [c_22]; decide) (by decide) ?_
    refine lv_iconst (v := 0) hx hb dX11_count_111 (by decide) ?_
    refine lv_istore_n (lv' := [(3, .int 0), (2, .int 0), (0, .ref k), (1, .int a0)]) hx hb dX11_count_112 rfl hl (by decide) rfl ?_
    clear hl
    intro ls hl
    have hloop_113 : ∀ (fu_ : Nat) (l113_2 : Int32) (l113_3 : Int32), 0 ≤ l113_3.toInt → 0 ≤ l113_3.toInt → l113_3.toInt ≤ (c0 2).toInt → l113_2 = sumN (loT c0) l113_3.toInt.toNat → ((c0 2).toInt - l113_3.toInt).toNat < fu_ → ∀ (ls : Array Slot) (H : Heap) (locs : List Loc), lv_has ls 4 [(3, .int l113_3), (2, .int l113_2), (0, .ref k), (1, .int a0)] → va_P D vwCl [(k, .inr (11, [.ref k0, .ref k1, .ref k2, .int c3, .ref k4, .ref k5, .ref k6, .ref k7, .ref k8, .int c9, .ref ka, .ref kb, .int cc, .int cd, .int ce, .int cf, .int cg, .int ch, .int ci, .int cj, .int ck, .ref kl, .int cm, .int cn, .ref ko])), (k0, .inl (cI, 1201, .inl c0)), (k4, .inl (cI, 6, .inl c4))] H → va_D A [(k, .inr (11, [.ref k0, .ref k1, .ref k2, .int c3, .ref k4, .ref k5, .ref k6, .ref k7, .ref k8, .int c9, .ref ka, .ref kb, .int cc, .int cd, .int ce, .int cf, .int cg, .int ch, .int ci, .int cj, .int ck, .ref kl, .int cm, .int cn, .ref ko])), (k0, .inl (cI, 1201, .inl c0)), (k4, .inl (cI, 6, .inl c4))] → va_S A s.heap H locs → W p l e ({ frames := 5, cells := 0, slots := 0, locals := 109 } : Room) s m args below meth c H locs 0 0 Q (F0 m 113 ls []) := by
      intro fu_; induction fu_ with
      | zero => intro l113_2 l113_3 i113_0 i113_1 i113_2 i113_3 hm; exact absurd hm (by omega)
      | succ fu_ ih113 =>
          intro l113_2 l113_3 i113_0 i113_1 i113_2 i113_3 hm ls H locs hl hP hD hS
          have lo_l113_2 := k_lo l113_2
          have hi_l113_2 := k_hi l113_2
          have lo_l113_3 := k_lo l113_3
          have hi_l113_3 := k_hi l113_3
          have i113_3 : l113_2 = sumN (loT c0) l113_3.toInt.toNat := i113_3
          refine lv_iload_n hx hb dX11_count_113 rfl (lv_at hl 0 rfl) ?_
          refine lv_aload_n hx hb dX11_count_114 rfl (lv_at hl 2 rfl) ?_
          refine va_get (D := D) (ci := 11) (v := .ref k0) (C := RX11) (T := TX11) (N := 25) hx hb hT giX11 hown hK hP 0 rfl rfl 0 (by decide) (hT (Cond.fieldLink RX11 9 "DesertWireModel" "s" "[I") mw_1156) (fun _ h9 => h9) rfl dX11_count_115 ?_
          refine lv_iconst (v := 2) hx hb dX11_count_118 (by decide) ?_
          refine k_iald (v := (c0 2)) hx hb hK hP 1 0 rfl rfl (k_inl (by decide)) rfl dX11_count_119 ?_
          refine lv_topi (fun v_23 ev_23 => ?_)
          have lo_v_23 := k_lo v_23
          have hi_v_23 := k_hi v_23
          have tv_23 : v_23.toInt = (c0 2).toInt := by rw [ev_23]
          have b_24 : 0 ≤ v_23.toInt ∧ v_23.toInt ≤ 4 := by first | (rw [tv_23]; exact SB.n2 (And.left pre0)) | exact SB.n2 (And.left pre0) | omega
          refine b_icmp_ge hx hb rfl rfl (tgt := 145) dX11_count_120 (by decide) (fun c_25 => ?_) (fun c_25 => ?_)
          · refine lv_iload_n hx hb dX11_count_145 rfl (lv_at hl 1 rfl) ?_
            exact hRet c4 [0, 1, 2] (by (try dsimp only); unfold cntR; (repeat (first | rw [if_pos (by omega)] | rw [if_neg (by omega)])); first | done | exact (by rw [show (c0 2).toInt.toNat = l113_3.toInt.toNat from by omega]; exact i113_3)) hP hD (by decide) rfl hS rfl dX11_count_146
          · refine lv_iload_n hx hb dX11_count_123 rfl (lv_at hl 1 rfl) ?_
            refine lv_aload_n hx hb dX11_count_124 rfl (lv_at hl 2 rfl) ?_
            refine lv_iload_n hx hb dX11_count_125 rfl (lv_at hl 0 rfl) ?_
            refine kJi (wr := [(k4, .inl (cI, 6, .inl c4))]) (va_runV (As := [.int l113_3]) (rest := [.int l113_2]) ⟨hx, hb, hml, hown, hT⟩ (c_X11_isLostG l D cI aK aV k k0 k1 k2 k4 k5 k6 k7 k8 ka kb kl ko H.size c3 c9 cc cd ce cf cg ch ci cj ck cm cn c0 l113_3 pre0 (by first | omega | decide | assumption | rfl) (by first | omega | decide | assumption | rfl) (by first | omega | decide | assumption | rfl)) (cwV 1 hT (gV_in mw_1424 mw_1421 mw_1423 mw_p5_6 mw_12) rfl rfl rfl (by decide +kernel) ⟨Nat.le_of_ble_eq_true rfl, Nat.le_of_ble_eq_true rfl⟩) (kRecvX (q0 := 0) (ci := 11) hK hP hD hN hXS hS hA rfl rfl [0, 1] rfl (by decide)) rfl rfl hl.1 rfl (lv_room (Nat.le_of_ble_eq_true rfl)) dX11_count_126 ⟨Nat.le_of_ble_eq_true rfl, Nat.le_of_ble_eq_true rfl⟩) hP hD hS hA [0, 1] [2] rfl rfl (by decide) (by decide) ?_
            clear hP hD hS
            intro r_26 u_28 H locs w_27 hP hD hS
            replace hP : va_P D vwCl [(k4, .inl (cI, 6, .inl c4)), (k, .inr (11, [.ref k0, .ref k1, .ref k2, .int c3, .ref k4, .ref k5, .ref k6, .ref k7, .ref k8, .int c9, .ref ka, .ref kb, .int cc, .int cd, .int ce, .int cf, .int cg, .int ch, .int ci, .int cj, .int ck, .ref kl, .int cm, .int cn, .ref ko])), (k0, .inl (cI, 1201, .inl c0))] H := hP
            replace hD : va_D A [(k4, .inl (cI, 6, .inl c4)), (k, .inr (11, [.ref k0, .ref k1, .ref k2, .int c3, .ref k4, .ref k5, .ref k6, .ref k7, .ref k8, .int c9, .ref ka, .ref kb, .int cc, .int cd, .int ce, .int cf, .int cg, .int ch, .int ci, .int cj, .int ck, .ref kl, .int cm, .int cn, .ref ko])), (k0, .inl (cI, 1201, .inl c0))] := hD
            rcases w_27 with ⟨hr_26, h_29⟩ | ⟨hr_26, h_30, h_31⟩
            · have h_29 : (pW c0 l113_3 8).toInt = 2 := h_29
              obtain rfl : r_26 = 1 := hr_26.trans (by decide)
              refine b_if_eq hx hb zl_1 (tgt := 136) dX11_count_129 (by decide) (fun c_32 => by exfalso; omega) (fun c_32 => ?_)
              refine lv_iconst (v := 1) hx hb dX11_count_132 (by decide) ?_
              refine lv_goto (tgt := 137) hx hb dX11_count_133 (by decide) ?_
              refine lv_iadd hx hb dX11_count_137 ?_
              refine lv_topi (fun v_33 ev_33 => ?_)
              have lo_v_33 := k_lo v_33
              have hi_v_33 := k_hi v_33
              refine lv_istore_n (lv' := [(2, .int v_33), (3, .int l113_3), (0, .ref k), (1, .int a0)]) hx hb dX11_count_138 rfl hl (by decide) rfl ?_
              clear hl
              intro ls hl
              obtain ⟨v_34, ev_34⟩ : ∃ y : Int32, y = l113_3 + 1 := ⟨_, rfl⟩
              have tv_34 : v_34.toInt = l113_3.toInt + 1 := by rw [ev_34]; exact k_addv rfl zl_1 (by omega) (by omega)
              refine lv_iinc (v := v_34) (lv' := [(3, .int v_34), (2, .int v_33), (0, .ref k), (1, .int a0)]) hx hb dX11_count_139 hl (k := 1) rfl (by rw [ev_34]; rfl) (by decide) rfl ?_
              clear hl
              intro ls hl
              refine lv_goto (tgt := 113) hx hb dX11_count_142 (by decide) ?_
              exact ih113 v_33 v_34 (by first | omega | decide | assumption | rfl) (by first | omega | decide | assumption | rfl) (by first | omega | decide | assumption | rfl) (su_s i113_3 (by omega) (by omega) (lo_y (f := c0) (p := l113_3) (by omega)) ev_33) (by omega) ls _ _ (lv_sub hl [0, 1, 2, 3] rfl) (hP.sub [1, 2, 0] rfl) (hD.sub [1, 2, 0] (by decide) rfl) hS
            · have h_30 : (pW c0 l113_3 8).toInt ≠ 2 := h_30
              have h_31 : 1 ≤ (pW c0 l113_3 2).toInt := h_31
              obtain rfl : r_26 = 0 := hr_26.trans (by decide)
              refine b_if_eq hx hb zl_0 (tgt := 136) dX11_count_129 (by decide) (fun c_35 => ?_) (fun c_35 => by exfalso; omega)
              refine lv_iconst (v := 0) hx hb dX11_count_136 (by decide) ?_
              refine lv_iadd hx hb dX11_count_137 ?_
              refine lv_topi (fun v_36 ev_36 => ?_)
              have tv_36 : v_36.toInt = l113_2.toInt + 0 := by rw [ev_36]; exact k_addv rfl zl_0 (by omega) (by omega)
              refine lv_istore_n (lv' := [(2, .int v_36), (3, .int l113_3), (0, .ref k), (1, .int a0)]) hx hb dX11_count_138 rfl hl (by decide) rfl ?_
              clear hl
              intro ls hl
              obtain ⟨v_37, ev_37⟩ : ∃ y : Int32, y = l113_3 + 1 := ⟨_, rfl⟩
              have tv_37 : v_37.toInt = l113_3.toInt + 1 := by rw [ev_37]; exact k_addv rfl zl_1 (by omega) (by omega)
              refine lv_iinc (v := v_37) (lv' := [(3, .int v_37), (2, .int v_36), (0, .ref k), (1, .int a0)]) hx hb dX11_count_139 hl (k := 1) rfl (by rw [ev_37]; rfl) (by decide) rfl ?_
              clear hl
              intro ls hl
              refine lv_goto (tgt := 113) hx hb dX11_count_142 (by decide) ?_
              exact ih113 v_36 v_37 (by first | omega | decide | assumption | rfl) (by first | omega | decide | assumption | rfl) (by first | omega | decide | assumption | rfl) (su_s i113_3 (by omega) (by omega) (lo_n (f := c0) (p := l113_3) (by omega)).symm ev_36) (by omega) ls _ _ (lv_sub hl [0, 1, 2, 3] rfl) (hP.sub [1, 2, 0] rfl) (hD.sub [1, 2, 0] (by decide) rfl) hS
    exact hloop_113 _ 0 0 (by first | omega | (simp only [zl_0]; first | done | omega) | decide | assumption | rfl) (by first | omega | (simp only [zl_0]; first | done | omega) | decide | assumption | rfl) (by first | omega | (simp only [zl_0]; first | done | omega) | decide | assumption | rfl) (by rw [zl_0]; rfl) (Nat.lt_succ_self _) ls _ _ (lv_sub hl [0, 1, 2, 3] rfl) hP hD hS
  by_cases c_38 : a0.toInt = 4
  · refine lv_tableIn (off := 144) (tgt := 147) hx hb dX11_count_3 (by omega) (by omega) (by rw [c_38]; decide) (by decide) ?_
    refine lv_aload_n hx hb dX11_count_147 rfl (lv_at hl 1 rfl) ?_
    refine va_get (D := D) (ci := 11) (v := .ref k0) (C := RX11) (T := TX11) (N := 25) hx hb hT giX11 hown hK hP 0 rfl rfl 0 (by decide) (hT (Cond.fieldLink RX11 9 "DesertWireModel" "s" "[I") mw_1156) (fun _ h9 => h9) rfl dX11_count_148 ?_
    refine lv_iconst (v := 3) hx hb dX11_count_151 (by decide) ?_
    refine k_iald (v := (c0 3)) hx hb hK hP 1 0 rfl rfl (k_inl (by decide)) rfl dX11_count_152 ?_
    refine lv_topi (fun v_39 ev_39 => ?_)
    have lo_v_39 := k_lo v_39
    have hi_v_39 := k_hi v_39
    have tv_39 : v_39.toInt = (c0 3).toInt := by rw [ev_39]
    have b_40 : 0 ≤ v_39.toInt ∧ v_39.toInt ≤ 12 := by first | (rw [tv_39]; exact SB.n3 (And.left pre0)) | exact SB.n3 (And.left pre0) | omega
    exact hRet c4 [0, 1, 2] (by (try dsimp only); unfold cntR; (repeat (first | rw [if_pos (by omega)] | rw [if_neg (by omega)])); first | done | exact (ev_39)) hP hD (by decide) rfl hS rfl dX11_count_153
  by_cases c_41 : a0.toInt = 5
  · refine lv_tableIn (off := 151) (tgt := 154) hx hb dX11_count_3 (by omega) (by omega) (by rw [c_41]; decide) (by decide) ?_
    refine lv_aload_n hx hb dX11_count_154 rfl (lv_at hl 1 rfl) ?_
    refine va_get (D := D) (ci := 11) (v := .ref k0) (C := RX11) (T := TX11) (N := 25) hx hb hT giX11 hown hK hP 0 rfl rfl 0 (by decide) (hT (Cond.fieldLink RX11 9 "DesertWireModel" "s" "[I") mw_1156) (fun _ h9 => h9) rfl dX11_count_155 ?_
    refine lv_iconst (v := 0) hx hb dX11_count_158 (by decide) ?_
    refine k_iald (v := (c0 0)) hx hb hK hP 1 0 rfl rfl (k_inl (by decide)) rfl dX11_count_159 ?_
    refine lv_topi (fun v_42 ev_42 => ?_)
    have lo_v_42 := k_lo v_42
    have hi_v_42 := k_hi v_42
    have tv_42 : v_42.toInt = (c0 0).toInt := by rw [ev_42]
    have b_43 : 0 ≤ v_42.toInt ∧ v_42.toInt ≤ 2000 := by first | (rw [tv_42]; exact SB.n0 (And.left pre0)) | exact SB.n0 (And.left pre0) | omega
    exact hRet c4 [0, 1, 2] (by (try dsimp only); unfold cntR; (repeat (first | rw [if_pos (by omega)] | rw [if_neg (by omega)])); first | done | exact (ev_42)) hP hD (by decide) rfl hS rfl dX11_count_160
  by_cases c_44 : a0.toInt = 6
  · refine lv_tableIn (off := 158) (tgt := 161) hx hb dX11_count_3 (by omega) (by omega) (by rw [c_44]; decide) (by decide) ?_
    refine lv_aload_n hx hb dX11_count_161 rfl (lv_at hl 1 rfl) ?_
    refine va_get (D := D) (ci := 11) (v := .ref k0) (C := RX11) (T := TX11) (N := 25) hx hb hT giX11 hown hK hP 0 rfl rfl 0 (by decide) (hT (Cond.fieldLink RX11 9 "DesertWireModel" "s" "[I") mw_1156) (fun _ h9 => h9) rfl dX11_count_162 ?_
    refine lv_iconst (v := 4) hx hb dX11_count_165 (by decide) ?_
    refine k_iald (v := (c0 4)) hx hb hK hP 1 0 rfl rfl (k_inl (by decide)) rfl dX11_count_166 ?_
    refine lv_topi (fun v_45 ev_45 => ?_)
    have lo_v_45 := k_lo v_45
    have hi_v_45 := k_hi v_45
    have tv_45 : v_45.toInt = (c0 4).toInt := by rw [ev_45]
    have b_46 : 0 ≤ v_45.toInt ∧ v_45.toInt ≤ 50 := by first | (rw [tv_45]; exact SB.n4 (And.left pre0)) | exact SB.n4 (And.left pre0) | omega
    exact hRet c4 [0, 1, 2] (by (try dsimp only); unfold cntR; (repeat (first | rw [if_pos (by omega)] | rw [if_neg (by omega)])); first | done | exact (ev_45)) hP hD (by decide) rfl hS rfl dX11_count_167
  by_cases c_47 : a0.toInt = 7
  · refine lv_tableIn (off := 165) (tgt := 168) hx hb dX11_count_3 (by omega) (by omega) (by rw [c_47]; decide) (by decide) ?_
    refine lv_aload_n hx hb dX11_count_168 rfl (lv_at hl 1 rfl) ?_
    refine va_get (D := D) (ci := 11) (v := .int c9) (C := RX11) (T := TX11) (N := 25) hx hb hT giX11 hown hK hP 0 rfl rfl 9 (by decide) (hT (Cond.fieldLink RX11 267 "DesertWireModel" "traces" "I") mw_1165) (fun _ h9 => h9) rfl dX11_count_169 ?_
    exact hRet c4 [0, 1, 2] (by (try dsimp only); unfold cntR; (repeat (first | rw [if_pos (by omega)] | rw [if_neg (by omega)])); first | done | exact rfl) hP hD (by decide) rfl hS rfl dX11_count_172
  by_cases c_48 : a0.toInt = 8
  · refine lv_tableIn (off := 170) (tgt := 173) hx hb dX11_count_3 (by omega) (by omega) (by rw [c_48]; decide) (by decide) ?_
    refine lv_aload_n hx hb dX11_count_173 rfl (lv_at hl 1 rfl) ?_
    refine va_get (D := D) (ci := 11) (v := .ref k0) (C := RX11) (T := TX11) (N := 25) hx hb hT giX11 hown hK hP 0 rfl rfl 0 (by decide) (hT (Cond.fieldLink RX11 9 "DesertWireModel" "s" "[I") mw_1156) (fun _ h9 => h9) rfl dX11_count_174 ?_
    refine lv_iconst (v := 5) hx hb dX11_count_177 (by decide) ?_
    refine k_iald (v := (c0 5)) hx hb hK hP 1 0 rfl rfl (k_inl (by decide)) rfl dX11_count_178 ?_
    refine lv_topi (fun v_49 ev_49 => ?_)
    have lo_v_49 := k_lo v_49
    have hi_v_49 := k_hi v_49
    have tv_49 : v_49.toInt = (c0 5).toInt := by rw [ev_49]
    have b_50 : 0 ≤ v_49.toInt ∧ v_49.toInt ≤ 20 := by first | (rw [tv_49]; exact SB.n5 (And.left pre0)) | exact SB.n5 (And.left pre0) | omega
    exact hRet c4 [0, 1, 2] (by (try dsimp only); unfold cntR; (repeat (first | rw [if_pos (by omega)] | rw [if_neg (by omega)])); first | done | exact (ev_49)) hP hD (by decide) rfl hS rfl dX11_count_179
  by_cases c_51 : a0.toInt = 9
  · refine lv_tableIn (off := 177) (tgt := 180) hx hb dX11_count_3 (by omega) (by omega) (by rw [c_51]; decide) (by decide) ?_
    refine lv_aload_n hx hb dX11_count_180 rfl (lv_at hl 1 rfl) ?_
    refine kJi (wr := [(k4, .inl (cI, 6, .inl c4))]) (va_runV (As := []) (rest := []) ⟨hx, hb, hml, hown, hT⟩ (c_X11_wiredG l D cI aK aV k k0 k1 k2 k4 k5 k6 k7 k8 ka kb kl ko s.heap.size c3 c9 cc cd ce cf cg ch ci cj ck cm cn c0 (And.left pre0)) (cwV 0 hT (gV_in mw_1562 mw_1559 mw_1561 mw_p6_4 mw_12) rfl rfl rfl (by decide +kernel) ⟨Nat.le_of_ble_eq_true rfl, Nat.le_of_ble_eq_true rfl⟩) (kRecvX (q0 := 0) (ci := 11) hK hP hD hN hXS hS hA rfl rfl [0, 1] rfl (by decide)) rfl rfl hl.1 rfl (lv_room (Nat.le_of_ble_eq_true rfl)) dX11_count_181 ⟨Nat.le_of_ble_eq_true rfl, Nat.le_of_ble_eq_true rfl⟩) hP hD hS hA [0, 1] [2] rfl rfl (by decide) (by decide) ?_
    clear hP hD hS
    intro r_52 u_54 H locs w_53 hP hD hS
    replace hP : va_P D vwCl [(k4, .inl (cI, 6, .inl c4)), (k, .inr (11, [.ref k0, .ref k1, .ref k2, .int c3, .ref k4, .ref k5, .ref k6, .ref k7, .ref k8, .int c9, .ref ka, .ref kb, .int cc, .int cd, .int ce, .int cf, .int cg, .int ch, .int ci, .int cj, .int ck, .ref kl, .int cm, .int cn, .ref ko])), (k0, .inl (cI, 1201, .inl c0))] H := hP
    replace hD : va_D A [(k4, .inl (cI, 6, .inl c4)), (k, .inr (11, [.ref k0, .ref k1, .ref k2, .int c3, .ref k4, .ref k5, .ref k6, .ref k7, .ref k8, .int c9, .ref ka, .ref kb, .int cc, .int cd, .int ce, .int cf, .int cg, .int ch, .int ci, .int cj, .int ck, .ref kl, .int cm, .int cn, .ref ko])), (k0, .inl (cI, 1201, .inl c0))] := hD
    have h_55 := w_53
    have h_55 : r_52 = wmN c0 40 := h_55
    have lo_r_52 := k_lo r_52
    have hi_r_52 := k_hi r_52
    exact hRet c4 [1, 2, 0] (by (try dsimp only); unfold cntR; (repeat (first | rw [if_pos (by omega)] | rw [if_neg (by omega)])); first | done | exact (h_55)) hP hD (by decide) rfl hS rfl dX11_count_184
  by_cases c_56 : a0.toInt = 10
  · refine lv_tableIn (off := 182) (tgt := 185) hx hb dX11_count_3 (by omega) (by omega) (by rw [c_56]; decide) (by decide) ?_
    refine lv_iconst (v := 0) hx hb dX11_count_185 (by decide) ?_
    refine lv_istore_n (lv' := [(3, .int 0), (2, .int 0), (0, .ref k), (1, .int a0)]) hx hb dX11_count_186 rfl hl (by decide) rfl ?_
    clear hl
    intro ls hl
    have hloop_187 : ∀ (fu_ : Nat) (l187_2 : Int32) (l187_3 : Int32), 0 ≤ l187_3.toInt → 0 ≤ l187_3.toInt → l187_3.toInt ≤ (c0 1).toInt → l187_2 = sumN (saT c0) l187_3.toInt.toNat → ((c0 1).toInt - l187_3.toInt).toNat < fu_ → ∀ (ls : Array Slot) (H : Heap) (locs : List Loc), lv_has ls 4 [(3, .int l187_3), (2, .int l187_2), (0, .ref k), (1, .int a0)] → va_P D vwCl [(k, .inr (11, [.ref k0, .ref k1, .ref k2, .int c3, .ref k4, .ref k5, .ref k6, .ref k7, .ref k8, .int c9, .ref ka, .ref kb, .int cc, .int cd, .int ce, .int cf, .int cg, .int ch, .int ci, .int cj, .int ck, .ref kl, .int cm, .int cn, .ref ko])), (k0, .inl (cI, 1201, .inl c0)), (k4, .inl (cI, 6, .inl c4))] H → va_D A [(k, .inr (11, [.ref k0, .ref k1, .ref k2, .int c3, .ref k4, .ref k5, .ref k6, .ref k7, .ref k8, .int c9, .ref ka, .ref kb, .int cc, .int cd, .int ce, .int cf, .int cg, .int ch, .int ci, .int cj, .int ck, .ref kl, .int cm, .int cn, .ref ko])), (k0, .inl (cI, 1201, .inl c0)), (k4, .inl (cI, 6, .inl c4))] → va_S A s.heap H locs → W p l e ({ frames := 5, cells := 0, slots := 0, locals := 109 } : Room) s m args below meth c H locs 0 0 Q (F0 m 187 ls []) := by
      intro fu_; induction fu_ with
      | zero => intro l187_2 l187_3 i187_0 i187_1 i187_2 i187_3 hm; exact absurd hm (by omega)
      | succ fu_ ih187 =>
          intro l187_2 l187_3 i187_0 i187_1 i187_2 i187_3 hm ls H locs hl hP hD hS
          have lo_l187_2 := k_lo l187_2
          have hi_l187_2 := k_hi l187_2
          have lo_l187_3 := k_lo l187_3
          have hi_l187_3 := k_hi l187_3
          have i187_3 : l187_2 = sumN (saT c0) l187_3.toInt.toNat := i187_3
          refine lv_iload_n hx hb dX11_count_187 rfl (lv_at hl 0 rfl) ?_
          refine lv_aload_n hx hb dX11_count_188 rfl (lv_at hl 2 rfl) ?_
          refine va_get (D := D) (ci := 11) (v := .ref k0) (C := RX11) (T := TX11) (N := 25) hx hb hT giX11 hown hK hP 0 rfl rfl 0 (by decide) (hT (Cond.fieldLink RX11 9 "DesertWireModel" "s" "[I") mw_1156) (fun _ h9 => h9) rfl dX11_count_189 ?_
          refine lv_iconst (v := 1) hx hb dX11_count_192 (by decide) ?_
          refine k_iald (v := (c0 1)) hx hb hK hP 1 0 rfl rfl (k_inl (by decide)) rfl dX11_count_193 ?_
          refine lv_topi (fun v_57 ev_57 => ?_)
          have lo_v_57 := k_lo v_57
          have hi_v_57 := k_hi v_57
          have tv_57 : v_57.toInt = (c0 1).toInt := by rw [ev_57]
          have b_58 : 0 ≤ v_57.toInt ∧ v_57.toInt ≤ 60 := by first | (rw [tv_57]; exact SB.n1 (And.left pre0)) | exact SB.n1 (And.left pre0) | omega
          refine b_icmp_ge hx hb rfl rfl (tgt := 220) dX11_count_194 (by decide) (fun c_59 => ?_) (fun c_59 => ?_)
          · refine lv_iload_n hx hb dX11_count_220 rfl (lv_at hl 1 rfl) ?_
            exact hRet c4 [0, 1, 2] (by (try dsimp only); unfold cntR; (repeat (first | rw [if_pos (by omega)] | rw [if_neg (by omega)])); first | done | exact (by rw [show (c0 1).toInt.toNat = l187_3.toInt.toNat from by omega]; exact i187_3)) hP hD (by decide) rfl hS rfl dX11_count_221
          · refine lv_iload_n hx hb dX11_count_197 rfl (lv_at hl 1 rfl) ?_
            refine lv_aload_n hx hb dX11_count_198 rfl (lv_at hl 2 rfl) ?_
            refine lv_iload_n hx hb dX11_count_199 rfl (lv_at hl 0 rfl) ?_
            refine lv_iconst (v := 3) hx hb dX11_count_200 (by decide) ?_
            refine kJi (wr := [(k4, .inl (cI, 6, .inl c4))]) (va_runV (As := [.int l187_3, .int 3]) (rest := [.int l187_2]) ⟨hx, hb, hml, hown, hT⟩ (c_X11_standsG l D cI aK aV k k0 k1 k2 k4 k5 k6 k7 k8 ka kb kl ko H.size c3 c9 cc cd ce cf cg ch ci cj ck cm cn c0 l187_3 3 (by first | omega | (simp only [zl_3]; first | done | omega) | decide | assumption | rfl) (by first | omega | (simp only [zl_3]; first | done | omega) | decide | assumption | rfl) (And.left pre0)) (cwV 2 hT (gV_in mw_1295 mw_1292 mw_1294 mw_p3_14 mw_12) rfl rfl rfl (by decide +kernel) ⟨Nat.le_of_ble_eq_true rfl, Nat.le_of_ble_eq_true rfl⟩) (kRecvX (q0 := 0) (ci := 11) hK hP hD hN hXS hS hA rfl rfl [0, 1] rfl (by decide)) rfl rfl hl.1 rfl (lv_room (Nat.le_of_ble_eq_true rfl)) dX11_count_201 ⟨Nat.le_of_ble_eq_true rfl, Nat.le_of_ble_eq_true rfl⟩) hP hD hS hA [0, 1] [2] rfl rfl (by decide) (by decide) ?_
            clear hP hD hS
            intro r_60 u_62 H locs w_61 hP hD hS
            replace hP : va_P D vwCl [(k4, .inl (cI, 6, .inl c4)), (k, .inr (11, [.ref k0, .ref k1, .ref k2, .int c3, .ref k4, .ref k5, .ref k6, .ref k7, .ref k8, .int c9, .ref ka, .ref kb, .int cc, .int cd, .int ce, .int cf, .int cg, .int ch, .int ci, .int cj, .int ck, .ref kl, .int cm, .int cn, .ref ko])), (k0, .inl (cI, 1201, .inl c0))] H := hP
            replace hD : va_D A [(k4, .inl (cI, 6, .inl c4)), (k, .inr (11, [.ref k0, .ref k1, .ref k2, .int c3, .ref k4, .ref k5, .ref k6, .ref k7, .ref k8, .int c9, .ref ka, .ref kb, .int cc, .int cd, .int ce, .int cf, .int cg, .int ch, .int ci, .int cj, .int ck, .ref kl, .int cm, .int cn, .ref ko])), (k0, .inl (cI, 1201, .inl c0))] := hD
            rcases w_61 with ⟨hr_60, h_63⟩ | ⟨hr_60, h_64⟩
            · try simp only [zl_3] at h_63
              have h_63 : stF c0 l187_3 3 = 1 := h_63
              obtain rfl : r_60 = 1 := hr_60.trans (by decide)
              refine b_if_eq hx hb zl_1 (tgt := 211) dX11_count_204 (by decide) (fun c_65 => by exfalso; omega) (fun c_65 => ?_)
              refine lv_iconst (v := 1) hx hb dX11_count_207 (by decide) ?_
              refine lv_goto (tgt := 212) hx hb dX11_count_208 (by decide) ?_
              refine lv_iadd hx hb dX11_count_212 ?_
              refine lv_topi (fun v_66 ev_66 => ?_)
              have lo_v_66 := k_lo v_66
              have hi_v_66 := k_hi v_66
              refine lv_istore_n (lv' := [(2, .int v_66), (3, .int l187_3), (0, .ref k), (1, .int a0)]) hx hb dX11_count_213 rfl hl (by decide) rfl ?_
              clear hl
              intro ls hl
              obtain ⟨v_67, ev_67⟩ : ∃ y : Int32, y = l187_3 + 1 := ⟨_, rfl⟩
              have tv_67 : v_67.toInt = l187_3.toInt + 1 := by rw [ev_67]; exact k_addv rfl zl_1 (by omega) (by omega)
              refine lv_iinc (v := v_67) (lv' := [(3, .int v_67), (2, .int v_66), (0, .ref k), (1, .int a0)]) hx hb dX11_count_214 hl (k := 1) rfl (by rw [ev_67]; rfl) (by decide) rfl ?_
              clear hl
              intro ls hl
              refine lv_goto (tgt := 187) hx hb dX11_count_217 (by decide) ?_
              exact ih187 v_66 v_67 (by first | omega | decide | assumption | rfl) (by first | omega | decide | assumption | rfl) (by first | omega | decide | assumption | rfl) (su_s i187_3 (by omega) (by omega) (sa_y (f := c0) (w := l187_3) (st_1 (by decide) h_63).1 (st_1 (by decide) h_63).2) ev_66) (by omega) ls _ _ (lv_sub hl [0, 1, 2, 3] rfl) (hP.sub [1, 2, 0] rfl) (hD.sub [1, 2, 0] (by decide) rfl) hS
            · try simp only [zl_3] at h_64
              have h_64 : stF c0 l187_3 3 = 0 := h_64
              obtain rfl : r_60 = 0 := hr_60.trans (by decide)
              refine b_if_eq hx hb zl_0 (tgt := 211) dX11_count_204 (by decide) (fun c_68 => ?_) (fun c_68 => by exfalso; omega)
              refine lv_iconst (v := 0) hx hb dX11_count_211 (by decide) ?_
              refine lv_iadd hx hb dX11_count_212 ?_
              refine lv_topi (fun v_69 ev_69 => ?_)
              have tv_69 : v_69.toInt = l187_2.toInt + 0 := by rw [ev_69]; exact k_addv rfl zl_0 (by omega) (by omega)
              refine lv_istore_n (lv' := [(2, .int v_69), (3, .int l187_3), (0, .ref k), (1, .int a0)]) hx hb dX11_count_213 rfl hl (by decide) rfl ?_
              clear hl
              intro ls hl
              obtain ⟨v_70, ev_70⟩ : ∃ y : Int32, y = l187_3 + 1 := ⟨_, rfl⟩
              have tv_70 : v_70.toInt = l187_3.toInt + 1 := by rw [ev_70]; exact k_addv rfl zl_1 (by omega) (by omega)
              refine lv_iinc (v := v_70) (lv' := [(3, .int v_70), (2, .int v_69), (0, .ref k), (1, .int a0)]) hx hb dX11_count_214 hl (k := 1) rfl (by rw [ev_70]; rfl) (by decide) rfl ?_
              clear hl
              intro ls hl
              refine lv_goto (tgt := 187) hx hb dX11_count_217 (by decide) ?_
              exact ih187 v_69 v_70 (by first | omega | decide | assumption | rfl) (by first | omega | decide | assumption | rfl) (by first | omega | decide | assumption | rfl) (su_s i187_3 (by omega) (by omega) (sa_n (f := c0) (w := l187_3) (st_0 (by decide) h_64)).symm ev_69) (by omega) ls _ _ (lv_sub hl [0, 1, 2, 3] rfl) (hP.sub [1, 2, 0] rfl) (hD.sub [1, 2, 0] (by decide) rfl) hS
    exact hloop_187 _ 0 0 (by first | omega | (simp only [zl_0]; first | done | omega) | decide | assumption | rfl) (by first | omega | (simp only [zl_0]; first | done | omega) | decide | assumption | rfl) (by first | omega | (simp only [zl_0]; first | done | omega) | decide | assumption | rfl) (by rw [zl_0]; rfl) (Nat.lt_succ_self _) ls _ _ (lv_sub hl [0, 1, 2, 3] rfl) hP hD hS
  by_cases c_71 : a0.toInt = 11
  · refine lv_tableIn (off := 219) (tgt := 222) hx hb dX11_count_3 (by omega) (by omega) (by rw [c_71]; decide) (by decide) ?_
    refine lv_iconst (v := 0) hx hb dX11_count_222 (by decide) ?_
    refine lv_istore_n (lv' := [(3, .int 0), (2, .int 0), (0, .ref k), (1, .int a0)]) hx hb dX11_count_223 rfl hl (by decide) rfl ?_
    clear hl
    intro ls hl
    have hloop_224 : ∀ (fu_ : Nat) (l224_2 : Int32) (l224_3 : Int32), 0 ≤ l224_3.toInt → 0 ≤ l224_3.toInt → l224_3.toInt ≤ (c0 2).toInt → l224_2 = sumN (meT c0) l224_3.toInt.toNat → ((c0 2).toInt - l224_3.toInt).toNat < fu_ → ∀ (ls : Array Slot) (H : Heap) (locs : List Loc), lv_has ls 4 [(3, .int l224_3), (2, .int l224_2), (0, .ref k), (1, .int a0)] → va_P D vwCl [(k, .inr (11, [.ref k0, .ref k1, .ref k2, .int c3, .ref k4, .ref k5, .ref k6, .ref k7, .ref k8, .int c9, .ref ka, .ref kb, .int cc, .int cd, .int ce, .int cf, .int cg, .int ch, .int ci, .int cj, .int ck, .ref kl, .int cm, .int cn, .ref ko])), (k0, .inl (cI, 1201, .inl c0)), (k4, .inl (cI, 6, .inl c4))] H → va_D A [(k, .inr (11, [.ref k0, .ref k1, .ref k2, .int c3, .ref k4, .ref k5, .ref k6, .ref k7, .ref k8, .int c9, .ref ka, .ref kb, .int cc, .int cd, .int ce, .int cf, .int cg, .int ch, .int ci, .int cj, .int ck, .ref kl, .int cm, .int cn, .ref ko])), (k0, .inl (cI, 1201, .inl c0)), (k4, .inl (cI, 6, .inl c4))] → va_S A s.heap H locs → W p l e ({ frames := 5, cells := 0, slots := 0, locals := 109 } : Room) s m args below meth c H locs 0 0 Q (F0 m 224 ls []) := by
      intro fu_; induction fu_ with
      | zero => intro l224_2 l224_3 i224_0 i224_1 i224_2 i224_3 hm; exact absurd hm (by omega)
      | succ fu_ ih224 =>
          intro l224_2 l224_3 i224_0 i224_1 i224_2 i224_3 hm ls H locs hl hP hD hS
          have lo_l224_2 := k_lo l224_2
          have hi_l224_2 := k_hi l224_2
          have lo_l224_3 := k_lo l224_3
          have hi_l224_3 := k_hi l224_3
          have i224_3 : l224_2 = sumN (meT c0) l224_3.toInt.toNat := i224_3
          refine lv_iload_n hx hb dX11_count_224 rfl (lv_at hl 0 rfl) ?_
          refine lv_aload_n hx hb dX11_count_225 rfl (lv_at hl 2 rfl) ?_
          refine va_get (D := D) (ci := 11) (v := .ref k0) (C := RX11) (T := TX11) (N := 25) hx hb hT giX11 hown hK hP 0 rfl rfl 0 (by decide) (hT (Cond.fieldLink RX11 9 "DesertWireModel" "s" "[I") mw_1156) (fun _ h9 => h9) rfl dX11_count_226 ?_
          refine lv_iconst (v := 2) hx hb dX11_count_229 (by decide) ?_
          refine k_iald (v := (c0 2)) hx hb hK hP 1 0 rfl rfl (k_inl (by decide)) rfl dX11_count_230 ?_
          refine lv_topi (fun v_72 ev_72 => ?_)
          have lo_v_72 := k_lo v_72
          have hi_v_72 := k_hi v_72
          have tv_72 : v_72.toInt = (c0 2).toInt := by rw [ev_72]
          have b_73 : 0 ≤ v_72.toInt ∧ v_72.toInt ≤ 4 := by first | (rw [tv_72]; exact SB.n2 (And.left pre0)) | exact SB.n2 (And.left pre0) | omega
          refine b_icmp_ge hx hb rfl rfl (tgt := 249) dX11_count_231 (by decide) (fun c_74 => ?_) (fun c_74 => ?_)
          · refine lv_iload_n hx hb dX11_count_249 rfl (lv_at hl 1 rfl) ?_
            exact hRet c4 [0, 1, 2] (by (try dsimp only); unfold cntR; (repeat (first | rw [if_pos (by omega)] | rw [if_neg (by omega)])); first | done | exact (by rw [show (c0 2).toInt.toNat = l224_3.toInt.toNat from by omega]; exact i224_3)) hP hD (by decide) rfl hS rfl dX11_count_250
          · refine lv_iload_n hx hb dX11_count_234 rfl (lv_at hl 1 rfl) ?_
            refine lv_aload_n hx hb dX11_count_235 rfl (lv_at hl 2 rfl) ?_
            refine lv_iload_n hx hb dX11_count_236 rfl (lv_at hl 0 rfl) ?_
            refine lv_iconst (v := 2) hx hb dX11_count_237 (by decide) ?_
            refine kJi (wr := [(k4, .inl (cI, 6, .inl c4))]) (va_runV (As := [.int l224_3, .int 2]) (rest := [.int l224_2]) ⟨hx, hb, hml, hown, hT⟩ (c_X11_partyG2 l D cI aK aV k k0 k1 k2 k4 k5 k6 k7 k8 ka kb kl ko H.size c3 c9 cc cd ce cf cg ch ci cj ck cm cn c0 l224_3 2 (by first | omega | (simp only [zl_2]; first | done | omega) | decide | assumption | rfl) (by first | omega | (simp only [zl_2]; first | done | omega) | decide | assumption | rfl) (by first | omega | (simp only [zl_2]; first | done | omega) | decide | assumption | rfl)) (cwV 2 hT (gV_in mw_1416 mw_1413 mw_1415 mw_p5_5 mw_12) rfl rfl rfl (by decide +kernel) ⟨Nat.le_of_ble_eq_true rfl, Nat.le_of_ble_eq_true rfl⟩) (kRecvX (q0 := 0) (ci := 11) hK hP hD hN hXS hS hA rfl rfl [0, 1] rfl (by decide)) rfl rfl hl.1 rfl (lv_room (Nat.le_of_ble_eq_true rfl)) dX11_count_238 ⟨Nat.le_of_ble_eq_true rfl, Nat.le_of_ble_eq_true rfl⟩) hP hD hS hA [0, 1] [2] rfl rfl (by decide) (by decide) ?_
            clear hP hD hS
            intro r_75 u_77 H locs w_76 hP hD hS
            replace hP : va_P D vwCl [(k4, .inl (cI, 6, .inl c4)), (k, .inr (11, [.ref k0, .ref k1, .ref k2, .int c3, .ref k4, .ref k5, .ref k6, .ref k7, .ref k8, .int c9, .ref ka, .ref kb, .int cc, .int cd, .int ce, .int cf, .int cg, .int ch, .int ci, .int cj, .int ck, .ref kl, .int cm, .int cn, .ref ko])), (k0, .inl (cI, 1201, .inl c0))] H := hP
            replace hD : va_D A [(k4, .inl (cI, 6, .inl c4)), (k, .inr (11, [.ref k0, .ref k1, .ref k2, .int c3, .ref k4, .ref k5, .ref k6, .ref k7, .ref k8, .int c9, .ref ka, .ref kb, .int cc, .int cd, .int ce, .int cf, .int cg, .int ch, .int ci, .int cj, .int ck, .ref kl, .int cm, .int cn, .ref ko])), (k0, .inl (cI, 1201, .inl c0))] := hD
            have h_78 := w_76
            have h_78 : r_75 = pW c0 l224_3 2 := h_78
            have t_79 : r_75.toInt = (pW c0 l224_3 2).toInt := by rw [h_78]
            have b_80 : 0 ≤ r_75.toInt ∧ r_75.toInt ≤ 50 := by rw [h_78]; exact SB.p2 (And.left pre0) (by omega) (by omega)
            have lo_r_75 := k_lo r_75
            have hi_r_75 := k_hi r_75
            refine lv_iadd hx hb dX11_count_241 ?_
            refine lv_topi (fun v_81 ev_81 => ?_)
            have lo_v_81 := k_lo v_81
            have hi_v_81 := k_hi v_81
            refine lv_istore_n (lv' := [(2, .int v_81), (3, .int l224_3), (0, .ref k), (1, .int a0)]) hx hb dX11_count_242 rfl hl (by decide) rfl ?_
            clear hl
            intro ls hl
            obtain ⟨v_82, ev_82⟩ : ∃ y : Int32, y = l224_3 + 1 := ⟨_, rfl⟩
            have tv_82 : v_82.toInt = l224_3.toInt + 1 := by rw [ev_82]; exact k_addv rfl zl_1 (by omega) (by omega)
            refine lv_iinc (v := v_82) (lv' := [(3, .int v_82), (2, .int v_81), (0, .ref k), (1, .int a0)]) hx hb dX11_count_243 hl (k := 1) rfl (by rw [ev_82]; rfl) (by decide) rfl ?_
            clear hl
            intro ls hl
            refine lv_goto (tgt := 224) hx hb dX11_count_246 (by decide) ?_
            exact ih224 v_81 v_82 (by first | omega | decide | assumption | rfl) (by first | omega | decide | assumption | rfl) (by first | omega | decide | assumption | rfl) (su_s i224_3 (by omega) (by omega) h_78 ev_81) (by omega) ls _ _ (lv_sub hl [0, 1, 2, 3] rfl) (hP.sub [1, 2, 0] rfl) (hD.sub [1, 2, 0] (by decide) rfl) hS
    exact hloop_224 _ 0 0 (by first | omega | (simp only [zl_0]; first | done | omega) | decide | assumption | rfl) (by first | omega | (simp only [zl_0]; first | done | omega) | decide | assumption | rfl) (by first | omega | (simp only [zl_0]; first | done | omega) | decide | assumption | rfl) (by rw [zl_0]; rfl) (Nat.lt_succ_self _) ls _ _ (lv_sub hl [0, 1, 2, 3] rfl) hP hD hS
  by_cases c_83 : a0.toInt = 12
  · refine lv_tableIn (off := 248) (tgt := 251) hx hb dX11_count_3 (by omega) (by omega) (by rw [c_83]; decide) (by decide) ?_
    refine lv_iconst (v := 0) hx hb dX11_count_251 (by decide) ?_
    refine lv_istore_n (lv' := [(3, .int 0), (2, .int 0), (0, .ref k), (1, .int a0)]) hx hb dX11_count_252 rfl hl (by decide) rfl ?_
    clear hl
    intro ls hl
    have hloop_253 : ∀ (fu_ : Nat) (l253_2 : Int32) (l253_3 : Int32), 0 ≤ l253_3.toInt → 0 ≤ l253_3.toInt → l253_3.toInt ≤ (c0 1).toInt → l253_2 = sumN (foT c0) l253_3.toInt.toNat → ((c0 1).toInt - l253_3.toInt).toNat < fu_ → ∀ (ls : Array Slot) (H : Heap) (locs : List Loc), lv_has ls 4 [(3, .int l253_3), (2, .int l253_2), (0, .ref k), (1, .int a0)] → va_P D vwCl [(k, .inr (11, [.ref k0, .ref k1, .ref k2, .int c3, .ref k4, .ref k5, .ref k6, .ref k7, .ref k8, .int c9, .ref ka, .ref kb, .int cc, .int cd, .int ce, .int cf, .int cg, .int ch, .int ci, .int cj, .int ck, .ref kl, .int cm, .int cn, .ref ko])), (k0, .inl (cI, 1201, .inl c0)), (k4, .inl (cI, 6, .inl c4))] H → va_D A [(k, .inr (11, [.ref k0, .ref k1, .ref k2, .int c3, .ref k4, .ref k5, .ref k6, .ref k7, .ref k8, .int c9, .ref ka, .ref kb, .int cc, .int cd, .int ce, .int cf, .int cg, .int ch, .int ci, .int cj, .int ck, .ref kl, .int cm, .int cn, .ref ko])), (k0, .inl (cI, 1201, .inl c0)), (k4, .inl (cI, 6, .inl c4))] → va_S A s.heap H locs → W p l e ({ frames := 5, cells := 0, slots := 0, locals := 109 } : Room) s m args below meth c H locs 0 0 Q (F0 m 253 ls []) := by
      intro fu_; induction fu_ with
      | zero => intro l253_2 l253_3 i253_0 i253_1 i253_2 i253_3 hm; exact absurd hm (by omega)
      | succ fu_ ih253 =>
          intro l253_2 l253_3 i253_0 i253_1 i253_2 i253_3 hm ls H locs hl hP hD hS
          have lo_l253_2 := k_lo l253_2
          have hi_l253_2 := k_hi l253_2
          have lo_l253_3 := k_lo l253_3
          have hi_l253_3 := k_hi l253_3
          have i253_3 : l253_2 = sumN (foT c0) l253_3.toInt.toNat := i253_3
          refine lv_iload_n hx hb dX11_count_253 rfl (lv_at hl 0 rfl) ?_
          refine lv_aload_n hx hb dX11_count_254 rfl (lv_at hl 2 rfl) ?_
          refine va_get (D := D) (ci := 11) (v := .ref k0) (C := RX11) (T := TX11) (N := 25) hx hb hT giX11 hown hK hP 0 rfl rfl 0 (by decide) (hT (Cond.fieldLink RX11 9 "DesertWireModel" "s" "[I") mw_1156) (fun _ h9 => h9) rfl dX11_count_255 ?_
          refine lv_iconst (v := 1) hx hb dX11_count_258 (by decide) ?_
          refine k_iald (v := (c0 1)) hx hb hK hP 1 0 rfl rfl (k_inl (by decide)) rfl dX11_count_259 ?_
          refine lv_topi (fun v_84 ev_84 => ?_)
          have lo_v_84 := k_lo v_84
          have hi_v_84 := k_hi v_84
          have tv_84 : v_84.toInt = (c0 1).toInt := by rw [ev_84]
          have b_85 : 0 ≤ v_84.toInt ∧ v_84.toInt ≤ 60 := by first | (rw [tv_84]; exact SB.n1 (And.left pre0)) | exact SB.n1 (And.left pre0) | omega
          refine b_icmp_ge hx hb rfl rfl (tgt := 291) dX11_count_260 (by decide) (fun c_86 => ?_) (fun c_86 => ?_)
          · refine lv_iload_n hx hb dX11_count_291 rfl (lv_at hl 1 rfl) ?_
            exact hRet c4 [0, 1, 2] (by (try dsimp only); unfold cntR; (repeat (first | rw [if_pos (by omega)] | rw [if_neg (by omega)])); first | done | exact (by rw [show (c0 1).toInt.toNat = l253_3.toInt.toNat from by omega]; exact i253_3)) hP hD (by decide) rfl hS rfl dX11_count_292
          · refine lv_iload_n hx hb dX11_count_263 rfl (lv_at hl 1 rfl) ?_
            refine lv_aload_n hx hb dX11_count_264 rfl (lv_at hl 2 rfl) ?_
            refine lv_iload_n hx hb dX11_count_265 rfl (lv_at hl 0 rfl) ?_
            refine lv_iconst (v := 5) hx hb dX11_count_266 (by decide) ?_
            refine kJi (wr := [(k4, .inl (cI, 6, .inl c4))]) (va_runV (As := [.int l253_3, .int 5]) (rest := [.int l253_2]) ⟨hx, hb, hml, hown, hT⟩ (c_X11_standsG l D cI aK aV k k0 k1 k2 k4 k5 k6 k7 k8 ka kb kl ko H.size c3 c9 cc cd ce cf cg ch ci cj ck cm cn c0 l253_3 5 (by first | omega | (simp only [zl_5]; first | done | omega) | decide | assumption | rfl) (by first | omega | (simp only [zl_5]; first | done | omega) | decide | assumption | rfl) (And.left pre0)) (cwV 2 hT (gV_in mw_1295 mw_1292 mw_1294 mw_p3_14 mw_12) rfl rfl rfl (by decide +kernel) ⟨Nat.le_of_ble_eq_true rfl, Nat.le_of_ble_eq_true rfl⟩) (kRecvX (q0 := 0) (ci := 11) hK hP hD hN hXS hS hA rfl rfl [0, 1] rfl (by decide)) rfl rfl hl.1 rfl (lv_room (Nat.le_of_ble_eq_true rfl)) dX11_count_267 ⟨Nat.le_of_ble_eq_true rfl, Nat.le_of_ble_eq_true rfl⟩) hP hD hS hA [0, 1] [2] rfl rfl (by decide) (by decide) ?_
            clear hP hD hS
            intro r_87 u_89 H locs w_88 hP hD hS
            replace hP : va_P D vwCl [(k4, .inl (cI, 6, .inl c4)), (k, .inr (11, [.ref k0, .ref k1, .ref k2, .int c3, .ref k4, .ref k5, .ref k6, .ref k7, .ref k8, .int c9, .ref ka, .ref kb, .int cc, .int cd, .int ce, .int cf, .int cg, .int ch, .int ci, .int cj, .int ck, .ref kl, .int cm, .int cn, .ref ko])), (k0, .inl (cI, 1201, .inl c0))] H := hP
            replace hD : va_D A [(k4, .inl (cI, 6, .inl c4)), (k, .inr (11, [.ref k0, .ref k1, .ref k2, .int c3, .ref k4, .ref k5, .ref k6, .ref k7, .ref k8, .int c9, .ref ka, .ref kb, .int cc, .int cd, .int ce, .int cf, .int cg, .int ch, .int ci, .int cj, .int ck, .ref kl, .int cm, .int cn, .ref ko])), (k0, .inl (cI, 1201, .inl c0))] := hD
            rcases w_88 with ⟨hr_87, h_90⟩ | ⟨hr_87, h_91⟩
            · try simp only [zl_5] at h_90
              have h_90 : stF c0 l253_3 5 = 1 := h_90
              obtain rfl : r_87 = 1 := hr_87.trans (by decide)
              refine b_if_eq hx hb zl_1 (tgt := 282) dX11_count_270 (by decide) (fun c_92 => by exfalso; omega) (fun c_92 => ?_)
              refine lv_aload_n hx hb dX11_count_273 rfl (lv_at hl 2 rfl) ?_
              refine lv_iload_n hx hb dX11_count_274 rfl (lv_at hl 0 rfl) ?_
              refine lv_iconst (v := 5) hx hb dX11_count_275 (by decide) ?_
              refine kJi (wr := [(k4, .inl (cI, 6, .inl c4))]) (va_runV (As := [.int l253_3, .int 5]) (rest := [.int l253_2]) ⟨hx, hb, hml, hown, hT⟩ (c_X11_workG5 l D cI aK aV k k0 k1 k2 k4 k5 k6 k7 k8 ka kb kl ko H.size c3 c9 cc cd ce cf cg ch ci cj ck cm cn c0 l253_3 5 (by first | omega | (simp only [zl_5]; first | done | omega) | decide | assumption | rfl) (by first | omega | (simp only [zl_5]; first | done | omega) | decide | assumption | rfl) (by first | omega | (simp only [zl_5]; first | done | omega) | decide | assumption | rfl)) (cwV 2 hT (gV_in mw_1276 mw_1273 mw_1275 mw_p3_12 mw_12) rfl rfl rfl (by decide +kernel) ⟨Nat.le_of_ble_eq_true rfl, Nat.le_of_ble_eq_true rfl⟩) (kRecvX (q0 := 1) (ci := 11) hK hP hD hN hXS hS hA rfl rfl [1, 2] rfl (by decide)) rfl rfl hl.1 rfl (lv_room (Nat.le_of_ble_eq_true rfl)) dX11_count_276 ⟨Nat.le_of_ble_eq_true rfl, Nat.le_of_ble_eq_true rfl⟩) hP hD hS hA [1, 2] [0] rfl rfl (by decide) (by decide) ?_
              clear hP hD hS
              intro r_93 u_95 H locs w_94 hP hD hS
              replace hP : va_P D vwCl [(k4, .inl (cI, 6, .inl c4)), (k, .inr (11, [.ref k0, .ref k1, .ref k2, .int c3, .ref k4, .ref k5, .ref k6, .ref k7, .ref k8, .int c9, .ref ka, .ref kb, .int cc, .int cd, .int ce, .int cf, .int cg, .int ch, .int ci, .int cj, .int ck, .ref kl, .int cm, .int cn, .ref ko])), (k0, .inl (cI, 1201, .inl c0))] H := hP
              replace hD : va_D A [(k4, .inl (cI, 6, .inl c4)), (k, .inr (11, [.ref k0, .ref k1, .ref k2, .int c3, .ref k4, .ref k5, .ref k6, .ref k7, .ref k8, .int c9, .ref ka, .ref kb, .int cc, .int cd, .int ce, .int cf, .int cg, .int ch, .int ci, .int cj, .int ck, .ref kl, .int cm, .int cn, .ref ko])), (k0, .inl (cI, 1201, .inl c0))] := hD
              have h_96 := w_94
              have h_96 : r_93 = wW c0 l253_3 5 := h_96
              have t_97 : r_93.toInt = (wW c0 l253_3 5).toInt := by rw [h_96]
              have b_98 : 0 ≤ r_93.toInt ∧ r_93.toInt ≤ 9999 := by rw [h_96]; exact SB.w5 (And.left pre0) (by omega) (by omega)
              have lo_r_93 := k_lo r_93
              have hi_r_93 := k_hi r_93
              refine lv_goto (tgt := 283) hx hb dX11_count_279 (by decide) ?_
              refine lv_iadd hx hb dX11_count_283 ?_
              refine lv_topi (fun v_99 ev_99 => ?_)
              have lo_v_99 := k_lo v_99
              have hi_v_99 := k_hi v_99
              refine lv_istore_n (lv' := [(2, .int v_99), (3, .int l253_3), (0, .ref k), (1, .int a0)]) hx hb dX11_count_284 rfl hl (by decide) rfl ?_
              clear hl
              intro ls hl
              obtain ⟨v_100, ev_100⟩ : ∃ y : Int32, y = l253_3 + 1 := ⟨_, rfl⟩
              have tv_100 : v_100.toInt = l253_3.toInt + 1 := by rw [ev_100]; exact k_addv rfl zl_1 (by omega) (by omega)
              refine lv_iinc (v := v_100) (lv' := [(3, .int v_100), (2, .int v_99), (0, .ref k), (1, .int a0)]) hx hb dX11_count_285 hl (k := 1) rfl (by rw [ev_100]; rfl) (by decide) rfl ?_
              clear hl
              intro ls hl
              refine lv_goto (tgt := 253) hx hb dX11_count_288 (by decide) ?_
              exact ih253 v_99 v_100 (by first | omega | decide | assumption | rfl) (by first | omega | decide | assumption | rfl) (by first | omega | decide | assumption | rfl) (su_s i253_3 (by omega) (by omega) (fo_y (w := l253_3) h_96 (st_1 (by decide) h_90).1 (st_1 (by decide) h_90).2) ev_99) (by omega) ls _ _ (lv_sub hl [0, 1, 2, 3] rfl) (hP.sub [1, 2, 0] rfl) (hD.sub [1, 2, 0] (by decide) rfl) hS
            · try simp only [zl_5] at h_91
              have h_91 : stF c0 l253_3 5 = 0 := h_91
              obtain rfl : r_87 = 0 := hr_87.trans (by decide)
              refine b_if_eq hx hb zl_0 (tgt := 282) dX11_count_270 (by decide) (fun c_101 => ?_) (fun c_101 => by exfalso; omega)
              refine lv_iconst (v := 0) hx hb dX11_count_282 (by decide) ?_
              refine lv_iadd hx hb dX11_count_283 ?_
              refine lv_topi (fun v_102 ev_102 => ?_)
              have tv_102 : v_102.toInt = l253_2.toInt + 0 := by rw [ev_102]; exact k_addv rfl zl_0 (by omega) (by omega)
              refine lv_istore_n (lv' := [(2, .int v_102), (3, .int l253_3), (0, .ref k), (1, .int a0)]) hx hb dX11_count_284 rfl hl (by decide) rfl ?_
              clear hl
              intro ls hl
              obtain ⟨v_103, ev_103⟩ : ∃ y : Int32, y = l253_3 + 1 := ⟨_, rfl⟩
              have tv_103 : v_103.toInt = l253_3.toInt + 1 := by rw [ev_103]; exact k_addv rfl zl_1 (by omega) (by omega)
              refine lv_iinc (v := v_103) (lv' := [(3, .int v_103), (2, .int v_102), (0, .ref k), (1, .int a0)]) hx hb dX11_count_285 hl (k := 1) rfl (by rw [ev_103]; rfl) (by decide) rfl ?_
              clear hl
              intro ls hl
              refine lv_goto (tgt := 253) hx hb dX11_count_288 (by decide) ?_
              exact ih253 v_102 v_103 (by first | omega | decide | assumption | rfl) (by first | omega | decide | assumption | rfl) (by first | omega | decide | assumption | rfl) (su_s i253_3 (by omega) (by omega) (fo_n (f := c0) (w := l253_3) (st_0 (by decide) h_91)).symm ev_102) (by omega) ls _ _ (lv_sub hl [0, 1, 2, 3] rfl) (hP.sub [1, 2, 0] rfl) (hD.sub [1, 2, 0] (by decide) rfl) hS
    exact hloop_253 _ 0 0 (by first | omega | (simp only [zl_0]; first | done | omega) | decide | assumption | rfl) (by first | omega | (simp only [zl_0]; first | done | omega) | decide | assumption | rfl) (by first | omega | (simp only [zl_0]; first | done | omega) | decide | assumption | rfl) (by rw [zl_0]; rfl) (Nat.lt_succ_self _) ls _ _ (lv_sub hl [0, 1, 2, 3] rfl) hP hD hS
  refine lv_tableOut (tgt := 293) hx hb dX11_count_3 (by omega) (by decide) ?_
  refine lv_aload_n hx hb dX11_count_293 rfl (lv_at hl 1 rfl) ?_
  refine lv_ldc (v := (-1000001)) hx hb hown (hT _ mw_1239) dX11_count_294 ?_
  refine kJi (wr := [(k0, .inl (cI, 1201, .inl c0))]) (va_runV (As := [.int (-1000001)]) (rest := []) ⟨hx, hb, hml, hown, hT⟩ (c_X11_findingG l D cI aK aV k k0 k1 k2 k4 k5 k6 k7 k8 ka kb kl ko s.heap.size c3 c9 cc cd ce cf cg ch ci cj ck cm cn c4 (-1000001) (by first | omega | (simp only [zl_m1000001]; first | done | omega) | decide | assumption | rfl) (by first | omega | (simp only [zl_m1000001]; first | done | omega) | decide | assumption | rfl)) (cwV 1 hT (gV_in mw_1243 mw_1240 mw_1242 mw_p3_8 mw_12) rfl rfl rfl (by decide +kernel) ⟨Nat.le_of_ble_eq_true rfl, Nat.le_of_ble_eq_true rfl⟩) (kRecvX (q0 := 0) (ci := 11) hK hP hD hN hXS hS hA rfl rfl [0, 2] rfl (by decide)) rfl rfl hl.1 rfl (lv_room (Nat.le_of_ble_eq_true rfl)) dX11_count_296 ⟨Nat.le_of_ble_eq_true rfl, Nat.le_of_ble_eq_true rfl⟩) hP hD hS hA [0, 2] [1] rfl rfl (by decide) (by decide) ?_
  clear hP hD hS
  intro r_104 sc4_106 H locs w_105 hP hD hS
  replace hP : va_P D vwCl [(k0, .inl (cI, 1201, .inl c0)), (k, .inr (11, [.ref k0, .ref k1, .ref k2, .int c3, .ref k4, .ref k5, .ref k6, .ref k7, .ref k8, .int c9, .ref ka, .ref kb, .int cc, .int cd, .int ce, .int cf, .int cg, .int ch, .int ci, .int cj, .int ck, .ref kl, .int cm, .int cn, .ref ko])), (k4, .inl (cI, 6, .inl sc4_106))] H := hP
  replace hD : va_D A [(k0, .inl (cI, 1201, .inl c0)), (k, .inr (11, [.ref k0, .ref k1, .ref k2, .int c3, .ref k4, .ref k5, .ref k6, .ref k7, .ref k8, .int c9, .ref ka, .ref kb, .int cc, .int cd, .int ce, .int cf, .int cg, .int ch, .int ci, .int cj, .int ck, .ref kl, .int cm, .int cn, .ref ko])), (k4, .inl (cI, 6, .inl sc4_106))] := hD
  have hr_104 := w_105
  obtain rfl : r_104 = (-1000001) := hr_104.trans (by decide)
  exact hRet sc4_106 [1, 0, 2] (by (try dsimp only); unfold cntR; (repeat (first | rw [if_pos (by omega)] | rw [if_neg (by omega)]))) hP hD (by decide) rfl hS rfl dX11_count_299
theorem dX11_found_0 : decode cX11_found 0 = .ok (.iload_n 1, 1) := by decide +kernel
theorem dX11_found_1 : decode cX11_found 1 = .ok (.iconst 1, 1) := by decide +kernel
theorem dX11_found_2 : decode cX11_found 2 = .ok (.iconst 5, 1) := by decide +kernel
theorem dX11_found_3 : decode cX11_found 3 = .ok (.invokestatic 47, 3) := by decide +kernel
theorem dX11_found_6 : decode cX11_found 6 = .ok (.ifCond .eq 12, 3) := by decide +kernel
theorem dX11_found_9 : decode cX11_found 9 = .ok (.aload_n 0, 1) := by decide +kernel
theorem dX11_found_10 : decode cX11_found 10 = .ok (.getfield 19, 3) := by decide +kernel
theorem dX11_found_13 : decode cX11_found 13 = .ok (.iload_n 1, 1) := by decide +kernel
theorem dX11_found_14 : decode cX11_found 14 = .ok (.iaload, 1) := by decide +kernel
theorem dX11_found_15 : decode cX11_found 15 = .ok (.goto 9, 3) := by decide +kernel
theorem dX11_found_18 : decode cX11_found 18 = .ok (.aload_n 0, 1) := by decide +kernel
theorem dX11_found_19 : decode cX11_found 19 = .ok (.ldc 63, 2) := by decide +kernel
theorem dX11_found_21 : decode cX11_found 21 = .ok (.invokevirtual 64, 3) := by decide +kernel
theorem dX11_found_24 : decode cX11_found 24 = .ok (.ireturn, 1) := by decide +kernel
set_option maxHeartbeats 4000000 in
set_option maxRecDepth 100000 in
theorem c_X11_foundG (l : Launch) (D : va_G) (cI : ClassId) (aK aV : Nat → Nat) (k k0 k1 k2 k4 k5 k6 k7 k8 ka kb kl ko : Nat) (sz : Nat) (c3 : Int32) (c9 : Int32) (cc : Int32) (cd : Int32) (ce : Int32) (cf : Int32) (cg : Int32) (ch : Int32) (ci : Int32) (cj : Int32) (ck : Int32) (cm : Int32) (cn : Int32) (c4 : Nat → Int32) (a0 : Int32) : Met l yX11_found (gW yX11_found cX11_found 2 (some .int)) ({ frames := 1, cells := 0, slots := 0, locals := 22 } : Room) (kPreX D cI aK aV [.ref k, .int a0] [(k, .inr (11, [.ref k0, .ref k1, .ref k2, .int c3, .ref k4, .ref k5, .ref k6, .ref k7, .ref k8, .int c9, .ref ka, .ref kb, .int cc, .int cd, .int ce, .int cf, .int cg, .int ch, .int ci, .int cj, .int ck, .ref kl, .int cm, .int cn, .ref ko])), (k4, .inl (cI, 6, .inl c4))] sz) (va_Qi (fun (r : Int32) (u : (Nat → Int32)) => True) (fun u t => kWd D cI (va_A [(k, .inr (11, [.ref k0, .ref k1, .ref k2, .int c3, .ref k4, .ref k5, .ref k6, .ref k7, .ref k8, .int c9, .ref ka, .ref kb, .int cc, .int cd, .int ce, .int cf, .int cg, .int ch, .int ci, .int cj, .int ck, .ref kl, .int cm, .int cn, .ref ko])), (k4, .inl (cI, 6, .inl c4))] sz) [(k, .inr (11, [.ref k0, .ref k1, .ref k2, .int c3, .ref k4, .ref k5, .ref k6, .ref k7, .ref k8, .int c9, .ref ka, .ref kb, .int cc, .int cd, .int ce, .int cf, .int cg, .int ch, .int ci, .int cj, .int ck, .ref kl, .int cm, .int cn, .ref ko])), (k4, .inl (cI, 6, .inl u))] t) (va_A [(k, .inr (11, [.ref k0, .ref k1, .ref k2, .int c3, .ref k4, .ref k5, .ref k6, .ref k7, .ref k8, .int c9, .ref ka, .ref kb, .int cc, .int cd, .int ce, .int cf, .int cg, .int ch, .int ci, .int cj, .int ck, .ref kl, .int cm, .int cn, .ref ko])), (k4, .inl (cI, 6, .inl c4))] sz)) 0 0 (va_A [(k, .inr (11, [.ref k0, .ref k1, .ref k2, .int c3, .ref k4, .ref k5, .ref k6, .ref k7, .ref k8, .int c9, .ref ka, .ref kb, .int cc, .int cd, .int ce, .int cf, .int cg, .int ch, .int ci, .int cj, .int ck, .ref kl, .int cm, .int cn, .ref ko])), (k4, .inl (cI, 6, .inl c4))] sz) := by
  refine kMetIX (own := RX11) (by decide) rfl (Nat.le_of_ble_eq_true rfl) ?_
  intro p e s m args below meth c hx hb hT hown hname hml A Q hK hP hD hS hA hN hXS hRet ls hl
  have hl : lv_has ls 2 [(0, .ref k), (1, .int a0)] := hl
  have lo_a0 := k_lo a0
  have hi_a0 := k_hi a0
  have lo_ci := k_lo ci
  have hi_ci := k_hi ci
  refine lv_iload_n hx hb dX11_found_0 rfl (lv_at hl 1 rfl) ?_
  refine lv_iconst (v := 1) hx hb dX11_found_1 (by decide) ?_
  refine lv_iconst (v := 5) hx hb dX11_found_2 (by decide) ?_
  refine kJi (wr := [(k, .inr (11, [.ref k0, .ref k1, .ref k2, .int c3, .ref k4, .ref k5, .ref k6, .ref k7, .ref k8, .int c9, .ref ka, .ref kb, .int cc, .int cd, .int ce, .int cf, .int cg, .int ch, .int ci, .int cj, .int ck, .ref kl, .int cm, .int cn, .ref ko])), (k4, .inl (cI, 6, .inl c4))]) (va_runS (As := [.int a0, .int 1, .int 5]) (rest := []) ⟨hx, hb, hml, hown, hT⟩ (c_X11_inG l D cI aK aV s.heap.size a0 1 5) (cwS 3 hT (gS_in mw_1238 mw_1236 mw_1237 mw_12) rfl rfl rfl (by decide +kernel) ⟨Nat.le_of_ble_eq_true rfl, Nat.le_of_ble_eq_true rfl⟩) (kStatX hK hP hD hN hXS hS hA [] rfl (by decide)) rfl rfl hl.1 rfl (lv_room (Nat.le_of_ble_eq_true rfl)) dX11_found_3 ⟨Nat.le_of_ble_eq_true rfl, Nat.le_of_ble_eq_true rfl⟩) hP hD hS hA [] [0, 1] rfl rfl (by decide) (by decide) ?_
  clear hP hD hS
  intro r_1 u_3 H locs w_2 hP hD hS
  replace hP : va_P D vwCl [(k, .inr (11, [.ref k0, .ref k1, .ref k2, .int c3, .ref k4, .ref k5, .ref k6, .ref k7, .ref k8, .int c9, .ref ka, .ref kb, .int cc, .int cd, .int ce, .int cf, .int cg, .int ch, .int ci, .int cj, .int ck, .ref kl, .int cm, .int cn, .ref ko])), (k4, .inl (cI, 6, .inl c4))] H := hP
  replace hD : va_D A [(k, .inr (11, [.ref k0, .ref k1, .ref k2, .int c3, .ref k4, .ref k5, .ref k6, .ref k7, .ref k8, .int c9, .ref ka, .ref kb, .int cc, .int cd, .int ce, .int cf, .int cg, .int ch, .int ci, .int cj, .int ck, .ref kl, .int cm, .int cn, .ref ko])), (k4, .inl (cI, 6, .inl c4))] := hD
  rcases w_2 with ⟨hr_1, h_4, h_5⟩ | ⟨hr_1, h_6⟩
  · try simp only [zl_1, zl_5] at h_4
    have h_4 : 1 ≤ a0.toInt := h_4
    try simp only [zl_1, zl_5] at h_5
    have h_5 : a0.toInt ≤ 5 := h_5
    obtain rfl : r_1 = 1 := hr_1.trans (by decide)
    refine b_if_eq hx hb zl_1 (tgt := 18) dX11_found_6 (by decide) (fun c_7 => by exfalso; omega) (fun c_7 => ?_)
    refine lv_aload_n hx hb dX11_found_9 rfl (lv_at hl 0 rfl) ?_
    refine va_get (D := D) (ci := 11) (v := .ref k4) (C := RX11) (T := TX11) (N := 25) hx hb hT giX11 hown hK hP 0 rfl rfl 4 (by decide) (hT (Cond.fieldLink RX11 19 "DesertWireModel" "found" "[I") mw_1160) (fun _ h9 => h9) rfl dX11_found_10 ?_
    refine lv_iload_n hx hb dX11_found_13 rfl (lv_at hl 1 rfl) ?_
    refine k_iald (v := (c4 a0.toNatClampNeg)) hx hb hK hP 1 0 rfl rfl (k_in (by omega) (by omega)) rfl dX11_found_14 ?_
    refine lv_topi (fun v_8 ev_8 => ?_)
    have lo_v_8 := k_lo v_8
    have hi_v_8 := k_hi v_8
    have tv_8 : v_8.toInt = (c4 a0.toNatClampNeg).toInt := by rw [ev_8]
    refine lv_goto (tgt := 24) hx hb dX11_found_15 (by decide) ?_
    exact hRet c4 [0, 1] trivial hP hD (by decide) rfl hS rfl dX11_found_24
  · try simp only [zl_1, zl_5] at h_6
    have h_6 : a0.toInt < 1 ∨ 5 < a0.toInt := h_6
    obtain rfl : r_1 = 0 := hr_1.trans (by decide)
    refine b_if_eq hx hb zl_0 (tgt := 18) dX11_found_6 (by decide) (fun c_9 => ?_) (fun c_9 => by exfalso; omega)
    refine lv_aload_n hx hb dX11_found_18 rfl (lv_at hl 0 rfl) ?_
    refine lv_ldc (v := (-1000001)) hx hb hown (hT _ mw_1239) dX11_found_19 ?_
    refine kJi (wr := []) (va_runV (As := [.int (-1000001)]) (rest := []) ⟨hx, hb, hml, hown, hT⟩ (c_X11_findingG l D cI aK aV k k0 k1 k2 k4 k5 k6 k7 k8 ka kb kl ko H.size c3 c9 cc cd ce cf cg ch ci cj ck cm cn c4 (-1000001) (by first | omega | (simp only [zl_m1000001]; first | done | omega) | decide | assumption | rfl) (by first | omega | (simp only [zl_m1000001]; first | done | omega) | decide | assumption | rfl)) (cwV 1 hT (gV_in mw_1243 mw_1240 mw_1242 mw_p3_8 mw_12) rfl rfl rfl (by decide +kernel) ⟨Nat.le_of_ble_eq_true rfl, Nat.le_of_ble_eq_true rfl⟩) (kRecvX (q0 := 0) (ci := 11) hK hP hD hN hXS hS hA rfl rfl [0, 1] rfl (by decide)) rfl rfl hl.1 rfl (lv_room (Nat.le_of_ble_eq_true rfl)) dX11_found_21 ⟨Nat.le_of_ble_eq_true rfl, Nat.le_of_ble_eq_true rfl⟩) hP hD hS hA [0, 1] [] rfl rfl (by decide) (by decide) ?_
    clear hP hD hS
    intro r_10 sc4_12 H locs w_11 hP hD hS
    replace hP : va_P D vwCl [(k, .inr (11, [.ref k0, .ref k1, .ref k2, .int c3, .ref k4, .ref k5, .ref k6, .ref k7, .ref k8, .int c9, .ref ka, .ref kb, .int cc, .int cd, .int ce, .int cf, .int cg, .int ch, .int ci, .int cj, .int ck, .ref kl, .int cm, .int cn, .ref ko])), (k4, .inl (cI, 6, .inl sc4_12))] H := hP
    replace hD : va_D A [(k, .inr (11, [.ref k0, .ref k1, .ref k2, .int c3, .ref k4, .ref k5, .ref k6, .ref k7, .ref k8, .int c9, .ref ka, .ref kb, .int cc, .int cd, .int ce, .int cf, .int cg, .int ch, .int ci, .int cj, .int ck, .ref kl, .int cm, .int cn, .ref ko])), (k4, .inl (cI, 6, .inl sc4_12))] := hD
    have hr_10 := w_11
    obtain rfl : r_10 = (-1000001) := hr_10.trans (by decide)
    exact hRet sc4_12 [0, 1] trivial hP hD (by decide) rfl hS rfl dX11_found_24
theorem dX11_rate_0 : decode cX11_rate 0 = .ok (.iload_n 1, 1) := by decide +kernel
theorem dX11_rate_1 : decode cX11_rate 1 = .ok (.invokestatic 198, 3) := by decide +kernel
theorem dX11_rate_4 : decode cX11_rate 4 = .ok (.ifCond .eq 10, 3) := by decide +kernel
theorem dX11_rate_7 : decode cX11_rate 7 = .ok (.iload_n 2, 1) := by decide +kernel
theorem dX11_rate_8 : decode cX11_rate 8 = .ok (.invokestatic 201, 3) := by decide +kernel
theorem dX11_rate_11 : decode cX11_rate 11 = .ok (.ifCond .ne 10, 3) := by decide +kernel
theorem dX11_rate_14 : decode cX11_rate 14 = .ok (.aload_n 0, 1) := by decide +kernel
theorem dX11_rate_15 : decode cX11_rate 15 = .ok (.ldc 63, 2) := by decide +kernel
theorem dX11_rate_17 : decode cX11_rate 17 = .ok (.invokevirtual 64, 3) := by decide +kernel
theorem dX11_rate_20 : decode cX11_rate 20 = .ok (.ireturn, 1) := by decide +kernel
theorem dX11_rate_21 : decode cX11_rate 21 = .ok (.aload_n 0, 1) := by decide +kernel
theorem dX11_rate_22 : decode cX11_rate 22 = .ok (.getfield 9, 3) := by decide +kernel
theorem dX11_rate_25 : decode cX11_rate 25 = .ok (.iconst 3, 1) := by decide +kernel
theorem dX11_rate_26 : decode cX11_rate 26 = .ok (.iaload, 1) := by decide +kernel
theorem dX11_rate_27 : decode cX11_rate 27 = .ok (.bipush 12, 2) := by decide +kernel
theorem dX11_rate_29 : decode cX11_rate 29 = .ok (.if_icmp .ne 10, 3) := by decide +kernel
theorem dX11_rate_32 : decode cX11_rate 32 = .ok (.aload_n 0, 1) := by decide +kernel
theorem dX11_rate_33 : decode cX11_rate 33 = .ok (.ldc 75, 2) := by decide +kernel
theorem dX11_rate_35 : decode cX11_rate 35 = .ok (.invokevirtual 64, 3) := by decide +kernel
theorem dX11_rate_38 : decode cX11_rate 38 = .ok (.ireturn, 1) := by decide +kernel
theorem dX11_rate_39 : decode cX11_rate 39 = .ok (.aload_n 0, 1) := by decide +kernel
theorem dX11_rate_40 : decode cX11_rate 40 = .ok (.getfield 9, 3) := by decide +kernel
theorem dX11_rate_43 : decode cX11_rate 43 = .ok (.iconst 4, 1) := by decide +kernel
theorem dX11_rate_44 : decode cX11_rate 44 = .ok (.iaload, 1) := by decide +kernel
theorem dX11_rate_45 : decode cX11_rate 45 = .ok (.istore_n 3, 1) := by decide +kernel
theorem dX11_rate_46 : decode cX11_rate 46 = .ok (.aload_n 0, 1) := by decide +kernel
theorem dX11_rate_47 : decode cX11_rate 47 = .ok (.getfield 9, 3) := by decide +kernel
theorem dX11_rate_50 : decode cX11_rate 50 = .ok (.iconst 4, 1) := by decide +kernel
theorem dX11_rate_51 : decode cX11_rate 51 = .ok (.iconst 0, 1) := by decide +kernel
theorem dX11_rate_52 : decode cX11_rate 52 = .ok (.iastore, 1) := by decide +kernel
theorem dX11_rate_53 : decode cX11_rate 53 = .ok (.aload_n 0, 1) := by decide +kernel
theorem dX11_rate_54 : decode cX11_rate 54 = .ok (.iload_n 1, 1) := by decide +kernel
theorem dX11_rate_55 : decode cX11_rate 55 = .ok (.sipush 1131, 3) := by decide +kernel
theorem dX11_rate_58 : decode cX11_rate 58 = .ok (.iload_n 3, 1) := by decide +kernel
theorem dX11_rate_59 : decode cX11_rate 59 = .ok (.iconst 0, 1) := by decide +kernel
theorem dX11_rate_60 : decode cX11_rate 60 = .ok (.iconst 0, 1) := by decide +kernel
theorem dX11_rate_61 : decode cX11_rate 61 = .ok (.iconst 0, 1) := by decide +kernel
theorem dX11_rate_62 : decode cX11_rate 62 = .ok (.invokevirtual 204, 3) := by decide +kernel
theorem dX11_rate_65 : decode cX11_rate 65 = .ok (.istore 4, 2) := by decide +kernel
theorem dX11_rate_67 : decode cX11_rate 67 = .ok (.aload_n 0, 1) := by decide +kernel
theorem dX11_rate_68 : decode cX11_rate 68 = .ok (.getfield 148, 3) := by decide +kernel
theorem dX11_rate_71 : decode cX11_rate 71 = .ok (.ifCond .ne 14, 3) := by decide +kernel
theorem dX11_rate_74 : decode cX11_rate 74 = .ok (.aload_n 0, 1) := by decide +kernel
theorem dX11_rate_75 : decode cX11_rate 75 = .ok (.getfield 138, 3) := by decide +kernel
theorem dX11_rate_78 : decode cX11_rate 78 = .ok (.aload_n 0, 1) := by decide +kernel
theorem dX11_rate_79 : decode cX11_rate 79 = .ok (.getfield 142, 3) := by decide +kernel
theorem dX11_rate_82 : decode cX11_rate 82 = .ok (.if_icmp .ge 11, 3) := by decide +kernel
theorem dX11_rate_85 : decode cX11_rate 85 = .ok (.bipush (-10), 2) := by decide +kernel
theorem dX11_rate_87 : decode cX11_rate 87 = .ok (.aload_n 0, 1) := by decide +kernel
theorem dX11_rate_88 : decode cX11_rate 88 = .ok (.getfield 138, 3) := by decide +kernel
theorem dX11_rate_91 : decode cX11_rate 91 = .ok (.isub, 1) := by decide +kernel
theorem dX11_rate_92 : decode cX11_rate 92 = .ok (.ireturn, 1) := by decide +kernel
theorem dX11_rate_93 : decode cX11_rate 93 = .ok (.aload_n 0, 1) := by decide +kernel
theorem dX11_rate_94 : decode cX11_rate 94 = .ok (.getfield 9, 3) := by decide +kernel
theorem dX11_rate_97 : decode cX11_rate 97 = .ok (.iconst 3, 1) := by decide +kernel
theorem dX11_rate_98 : decode cX11_rate 98 = .ok (.iaload, 1) := by decide +kernel
theorem dX11_rate_99 : decode cX11_rate 99 = .ok (.istore 5, 2) := by decide +kernel
theorem dX11_rate_101 : decode cX11_rate 101 = .ok (.aload_n 0, 1) := by decide +kernel
theorem dX11_rate_102 : decode cX11_rate 102 = .ok (.getfield 9, 3) := by decide +kernel
theorem dX11_rate_105 : decode cX11_rate 105 = .ok (.iconst 3, 1) := by decide +kernel
theorem dX11_rate_106 : decode cX11_rate 106 = .ok (.dup2, 1) := by decide +kernel
theorem dX11_rate_107 : decode cX11_rate 107 = .ok (.iaload, 1) := by decide +kernel
theorem dX11_rate_108 : decode cX11_rate 108 = .ok (.iconst 1, 1) := by decide +kernel
theorem dX11_rate_109 : decode cX11_rate 109 = .ok (.iadd, 1) := by decide +kernel
theorem dX11_rate_110 : decode cX11_rate 110 = .ok (.iastore, 1) := by decide +kernel
theorem dX11_rate_111 : decode cX11_rate 111 = .ok (.sipush 495, 3) := by decide +kernel
theorem dX11_rate_114 : decode cX11_rate 114 = .ok (.bipush 53, 2) := by decide +kernel
theorem dX11_rate_116 : decode cX11_rate 116 = .ok (.iload 5, 2) := by decide +kernel
theorem dX11_rate_118 : decode cX11_rate 118 = .ok (.imul, 1) := by decide +kernel
theorem dX11_rate_119 : decode cX11_rate 119 = .ok (.iadd, 1) := by decide +kernel
theorem dX11_rate_120 : decode cX11_rate 120 = .ok (.istore 6, 2) := by decide +kernel
theorem dX11_rate_122 : decode cX11_rate 122 = .ok (.aload_n 0, 1) := by decide +kernel
theorem dX11_rate_123 : decode cX11_rate 123 = .ok (.getfield 9, 3) := by decide +kernel
theorem dX11_rate_126 : decode cX11_rate 126 = .ok (.iload 6, 2) := by decide +kernel
theorem dX11_rate_128 : decode cX11_rate 128 = .ok (.iconst 0, 1) := by decide +kernel
theorem dX11_rate_129 : decode cX11_rate 129 = .ok (.iadd, 1) := by decide +kernel
theorem dX11_rate_130 : decode cX11_rate 130 = .ok (.iload_n 1, 1) := by decide +kernel
theorem dX11_rate_131 : decode cX11_rate 131 = .ok (.iastore, 1) := by decide +kernel
theorem dX11_rate_132 : decode cX11_rate 132 = .ok (.aload_n 0, 1) := by decide +kernel
theorem dX11_rate_133 : decode cX11_rate 133 = .ok (.getfield 9, 3) := by decide +kernel
theorem dX11_rate_136 : decode cX11_rate 136 = .ok (.iload 6, 2) := by decide +kernel
theorem dX11_rate_138 : decode cX11_rate 138 = .ok (.iconst 1, 1) := by decide +kernel
theorem dX11_rate_139 : decode cX11_rate 139 = .ok (.iadd, 1) := by decide +kernel
theorem dX11_rate_140 : decode cX11_rate 140 = .ok (.iload_n 2, 1) := by decide +kernel
theorem dX11_rate_141 : decode cX11_rate 141 = .ok (.iastore, 1) := by decide +kernel
theorem dX11_rate_142 : decode cX11_rate 142 = .ok (.aload_n 0, 1) := by decide +kernel
theorem dX11_rate_143 : decode cX11_rate 143 = .ok (.getfield 9, 3) := by decide +kernel
theorem dX11_rate_146 : decode cX11_rate 146 = .ok (.iload 6, 2) := by decide +kernel
theorem dX11_rate_148 : decode cX11_rate 148 = .ok (.iconst 2, 1) := by decide +kernel
theorem dX11_rate_149 : decode cX11_rate 149 = .ok (.iadd, 1) := by decide +kernel
theorem dX11_rate_150 : decode cX11_rate 150 = .ok (.iload_n 3, 1) := by decide +kernel
theorem dX11_rate_151 : decode cX11_rate 151 = .ok (.iastore, 1) := by decide +kernel
theorem dX11_rate_152 : decode cX11_rate 152 = .ok (.iconst 0, 1) := by decide +kernel
theorem dX11_rate_153 : decode cX11_rate 153 = .ok (.istore 7, 2) := by decide +kernel
theorem dX11_rate_155 : decode cX11_rate 155 = .ok (.iload 7, 2) := by decide +kernel
theorem dX11_rate_157 : decode cX11_rate 157 = .ok (.bipush 50, 2) := by decide +kernel
theorem dX11_rate_159 : decode cX11_rate 159 = .ok (.if_icmp .ge 32, 3) := by decide +kernel
theorem dX11_rate_162 : decode cX11_rate 162 = .ok (.aload_n 0, 1) := by decide +kernel
theorem dX11_rate_163 : decode cX11_rate 163 = .ok (.getfield 9, 3) := by decide +kernel
theorem dX11_rate_166 : decode cX11_rate 166 = .ok (.iload 6, 2) := by decide +kernel
theorem dX11_rate_168 : decode cX11_rate 168 = .ok (.iconst 3, 1) := by decide +kernel
theorem dX11_rate_169 : decode cX11_rate 169 = .ok (.iadd, 1) := by decide +kernel
theorem dX11_rate_170 : decode cX11_rate 170 = .ok (.iload 7, 2) := by decide +kernel
theorem dX11_rate_172 : decode cX11_rate 172 = .ok (.iadd, 1) := by decide +kernel
theorem dX11_rate_173 : decode cX11_rate 173 = .ok (.aload_n 0, 1) := by decide +kernel
theorem dX11_rate_174 : decode cX11_rate 174 = .ok (.getfield 9, 3) := by decide +kernel
theorem dX11_rate_177 : decode cX11_rate 177 = .ok (.sipush 1131, 3) := by decide +kernel
theorem dX11_rate_180 : decode cX11_rate 180 = .ok (.iload 7, 2) := by decide +kernel
theorem dX11_rate_182 : decode cX11_rate 182 = .ok (.iadd, 1) := by decide +kernel
theorem dX11_rate_183 : decode cX11_rate 183 = .ok (.iaload, 1) := by decide +kernel
theorem dX11_rate_184 : decode cX11_rate 184 = .ok (.iastore, 1) := by decide +kernel
theorem dX11_rate_185 : decode cX11_rate 185 = .ok (.iinc 7 1, 3) := by decide +kernel
theorem dX11_rate_188 : decode cX11_rate 188 = .ok (.goto (-33), 3) := by decide +kernel
theorem dX11_rate_191 : decode cX11_rate 191 = .ok (.iload 5, 2) := by decide +kernel
theorem dX11_rate_193 : decode cX11_rate 193 = .ok (.ireturn, 1) := by decide +kernel
set_option maxHeartbeats 4000000 in
set_option maxRecDepth 100000 in
theorem c_X11_rateG (l : Launch) (D : va_G) (cI : ClassId) (aK aV : Nat → Nat) (k k0 k1 k2 k4 k5 k6 k7 k8 ka kb kl ko : Nat) (sz : Nat) (c3 : Int32) (c9 : Int32) (cc : Int32) (cd : Int32) (ce : Int32) (cf : Int32) (cg : Int32) (ch : Int32) (ci : Int32) (cj : Int32) (ck : Int32) (cm : Int32) (cn : Int32) (c0 : Nat → Int32) (c4 : Nat → Int32) (a0 : Int32) (a1 : Int32) (pre0 : SIX c0 (-1)) : Met l yX11_rate (gW yX11_rate cX11_rate 8 (some .int)) ({ frames := 120, cells := 0, slots := 0, locals := 8308 } : Room) (kPreX D cI aK aV [.ref k, .int a0, .int a1] [(k, .inr (11, [.ref k0, .ref k1, .ref k2, .int c3, .ref k4, .ref k5, .ref k6, .ref k7, .ref k8, .int c9, .ref ka, .ref kb, .int cc, .int cd, .int ce, .int cf, .int cg, .int ch, .int ci, .int cj, .int ck, .ref kl, .int cm, .int cn, .ref ko])), (k0, .inl (cI, 1201, .inl c0)), (k4, .inl (cI, 6, .inl c4))] sz) (va_Qi (fun (r : Int32) (u : Int32 × Int32 × Int32 × Int32 × Int32 × Int32 × Int32 × Int32 × Int32 × (Nat → Int32) × (Nat → Int32)) => SIX u.2.2.2.2.2.2.2.2.2.1 (-1) ∧ RTR (tG c0 1131 (c0 4)) (c0 4) (c0 3) a0 a1 r (u.2.2.2.2.2.2.2.2.2.1 4) (u.2.2.2.2.2.2.2.2.2.1 3) ∧ RTX c0 u.2.2.2.2.2.2.2.2.2.1 a0 a1) (fun u t => kWd D cI (va_A [(k, .inr (11, [.ref k0, .ref k1, .ref k2, .int c3, .ref k4, .ref k5, .ref k6, .ref k7, .ref k8, .int c9, .ref ka, .ref kb, .int cc, .int cd, .int ce, .int cf, .int cg, .int ch, .int ci, .int cj, .int ck, .ref kl, .int cm, .int cn, .ref ko])), (k0, .inl (cI, 1201, .inl c0)), (k4, .inl (cI, 6, .inl c4))] sz) [(k, .inr (11, [.ref k0, .ref k1, .ref k2, .int c3, .ref k4, .ref k5, .ref k6, .ref k7, .ref k8, .int c9, .ref ka, .ref kb, .int u.1, .int u.2.1, .int u.2.2.1, .int u.2.2.2.1, .int u.2.2.2.2.1, .int u.2.2.2.2.2.1, .int u.2.2.2.2.2.2.1, .int u.2.2.2.2.2.2.2.1, .int u.2.2.2.2.2.2.2.2.1, .ref kl, .int cm, .int cn, .ref ko])), (k0, .inl (cI, 1201, .inl u.2.2.2.2.2.2.2.2.2.1)), (k4, .inl (cI, 6, .inl u.2.2.2.2.2.2.2.2.2.2))] t) (va_A [(k, .inr (11, [.ref k0, .ref k1, .ref k2, .int c3, .ref k4, .ref k5, .ref k6, .ref k7, .ref k8, .int c9, .ref ka, .ref kb, .int cc, .int cd, .int ce, .int cf, .int cg, .int ch, .int ci, .int cj, .int ck, .ref kl, .int cm, .int cn, .ref ko])), (k0, .inl (cI, 1201, .inl c0)), (k4, .inl (cI, 6, .inl c4))] sz)) 0 0 (va_A [(k, .inr (11, [.ref k0, .ref k1, .ref k2, .int c3, .ref k4, .ref k5, .ref k6, .ref k7, .ref k8, .int c9, .ref ka, .ref kb, .int cc, .int cd, .int ce, .int cf, .int cg, .int ch, .int ci, .int cj, .int ck, .ref kl, .int cm, .int cn, .ref ko])), (k0, .inl (cI, 1201, .inl c0)), (k4, .inl (cI, 6, .inl c4))] sz) := by
  refine kMetIX (own := RX11) (by decide) rfl (Nat.le_of_ble_eq_true rfl) ?_
  intro p e s m args below meth c hx hb hT hown hname hml A Q hK hP hD hS hA hN hXS hRet ls hl
  have hl : lv_has ls 8 [(0, .ref k), (1, .int a0), (2, .int a1)] := hl
  have lo_a0 := k_lo a0
  have hi_a0 := k_hi a0
  have lo_a1 := k_lo a1
  have hi_a1 := k_hi a1
  have lo_ci := k_lo ci
  have hi_ci := k_hi ci
  have hn4 := SB.n4 (And.left pre0)
  have hn3 := SB.n3 (And.left pre0)
  have pre0 : SIX c0 (-1) := pre0
  have nb_1 : 0 ≤ (c0 0).toInt ∧ (c0 0).toInt ≤ 2000 := SB.n0 (And.left pre0)
  have nb_2 : 0 ≤ (c0 1).toInt ∧ (c0 1).toInt ≤ 60 := SB.n1 (And.left pre0)
  have nb_3 : 0 ≤ (c0 2).toInt ∧ (c0 2).toInt ≤ 4 := SB.n2 (And.left pre0)
  refine lv_iload_n hx hb dX11_rate_0 rfl (lv_at hl 1 rfl) ?_
  refine kJi (wr := [(k, .inr (11, [.ref k0, .ref k1, .ref k2, .int c3, .ref k4, .ref k5, .ref k6, .ref k7, .ref k8, .int c9, .ref ka, .ref kb, .int cc, .int cd, .int ce, .int cf, .int cg, .int ch, .int ci, .int cj, .int ck, .ref kl, .int cm, .int cn, .ref ko])), (k0, .inl (cI, 1201, .inl c0)), (k4, .inl (cI, 6, .inl c4))]) (va_runS (As := [.int a0]) (rest := []) ⟨hx, hb, hml, hown, hT⟩ (c_X11_isUseG l D cI aK aV s.heap.size a0) (cwS 1 hT (gS_in mw_1476 mw_1474 mw_1475 mw_12) rfl rfl rfl (by decide +kernel) ⟨Nat.le_of_ble_eq_true rfl, Nat.le_of_ble_eq_true rfl⟩) (kStatX hK hP hD hN hXS hS hA [] rfl (by decide)) rfl rfl hl.1 rfl (lv_room (Nat.le_of_ble_eq_true rfl)) dX11_rate_1 ⟨Nat.le_of_ble_eq_true rfl, Nat.le_of_ble_eq_true rfl⟩) hP hD hS hA [] [0, 1, 2] rfl rfl (by decide) (by decide) ?_
  clear hP hD hS
  intro r_4 u_6 H locs w_5 hP hD hS
  replace hP : va_P D vwCl [(k, .inr (11, [.ref k0, .ref k1, .ref k2, .int c3, .ref k4, .ref k5, .ref k6, .ref k7, .ref k8, .int c9, .ref ka, .ref kb, .int cc, .int cd, .int ce, .int cf, .int cg, .int ch, .int ci, .int cj, .int ck, .ref kl, .int cm, .int cn, .ref ko])), (k0, .inl (cI, 1201, .inl c0)), (k4, .inl (cI, 6, .inl c4))] H := hP
  replace hD : va_D A [(k, .inr (11, [.ref k0, .ref k1, .ref k2, .int c3, .ref k4, .ref k5, .ref k6, .ref k7, .ref k8, .int c9, .ref ka, .ref kb, .int cc, .int cd, .int ce, .int cf, .int cg, .int ch, .int ci, .int cj, .int ck, .ref kl, .int cm, .int cn, .ref ko])), (k0, .inl (cI, 1201, .inl c0)), (k4, .inl (cI, 6, .inl c4))] := hD
  rcases w_5 with ⟨hr_4, h_7, h_8⟩ | ⟨hr_4, h_9⟩
  · have h_7 : 0 ≤ a0.toInt := h_7
    have h_8 : a0.toInt ≤ 2 := h_8
    obtain rfl : r_4 = 1 := hr_4.trans (by decide)
    refine b_if_eq hx hb zl_1 (tgt := 14) dX11_rate_4 (by decide) (fun c_10 => by exfalso; omega) (fun c_10 => ?_)
    refine lv_iload_n hx hb dX11_rate_7 rfl (lv_at hl 2 rfl) ?_
    refine kJi (wr := [(k, .inr (11, [.ref k0, .ref k1, .ref k2, .int c3, .ref k4, .ref k5, .ref k6, .ref k7, .ref k8, .int c9, .ref ka, .ref kb, .int cc, .int cd, .int ce, .int cf, .int cg, .int ch, .int ci, .int cj, .int ck, .ref kl, .int cm, .int cn, .ref ko])), (k0, .inl (cI, 1201, .inl c0)), (k4, .inl (cI, 6, .inl c4))]) (va_runS (As := [.int a1]) (rest := []) ⟨hx, hb, hml, hown, hT⟩ (c_X11_isDayG l D cI aK aV H.size a1) (cwS 1 hT (gS_in mw_1479 mw_1477 mw_1478 mw_12) rfl rfl rfl (by decide +kernel) ⟨Nat.le_of_ble_eq_true rfl, Nat.le_of_ble_eq_true rfl⟩) (kStatX hK hP hD hN hXS hS hA [] rfl (by decide)) rfl rfl hl.1 rfl (lv_room (Nat.le_of_ble_eq_true rfl)) dX11_rate_8 ⟨Nat.le_of_ble_eq_true rfl, Nat.le_of_ble_eq_true rfl⟩) hP hD hS hA [] [0, 1, 2] rfl rfl (by decide) (by decide) ?_
    clear hP hD hS
    intro r_11 u_13 H locs w_12 hP hD hS
    replace hP : va_P D vwCl [(k, .inr (11, [.ref k0, .ref k1, .ref k2, .int c3, .ref k4, .ref k5, .ref k6, .ref k7, .ref k8, .int c9, .ref ka, .ref kb, .int cc, .int cd, .int ce, .int cf, .int cg, .int ch, .int ci, .int cj, .int ck, .ref kl, .int cm, .int cn, .ref ko])), (k0, .inl (cI, 1201, .inl c0)), (k4, .inl (cI, 6, .inl c4))] H := hP
    replace hD : va_D A [(k, .inr (11, [.ref k0, .ref k1, .ref k2, .int c3, .ref k4, .ref k5, .ref k6, .ref k7, .ref k8, .int c9, .ref ka, .ref kb, .int cc, .int cd, .int ce, .int cf, .int cg, .int ch, .int ci, .int cj, .int ck, .ref kl, .int cm, .int cn, .ref ko])), (k0, .inl (cI, 1201, .inl c0)), (k4, .inl (cI, 6, .inl c4))] := hD
    rcases w_12 with ⟨hr_11, h_14, h_15⟩ | ⟨hr_11, h_16⟩
    · have h_14 : 0 ≤ a1.toInt := h_14
      have h_15 : a1.toInt ≤ 2000 := h_15
      obtain rfl : r_11 = 1 := hr_11.trans (by decide)
      refine b_if_ne hx hb zl_1 (tgt := 21) dX11_rate_11 (by decide) (fun c_17 => ?_) (fun c_17 => by exfalso; omega)
      refine lv_aload_n hx hb dX11_rate_21 rfl (lv_at hl 0 rfl) ?_
      refine va_get (D := D) (ci := 11) (v := .ref k0) (C := RX11) (T := TX11) (N := 25) hx hb hT giX11 hown hK hP 0 rfl rfl 0 (by decide) (hT (Cond.fieldLink RX11 9 "DesertWireModel" "s" "[I") mw_1156) (fun _ h9 => h9) rfl dX11_rate_22 ?_
      refine lv_iconst (v := 3) hx hb dX11_rate_25 (by decide) ?_
      refine k_iald (v := (c0 3)) hx hb hK hP 1 0 rfl rfl (k_inl (by decide)) rfl dX11_rate_26 ?_
      refine lv_topi (fun v_18 ev_18 => ?_)
      have lo_v_18 := k_lo v_18
      have hi_v_18 := k_hi v_18
      have tv_18 : v_18.toInt = (c0 3).toInt := by rw [ev_18]
      have b_19 : 0 ≤ v_18.toInt ∧ v_18.toInt ≤ 12 := by first | (rw [tv_18]; exact SB.n3 (And.left pre0)) | exact SB.n3 (And.left pre0) | omega
      refine lv_bipush (v := 12) hx hb dX11_rate_27 (by decide) ?_
      refine b_icmp_ne hx hb rfl zl_12 (tgt := 39) dX11_rate_29 (by decide) (fun c_20 => ?_) (fun c_20 => ?_)
      · refine lv_aload_n hx hb dX11_rate_39 rfl (lv_at hl 0 rfl) ?_
        refine va_get (D := D) (ci := 11) (v := .ref k0) (C := RX11) (T := TX11) (N := 25) hx hb hT giX11 hown hK hP 0 rfl rfl 0 (by decide) (hT (Cond.fieldLink RX11 9 "DesertWireModel" "s" "[I") mw_1156) (fun _ h9 => h9) rfl dX11_rate_40 ?_
        refine lv_iconst (v := 4) hx hb dX11_rate_43 (by decide) ?_
        refine k_iald (v := (c0 4)) hx hb hK hP 1 0 rfl rfl (k_inl (by decide)) rfl dX11_rate_44 ?_
        refine lv_topi (fun v_21 ev_21 => ?_)
        have lo_v_21 := k_lo v_21
        have hi_v_21 := k_hi v_21
        have tv_21 : v_21.toInt = (c0 4).toInt := by rw [ev_21]
        have b_22 : 0 ≤ v_21.toInt ∧ v_21.toInt ≤ 50 := by first | (rw [tv_21]; exact SB.n4 (And.left pre0)) | exact SB.n4 (And.left pre0) | omega
        refine lv_istore_n (lv' := [(3, .int v_21), (0, .ref k), (1, .int a0), (2, .int a1)]) hx hb dX11_rate_45 rfl hl (by decide) rfl ?_
        clear hl
        intro ls hl
        refine lv_aload_n hx hb dX11_rate_46 rfl (lv_at hl 1 rfl) ?_
        refine va_get (D := D) (ci := 11) (v := .ref k0) (C := RX11) (T := TX11) (N := 25) hx hb hT giX11 hown hK hP 0 rfl rfl 0 (by decide) (hT (Cond.fieldLink RX11 9 "DesertWireModel" "s" "[I") mw_1156) (fun _ h9 => h9) rfl dX11_rate_47 ?_
        refine lv_iconst (v := 4) hx hb dX11_rate_50 (by decide) ?_
        refine lv_iconst (v := 0) hx hb dX11_rate_51 (by decide) ?_
        refine va_iast hx hb hK hP hD hS 1 0 rfl rfl (k_inl (by decide)) dX11_rate_52 ?_
        clear hP hD hS
        intro H locs hP hD hS
        replace hP : va_P D vwCl [(k, .inr (11, [.ref k0, .ref k1, .ref k2, .int c3, .ref k4, .ref k5, .ref k6, .ref k7, .ref k8, .int c9, .ref ka, .ref kb, .int cc, .int cd, .int ce, .int cf, .int cg, .int ch, .int ci, .int cj, .int ck, .ref kl, .int cm, .int cn, .ref ko])), (k0, .inl (cI, 1201, .inl (upd c0 4 0))), (k4, .inl (cI, 6, .inl c4))] H := hP
        replace hD : va_D A [(k, .inr (11, [.ref k0, .ref k1, .ref k2, .int c3, .ref k4, .ref k5, .ref k6, .ref k7, .ref k8, .int c9, .ref ka, .ref kb, .int cc, .int cd, .int ce, .int cf, .int cg, .int ch, .int ci, .int cj, .int ck, .ref kl, .int cm, .int cn, .ref ko])), (k0, .inl (cI, 1201, .inl (upd c0 4 0))), (k4, .inl (cI, 6, .inl c4))] := hD
        obtain ⟨f_23, ef_23⟩ : ∃ g : Nat → Int32, g = upd c0 4 0 := ⟨_, rfl⟩
        rw [← ef_23] at hP hD
        have hS_24 : SIX f_23 (-1) := SIX.n pre0 ef_23 zl_0 (by decide) (by decide) (by omega)
        have n_25 : (f_23 0).toInt = (c0 0).toInt := by rw [updN ef_23 (by omega)]
        have n_26 : (f_23 1).toInt = (c0 1).toInt := by rw [updN ef_23 (by omega)]
        have n_27 : (f_23 2).toInt = (c0 2).toInt := by rw [updN ef_23 (by omega)]
        refine lv_aload_n hx hb dX11_rate_53 rfl (lv_at hl 1 rfl) ?_
        refine lv_iload_n hx hb dX11_rate_54 rfl (lv_at hl 2 rfl) ?_
        refine lv_sipush (v := 1131) hx hb dX11_rate_55 (by decide) ?_
        refine lv_iload_n hx hb dX11_rate_58 rfl (lv_at hl 0 rfl) ?_
        refine lv_iconst (v := 0) hx hb dX11_rate_59 (by decide) ?_
        refine lv_iconst (v := 0) hx hb dX11_rate_60 (by decide) ?_
        refine lv_iconst (v := 0) hx hb dX11_rate_61 (by decide) ?_
        refine kJi (wr := [(k4, .inl (cI, 6, .inl c4))]) (va_runV (As := [.int a0, .int 1131, .int v_21, .int 0, .int 0, .int 0]) (rest := []) ⟨hx, hb, hml, hown, hT⟩ (c_X11_goesOverG l D cI aK aV k k0 k1 k2 k4 k5 k6 k7 k8 ka kb kl ko H.size c3 c9 cc cd ce cf cg ch ci cj ck cm cn f_23 a0 1131 v_21 0 0 0 (by first | omega | (simp only [zl_0, zl_1131]; first | done | omega) | decide | assumption | rfl) (by first | omega | (simp only [zl_0, zl_1131]; first | done | omega) | decide | assumption | rfl) (by first | omega | (simp only [zl_0, zl_1131]; first | done | omega) | decide | assumption | rfl) (by first | omega | (simp only [zl_0, zl_1131]; first | done | omega) | decide | assumption | rfl)) (cwV 6 hT (gV_in mw_1311 mw_1308 mw_1310 mw_p4_2 mw_12) rfl rfl rfl (by decide +kernel) ⟨Nat.le_of_ble_eq_true rfl, Nat.le_of_ble_eq_true rfl⟩) (kRecvX (q0 := 0) (ci := 11) hK hP hD hN hXS hS hA rfl rfl [0, 1] rfl (by decide)) rfl rfl hl.1 rfl (lv_room (Nat.le_of_ble_eq_true rfl)) dX11_rate_62 ⟨Nat.le_of_ble_eq_true rfl, Nat.le_of_ble_eq_true rfl⟩) hP hD hS hA [0, 1] [2] rfl rfl (by decide) (by decide) ?_
        clear hP hD hS
        intro r_28 u_39 H locs w_29 hP hD hS
        obtain ⟨scc_30, scd_31, sce_32, scf_33, scg_34, sch_35, sci_36, scj_37, sck_38⟩ := u_39
        replace hP : va_P D vwCl [(k4, .inl (cI, 6, .inl c4)), (k, .inr (11, [.ref k0, .ref k1, .ref k2, .int c3, .ref k4, .ref k5, .ref k6, .ref k7, .ref k8, .int c9, .ref ka, .ref kb, .int scc_30, .int scd_31, .int sce_32, .int scf_33, .int scg_34, .int sch_35, .int sci_36, .int scj_37, .int sck_38, .ref kl, .int cm, .int cn, .ref ko])), (k0, .inl (cI, 1201, .inl f_23))] H := hP
        replace hD : va_D A [(k4, .inl (cI, 6, .inl c4)), (k, .inr (11, [.ref k0, .ref k1, .ref k2, .int c3, .ref k4, .ref k5, .ref k6, .ref k7, .ref k8, .int c9, .ref ka, .ref kb, .int scc_30, .int scd_31, .int sce_32, .int scf_33, .int scg_34, .int sch_35, .int sci_36, .int scj_37, .int sck_38, .ref kl, .int cm, .int cn, .ref ko])), (k0, .inl (cI, 1201, .inl f_23))] := hD
        have lo_scd_31 := k_lo scd_31
        have hi_scd_31 := k_hi scd_31
        have lo_sce_32 := k_lo sce_32
        have hi_sce_32 := k_hi sce_32
        have lo_scf_33 := k_lo scf_33
        have hi_scf_33 := k_hi scf_33
        obtain ⟨h_40, h_41, h_42, h_43⟩ := w_29
        try simp only [zl_0, zl_1131] at h_40
        have h_40 : 0 ≤ scd_31.toInt := h_40
        try simp only [zl_0, zl_1131] at h_41
        have h_41 : scd_31.toInt ≤ v_21.toInt := h_41
        try simp only [zl_0, zl_1131] at h_42
        have h_42 : sce_32.toInt = v_21.toInt := h_42
        try simp only [zl_0, zl_1131] at h_43
        have h_43 : TXQ (tG f_23 ((1131 : Int)).toNat v_21) a0 0 0 0 0 0 0 0 0 r_28 scd_31.toInt scf_33 := h_43
        have h_43 : TXQ (tG f_23 ((1131 : Int)).toNat v_21) a0 0 0 0 0 0 0 0 0 r_28 scd_31.toInt scf_33 := h_43
        have lo_r_28 := k_lo r_28
        have hi_r_28 := k_hi r_28
        refine lv_istore (lv' := [(4, .int r_28), (3, .int v_21), (0, .ref k), (1, .int a0), (2, .int a1)]) hx hb dX11_rate_65 hl (by decide) rfl ?_
        clear hl
        intro ls hl
        refine lv_aload_n hx hb dX11_rate_67 rfl (lv_at hl 2 rfl) ?_
        refine va_get (D := D) (ci := 11) (v := .int scf_33) (C := RX11) (T := TX11) (N := 25) hx hb hT giX11 hown hK hP 1 rfl rfl 15 (by decide) (hT (Cond.fieldLink RX11 148 "DesertWireModel" "isWrong" "Z") mw_1171) (fun _ h9 => h9) rfl dX11_rate_68 ?_
        refine b_if_ne hx hb rfl (tgt := 85) dX11_rate_71 (by decide) (fun c_44 => ?_) (fun c_44 => ?_)
        · refine lv_bipush (v := (-10)) hx hb dX11_rate_85 (by decide) ?_
          refine lv_aload_n hx hb dX11_rate_87 rfl (lv_at hl 2 rfl) ?_
          refine va_get (D := D) (ci := 11) (v := .int scd_31) (C := RX11) (T := TX11) (N := 25) hx hb hT giX11 hown hK hP 1 rfl rfl 13 (by decide) (hT (Cond.fieldLink RX11 138 "DesertWireModel" "here" "I") mw_1169) (fun _ h9 => h9) rfl dX11_rate_88 ?_
          refine lv_isub hx hb dX11_rate_91 ?_
          refine lv_topi (fun v_45 ev_45 => ?_)
          have tv_45 : v_45.toInt = (-10) - scd_31.toInt := by rw [ev_45]; exact k_subv zl_m10 rfl (by omega) (by omega)
          exact hRet (scc_30, scd_31, sce_32, scf_33, scg_34, sch_35, sci_36, scj_37, sck_38, f_23, c4) [1, 2, 0] ⟨hS_24, (by (try dsimp only); exact (rtr_no (q := scd_31.toInt) (d := scf_33) ⟨by omega, by omega, by omega, by omega⟩ (by omega) (by have z := h_43; rw [show tG f_23 ((1131 : Int)).toNat v_21 = tG c0 1131 (c0 4) from tG_eq ev_21 (fun j hj => by show f_23 (1131 + j) = c0 (1131 + j); rw [ef_23, sp_ne (by omega)])] at z; exact z) (by first | exact Or.inl (by omega) | exact Or.inr (by omega)) (by (try dsimp only); rw [ef_23, sp_at]; decide) (by omega) (by (try dsimp only); rw [ef_23, sp_ne (by decide)]))), (RTX_no ef_23)⟩ hP hD (by decide) rfl hS rfl dX11_rate_92
        · refine lv_aload_n hx hb dX11_rate_74 rfl (lv_at hl 2 rfl) ?_
          refine va_get (D := D) (ci := 11) (v := .int scd_31) (C := RX11) (T := TX11) (N := 25) hx hb hT giX11 hown hK hP 1 rfl rfl 13 (by decide) (hT (Cond.fieldLink RX11 138 "DesertWireModel" "here" "I") mw_1169) (fun _ h9 => h9) rfl dX11_rate_75 ?_
          refine lv_aload_n hx hb dX11_rate_78 rfl (lv_at hl 2 rfl) ?_
          refine va_get (D := D) (ci := 11) (v := .int sce_32) (C := RX11) (T := TX11) (N := 25) hx hb hT giX11 hown hK hP 1 rfl rfl 14 (by decide) (hT (Cond.fieldLink RX11 142 "DesertWireModel" "end" "I") mw_1170) (fun _ h9 => h9) rfl dX11_rate_79 ?_
          refine b_icmp_ge hx hb rfl rfl (tgt := 93) dX11_rate_82 (by decide) (fun c_46 => ?_) (fun c_46 => ?_)
          · refine lv_aload_n hx hb dX11_rate_93 rfl (lv_at hl 2 rfl) ?_
            refine va_get (D := D) (ci := 11) (v := .ref k0) (C := RX11) (T := TX11) (N := 25) hx hb hT giX11 hown hK hP 1 rfl rfl 0 (by decide) (hT (Cond.fieldLink RX11 9 "DesertWireModel" "s" "[I") mw_1156) (fun _ h9 => h9) rfl dX11_rate_94 ?_
            refine lv_iconst (v := 3) hx hb dX11_rate_97 (by decide) ?_
            refine k_iald (v := (c0 3)) hx hb hK hP 2 0 rfl rfl (k_inl (by decide)) (by rw [ef_23]; rfl) dX11_rate_98 ?_
            refine lv_topi (fun v_47 ev_47 => ?_)
            have lo_v_47 := k_lo v_47
            have hi_v_47 := k_hi v_47
            have tv_47 : v_47.toInt = (c0 3).toInt := by rw [ev_47]
            have b_48 : 0 ≤ v_47.toInt ∧ v_47.toInt ≤ 12 := by first | (rw [tv_47]; exact SB.n3 (And.left hS_24)) | exact SB.n3 (And.left hS_24) | omega
            refine lv_istore (lv' := [(5, .int v_47), (4, .int r_28), (3, .int v_21), (0, .ref k), (1, .int a0), (2, .int a1)]) hx hb dX11_rate_99 hl (by decide) rfl ?_
            clear hl
            intro ls hl
            refine lv_aload_n hx hb dX11_rate_101 rfl (lv_at hl 3 rfl) ?_
            refine va_get (D := D) (ci := 11) (v := .ref k0) (C := RX11) (T := TX11) (N := 25) hx hb hT giX11 hown hK hP 1 rfl rfl 0 (by decide) (hT (Cond.fieldLink RX11 9 "DesertWireModel" "s" "[I") mw_1156) (fun _ h9 => h9) rfl dX11_rate_102 ?_
            refine lv_iconst (v := 3) hx hb dX11_rate_105 (by decide) ?_
            refine lv_dup2_11 hx hb dX11_rate_106 rfl rfl ?_
            refine k_iald (v := (c0 3)) hx hb hK hP 2 0 rfl rfl (k_inl (by decide)) (by rw [ef_23]; rfl) dX11_rate_107 ?_
            refine lv_topi (fun v_49 ev_49 => ?_)
            have lo_v_49 := k_lo v_49
            have hi_v_49 := k_hi v_49
            have tv_49 : v_49.toInt = (c0 3).toInt := by rw [ev_49]
            have b_50 : 0 ≤ v_49.toInt ∧ v_49.toInt ≤ 12 := by first | (rw [tv_49]; exact SB.n3 (And.left hS_24)) | exact SB.n3 (And.left hS_24) | omega
            refine lv_iconst (v := 1) hx hb dX11_rate_108 (by decide) ?_
            refine lv_iadd hx hb dX11_rate_109 ?_
            refine lv_topi (fun v_51 ev_51 => ?_)
            have tv_51 : v_51.toInt = v_49.toInt + 1 := by rw [ev_51]; exact k_addv rfl zl_1 (by omega) (by omega)
            refine va_iast hx hb hK hP hD hS 2 0 rfl rfl (k_inl (by decide)) dX11_rate_110 ?_
            clear hP hD hS
            intro H locs hP hD hS
            replace hP : va_P D vwCl [(k4, .inl (cI, 6, .inl c4)), (k, .inr (11, [.ref k0, .ref k1, .ref k2, .int c3, .ref k4, .ref k5, .ref k6, .ref k7, .ref k8, .int c9, .ref ka, .ref kb, .int scc_30, .int scd_31, .int sce_32, .int scf_33, .int scg_34, .int sch_35, .int sci_36, .int scj_37, .int sck_38, .ref kl, .int cm, .int cn, .ref ko])), (k0, .inl (cI, 1201, .inl (upd f_23 3 v_51)))] H := hP
            replace hD : va_D A [(k4, .inl (cI, 6, .inl c4)), (k, .inr (11, [.ref k0, .ref k1, .ref k2, .int c3, .ref k4, .ref k5, .ref k6, .ref k7, .ref k8, .int c9, .ref ka, .ref kb, .int scc_30, .int scd_31, .int sce_32, .int scf_33, .int scg_34, .int sch_35, .int sci_36, .int scj_37, .int sck_38, .ref kl, .int cm, .int cn, .ref ko])), (k0, .inl (cI, 1201, .inl (upd f_23 3 v_51)))] := hD
            obtain ⟨f_52, ef_52⟩ : ∃ g : Nat → Int32, g = upd f_23 3 v_51 := ⟨_, rfl⟩
            rw [← ef_52] at hP hD
            have hS_53 : SIX f_52 (-1) := SIX.n hS_24 ef_52 rfl (by decide) (by decide) (by omega)
            have n_54 : (f_52 0).toInt = (f_23 0).toInt := by rw [updN ef_52 (by omega)]
            have n_55 : (f_52 1).toInt = (f_23 1).toInt := by rw [updN ef_52 (by omega)]
            have n_56 : (f_52 2).toInt = (f_23 2).toInt := by rw [updN ef_52 (by omega)]
            refine lv_sipush (v := 495) hx hb dX11_rate_111 (by decide) ?_
            refine lv_bipush (v := 53) hx hb dX11_rate_114 (by decide) ?_
            refine lv_iload hx hb dX11_rate_116 (lv_at hl 0 rfl) ?_
            refine lv_imul hx hb dX11_rate_118 ?_
            refine lv_topi (fun v_57 ev_57 => ?_)
            have tv_57 : v_57.toInt = 53 * v_47.toInt := by rw [ev_57]; exact k_mulv zl_53 rfl (by omega) (by omega)
            refine lv_iadd hx hb dX11_rate_119 ?_
            refine lv_topi (fun v_58 ev_58 => ?_)
            have tv_58 : v_58.toInt = 495 + v_57.toInt := by rw [ev_58]; exact k_addv zl_495 rfl (by omega) (by omega)
            refine lv_istore (lv' := [(6, .int v_58), (5, .int v_47), (4, .int r_28), (3, .int v_21), (0, .ref k), (1, .int a0), (2, .int a1)]) hx hb dX11_rate_120 hl (by decide) rfl ?_
            clear hl
            intro ls hl
            refine lv_aload_n hx hb dX11_rate_122 rfl (lv_at hl 4 rfl) ?_
            refine va_get (D := D) (ci := 11) (v := .ref k0) (C := RX11) (T := TX11) (N := 25) hx hb hT giX11 hown hK hP 1 rfl rfl 0 (by decide) (hT (Cond.fieldLink RX11 9 "DesertWireModel" "s" "[I") mw_1156) (fun _ h9 => h9) rfl dX11_rate_123 ?_
            refine lv_iload hx hb dX11_rate_126 (lv_at hl 0 rfl) ?_
            refine lv_iconst (v := 0) hx hb dX11_rate_128 (by decide) ?_
            refine lv_iadd hx hb dX11_rate_129 ?_
            refine lv_topi (fun v_59 ev_59 => ?_)
            have tv_59 : v_59.toInt = v_58.toInt + 0 := by rw [ev_59]; exact k_addv rfl zl_0 (by omega) (by omega)
            refine lv_iload_n hx hb dX11_rate_130 rfl (lv_at hl 5 rfl) ?_
            refine va_iast hx hb hK hP hD hS 2 0 rfl rfl (k_in (by omega) (by omega)) dX11_rate_131 ?_
            clear hP hD hS
            intro H locs hP hD hS
            replace hP : va_P D vwCl [(k4, .inl (cI, 6, .inl c4)), (k, .inr (11, [.ref k0, .ref k1, .ref k2, .int c3, .ref k4, .ref k5, .ref k6, .ref k7, .ref k8, .int c9, .ref ka, .ref kb, .int scc_30, .int scd_31, .int sce_32, .int scf_33, .int scg_34, .int sch_35, .int sci_36, .int scj_37, .int sck_38, .ref kl, .int cm, .int cn, .ref ko])), (k0, .inl (cI, 1201, .inl (upd f_52 v_59.toNatClampNeg a0)))] H := hP
            replace hD : va_D A [(k4, .inl (cI, 6, .inl c4)), (k, .inr (11, [.ref k0, .ref k1, .ref k2, .int c3, .ref k4, .ref k5, .ref k6, .ref k7, .ref k8, .int c9, .ref ka, .ref kb, .int scc_30, .int scd_31, .int sce_32, .int scf_33, .int scg_34, .int sch_35, .int sci_36, .int scj_37, .int sck_38, .ref kl, .int cm, .int cn, .ref ko])), (k0, .inl (cI, 1201, .inl (upd f_52 v_59.toNatClampNeg a0)))] := hD
            obtain ⟨f_60, ef_60⟩ : ∃ g : Nat → Int32, g = upd f_52 v_59.toNatClampNeg a0 := ⟨_, rfl⟩
            rw [← ef_60] at hP hD
            have hS_61 : SIX f_60 (-1) := SIX.r (r := v_47.toInt.toNat) (k := 0) hS_53 ef_60 rfl (by rw [k_clamp]; omega) (by omega) (by omega) (by omega)
            have n_62 : (f_60 0).toInt = (f_52 0).toInt := by rw [updN ef_60 (by rw [k_clamp]; omega)]
            have n_63 : (f_60 1).toInt = (f_52 1).toInt := by rw [updN ef_60 (by rw [k_clamp]; omega)]
            have n_64 : (f_60 2).toInt = (f_52 2).toInt := by rw [updN ef_60 (by rw [k_clamp]; omega)]
            refine lv_aload_n hx hb dX11_rate_132 rfl (lv_at hl 4 rfl) ?_
            refine va_get (D := D) (ci := 11) (v := .ref k0) (C := RX11) (T := TX11) (N := 25) hx hb hT giX11 hown hK hP 1 rfl rfl 0 (by decide) (hT (Cond.fieldLink RX11 9 "DesertWireModel" "s" "[I") mw_1156) (fun _ h9 => h9) rfl dX11_rate_133 ?_
            refine lv_iload hx hb dX11_rate_136 (lv_at hl 0 rfl) ?_
            refine lv_iconst (v := 1) hx hb dX11_rate_138 (by decide) ?_
            refine lv_iadd hx hb dX11_rate_139 ?_
            refine lv_topi (fun v_65 ev_65 => ?_)
            have tv_65 : v_65.toInt = v_58.toInt + 1 := by rw [ev_65]; exact k_addv rfl zl_1 (by omega) (by omega)
            refine lv_iload_n hx hb dX11_rate_140 rfl (lv_at hl 6 rfl) ?_
            refine va_iast hx hb hK hP hD hS 2 0 rfl rfl (k_in (by omega) (by omega)) dX11_rate_141 ?_
            clear hP hD hS
            intro H locs hP hD hS
            replace hP : va_P D vwCl [(k4, .inl (cI, 6, .inl c4)), (k, .inr (11, [.ref k0, .ref k1, .ref k2, .int c3, .ref k4, .ref k5, .ref k6, .ref k7, .ref k8, .int c9, .ref ka, .ref kb, .int scc_30, .int scd_31, .int sce_32, .int scf_33, .int scg_34, .int sch_35, .int sci_36, .int scj_37, .int sck_38, .ref kl, .int cm, .int cn, .ref ko])), (k0, .inl (cI, 1201, .inl (upd f_60 v_65.toNatClampNeg a1)))] H := hP
            replace hD : va_D A [(k4, .inl (cI, 6, .inl c4)), (k, .inr (11, [.ref k0, .ref k1, .ref k2, .int c3, .ref k4, .ref k5, .ref k6, .ref k7, .ref k8, .int c9, .ref ka, .ref kb, .int scc_30, .int scd_31, .int sce_32, .int scf_33, .int scg_34, .int sch_35, .int sci_36, .int scj_37, .int sck_38, .ref kl, .int cm, .int cn, .ref ko])), (k0, .inl (cI, 1201, .inl (upd f_60 v_65.toNatClampNeg a1)))] := hD
            obtain ⟨f_66, ef_66⟩ : ∃ g : Nat → Int32, g = upd f_60 v_65.toNatClampNeg a1 := ⟨_, rfl⟩
            rw [← ef_66] at hP hD
            have hS_67 : SIX f_66 (-1) := SIX.r (r := v_47.toInt.toNat) (k := 1) hS_61 ef_66 rfl (by rw [k_clamp]; omega) (by omega) (by omega) (by omega)
            have n_68 : (f_66 0).toInt = (f_60 0).toInt := by rw [updN ef_66 (by rw [k_clamp]; omega)]
            have n_69 : (f_66 1).toInt = (f_60 1).toInt := by rw [updN ef_66 (by rw [k_clamp]; omega)]
            have n_70 : (f_66 2).toInt = (f_60 2).toInt := by rw [updN ef_66 (by rw [k_clamp]; omega)]
            refine lv_aload_n hx hb dX11_rate_142 rfl (lv_at hl 4 rfl) ?_
            refine va_get (D := D) (ci := 11) (v := .ref k0) (C := RX11) (T := TX11) (N := 25) hx hb hT giX11 hown hK hP 1 rfl rfl 0 (by decide) (hT (Cond.fieldLink RX11 9 "DesertWireModel" "s" "[I") mw_1156) (fun _ h9 => h9) rfl dX11_rate_143 ?_
            refine lv_iload hx hb dX11_rate_146 (lv_at hl 0 rfl) ?_
            refine lv_iconst (v := 2) hx hb dX11_rate_148 (by decide) ?_
            refine lv_iadd hx hb dX11_rate_149 ?_
            refine lv_topi (fun v_71 ev_71 => ?_)
            have tv_71 : v_71.toInt = v_58.toInt + 2 := by rw [ev_71]; exact k_addv rfl zl_2 (by omega) (by omega)
            refine lv_iload_n hx hb dX11_rate_150 rfl (lv_at hl 3 rfl) ?_
            refine va_iast hx hb hK hP hD hS 2 0 rfl rfl (k_in (by omega) (by omega)) dX11_rate_151 ?_
            clear hP hD hS
            intro H locs hP hD hS
            replace hP : va_P D vwCl [(k4, .inl (cI, 6, .inl c4)), (k, .inr (11, [.ref k0, .ref k1, .ref k2, .int c3, .ref k4, .ref k5, .ref k6, .ref k7, .ref k8, .int c9, .ref ka, .ref kb, .int scc_30, .int scd_31, .int sce_32, .int scf_33, .int scg_34, .int sch_35, .int sci_36, .int scj_37, .int sck_38, .ref kl, .int cm, .int cn, .ref ko])), (k0, .inl (cI, 1201, .inl (upd f_66 v_71.toNatClampNeg v_21)))] H := hP
            replace hD : va_D A [(k4, .inl (cI, 6, .inl c4)), (k, .inr (11, [.ref k0, .ref k1, .ref k2, .int c3, .ref k4, .ref k5, .ref k6, .ref k7, .ref k8, .int c9, .ref ka, .ref kb, .int scc_30, .int scd_31, .int sce_32, .int scf_33, .int scg_34, .int sch_35, .int sci_36, .int scj_37, .int sck_38, .ref kl, .int cm, .int cn, .ref ko])), (k0, .inl (cI, 1201, .inl (upd f_66 v_71.toNatClampNeg v_21)))] := hD
            obtain ⟨f_72, ef_72⟩ : ∃ g : Nat → Int32, g = upd f_66 v_71.toNatClampNeg v_21 := ⟨_, rfl⟩
            rw [← ef_72] at hP hD
            have hS_73 : SIX f_72 (-1) := SIX.r (r := v_47.toInt.toNat) (k := 2) hS_67 ef_72 rfl (by rw [k_clamp]; omega) (by omega) (by omega) (by omega)
            have n_74 : (f_72 0).toInt = (f_66 0).toInt := by rw [updN ef_72 (by rw [k_clamp]; omega)]
            have n_75 : (f_72 1).toInt = (f_66 1).toInt := by rw [updN ef_72 (by rw [k_clamp]; omega)]
            have n_76 : (f_72 2).toInt = (f_66 2).toInt := by rw [updN ef_72 (by rw [k_clamp]; omega)]
            refine lv_iconst (v := 0) hx hb dX11_rate_152 (by decide) ?_
            refine lv_istore (lv' := [(7, .int 0), (6, .int v_58), (5, .int v_47), (4, .int r_28), (3, .int v_21), (0, .ref k), (1, .int a0), (2, .int a1)]) hx hb dX11_rate_153 hl (by decide) rfl ?_
            clear hl
            intro ls hl
            have hloop_155 : ∀ (fu_ : Nat) (l155_7 : Int32) (g155_k0 : Nat → Int32), 0 ≤ l155_7.toInt → l155_7.toInt ≤ 50 → SIX g155_k0 (-1) → RTL c0 g155_k0 a0 a1 l155_7.toInt.toNat → (50 - l155_7.toInt).toNat < fu_ → ∀ (ls : Array Slot) (H : Heap) (locs : List Loc), lv_has ls 8 [(7, .int l155_7), (6, .int v_58), (5, .int v_47), (4, .int r_28), (3, .int v_21), (0, .ref k), (1, .int a0), (2, .int a1)] → va_P D vwCl [(k4, .inl (cI, 6, .inl c4)), (k, .inr (11, [.ref k0, .ref k1, .ref k2, .int c3, .ref k4, .ref k5, .ref k6, .ref k7, .ref k8, .int c9, .ref ka, .ref kb, .int scc_30, .int scd_31, .int sce_32, .int scf_33, .int scg_34, .int sch_35, .int sci_36, .int scj_37, .int sck_38, .ref kl, .int cm, .int cn, .ref ko])), (k0, .inl (cI, 1201, .inl g155_k0))] H → va_D A [(k4, .inl (cI, 6, .inl c4)), (k, .inr (11, [.ref k0, .ref k1, .ref k2, .int c3, .ref k4, .ref k5, .ref k6, .ref k7, .ref k8, .int c9, .ref ka, .ref kb, .int scc_30, .int scd_31, .int sce_32, .int scf_33, .int scg_34, .int sch_35, .int sci_36, .int scj_37, .int sck_38, .ref kl, .int cm, .int cn, .ref ko])), (k0, .inl (cI, 1201, .inl g155_k0))] → va_S A s.heap H locs → W p l e ({ frames := 120, cells := 0, slots := 0, locals := 8308 } : Room) s m args below meth c H locs 0 0 Q (F0 m 155 ls []) := by
              intro fu_; induction fu_ with
              | zero => intro l155_7 g155_k0 i155_0 i155_1 i155_2 i155_3 hm; exact absurd hm (by omega)
              | succ fu_ ih155 =>
                  intro l155_7 g155_k0 i155_0 i155_1 i155_2 i155_3 hm ls H locs hl hP hD hS
                  have lo_l155_7 := k_lo l155_7
                  have hi_l155_7 := k_hi l155_7
                  have i155_2 : SIX g155_k0 (-1) := i155_2
                  refine lv_iload hx hb dX11_rate_155 (lv_at hl 0 rfl) ?_
                  refine lv_bipush (v := 50) hx hb dX11_rate_157 (by decide) ?_
                  refine b_icmp_ge hx hb rfl zl_50 (tgt := 191) dX11_rate_159 (by decide) (fun c_77 => ?_) (fun c_77 => ?_)
                  · refine lv_iload hx hb dX11_rate_191 (lv_at hl 2 rfl) ?_
                    exact hRet (scc_30, scd_31, sce_32, scf_33, scg_34, sch_35, sci_36, scj_37, sck_38, g155_k0, c4) [1, 2, 0] ⟨i155_2, (by (try dsimp only); exact (rtr_yes (q := scd_31.toInt) (d := scf_33) ⟨by omega, by omega, by omega, by omega⟩ (by omega) (by have z := h_43; rw [show tG f_23 ((1131 : Int)).toNat v_21 = tG c0 1131 (c0 4) from tG_eq ev_21 (fun j hj => by show f_23 (1131 + j) = c0 (1131 + j); rw [ef_23, sp_ne (by omega)])] at z; exact z) (by omega) (by omega) i155_3.2.1 (by omega) i155_3.1)), (RTX_of (by have z := i155_3; rw [show l155_7.toInt.toNat = 50 from by omega] at z; exact z))⟩ hP hD (by decide) rfl hS rfl dX11_rate_193
                  · refine lv_aload_n hx hb dX11_rate_162 rfl (lv_at hl 5 rfl) ?_
                    refine va_get (D := D) (ci := 11) (v := .ref k0) (C := RX11) (T := TX11) (N := 25) hx hb hT giX11 hown hK hP 1 rfl rfl 0 (by decide) (hT (Cond.fieldLink RX11 9 "DesertWireModel" "s" "[I") mw_1156) (fun _ h9 => h9) rfl dX11_rate_163 ?_
                    refine lv_iload hx hb dX11_rate_166 (lv_at hl 1 rfl) ?_
                    refine lv_iconst (v := 3) hx hb dX11_rate_168 (by decide) ?_
                    refine lv_iadd hx hb dX11_rate_169 ?_
                    refine lv_topi (fun v_78 ev_78 => ?_)
                    have tv_78 : v_78.toInt = v_58.toInt + 3 := by rw [ev_78]; exact k_addv rfl zl_3 (by omega) (by omega)
                    refine lv_iload hx hb dX11_rate_170 (lv_at hl 0 rfl) ?_
                    refine lv_iadd hx hb dX11_rate_172 ?_
                    refine lv_topi (fun v_79 ev_79 => ?_)
                    have tv_79 : v_79.toInt = v_78.toInt + l155_7.toInt := by rw [ev_79]; exact k_addv rfl rfl (by omega) (by omega)
                    refine lv_aload_n hx hb dX11_rate_173 rfl (lv_at hl 5 rfl) ?_
                    refine va_get (D := D) (ci := 11) (v := .ref k0) (C := RX11) (T := TX11) (N := 25) hx hb hT giX11 hown hK hP 1 rfl rfl 0 (by decide) (hT (Cond.fieldLink RX11 9 "DesertWireModel" "s" "[I") mw_1156) (fun _ h9 => h9) rfl dX11_rate_174 ?_
                    refine lv_sipush (v := 1131) hx hb dX11_rate_177 (by decide) ?_
                    refine lv_iload hx hb dX11_rate_180 (lv_at hl 0 rfl) ?_
                    refine lv_iadd hx hb dX11_rate_182 ?_
                    refine lv_topi (fun v_80 ev_80 => ?_)
                    have tv_80 : v_80.toInt = 1131 + l155_7.toInt := by rw [ev_80]; exact k_addv zl_1131 rfl (by omega) (by omega)
                    refine k_iald (v := (g155_k0 v_80.toNatClampNeg)) hx hb hK hP 2 0 rfl rfl (k_in (by omega) (by omega)) rfl dX11_rate_183 ?_
                    refine lv_topi (fun v_81 ev_81 => ?_)
                    have lo_v_81 := k_lo v_81
                    have hi_v_81 := k_hi v_81
                    have tv_81 : v_81.toInt = (g155_k0 v_80.toNatClampNeg).toInt := by rw [ev_81]
                    refine va_iast hx hb hK hP hD hS 2 0 rfl rfl (k_in (by omega) (by omega)) dX11_rate_184 ?_
                    clear hP hD hS
                    intro H locs hP hD hS
                    replace hP : va_P D vwCl [(k4, .inl (cI, 6, .inl c4)), (k, .inr (11, [.ref k0, .ref k1, .ref k2, .int c3, .ref k4, .ref k5, .ref k6, .ref k7, .ref k8, .int c9, .ref ka, .ref kb, .int scc_30, .int scd_31, .int sce_32, .int scf_33, .int scg_34, .int sch_35, .int sci_36, .int scj_37, .int sck_38, .ref kl, .int cm, .int cn, .ref ko])), (k0, .inl (cI, 1201, .inl (upd g155_k0 v_79.toNatClampNeg v_81)))] H := hP
                    replace hD : va_D A [(k4, .inl (cI, 6, .inl c4)), (k, .inr (11, [.ref k0, .ref k1, .ref k2, .int c3, .ref k4, .ref k5, .ref k6, .ref k7, .ref k8, .int c9, .ref ka, .ref kb, .int scc_30, .int scd_31, .int sce_32, .int scf_33, .int scg_34, .int sch_35, .int sci_36, .int scj_37, .int sck_38, .ref kl, .int cm, .int cn, .ref ko])), (k0, .inl (cI, 1201, .inl (upd g155_k0 v_79.toNatClampNeg v_81)))] := hD
                    obtain ⟨f_82, ef_82⟩ : ∃ g : Nat → Int32, g = upd g155_k0 v_79.toNatClampNeg v_81 := ⟨_, rfl⟩
                    rw [← ef_82] at hP hD
                    have hS_83 : SIX f_82 (-1) := SIX.r (r := v_47.toInt.toNat) (k := (3 + l155_7.toInt.toNat)) i155_2 ef_82 rfl (by rw [k_clamp]; omega) (by omega) (by omega) (by omega)
                    have n_84 : (f_82 0).toInt = (g155_k0 0).toInt := by rw [updN ef_82 (by rw [k_clamp]; omega)]
                    have n_85 : (f_82 1).toInt = (g155_k0 1).toInt := by rw [updN ef_82 (by rw [k_clamp]; omega)]
                    have n_86 : (f_82 2).toInt = (g155_k0 2).toInt := by rw [updN ef_82 (by rw [k_clamp]; omega)]
                    obtain ⟨v_87, ev_87⟩ : ∃ y : Int32, y = l155_7 + 1 := ⟨_, rfl⟩
                    have tv_87 : v_87.toInt = l155_7.toInt + 1 := by rw [ev_87]; exact k_addv rfl zl_1 (by omega) (by omega)
                    refine lv_iinc (v := v_87) (lv' := [(7, .int v_87), (6, .int v_58), (5, .int v_47), (4, .int r_28), (3, .int v_21), (0, .ref k), (1, .int a0), (2, .int a1)]) hx hb dX11_rate_185 hl (k := 0) rfl (by rw [ev_87]; rfl) (by decide) rfl ?_
                    clear hl
                    intro ls hl
                    refine lv_goto (tgt := 155) hx hb dX11_rate_188 (by decide) ?_
                    exact ih155 v_87 f_82 (by first | omega | decide | assumption | rfl) (by first | omega | decide | assumption | rfl) hS_83 (RTL_step i155_3 (by omega) (by omega) ef_82 ev_81 (by omega) (by omega) (by omega) (by omega)) (by omega) ls _ _ (lv_sub hl [0, 1, 2, 3, 4, 5, 6, 7] rfl) (hP.sub [0, 1, 2] rfl) (hD.sub [0, 1, 2] (by decide) rfl) hS
            exact hloop_155 _ 0 f_72 (by first | omega | (simp only [zl_0]; first | done | omega) | decide | assumption | rfl) (by first | omega | (simp only [zl_0]; first | done | omega) | decide | assumption | rfl) hS_73 (by rw [zl_0]; exact RTL_0 (c := v_47.toInt.toNat) ef_23 ef_52 ef_60 ef_66 ef_72 (by omega) (by omega) (by omega) (by omega) (by omega) (by omega)) (Nat.lt_succ_self _) ls _ _ (lv_sub hl [0, 1, 2, 3, 4, 5, 6, 7] rfl) hP hD hS
          · refine lv_bipush (v := (-10)) hx hb dX11_rate_85 (by decide) ?_
            refine lv_aload_n hx hb dX11_rate_87 rfl (lv_at hl 2 rfl) ?_
            refine va_get (D := D) (ci := 11) (v := .int scd_31) (C := RX11) (T := TX11) (N := 25) hx hb hT giX11 hown hK hP 1 rfl rfl 13 (by decide) (hT (Cond.fieldLink RX11 138 "DesertWireModel" "here" "I") mw_1169) (fun _ h9 => h9) rfl dX11_rate_88 ?_
            refine lv_isub hx hb dX11_rate_91 ?_
            refine lv_topi (fun v_88 ev_88 => ?_)
            have tv_88 : v_88.toInt = (-10) - scd_31.toInt := by rw [ev_88]; exact k_subv zl_m10 rfl (by omega) (by omega)
            exact hRet (scc_30, scd_31, sce_32, scf_33, scg_34, sch_35, sci_36, scj_37, sck_38, f_23, c4) [1, 2, 0] ⟨hS_24, (by (try dsimp only); exact (rtr_no (q := scd_31.toInt) (d := scf_33) ⟨by omega, by omega, by omega, by omega⟩ (by omega) (by have z := h_43; rw [show tG f_23 ((1131 : Int)).toNat v_21 = tG c0 1131 (c0 4) from tG_eq ev_21 (fun j hj => by show f_23 (1131 + j) = c0 (1131 + j); rw [ef_23, sp_ne (by omega)])] at z; exact z) (by first | exact Or.inl (by omega) | exact Or.inr (by omega)) (by (try dsimp only); rw [ef_23, sp_at]; decide) (by omega) (by (try dsimp only); rw [ef_23, sp_ne (by decide)]))), (RTX_no ef_23)⟩ hP hD (by decide) rfl hS rfl dX11_rate_92
      · refine lv_aload_n hx hb dX11_rate_32 rfl (lv_at hl 0 rfl) ?_
        refine lv_ldc (v := (-1000004)) hx hb hown (hT _ mw_1256) dX11_rate_33 ?_
        refine kJi (wr := [(k0, .inl (cI, 1201, .inl c0))]) (va_runV (As := [.int (-1000004)]) (rest := []) ⟨hx, hb, hml, hown, hT⟩ (c_X11_findingG l D cI aK aV k k0 k1 k2 k4 k5 k6 k7 k8 ka kb kl ko H.size c3 c9 cc cd ce cf cg ch ci cj ck cm cn c4 (-1000004) (by first | omega | (simp only [zl_m1000004]; first | done | omega) | decide | assumption | rfl) (by first | omega | (simp only [zl_m1000004]; first | done | omega) | decide | assumption | rfl)) (cwV 1 hT (gV_in mw_1243 mw_1240 mw_1242 mw_p3_8 mw_12) rfl rfl rfl (by decide +kernel) ⟨Nat.le_of_ble_eq_true rfl, Nat.le_of_ble_eq_true rfl⟩) (kRecvX (q0 := 0) (ci := 11) hK hP hD hN hXS hS hA rfl rfl [0, 2] rfl (by decide)) rfl rfl hl.1 rfl (lv_room (Nat.le_of_ble_eq_true rfl)) dX11_rate_35 ⟨Nat.le_of_ble_eq_true rfl, Nat.le_of_ble_eq_true rfl⟩) hP hD hS hA [0, 2] [1] rfl rfl (by decide) (by decide) ?_
        clear hP hD hS
        intro r_89 sc4_91 H locs w_90 hP hD hS
        replace hP : va_P D vwCl [(k0, .inl (cI, 1201, .inl c0)), (k, .inr (11, [.ref k0, .ref k1, .ref k2, .int c3, .ref k4, .ref k5, .ref k6, .ref k7, .ref k8, .int c9, .ref ka, .ref kb, .int cc, .int cd, .int ce, .int cf, .int cg, .int ch, .int ci, .int cj, .int ck, .ref kl, .int cm, .int cn, .ref ko])), (k4, .inl (cI, 6, .inl sc4_91))] H := hP
        replace hD : va_D A [(k0, .inl (cI, 1201, .inl c0)), (k, .inr (11, [.ref k0, .ref k1, .ref k2, .int c3, .ref k4, .ref k5, .ref k6, .ref k7, .ref k8, .int c9, .ref ka, .ref kb, .int cc, .int cd, .int ce, .int cf, .int cg, .int ch, .int ci, .int cj, .int ck, .ref kl, .int cm, .int cn, .ref ko])), (k4, .inl (cI, 6, .inl sc4_91))] := hD
        have hr_89 := w_90
        obtain rfl : r_89 = (-1000004) := hr_89.trans (by decide)
        exact hRet (cc, cd, ce, cf, cg, ch, ci, cj, ck, c0, sc4_91) [1, 0, 2] ⟨pre0, (by (try dsimp only); exact (Or.inr (Or.inl ⟨⟨by omega, by omega, by omega, by omega⟩, by omega, zl_m1000004, rfl, rfl⟩))), (RTX_rf)⟩ hP hD (by decide) rfl hS rfl dX11_rate_38
    · have h_16 : a1.toInt < 0 ∨ 2000 < a1.toInt := h_16
      obtain rfl : r_11 = 0 := hr_11.trans (by decide)
      refine b_if_ne hx hb zl_0 (tgt := 21) dX11_rate_11 (by decide) (fun c_92 => by exfalso; omega) (fun c_92 => ?_)
      refine lv_aload_n hx hb dX11_rate_14 rfl (lv_at hl 0 rfl) ?_
      refine lv_ldc (v := (-1000001)) hx hb hown (hT _ mw_1239) dX11_rate_15 ?_
      refine kJi (wr := [(k0, .inl (cI, 1201, .inl c0))]) (va_runV (As := [.int (-1000001)]) (rest := []) ⟨hx, hb, hml, hown, hT⟩ (c_X11_findingG l D cI aK aV k k0 k1 k2 k4 k5 k6 k7 k8 ka kb kl ko H.size c3 c9 cc cd ce cf cg ch ci cj ck cm cn c4 (-1000001) (by first | omega | (simp only [zl_m1000001]; first | done | omega) | decide | assumption | rfl) (by first | omega | (simp only [zl_m1000001]; first | done | omega) | decide | assumption | rfl)) (cwV 1 hT (gV_in mw_1243 mw_1240 mw_1242 mw_p3_8 mw_12) rfl rfl rfl (by decide +kernel) ⟨Nat.le_of_ble_eq_true rfl, Nat.le_of_ble_eq_true rfl⟩) (kRecvX (q0 := 0) (ci := 11) hK hP hD hN hXS hS hA rfl rfl [0, 2] rfl (by decide)) rfl rfl hl.1 rfl (lv_room (Nat.le_of_ble_eq_true rfl)) dX11_rate_17 ⟨Nat.le_of_ble_eq_true rfl, Nat.le_of_ble_eq_true rfl⟩) hP hD hS hA [0, 2] [1] rfl rfl (by decide) (by decide) ?_
      clear hP hD hS
      intro r_93 sc4_95 H locs w_94 hP hD hS
      replace hP : va_P D vwCl [(k0, .inl (cI, 1201, .inl c0)), (k, .inr (11, [.ref k0, .ref k1, .ref k2, .int c3, .ref k4, .ref k5, .ref k6, .ref k7, .ref k8, .int c9, .ref ka, .ref kb, .int cc, .int cd, .int ce, .int cf, .int cg, .int ch, .int ci, .int cj, .int ck, .ref kl, .int cm, .int cn, .ref ko])), (k4, .inl (cI, 6, .inl sc4_95))] H := hP
      replace hD : va_D A [(k0, .inl (cI, 1201, .inl c0)), (k, .inr (11, [.ref k0, .ref k1, .ref k2, .int c3, .ref k4, .ref k5, .ref k6, .ref k7, .ref k8, .int c9, .ref ka, .ref kb, .int cc, .int cd, .int ce, .int cf, .int cg, .int ch, .int ci, .int cj, .int ck, .ref kl, .int cm, .int cn, .ref ko])), (k4, .inl (cI, 6, .inl sc4_95))] := hD
      have hr_93 := w_94
      obtain rfl : r_93 = (-1000001) := hr_93.trans (by decide)
      exact hRet (cc, cd, ce, cf, cg, ch, ci, cj, ck, c0, sc4_95) [1, 0, 2] ⟨pre0, (by (try dsimp only); exact (Or.inl ⟨by omega, zl_m1000001, rfl, rfl⟩)), (RTX_rf)⟩ hP hD (by decide) rfl hS rfl dX11_rate_20
  · have h_9 : a0.toInt < 0 ∨ 2 < a0.toInt := h_9
    obtain rfl : r_4 = 0 := hr_4.trans (by decide)
    refine b_if_eq hx hb zl_0 (tgt := 14) dX11_rate_4 (by decide) (fun c_96 => ?_) (fun c_96 => by exfalso; omega)
    refine lv_aload_n hx hb dX11_rate_14 rfl (lv_at hl 0 rfl) ?_
    refine lv_ldc (v := (-1000001)) hx hb hown (hT _ mw_1239) dX11_rate_15 ?_
    refine kJi (wr := [(k0, .inl (cI, 1201, .inl c0))]) (va_runV (As := [.int (-1000001)]) (rest := []) ⟨hx, hb, hml, hown, hT⟩ (c_X11_findingG l D cI aK aV k k0 k1 k2 k4 k5 k6 k7 k8 ka kb kl ko H.size c3 c9 cc cd ce cf cg ch ci cj ck cm cn c4 (-1000001) (by first | omega | (simp only [zl_m1000001]; first | done | omega) | decide | assumption | rfl) (by first | omega | (simp only [zl_m1000001]; first | done | omega) | decide | assumption | rfl)) (cwV 1 hT (gV_in mw_1243 mw_1240 mw_1242 mw_p3_8 mw_12) rfl rfl rfl (by decide +kernel) ⟨Nat.le_of_ble_eq_true rfl, Nat.le_of_ble_eq_true rfl⟩) (kRecvX (q0 := 0) (ci := 11) hK hP hD hN hXS hS hA rfl rfl [0, 2] rfl (by decide)) rfl rfl hl.1 rfl (lv_room (Nat.le_of_ble_eq_true rfl)) dX11_rate_17 ⟨Nat.le_of_ble_eq_true rfl, Nat.le_of_ble_eq_true rfl⟩) hP hD hS hA [0, 2] [1] rfl rfl (by decide) (by decide) ?_
    clear hP hD hS
    intro r_97 sc4_99 H locs w_98 hP hD hS
    replace hP : va_P D vwCl [(k0, .inl (cI, 1201, .inl c0)), (k, .inr (11, [.ref k0, .ref k1, .ref k2, .int c3, .ref k4, .ref k5, .ref k6, .ref k7, .ref k8, .int c9, .ref ka, .ref kb, .int cc, .int cd, .int ce, .int cf, .int cg, .int ch, .int ci, .int cj, .int ck, .ref kl, .int cm, .int cn, .ref ko])), (k4, .inl (cI, 6, .inl sc4_99))] H := hP
    replace hD : va_D A [(k0, .inl (cI, 1201, .inl c0)), (k, .inr (11, [.ref k0, .ref k1, .ref k2, .int c3, .ref k4, .ref k5, .ref k6, .ref k7, .ref k8, .int c9, .ref ka, .ref kb, .int cc, .int cd, .int ce, .int cf, .int cg, .int ch, .int ci, .int cj, .int ck, .ref kl, .int cm, .int cn, .ref ko])), (k4, .inl (cI, 6, .inl sc4_99))] := hD
    have hr_97 := w_98
    obtain rfl : r_97 = (-1000001) := hr_97.trans (by decide)
    exact hRet (cc, cd, ce, cf, cg, ch, ci, cj, ck, c0, sc4_99) [1, 0, 2] ⟨pre0, (by (try dsimp only); exact (Or.inl ⟨by omega, zl_m1000001, rfl, rfl⟩)), (RTX_rf)⟩ hP hD (by decide) rfl hS rfl dX11_rate_20
theorem dX11_speaks_0 : decode cX11_speaks 0 = .ok (.iload_n 2, 1) := by decide +kernel
theorem dX11_speaks_1 : decode cX11_speaks 1 = .ok (.istore 5, 2) := by decide +kernel
theorem dX11_speaks_3 : decode cX11_speaks 3 = .ok (.iload 5, 2) := by decide +kernel
theorem dX11_speaks_5 : decode cX11_speaks 5 = .ok (.iload_n 3, 1) := by decide +kernel
theorem dX11_speaks_6 : decode cX11_speaks 6 = .ok (.invokestatic 270, 3) := by decide +kernel
theorem dX11_speaks_9 : decode cX11_speaks 9 = .ok (.ifCond .ne 13, 3) := by decide +kernel
theorem dX11_speaks_12 : decode cX11_speaks 12 = .ok (.iload 5, 2) := by decide +kernel
theorem dX11_speaks_14 : decode cX11_speaks 14 = .ok (.invokestatic 51, 3) := by decide +kernel
theorem dX11_speaks_17 : decode cX11_speaks 17 = .ok (.istore 5, 2) := by decide +kernel
theorem dX11_speaks_19 : decode cX11_speaks 19 = .ok (.goto (-16), 3) := by decide +kernel
theorem dX11_speaks_22 : decode cX11_speaks 22 = .ok (.aload_n 0, 1) := by decide +kernel
theorem dX11_speaks_23 : decode cX11_speaks 23 = .ok (.iload_n 1, 1) := by decide +kernel
theorem dX11_speaks_24 : decode cX11_speaks 24 = .ok (.iconst 0, 1) := by decide +kernel
theorem dX11_speaks_25 : decode cX11_speaks 25 = .ok (.invokevirtual 55, 3) := by decide +kernel
theorem dX11_speaks_28 : decode cX11_speaks 28 = .ok (.istore 6, 2) := by decide +kernel
theorem dX11_speaks_30 : decode cX11_speaks 30 = .ok (.aload_n 0, 1) := by decide +kernel
theorem dX11_speaks_31 : decode cX11_speaks 31 = .ok (.iload_n 1, 1) := by decide +kernel
theorem dX11_speaks_32 : decode cX11_speaks 32 = .ok (.iconst 2, 1) := by decide +kernel
theorem dX11_speaks_33 : decode cX11_speaks 33 = .ok (.invokevirtual 55, 3) := by decide +kernel
theorem dX11_speaks_36 : decode cX11_speaks 36 = .ok (.istore 7, 2) := by decide +kernel
theorem dX11_speaks_38 : decode cX11_speaks 38 = .ok (.iload 5, 2) := by decide +kernel
theorem dX11_speaks_40 : decode cX11_speaks 40 = .ok (.invokestatic 51, 3) := by decide +kernel
theorem dX11_speaks_43 : decode cX11_speaks 43 = .ok (.istore 8, 2) := by decide +kernel
theorem dX11_speaks_45 : decode cX11_speaks 45 = .ok (.iload 5, 2) := by decide +kernel
theorem dX11_speaks_47 : decode cX11_speaks 47 = .ok (.iload_n 3, 1) := by decide +kernel
theorem dX11_speaks_48 : decode cX11_speaks 48 = .ok (.invokestatic 270, 3) := by decide +kernel
theorem dX11_speaks_51 : decode cX11_speaks 51 = .ok (.istore 9, 2) := by decide +kernel
theorem dX11_speaks_53 : decode cX11_speaks 53 = .ok (.aload_n 0, 1) := by decide +kernel
theorem dX11_speaks_54 : decode cX11_speaks 54 = .ok (.iload 9, 2) := by decide +kernel
theorem dX11_speaks_56 : decode cX11_speaks 56 = .ok (.invokevirtual 273, 3) := by decide +kernel
theorem dX11_speaks_59 : decode cX11_speaks 59 = .ok (.iload 9, 2) := by decide +kernel
theorem dX11_speaks_61 : decode cX11_speaks 61 = .ok (.tableswitch 432 10 60 #[219, 224, 238, 251, 432, 432, 432, 432, 432, 432, 277, 290, 432, 432, 432, 432, 432, 432, 432, 432, 303, 316, 432, 432, 432, 432, 432, 432, 432, 432, 328, 354, 432, 432, 432, 432, 432, 432, 432, 432, 379, 393, 432, 432, 432, 432, 432, 432, 432, 432, 418], 219) := by decide +kernel
theorem dX11_speaks_280 : decode cX11_speaks 280 = .ok (.iload 4, 2) := by decide +kernel
theorem dX11_speaks_282 : decode cX11_speaks 282 = .ok (.iload_n 1, 1) := by decide +kernel
theorem dX11_speaks_283 : decode cX11_speaks 283 = .ok (.isub, 1) := by decide +kernel
theorem dX11_speaks_284 : decode cX11_speaks 284 = .ok (.ireturn, 1) := by decide +kernel
theorem dX11_speaks_285 : decode cX11_speaks 285 = .ok (.aload_n 0, 1) := by decide +kernel
theorem dX11_speaks_286 : decode cX11_speaks 286 = .ok (.iload_n 1, 1) := by decide +kernel
theorem dX11_speaks_287 : decode cX11_speaks 287 = .ok (.iload 6, 2) := by decide +kernel
theorem dX11_speaks_289 : decode cX11_speaks 289 = .ok (.iconst 0, 1) := by decide +kernel
theorem dX11_speaks_290 : decode cX11_speaks 290 = .ok (.iload 4, 2) := by decide +kernel
theorem dX11_speaks_292 : decode cX11_speaks 292 = .ok (.invokevirtual 276, 3) := by decide +kernel
theorem dX11_speaks_295 : decode cX11_speaks 295 = .ok (.iload 7, 2) := by decide +kernel
theorem dX11_speaks_297 : decode cX11_speaks 297 = .ok (.iadd, 1) := by decide +kernel
theorem dX11_speaks_298 : decode cX11_speaks 298 = .ok (.ireturn, 1) := by decide +kernel
theorem dX11_speaks_299 : decode cX11_speaks 299 = .ok (.aload_n 0, 1) := by decide +kernel
theorem dX11_speaks_300 : decode cX11_speaks 300 = .ok (.iload_n 1, 1) := by decide +kernel
theorem dX11_speaks_301 : decode cX11_speaks 301 = .ok (.iload 6, 2) := by decide +kernel
theorem dX11_speaks_303 : decode cX11_speaks 303 = .ok (.iconst 1, 1) := by decide +kernel
theorem dX11_speaks_304 : decode cX11_speaks 304 = .ok (.iload 4, 2) := by decide +kernel
theorem dX11_speaks_306 : decode cX11_speaks 306 = .ok (.invokevirtual 276, 3) := by decide +kernel
theorem dX11_speaks_309 : decode cX11_speaks 309 = .ok (.iconst 2, 1) := by decide +kernel
theorem dX11_speaks_310 : decode cX11_speaks 310 = .ok (.imul, 1) := by decide +kernel
theorem dX11_speaks_311 : decode cX11_speaks 311 = .ok (.ireturn, 1) := by decide +kernel
theorem dX11_speaks_312 : decode cX11_speaks 312 = .ok (.aload_n 0, 1) := by decide +kernel
theorem dX11_speaks_313 : decode cX11_speaks 313 = .ok (.iload_n 1, 1) := by decide +kernel
theorem dX11_speaks_314 : decode cX11_speaks 314 = .ok (.iload 6, 2) := by decide +kernel
theorem dX11_speaks_316 : decode cX11_speaks 316 = .ok (.iconst 2, 1) := by decide +kernel
theorem dX11_speaks_317 : decode cX11_speaks 317 = .ok (.iload 4, 2) := by decide +kernel
theorem dX11_speaks_319 : decode cX11_speaks 319 = .ok (.invokevirtual 276, 3) := by decide +kernel
theorem dX11_speaks_322 : decode cX11_speaks 322 = .ok (.istore 10, 2) := by decide +kernel
theorem dX11_speaks_324 : decode cX11_speaks 324 = .ok (.iload 10, 2) := by decide +kernel
theorem dX11_speaks_326 : decode cX11_speaks 326 = .ok (.aload_n 0, 1) := by decide +kernel
theorem dX11_speaks_327 : decode cX11_speaks 327 = .ok (.iload_n 1, 1) := by decide +kernel
theorem dX11_speaks_328 : decode cX11_speaks 328 = .ok (.iload 6, 2) := by decide +kernel
theorem dX11_speaks_330 : decode cX11_speaks 330 = .ok (.iconst 0, 1) := by decide +kernel
theorem dX11_speaks_331 : decode cX11_speaks 331 = .ok (.iload 4, 2) := by decide +kernel
theorem dX11_speaks_333 : decode cX11_speaks 333 = .ok (.invokevirtual 276, 3) := by decide +kernel
theorem dX11_speaks_336 : decode cX11_speaks 336 = .ok (.ixor, 1) := by decide +kernel
theorem dX11_speaks_337 : decode cX11_speaks 337 = .ok (.ireturn, 1) := by decide +kernel
theorem dX11_speaks_338 : decode cX11_speaks 338 = .ok (.aload_n 0, 1) := by decide +kernel
theorem dX11_speaks_339 : decode cX11_speaks 339 = .ok (.iload_n 1, 1) := by decide +kernel
theorem dX11_speaks_340 : decode cX11_speaks 340 = .ok (.iload 8, 2) := by decide +kernel
theorem dX11_speaks_342 : decode cX11_speaks 342 = .ok (.iconst 1, 1) := by decide +kernel
theorem dX11_speaks_343 : decode cX11_speaks 343 = .ok (.iload 4, 2) := by decide +kernel
theorem dX11_speaks_345 : decode cX11_speaks 345 = .ok (.iconst 1, 1) := by decide +kernel
theorem dX11_speaks_346 : decode cX11_speaks 346 = .ok (.iadd, 1) := by decide +kernel
theorem dX11_speaks_347 : decode cX11_speaks 347 = .ok (.invokevirtual 276, 3) := by decide +kernel
theorem dX11_speaks_350 : decode cX11_speaks 350 = .ok (.ireturn, 1) := by decide +kernel
theorem dX11_speaks_351 : decode cX11_speaks 351 = .ok (.aload_n 0, 1) := by decide +kernel
theorem dX11_speaks_352 : decode cX11_speaks 352 = .ok (.iload_n 1, 1) := by decide +kernel
theorem dX11_speaks_353 : decode cX11_speaks 353 = .ok (.iload 8, 2) := by decide +kernel
theorem dX11_speaks_355 : decode cX11_speaks 355 = .ok (.iconst 3, 1) := by decide +kernel
theorem dX11_speaks_356 : decode cX11_speaks 356 = .ok (.iload 4, 2) := by decide +kernel
theorem dX11_speaks_358 : decode cX11_speaks 358 = .ok (.invokevirtual 276, 3) := by decide +kernel
theorem dX11_speaks_361 : decode cX11_speaks 361 = .ok (.iload_n 1, 1) := by decide +kernel
theorem dX11_speaks_362 : decode cX11_speaks 362 = .ok (.isub, 1) := by decide +kernel
theorem dX11_speaks_363 : decode cX11_speaks 363 = .ok (.ireturn, 1) := by decide +kernel
theorem dX11_speaks_364 : decode cX11_speaks 364 = .ok (.aload_n 0, 1) := by decide +kernel
theorem dX11_speaks_365 : decode cX11_speaks 365 = .ok (.iload_n 1, 1) := by decide +kernel
theorem dX11_speaks_366 : decode cX11_speaks 366 = .ok (.iload 8, 2) := by decide +kernel
theorem dX11_speaks_368 : decode cX11_speaks 368 = .ok (.iconst 0, 1) := by decide +kernel
theorem dX11_speaks_369 : decode cX11_speaks 369 = .ok (.iload 4, 2) := by decide +kernel
theorem dX11_speaks_371 : decode cX11_speaks 371 = .ok (.invokevirtual 276, 3) := by decide +kernel
theorem dX11_speaks_374 : decode cX11_speaks 374 = .ok (.iconst 3, 1) := by decide +kernel
theorem dX11_speaks_375 : decode cX11_speaks 375 = .ok (.imul, 1) := by decide +kernel
theorem dX11_speaks_376 : decode cX11_speaks 376 = .ok (.ireturn, 1) := by decide +kernel
theorem dX11_speaks_377 : decode cX11_speaks 377 = .ok (.aload_n 0, 1) := by decide +kernel
theorem dX11_speaks_378 : decode cX11_speaks 378 = .ok (.iload_n 1, 1) := by decide +kernel
theorem dX11_speaks_379 : decode cX11_speaks 379 = .ok (.iload 8, 2) := by decide +kernel
theorem dX11_speaks_381 : decode cX11_speaks 381 = .ok (.iconst 2, 1) := by decide +kernel
theorem dX11_speaks_382 : decode cX11_speaks 382 = .ok (.iload 4, 2) := by decide +kernel
theorem dX11_speaks_384 : decode cX11_speaks 384 = .ok (.invokevirtual 276, 3) := by decide +kernel
theorem dX11_speaks_387 : decode cX11_speaks 387 = .ok (.ineg, 1) := by decide +kernel
theorem dX11_speaks_388 : decode cX11_speaks 388 = .ok (.ireturn, 1) := by decide +kernel
theorem dX11_speaks_389 : decode cX11_speaks 389 = .ok (.aload_n 0, 1) := by decide +kernel
theorem dX11_speaks_390 : decode cX11_speaks 390 = .ok (.iload_n 1, 1) := by decide +kernel
theorem dX11_speaks_391 : decode cX11_speaks 391 = .ok (.iload 8, 2) := by decide +kernel
theorem dX11_speaks_393 : decode cX11_speaks 393 = .ok (.iconst 2, 1) := by decide +kernel
theorem dX11_speaks_394 : decode cX11_speaks 394 = .ok (.iload 4, 2) := by decide +kernel
theorem dX11_speaks_396 : decode cX11_speaks 396 = .ok (.invokevirtual 276, 3) := by decide +kernel
theorem dX11_speaks_399 : decode cX11_speaks 399 = .ok (.istore 10, 2) := by decide +kernel
theorem dX11_speaks_401 : decode cX11_speaks 401 = .ok (.iload 10, 2) := by decide +kernel
theorem dX11_speaks_403 : decode cX11_speaks 403 = .ok (.aload_n 0, 1) := by decide +kernel
theorem dX11_speaks_404 : decode cX11_speaks 404 = .ok (.iload_n 1, 1) := by decide +kernel
theorem dX11_speaks_405 : decode cX11_speaks 405 = .ok (.iload 6, 2) := by decide +kernel
theorem dX11_speaks_407 : decode cX11_speaks 407 = .ok (.iconst 0, 1) := by decide +kernel
theorem dX11_speaks_408 : decode cX11_speaks 408 = .ok (.iload 7, 2) := by decide +kernel
theorem dX11_speaks_410 : decode cX11_speaks 410 = .ok (.invokevirtual 276, 3) := by decide +kernel
theorem dX11_speaks_413 : decode cX11_speaks 413 = .ok (.iadd, 1) := by decide +kernel
theorem dX11_speaks_414 : decode cX11_speaks 414 = .ok (.ireturn, 1) := by decide +kernel
theorem dX11_speaks_415 : decode cX11_speaks 415 = .ok (.aload_n 0, 1) := by decide +kernel
theorem dX11_speaks_416 : decode cX11_speaks 416 = .ok (.iload_n 1, 1) := by decide +kernel
theorem dX11_speaks_417 : decode cX11_speaks 417 = .ok (.iload 8, 2) := by decide +kernel
theorem dX11_speaks_419 : decode cX11_speaks 419 = .ok (.iconst 3, 1) := by decide +kernel
theorem dX11_speaks_420 : decode cX11_speaks 420 = .ok (.iload 4, 2) := by decide +kernel
theorem dX11_speaks_422 : decode cX11_speaks 422 = .ok (.invokevirtual 276, 3) := by decide +kernel
theorem dX11_speaks_425 : decode cX11_speaks 425 = .ok (.istore 10, 2) := by decide +kernel
theorem dX11_speaks_427 : decode cX11_speaks 427 = .ok (.iload 10, 2) := by decide +kernel
theorem dX11_speaks_429 : decode cX11_speaks 429 = .ok (.aload_n 0, 1) := by decide +kernel
theorem dX11_speaks_430 : decode cX11_speaks 430 = .ok (.iload_n 1, 1) := by decide +kernel
theorem dX11_speaks_431 : decode cX11_speaks 431 = .ok (.iload 6, 2) := by decide +kernel
theorem dX11_speaks_433 : decode cX11_speaks 433 = .ok (.iconst 1, 1) := by decide +kernel
theorem dX11_speaks_434 : decode cX11_speaks 434 = .ok (.iload_n 1, 1) := by decide +kernel
theorem dX11_speaks_435 : decode cX11_speaks 435 = .ok (.invokevirtual 276, 3) := by decide +kernel
theorem dX11_speaks_438 : decode cX11_speaks 438 = .ok (.ixor, 1) := by decide +kernel
theorem dX11_speaks_439 : decode cX11_speaks 439 = .ok (.ireturn, 1) := by decide +kernel
theorem dX11_speaks_440 : decode cX11_speaks 440 = .ok (.aload_n 0, 1) := by decide +kernel
theorem dX11_speaks_441 : decode cX11_speaks 441 = .ok (.iload_n 1, 1) := by decide +kernel
theorem dX11_speaks_442 : decode cX11_speaks 442 = .ok (.iload 8, 2) := by decide +kernel
theorem dX11_speaks_444 : decode cX11_speaks 444 = .ok (.iconst 0, 1) := by decide +kernel
theorem dX11_speaks_445 : decode cX11_speaks 445 = .ok (.iload 4, 2) := by decide +kernel
theorem dX11_speaks_447 : decode cX11_speaks 447 = .ok (.invokevirtual 276, 3) := by decide +kernel
theorem dX11_speaks_450 : decode cX11_speaks 450 = .ok (.iload 7, 2) := by decide +kernel
theorem dX11_speaks_452 : decode cX11_speaks 452 = .ok (.iadd, 1) := by decide +kernel
theorem dX11_speaks_453 : decode cX11_speaks 453 = .ok (.ireturn, 1) := by decide +kernel
theorem dX11_speaks_454 : decode cX11_speaks 454 = .ok (.aload_n 0, 1) := by decide +kernel
theorem dX11_speaks_455 : decode cX11_speaks 455 = .ok (.iload_n 1, 1) := by decide +kernel
theorem dX11_speaks_456 : decode cX11_speaks 456 = .ok (.iload 8, 2) := by decide +kernel
theorem dX11_speaks_458 : decode cX11_speaks 458 = .ok (.iconst 2, 1) := by decide +kernel
theorem dX11_speaks_459 : decode cX11_speaks 459 = .ok (.iload 4, 2) := by decide +kernel
theorem dX11_speaks_461 : decode cX11_speaks 461 = .ok (.invokevirtual 276, 3) := by decide +kernel
theorem dX11_speaks_464 : decode cX11_speaks 464 = .ok (.istore 10, 2) := by decide +kernel
theorem dX11_speaks_466 : decode cX11_speaks 466 = .ok (.iload 10, 2) := by decide +kernel
theorem dX11_speaks_468 : decode cX11_speaks 468 = .ok (.aload_n 0, 1) := by decide +kernel
theorem dX11_speaks_469 : decode cX11_speaks 469 = .ok (.iload_n 1, 1) := by decide +kernel
theorem dX11_speaks_470 : decode cX11_speaks 470 = .ok (.iload 6, 2) := by decide +kernel
theorem dX11_speaks_472 : decode cX11_speaks 472 = .ok (.iconst 0, 1) := by decide +kernel
theorem dX11_speaks_473 : decode cX11_speaks 473 = .ok (.iconst 1, 1) := by decide +kernel
theorem dX11_speaks_474 : decode cX11_speaks 474 = .ok (.invokevirtual 276, 3) := by decide +kernel
theorem dX11_speaks_477 : decode cX11_speaks 477 = .ok (.isub, 1) := by decide +kernel
theorem dX11_speaks_478 : decode cX11_speaks 478 = .ok (.ireturn, 1) := by decide +kernel
theorem dX11_speaks_479 : decode cX11_speaks 479 = .ok (.aload_n 0, 1) := by decide +kernel
theorem dX11_speaks_480 : decode cX11_speaks 480 = .ok (.iload_n 1, 1) := by decide +kernel
theorem dX11_speaks_481 : decode cX11_speaks 481 = .ok (.iload 8, 2) := by decide +kernel
theorem dX11_speaks_483 : decode cX11_speaks 483 = .ok (.iconst 1, 1) := by decide +kernel
theorem dX11_speaks_484 : decode cX11_speaks 484 = .ok (.iload 4, 2) := by decide +kernel
theorem dX11_speaks_486 : decode cX11_speaks 486 = .ok (.invokevirtual 276, 3) := by decide +kernel
theorem dX11_speaks_489 : decode cX11_speaks 489 = .ok (.iload 7, 2) := by decide +kernel
theorem dX11_speaks_491 : decode cX11_speaks 491 = .ok (.imul, 1) := by decide +kernel
theorem dX11_speaks_492 : decode cX11_speaks 492 = .ok (.ireturn, 1) := by decide +kernel
theorem dX11_speaks_493 : decode cX11_speaks 493 = .ok (.aload_n 0, 1) := by decide +kernel
theorem dX11_speaks_494 : decode cX11_speaks 494 = .ok (.iload_n 1, 1) := by decide +kernel
theorem dX11_speaks_495 : decode cX11_speaks 495 = .ok (.iload 8, 2) := by decide +kernel
theorem dX11_speaks_497 : decode cX11_speaks 497 = .ok (.iconst 3, 1) := by decide +kernel
theorem dX11_speaks_498 : decode cX11_speaks 498 = .ok (.iload 4, 2) := by decide +kernel
theorem dX11_speaks_500 : decode cX11_speaks 500 = .ok (.invokevirtual 276, 3) := by decide +kernel
theorem dX11_speaks_503 : decode cX11_speaks 503 = .ok (.ineg, 1) := by decide +kernel
theorem dX11_speaks_504 : decode cX11_speaks 504 = .ok (.ireturn, 1) := by decide +kernel
def SPKP (dd : Nat) : Prop := ∀ (l : Launch) (D : va_G) (cI : ClassId) (aK aV : Nat → Nat) (k k0 k1 k2 k4 k5 k6 k7 k8 ka kb kl ko : Nat) (sz : Nat) (c3 : Int32) (c9 : Int32) (cc : Int32) (cd : Int32) (ce : Int32) (cf : Int32) (cg : Int32) (ch : Int32) (ci : Int32) (cj : Int32) (ck : Int32) (cm : Int32) (cn : Int32) (c0 : Nat → Int32) (c8 : Nat → Int32) (a0 : Int32) (a1 : Int32) (a2 : Int32) (a3 : Int32) (pre0 : SB c0) (pre1 : 0 ≤ a0.toInt) (pre2 : a0.toInt ≤ 59) (pre3 : 0 ≤ a1.toInt) (pre4 : a1.toInt ≤ 5) (pre5 : 0 ≤ a2.toInt) (pre6 : a2.toInt ≤ 3) (pre7 : 0 ≤ c9.toInt) (pre8 : c9.toInt ≤ 40) (pre9 : (6 * a2.toInt + a1.toInt).toNat < dd) , Met l yX11_speaks (gW yX11_speaks cX11_speaks 11 (some .int)) ({ frames := 4 * dd, cells := 0, slots := 0, locals := 128 * dd } : Room) (kPreX D cI aK aV [.ref k, .int a0, .int a1, .int a2, .int a3] [(k, .inr (11, [.ref k0, .ref k1, .ref k2, .int c3, .ref k4, .ref k5, .ref k6, .ref k7, .ref k8, .int c9, .ref ka, .ref kb, .int cc, .int cd, .int ce, .int cf, .int cg, .int ch, .int ci, .int cj, .int ck, .ref kl, .int cm, .int cn, .ref ko])), (k0, .inl (cI, 1201, .inl c0)), (k8, .inl (cI, 40, .inl c8))] sz) (va_Qi (fun (r : Int32) (u : Int32 × (Nat → Int32)) => 0 ≤ u.1.toInt ∧ u.1.toInt ≤ 40 ∧ voB a0 (wW c0 a0 2) (wW c0 a0 0) dd a1 a2 a3 c9 c8 = (r, u.1, u.2)) (fun u t => kWd D cI (va_A [(k, .inr (11, [.ref k0, .ref k1, .ref k2, .int c3, .ref k4, .ref k5, .ref k6, .ref k7, .ref k8, .int c9, .ref ka, .ref kb, .int cc, .int cd, .int ce, .int cf, .int cg, .int ch, .int ci, .int cj, .int ck, .ref kl, .int cm, .int cn, .ref ko])), (k0, .inl (cI, 1201, .inl c0)), (k8, .inl (cI, 40, .inl c8))] sz) [(k, .inr (11, [.ref k0, .ref k1, .ref k2, .int c3, .ref k4, .ref k5, .ref k6, .ref k7, .ref k8, .int u.1, .ref ka, .ref kb, .int cc, .int cd, .int ce, .int cf, .int cg, .int ch, .int ci, .int cj, .int ck, .ref kl, .int cm, .int cn, .ref ko])), (k0, .inl (cI, 1201, .inl c0)), (k8, .inl (cI, 40, .inl u.2))] t) (va_A [(k, .inr (11, [.ref k0, .ref k1, .ref k2, .int c3, .ref k4, .ref k5, .ref k6, .ref k7, .ref k8, .int c9, .ref ka, .ref kb, .int cc, .int cd, .int ce, .int cf, .int cg, .int ch, .int ci, .int cj, .int ck, .ref kl, .int cm, .int cn, .ref ko])), (k0, .inl (cI, 1201, .inl c0)), (k8, .inl (cI, 40, .inl c8))] sz)) 0 0 (va_A [(k, .inr (11, [.ref k0, .ref k1, .ref k2, .int c3, .ref k4, .ref k5, .ref k6, .ref k7, .ref k8, .int c9, .ref ka, .ref kb, .int cc, .int cd, .int ce, .int cf, .int cg, .int ch, .int ci, .int cj, .int ck, .ref kl, .int cm, .int cn, .ref ko])), (k0, .inl (cI, 1201, .inl c0)), (k8, .inl (cI, 40, .inl c8))] sz)
set_option maxHeartbeats 4000000 in
set_option maxRecDepth 100000 in
theorem c_X11_speaksR : ∀ dd : Nat, SPKP dd := by
  intro dd
  induction dd with
  | zero => intro l D cI aK aV k k0 k1 k2 k4 k5 k6 k7 k8 ka kb kl ko sz c3 c9 cc cd ce cf cg ch ci cj ck cm cn c0 c8 a0 a1 a2 a3 pre0 pre1 pre2 pre3 pre4 pre5 pre6 pre7 pre8 pre9; exact absurd pre9 (by omega)
  | succ dd ih =>
    intro l D cI aK aV k k0 k1 k2 k4 k5 k6 k7 k8 ka kb kl ko sz c3 c9 cc cd ce cf cg ch ci cj ck cm cn c0 c8 a0 a1 a2 a3 pre0 pre1 pre2 pre3 pre4 pre5 pre6 pre7 pre8 pre9
    refine kMetIX (own := RX11) (by decide) rfl (Nat.le_of_ble_eq_true rfl) ?_
    intro p e s m args below meth c hx hb hT hown hname hml A Q hK hP hD hS hA hN hXS hRet ls hl
    have hl : lv_has ls 11 [(0, .ref k), (1, .int a0), (2, .int a1), (3, .int a2), (4, .int a3)] := hl
    have lo_a0 := k_lo a0
    have hi_a0 := k_hi a0
    have lo_a1 := k_lo a1
    have hi_a1 := k_hi a1
    have lo_a2 := k_lo a2
    have hi_a2 := k_hi a2
    have lo_a3 := k_lo a3
    have hi_a3 := k_hi a3
    have lo_c9 := k_lo c9
    have hi_c9 := k_hi c9
    have lo_ci := k_lo ci
    have hi_ci := k_hi ci
    have pre0 : SB c0 := pre0
    have nb_1 : 0 ≤ (c0 0).toInt ∧ (c0 0).toInt ≤ 2000 := SB.n0 pre0
    have nb_2 : 0 ≤ (c0 1).toInt ∧ (c0 1).toInt ≤ 60 := SB.n1 pre0
    have nb_3 : 0 ≤ (c0 2).toInt ∧ (c0 2).toInt ≤ 4 := SB.n2 pre0
    refine lv_iload_n hx hb dX11_speaks_0 rfl (lv_at hl 2 rfl) ?_
    refine lv_istore (lv' := [(5, .int a1), (0, .ref k), (1, .int a0), (2, .int a1), (3, .int a2), (4, .int a3)]) hx hb dX11_speaks_1 hl (by decide) rfl ?_
    clear hl
    intro ls hl
    have hloop_3 : ∀ (fu_ : Nat) (l3_5 : Int32), l3_5.toInt ≤ a1.toInt → 0 ≤ l3_5.toInt → l3_5.toInt ≤ a1.toInt → bdV l3_5 a2 = bdV a1 a2 → l3_5.toInt.toNat < fu_ → ∀ (ls : Array Slot) (H : Heap) (locs : List Loc), lv_has ls 11 [(5, .int l3_5), (0, .ref k), (1, .int a0), (2, .int a1), (3, .int a2), (4, .int a3)] → va_P D vwCl [(k, .inr (11, [.ref k0, .ref k1, .ref k2, .int c3, .ref k4, .ref k5, .ref k6, .ref k7, .ref k8, .int c9, .ref ka, .ref kb, .int cc, .int cd, .int ce, .int cf, .int cg, .int ch, .int ci, .int cj, .int ck, .ref kl, .int cm, .int cn, .ref ko])), (k0, .inl (cI, 1201, .inl c0)), (k8, .inl (cI, 40, .inl c8))] H → va_D A [(k, .inr (11, [.ref k0, .ref k1, .ref k2, .int c3, .ref k4, .ref k5, .ref k6, .ref k7, .ref k8, .int c9, .ref ka, .ref kb, .int cc, .int cd, .int ce, .int cf, .int cg, .int ch, .int ci, .int cj, .int ck, .ref kl, .int cm, .int cn, .ref ko])), (k0, .inl (cI, 1201, .inl c0)), (k8, .inl (cI, 40, .inl c8))] → va_S A s.heap H locs → W p l e ({ frames := 4 * (dd + 1), cells := 0, slots := 0, locals := 128 * (dd + 1) } : Room) s m args below meth c H locs 0 0 Q (F0 m 3 ls []) := by
      intro fu_; induction fu_ with
      | zero => intro l3_5 i3_0 i3_1 i3_2 i3_3 hm; exact absurd hm (by omega)
      | succ fu_ ih3 =>
          intro l3_5 i3_0 i3_1 i3_2 i3_3 hm ls H locs hl hP hD hS
          have lo_l3_5 := k_lo l3_5
          have hi_l3_5 := k_hi l3_5
          refine lv_iload hx hb dX11_speaks_3 (lv_at hl 0 rfl) ?_
          refine lv_iload_n hx hb dX11_speaks_5 rfl (lv_at hl 4 rfl) ?_
          refine kJi (wr := [(k, .inr (11, [.ref k0, .ref k1, .ref k2, .int c3, .ref k4, .ref k5, .ref k6, .ref k7, .ref k8, .int c9, .ref ka, .ref kb, .int cc, .int cd, .int ce, .int cf, .int cg, .int ch, .int ci, .int cj, .int ck, .ref kl, .int cm, .int cn, .ref ko])), (k0, .inl (cI, 1201, .inl c0)), (k8, .inl (cI, 40, .inl c8))]) (va_runS (As := [.int l3_5, .int a2]) (rest := []) ⟨hx, hb, hml, hown, hT⟩ (c_X11_bodyOfG l D cI aK aV H.size l3_5 a2 (by first | omega | decide | assumption | rfl) (by first | omega | decide | assumption | rfl) (by first | omega | decide | assumption | rfl) (by first | omega | decide | assumption | rfl)) (cwS 2 hT (gS_in mw_1581 mw_1579 mw_1580 mw_12) rfl rfl rfl (by decide +kernel) ⟨(by dsimp only; omega), (by dsimp only; omega)⟩) (kStatX hK hP hD hN hXS hS hA [] rfl (by decide)) rfl rfl hl.1 rfl (lv_room (Nat.le_of_ble_eq_true rfl)) dX11_speaks_6 ⟨Nat.le_of_ble_eq_true rfl, Nat.le_of_ble_eq_true rfl⟩) hP hD hS hA [] [0, 1, 2] rfl rfl (by decide) (by decide) ?_
          clear hP hD hS
          intro r_4 u_6 H locs w_5 hP hD hS
          replace hP : va_P D vwCl [(k, .inr (11, [.ref k0, .ref k1, .ref k2, .int c3, .ref k4, .ref k5, .ref k6, .ref k7, .ref k8, .int c9, .ref ka, .ref kb, .int cc, .int cd, .int ce, .int cf, .int cg, .int ch, .int ci, .int cj, .int ck, .ref kl, .int cm, .int cn, .ref ko])), (k0, .inl (cI, 1201, .inl c0)), (k8, .inl (cI, 40, .inl c8))] H := hP
          replace hD : va_D A [(k, .inr (11, [.ref k0, .ref k1, .ref k2, .int c3, .ref k4, .ref k5, .ref k6, .ref k7, .ref k8, .int c9, .ref ka, .ref kb, .int cc, .int cd, .int ce, .int cf, .int cg, .int ch, .int ci, .int cj, .int ck, .ref kl, .int cm, .int cn, .ref ko])), (k0, .inl (cI, 1201, .inl c0)), (k8, .inl (cI, 40, .inl c8))] := hD
          rcases w_5 with ⟨hr_4, h_7, h_8, h_9⟩ | ⟨hr_4, h_10, h_11, h_12⟩ | ⟨hr_4, h_13, h_14, h_15⟩ | ⟨hr_4, h_16, h_17, h_18⟩ | ⟨hr_4, h_19, h_20, h_21⟩ | ⟨hr_4, h_22, h_23, h_24⟩ | ⟨hr_4, h_25, h_26, h_27⟩ | ⟨hr_4, h_28, h_29, h_30⟩ | ⟨hr_4, h_31, h_32, h_33⟩ | ⟨hr_4, h_34, h_35, h_36⟩ | ⟨hr_4, h_37, h_38, h_39⟩ | ⟨hr_4, h_40, h_41, h_42⟩ | ⟨hr_4, h_43, h_44, h_45⟩ | ⟨hr_4, h_46, h_47, h_48⟩ | ⟨hr_4, h_49, h_50⟩
          · have h_7 : l3_5.toInt = 0 := h_7
            have h_8 : a2.toInt = 0 := h_8
            have h_9 : (bKi l3_5 a2).toInt = 10 := h_9
            obtain rfl : r_4 = 10 := hr_4.trans (by decide)
            refine b_if_ne hx hb zl_10 (tgt := 22) dX11_speaks_9 (by decide) (fun c_51 => ?_) (fun c_51 => by exfalso; omega)
            refine lv_aload_n hx hb dX11_speaks_22 rfl (lv_at hl 1 rfl) ?_
            refine lv_iload_n hx hb dX11_speaks_23 rfl (lv_at hl 2 rfl) ?_
            refine lv_iconst (v := 0) hx hb dX11_speaks_24 (by decide) ?_
            refine kJi (wr := [(k8, .inl (cI, 40, .inl c8))]) (va_runV (As := [.int a0, .int 0]) (rest := []) ⟨hx, hb, hml, hown, hT⟩ (c_X11_workG0 l D cI aK aV k k0 k1 k2 k4 k5 k6 k7 k8 ka kb kl ko H.size c3 c9 cc cd ce cf cg ch ci cj ck cm cn c0 a0 0 (by first | omega | (simp only [zl_0]; first | done | omega) | decide | assumption | rfl) (by first | omega | (simp only [zl_0]; first | done | omega) | decide | assumption | rfl) (by first | omega | (simp only [zl_0]; first | done | omega) | decide | assumption | rfl)) (cwV 2 hT (gV_in mw_1276 mw_1273 mw_1275 mw_p3_12 mw_12) rfl rfl rfl (by decide +kernel) ⟨(by dsimp only; omega), (by dsimp only; omega)⟩) (kRecvX (q0 := 0) (ci := 11) hK hP hD hN hXS hS hA rfl rfl [0, 1] rfl (by decide)) rfl rfl hl.1 rfl (lv_room (Nat.le_of_ble_eq_true rfl)) dX11_speaks_25 ⟨Nat.le_of_ble_eq_true rfl, Nat.le_of_ble_eq_true rfl⟩) hP hD hS hA [0, 1] [2] rfl rfl (by decide) (by decide) ?_
            clear hP hD hS
            intro r_52 u_54 H locs w_53 hP hD hS
            replace hP : va_P D vwCl [(k8, .inl (cI, 40, .inl c8)), (k, .inr (11, [.ref k0, .ref k1, .ref k2, .int c3, .ref k4, .ref k5, .ref k6, .ref k7, .ref k8, .int c9, .ref ka, .ref kb, .int cc, .int cd, .int ce, .int cf, .int cg, .int ch, .int ci, .int cj, .int ck, .ref kl, .int cm, .int cn, .ref ko])), (k0, .inl (cI, 1201, .inl c0))] H := hP
            replace hD : va_D A [(k8, .inl (cI, 40, .inl c8)), (k, .inr (11, [.ref k0, .ref k1, .ref k2, .int c3, .ref k4, .ref k5, .ref k6, .ref k7, .ref k8, .int c9, .ref ka, .ref kb, .int cc, .int cd, .int ce, .int cf, .int cg, .int ch, .int ci, .int cj, .int ck, .ref kl, .int cm, .int cn, .ref ko])), (k0, .inl (cI, 1201, .inl c0))] := hD
            have h_55 := w_53
            have h_55 : r_52 = wW c0 a0 0 := h_55
            have t_56 : r_52.toInt = (wW c0 a0 0).toInt := by rw [h_55]
            have b_57 : 0 ≤ r_52.toInt ∧ r_52.toInt ≤ 5 := by rw [h_55]; exact SB.w0 pre0 (by omega) (by omega)
            have lo_r_52 := k_lo r_52
            have hi_r_52 := k_hi r_52
            refine lv_istore (lv' := [(6, .int r_52), (5, .int l3_5), (0, .ref k), (1, .int a0), (2, .int a1), (3, .int a2), (4, .int a3)]) hx hb dX11_speaks_28 hl (by decide) rfl ?_
            clear hl
            intro ls hl
            refine lv_aload_n hx hb dX11_speaks_30 rfl (lv_at hl 2 rfl) ?_
            refine lv_iload_n hx hb dX11_speaks_31 rfl (lv_at hl 3 rfl) ?_
            refine lv_iconst (v := 2) hx hb dX11_speaks_32 (by decide) ?_
            refine kJi (wr := [(k8, .inl (cI, 40, .inl c8))]) (va_runV (As := [.int a0, .int 2]) (rest := []) ⟨hx, hb, hml, hown, hT⟩ (c_X11_workG2 l D cI aK aV k k0 k1 k2 k4 k5 k6 k7 k8 ka kb kl ko H.size c3 c9 cc cd ce cf cg ch ci cj ck cm cn c0 a0 2 (by first | omega | (simp only [zl_2]; first | done | omega) | decide | assumption | rfl) (by first | omega | (simp only [zl_2]; first | done | omega) | decide | assumption | rfl) (by first | omega | (simp only [zl_2]; first | done | omega) | decide | assumption | rfl)) (cwV 2 hT (gV_in mw_1276 mw_1273 mw_1275 mw_p3_12 mw_12) rfl rfl rfl (by decide +kernel) ⟨(by dsimp only; omega), (by dsimp only; omega)⟩) (kRecvX (q0 := 1) (ci := 11) hK hP hD hN hXS hS hA rfl rfl [1, 2] rfl (by decide)) rfl rfl hl.1 rfl (lv_room (Nat.le_of_ble_eq_true rfl)) dX11_speaks_33 ⟨Nat.le_of_ble_eq_true rfl, Nat.le_of_ble_eq_true rfl⟩) hP hD hS hA [1, 2] [0] rfl rfl (by decide) (by decide) ?_
            clear hP hD hS
            intro r_58 u_60 H locs w_59 hP hD hS
            replace hP : va_P D vwCl [(k8, .inl (cI, 40, .inl c8)), (k, .inr (11, [.ref k0, .ref k1, .ref k2, .int c3, .ref k4, .ref k5, .ref k6, .ref k7, .ref k8, .int c9, .ref ka, .ref kb, .int cc, .int cd, .int ce, .int cf, .int cg, .int ch, .int ci, .int cj, .int ck, .ref kl, .int cm, .int cn, .ref ko])), (k0, .inl (cI, 1201, .inl c0))] H := hP
            replace hD : va_D A [(k8, .inl (cI, 40, .inl c8)), (k, .inr (11, [.ref k0, .ref k1, .ref k2, .int c3, .ref k4, .ref k5, .ref k6, .ref k7, .ref k8, .int c9, .ref ka, .ref kb, .int cc, .int cd, .int ce, .int cf, .int cg, .int ch, .int ci, .int cj, .int ck, .ref kl, .int cm, .int cn, .ref ko])), (k0, .inl (cI, 1201, .inl c0))] := hD
            have h_61 := w_59
            have h_61 : r_58 = wW c0 a0 2 := h_61
            have t_62 : r_58.toInt = (wW c0 a0 2).toInt := by rw [h_61]
            have lo_r_58 := k_lo r_58
            have hi_r_58 := k_hi r_58
            refine lv_istore (lv' := [(7, .int r_58), (6, .int r_52), (5, .int l3_5), (0, .ref k), (1, .int a0), (2, .int a1), (3, .int a2), (4, .int a3)]) hx hb dX11_speaks_36 hl (by decide) rfl ?_
            clear hl
            intro ls hl
            refine lv_iload hx hb dX11_speaks_38 (lv_at hl 2 rfl) ?_
            refine kJi (wr := [(k8, .inl (cI, 40, .inl c8)), (k, .inr (11, [.ref k0, .ref k1, .ref k2, .int c3, .ref k4, .ref k5, .ref k6, .ref k7, .ref k8, .int c9, .ref ka, .ref kb, .int cc, .int cd, .int ce, .int cf, .int cg, .int ch, .int ci, .int cj, .int ck, .ref kl, .int cm, .int cn, .ref ko])), (k0, .inl (cI, 1201, .inl c0))]) (va_runS (As := [.int l3_5]) (rest := []) ⟨hx, hb, hml, hown, hT⟩ (c_X11_parentG l D cI aK aV H.size l3_5 (by first | omega | decide | assumption | rfl) (by first | omega | decide | assumption | rfl)) (cwS 1 hT (gS_in mw_1282 mw_1280 mw_1281 mw_12) rfl rfl rfl (by decide +kernel) ⟨(by dsimp only; omega), (by dsimp only; omega)⟩) (kStatX hK hP hD hN hXS hS hA [] rfl (by decide)) rfl rfl hl.1 rfl (lv_room (Nat.le_of_ble_eq_true rfl)) dX11_speaks_40 ⟨Nat.le_of_ble_eq_true rfl, Nat.le_of_ble_eq_true rfl⟩) hP hD hS hA [] [0, 1, 2] rfl rfl (by decide) (by decide) ?_
            clear hP hD hS
            intro r_63 u_65 H locs w_64 hP hD hS
            replace hP : va_P D vwCl [(k8, .inl (cI, 40, .inl c8)), (k, .inr (11, [.ref k0, .ref k1, .ref k2, .int c3, .ref k4, .ref k5, .ref k6, .ref k7, .ref k8, .int c9, .ref ka, .ref kb, .int cc, .int cd, .int ce, .int cf, .int cg, .int ch, .int ci, .int cj, .int ck, .ref kl, .int cm, .int cn, .ref ko])), (k0, .inl (cI, 1201, .inl c0))] H := hP
            replace hD : va_D A [(k8, .inl (cI, 40, .inl c8)), (k, .inr (11, [.ref k0, .ref k1, .ref k2, .int c3, .ref k4, .ref k5, .ref k6, .ref k7, .ref k8, .int c9, .ref ka, .ref kb, .int cc, .int cd, .int ce, .int cf, .int cg, .int ch, .int ci, .int cj, .int ck, .ref kl, .int cm, .int cn, .ref ko])), (k0, .inl (cI, 1201, .inl c0))] := hD
            rcases w_64 with ⟨hr_63, h_66⟩ | ⟨hr_63, h_67⟩ | ⟨hr_63, h_68⟩ | ⟨hr_63, h_69⟩ | ⟨hr_63, h_70⟩
            · have h_66 : l3_5.toInt = 0 := h_66
              obtain rfl : r_63 = (-1) := hr_63.trans (by decide)
              refine lv_istore (lv' := [(8, .int (-1)), (7, .int r_58), (6, .int r_52), (5, .int l3_5), (0, .ref k), (1, .int a0), (2, .int a1), (3, .int a2), (4, .int a3)]) hx hb dX11_speaks_43 hl (by decide) rfl ?_
              clear hl
              intro ls hl
              refine lv_iload hx hb dX11_speaks_45 (lv_at hl 3 rfl) ?_
              refine lv_iload_n hx hb dX11_speaks_47 rfl (lv_at hl 7 rfl) ?_
              refine kJi (wr := [(k8, .inl (cI, 40, .inl c8)), (k, .inr (11, [.ref k0, .ref k1, .ref k2, .int c3, .ref k4, .ref k5, .ref k6, .ref k7, .ref k8, .int c9, .ref ka, .ref kb, .int cc, .int cd, .int ce, .int cf, .int cg, .int ch, .int ci, .int cj, .int ck, .ref kl, .int cm, .int cn, .ref ko])), (k0, .inl (cI, 1201, .inl c0))]) (va_runS (As := [.int l3_5, .int a2]) (rest := []) ⟨hx, hb, hml, hown, hT⟩ (c_X11_bodyOfG l D cI aK aV H.size l3_5 a2 (by first | omega | decide | assumption | rfl) (by first | omega | decide | assumption | rfl) (by first | omega | decide | assumption | rfl) (by first | omega | decide | assumption | rfl)) (cwS 2 hT (gS_in mw_1581 mw_1579 mw_1580 mw_12) rfl rfl rfl (by decide +kernel) ⟨(by dsimp only; omega), (by dsimp only; omega)⟩) (kStatX hK hP hD hN hXS hS hA [] rfl (by decide)) rfl rfl hl.1 rfl (lv_room (Nat.le_of_ble_eq_true rfl)) dX11_speaks_48 ⟨Nat.le_of_ble_eq_true rfl, Nat.le_of_ble_eq_true rfl⟩) hP hD hS hA [] [0, 1, 2] rfl rfl (by decide) (by decide) ?_
              clear hP hD hS
              intro r_71 u_73 H locs w_72 hP hD hS
              replace hP : va_P D vwCl [(k8, .inl (cI, 40, .inl c8)), (k, .inr (11, [.ref k0, .ref k1, .ref k2, .int c3, .ref k4, .ref k5, .ref k6, .ref k7, .ref k8, .int c9, .ref ka, .ref kb, .int cc, .int cd, .int ce, .int cf, .int cg, .int ch, .int ci, .int cj, .int ck, .ref kl, .int cm, .int cn, .ref ko])), (k0, .inl (cI, 1201, .inl c0))] H := hP
              replace hD : va_D A [(k8, .inl (cI, 40, .inl c8)), (k, .inr (11, [.ref k0, .ref k1, .ref k2, .int c3, .ref k4, .ref k5, .ref k6, .ref k7, .ref k8, .int c9, .ref ka, .ref kb, .int cc, .int cd, .int ce, .int cf, .int cg, .int ch, .int ci, .int cj, .int ck, .ref kl, .int cm, .int cn, .ref ko])), (k0, .inl (cI, 1201, .inl c0))] := hD
              rcases w_72 with ⟨hr_71, h_74, h_75, h_76⟩ | ⟨hr_71, h_77, h_78, h_79⟩ | ⟨hr_71, h_80, h_81, h_82⟩ | ⟨hr_71, h_83, h_84, h_85⟩ | ⟨hr_71, h_86, h_87, h_88⟩ | ⟨hr_71, h_89, h_90, h_91⟩ | ⟨hr_71, h_92, h_93, h_94⟩ | ⟨hr_71, h_95, h_96, h_97⟩ | ⟨hr_71, h_98, h_99, h_100⟩ | ⟨hr_71, h_101, h_102, h_103⟩ | ⟨hr_71, h_104, h_105, h_106⟩ | ⟨hr_71, h_107, h_108, h_109⟩ | ⟨hr_71, h_110, h_111, h_112⟩ | ⟨hr_71, h_113, h_114, h_115⟩ | ⟨hr_71, h_116, h_117⟩
              · have h_74 : l3_5.toInt = 0 := h_74
                have h_75 : a2.toInt = 0 := h_75
                have h_76 : (bKi l3_5 a2).toInt = 10 := h_76
                obtain rfl : r_71 = 10 := hr_71.trans (by decide)
                refine lv_istore (lv' := [(9, .int 10), (8, .int (-1)), (7, .int r_58), (6, .int r_52), (5, .int l3_5), (0, .ref k), (1, .int a0), (2, .int a1), (3, .int a2), (4, .int a3)]) hx hb dX11_speaks_51 hl (by decide) rfl ?_
                clear hl
                intro ls hl
                refine lv_aload_n hx hb dX11_speaks_53 rfl (lv_at hl 5 rfl) ?_
                refine lv_iload hx hb dX11_speaks_54 (lv_at hl 0 rfl) ?_
                refine kJv (wr := [(k0, .inl (cI, 1201, .inl c0))]) (va_runV (As := [.int 10]) (rest := []) ⟨hx, hb, hml, hown, hT⟩ (c_X11_ranG l D cI aK aV k k0 k1 k2 k4 k5 k6 k7 k8 ka kb kl ko H.size c3 c9 cc cd ce cf cg ch ci cj ck cm cn c8 10 (by first | omega | (simp only [zl_10]; first | done | omega) | decide | assumption | rfl) (by first | omega | (simp only [zl_10]; first | done | omega) | decide | assumption | rfl)) (cwV 1 hT (gV_in mw_1585 mw_1582 mw_1584 mw_p6_7 mw_12) rfl rfl rfl (by decide +kernel) ⟨(by dsimp only; omega), (by dsimp only; omega)⟩) (kRecvX (q0 := 1) (ci := 11) hK hP hD hN hXS hS hA rfl rfl [1, 0] rfl (by decide)) rfl rfl hl.1 rfl (lv_room (Nat.le_of_ble_eq_true rfl)) dX11_speaks_56 ⟨Nat.le_of_ble_eq_true rfl, Nat.le_of_ble_eq_true rfl⟩) hP hD hS hA [1, 0] [2] rfl rfl (by decide) (by decide) ?_
                clear hP hD hS
                intro u_122 H locs w_119 hP hD hS
                obtain ⟨sc9_120, sc8_121⟩ := u_122
                replace hP : va_P D vwCl [(k0, .inl (cI, 1201, .inl c0)), (k, .inr (11, [.ref k0, .ref k1, .ref k2, .int c3, .ref k4, .ref k5, .ref k6, .ref k7, .ref k8, .int sc9_120, .ref ka, .ref kb, .int cc, .int cd, .int ce, .int cf, .int cg, .int ch, .int ci, .int cj, .int ck, .ref kl, .int cm, .int cn, .ref ko])), (k8, .inl (cI, 40, .inl sc8_121))] H := hP
                replace hD : va_D A [(k0, .inl (cI, 1201, .inl c0)), (k, .inr (11, [.ref k0, .ref k1, .ref k2, .int c3, .ref k4, .ref k5, .ref k6, .ref k7, .ref k8, .int sc9_120, .ref ka, .ref kb, .int cc, .int cd, .int ce, .int cf, .int cg, .int ch, .int ci, .int cj, .int ck, .ref kl, .int cm, .int cn, .ref ko])), (k8, .inl (cI, 40, .inl sc8_121))] := hD
                have lo_sc9_120 := k_lo sc9_120
                have hi_sc9_120 := k_hi sc9_120
                obtain ⟨h_123, h_124, h_125, h_126⟩ := w_119
                try simp only [zl_10] at h_123
                have h_123 : 0 ≤ sc9_120.toInt := h_123
                try simp only [zl_10] at h_124
                have h_124 : sc9_120.toInt ≤ 40 := h_124
                try simp only [zl_10] at h_125
                have h_125 : sc9_120 = mSV c9 := h_125
                try simp only [zl_10] at h_126
                have h_126 : sc8_121 = gSV c9 c8 10 := h_126
                refine lv_iload hx hb dX11_speaks_59 (lv_at hl 0 rfl) ?_
                refine lv_tableIn (off := 219) (tgt := 280) hx hb dX11_speaks_61 (by decide) (by decide) (by decide) (by decide) ?_
                refine lv_iload hx hb dX11_speaks_280 (lv_at hl 9 rfl) ?_
                refine lv_iload_n hx hb dX11_speaks_282 rfl (lv_at hl 6 rfl) ?_
                refine lv_isub hx hb dX11_speaks_283 ?_
                refine lv_topi (fun v_127 ev_127 => ?_)
                have lo_v_127 := k_lo v_127
                have hi_v_127 := k_hi v_127
                exact hRet (sc9_120, sc8_121) [1, 0, 2] ⟨(by first | omega | decide | assumption | rfl | (dsimp only; first | omega)), (by first | omega | decide | assumption | rfl | (dsimp only; first | omega)), (vo_10 (b := 10) (m1 := sc9_120) (g1 := sc8_121) (by rw [← i3_3]; exact (bd_own (a := l3_5) (c := a2) (bd_bk h_76 (by decide)) (by decide)).symm) (by decide) h_125 h_126  ev_127)⟩ hP hD (by decide) rfl hS rfl dX11_speaks_284
              · exfalso; omega
              · exfalso; omega
              · exfalso; omega
              · exfalso; omega
              · exfalso; omega
              · exfalso; omega
              · exfalso; omega
              · exfalso; omega
              · exfalso; omega
              · exfalso; omega
              · exfalso; omega
              · exfalso; omega
              · exfalso; omega
              · exfalso; omega
            · exfalso; omega
            · exfalso; omega
            · exfalso; omega
            · exfalso; omega
          · have h_10 : l3_5.toInt = 0 := h_10
            have h_11 : a2.toInt = 1 := h_11
            have h_12 : (bKi l3_5 a2).toInt = 11 := h_12
            obtain rfl : r_4 = 11 := hr_4.trans (by decide)
            refine b_if_ne hx hb zl_11 (tgt := 22) dX11_speaks_9 (by decide) (fun c_128 => ?_) (fun c_128 => by exfalso; omega)
            refine lv_aload_n hx hb dX11_speaks_22 rfl (lv_at hl 1 rfl) ?_
            refine lv_iload_n hx hb dX11_speaks_23 rfl (lv_at hl 2 rfl) ?_
            refine lv_iconst (v := 0) hx hb dX11_speaks_24 (by decide) ?_
            refine kJi (wr := [(k8, .inl (cI, 40, .inl c8))]) (va_runV (As := [.int a0, .int 0]) (rest := []) ⟨hx, hb, hml, hown, hT⟩ (c_X11_workG0 l D cI aK aV k k0 k1 k2 k4 k5 k6 k7 k8 ka kb kl ko H.size c3 c9 cc cd ce cf cg ch ci cj ck cm cn c0 a0 0 (by first | omega | (simp only [zl_0]; first | done | omega) | decide | assumption | rfl) (by first | omega | (simp only [zl_0]; first | done | omega) | decide | assumption | rfl) (by first | omega | (simp only [zl_0]; first | done | omega) | decide | assumption | rfl)) (cwV 2 hT (gV_in mw_1276 mw_1273 mw_1275 mw_p3_12 mw_12) rfl rfl rfl (by decide +kernel) ⟨(by dsimp only; omega), (by dsimp only; omega)⟩) (kRecvX (q0 := 0) (ci := 11) hK hP hD hN hXS hS hA rfl rfl [0, 1] rfl (by decide)) rfl rfl hl.1 rfl (lv_room (Nat.le_of_ble_eq_true rfl)) dX11_speaks_25 ⟨Nat.le_of_ble_eq_true rfl, Nat.le_of_ble_eq_true rfl⟩) hP hD hS hA [0, 1] [2] rfl rfl (by decide) (by decide) ?_
            clear hP hD hS
            intro r_129 u_131 H locs w_130 hP hD hS
            replace hP : va_P D vwCl [(k8, .inl (cI, 40, .inl c8)), (k, .inr (11, [.ref k0, .ref k1, .ref k2, .int c3, .ref k4, .ref k5, .ref k6, .ref k7, .ref k8, .int c9, .ref ka, .ref kb, .int cc, .int cd, .int ce, .int cf, .int cg, .int ch, .int ci, .int cj, .int ck, .ref kl, .int cm, .int cn, .ref ko])), (k0, .inl (cI, 1201, .inl c0))] H := hP
            replace hD : va_D A [(k8, .inl (cI, 40, .inl c8)), (k, .inr (11, [.ref k0, .ref k1, .ref k2, .int c3, .ref k4, .ref k5, .ref k6, .ref k7, .ref k8, .int c9, .ref ka, .ref kb, .int cc, .int cd, .int ce, .int cf, .int cg, .int ch, .int ci, .int cj, .int ck, .ref kl, .int cm, .int cn, .ref ko])), (k0, .inl (cI, 1201, .inl c0))] := hD
            have h_132 := w_130
            have h_132 : r_129 = wW c0 a0 0 := h_132
            have t_133 : r_129.toInt = (wW c0 a0 0).toInt := by rw [h_132]
            have b_134 : 0 ≤ r_129.toInt ∧ r_129.toInt ≤ 5 := by rw [h_132]; exact SB.w0 pre0 (by omega) (by omega)
            have lo_r_129 := k_lo r_129
            have hi_r_129 := k_hi r_129
            refine lv_istore (lv' := [(6, .int r_129), (5, .int l3_5), (0, .ref k), (1, .int a0), (2, .int a1), (3, .int a2), (4, .int a3)]) hx hb dX11_speaks_28 hl (by decide) rfl ?_
            clear hl
            intro ls hl
            refine lv_aload_n hx hb dX11_speaks_30 rfl (lv_at hl 2 rfl) ?_
            refine lv_iload_n hx hb dX11_speaks_31 rfl (lv_at hl 3 rfl) ?_
            refine lv_iconst (v := 2) hx hb dX11_speaks_32 (by decide) ?_
            refine kJi (wr := [(k8, .inl (cI, 40, .inl c8))]) (va_runV (As := [.int a0, .int 2]) (rest := []) ⟨hx, hb, hml, hown, hT⟩ (c_X11_workG2 l D cI aK aV k k0 k1 k2 k4 k5 k6 k7 k8 ka kb kl ko H.size c3 c9 cc cd ce cf cg ch ci cj ck cm cn c0 a0 2 (by first | omega | (simp only [zl_2]; first | done | omega) | decide | assumption | rfl) (by first | omega | (simp only [zl_2]; first | done | omega) | decide | assumption | rfl) (by first | omega | (simp only [zl_2]; first | done | omega) | decide | assumption | rfl)) (cwV 2 hT (gV_in mw_1276 mw_1273 mw_1275 mw_p3_12 mw_12) rfl rfl rfl (by decide +kernel) ⟨(by dsimp only; omega), (by dsimp only; omega)⟩) (kRecvX (q0 := 1) (ci := 11) hK hP hD hN hXS hS hA rfl rfl [1, 2] rfl (by decide)) rfl rfl hl.1 rfl (lv_room (Nat.le_of_ble_eq_true rfl)) dX11_speaks_33 ⟨Nat.le_of_ble_eq_true rfl, Nat.le_of_ble_eq_true rfl⟩) hP hD hS hA [1, 2] [0] rfl rfl (by decide) (by decide) ?_
            clear hP hD hS
            intro r_135 u_137 H locs w_136 hP hD hS
            replace hP : va_P D vwCl [(k8, .inl (cI, 40, .inl c8)), (k, .inr (11, [.ref k0, .ref k1, .ref k2, .int c3, .ref k4, .ref k5, .ref k6, .ref k7, .ref k8, .int c9, .ref ka, .ref kb, .int cc, .int cd, .int ce, .int cf, .int cg, .int ch, .int ci, .int cj, .int ck, .ref kl, .int cm, .int cn, .ref ko])), (k0, .inl (cI, 1201, .inl c0))] H := hP
            replace hD : va_D A [(k8, .inl (cI, 40, .inl c8)), (k, .inr (11, [.ref k0, .ref k1, .ref k2, .int c3, .ref k4, .ref k5, .ref k6, .ref k7, .ref k8, .int c9, .ref ka, .ref kb, .int cc, .int cd, .int ce, .int cf, .int cg, .int ch, .int ci, .int cj, .int ck, .ref kl, .int cm, .int cn, .ref ko])), (k0, .inl (cI, 1201, .inl c0))] := hD
            have h_138 := w_136
            have h_138 : r_135 = wW c0 a0 2 := h_138
            have t_139 : r_135.toInt = (wW c0 a0 2).toInt := by rw [h_138]
            have lo_r_135 := k_lo r_135
            have hi_r_135 := k_hi r_135
            refine lv_istore (lv' := [(7, .int r_135), (6, .int r_129), (5, .int l3_5), (0, .ref k), (1, .int a0), (2, .int a1), (3, .int a2), (4, .int a3)]) hx hb dX11_speaks_36 hl (by decide) rfl ?_
            clear hl
            intro ls hl
            refine lv_iload hx hb dX11_speaks_38 (lv_at hl 2 rfl) ?_
            refine kJi (wr := [(k8, .inl (cI, 40, .inl c8)), (k, .inr (11, [.ref k0, .ref k1, .ref k2, .int c3, .ref k4, .ref k5, .ref k6, .ref k7, .ref k8, .int c9, .ref ka, .ref kb, .int cc, .int cd, .int ce, .int cf, .int cg, .int ch, .int ci, .int cj, .int ck, .ref kl, .int cm, .int cn, .ref ko])), (k0, .inl (cI, 1201, .inl c0))]) (va_runS (As := [.int l3_5]) (rest := []) ⟨hx, hb, hml, hown, hT⟩ (c_X11_parentG l D cI aK aV H.size l3_5 (by first | omega | decide | assumption | rfl) (by first | omega | decide | assumption | rfl)) (cwS 1 hT (gS_in mw_1282 mw_1280 mw_1281 mw_12) rfl rfl rfl (by decide +kernel) ⟨(by dsimp only; omega), (by dsimp only; omega)⟩) (kStatX hK hP hD hN hXS hS hA [] rfl (by decide)) rfl rfl hl.1 rfl (lv_room (Nat.le_of_ble_eq_true rfl)) dX11_speaks_40 ⟨Nat.le_of_ble_eq_true rfl, Nat.le_of_ble_eq_true rfl⟩) hP hD hS hA [] [0, 1, 2] rfl rfl (by decide) (by decide) ?_
            clear hP hD hS
            intro r_140 u_142 H locs w_141 hP hD hS
            replace hP : va_P D vwCl [(k8, .inl (cI, 40, .inl c8)), (k, .inr (11, [.ref k0, .ref k1, .ref k2, .int c3, .ref k4, .ref k5, .ref k6, .ref k7, .ref k8, .int c9, .ref ka, .ref kb, .int cc, .int cd, .int ce, .int cf, .int cg, .int ch, .int ci, .int cj, .int ck, .ref kl, .int cm, .int cn, .ref ko])), (k0, .inl (cI, 1201, .inl c0))] H := hP
            replace hD : va_D A [(k8, .inl (cI, 40, .inl c8)), (k, .inr (11, [.ref k0, .ref k1, .ref k2, .int c3, .ref k4, .ref k5, .ref k6, .ref k7, .ref k8, .int c9, .ref ka, .ref kb, .int cc, .int cd, .int ce, .int cf, .int cg, .int ch, .int ci, .int cj, .int ck, .ref kl, .int cm, .int cn, .ref ko])), (k0, .inl (cI, 1201, .inl c0))] := hD
            rcases w_141 with ⟨hr_140, h_143⟩ | ⟨hr_140, h_144⟩ | ⟨hr_140, h_145⟩ | ⟨hr_140, h_146⟩ | ⟨hr_140, h_147⟩
            · have h_143 : l3_5.toInt = 0 := h_143
              obtain rfl : r_140 = (-1) := hr_140.trans (by decide)
              refine lv_istore (lv' := [(8, .int (-1)), (7, .int r_135), (6, .int r_129), (5, .int l3_5), (0, .ref k), (1, .int a0), (2, .int a1), (3, .int a2), (4, .int a3)]) hx hb dX11_speaks_43 hl (by decide) rfl ?_
              clear hl
              intro ls hl
              refine lv_iload hx hb dX11_speaks_45 (lv_at hl 3 rfl) ?_
              refine lv_iload_n hx hb dX11_speaks_47 rfl (lv_at hl 7 rfl) ?_
              refine kJi (wr := [(k8, .inl (cI, 40, .inl c8)), (k, .inr (11, [.ref k0, .ref k1, .ref k2, .int c3, .ref k4, .ref k5, .ref k6, .ref k7, .ref k8, .int c9, .ref ka, .ref kb, .int cc, .int cd, .int ce, .int cf, .int cg, .int ch, .int ci, .int cj, .int ck, .ref kl, .int cm, .int cn, .ref ko])), (k0, .inl (cI, 1201, .inl c0))]) (va_runS (As := [.int l3_5, .int a2]) (rest := []) ⟨hx, hb, hml, hown, hT⟩ (c_X11_bodyOfG l D cI aK aV H.size l3_5 a2 (by first | omega | decide | assumption | rfl) (by first | omega | decide | assumption | rfl) (by first | omega | decide | assumption | rfl) (by first | omega | decide | assumption | rfl)) (cwS 2 hT (gS_in mw_1581 mw_1579 mw_1580 mw_12) rfl rfl rfl (by decide +kernel) ⟨(by dsimp only; omega), (by dsimp only; omega)⟩) (kStatX hK hP hD hN hXS hS hA [] rfl (by decide)) rfl rfl hl.1 rfl (lv_room (Nat.le_of_ble_eq_true rfl)) dX11_speaks_48 ⟨Nat.le_of_ble_eq_true rfl, Nat.le_of_ble_eq_true rfl⟩) hP hD hS hA [] [0, 1, 2] rfl rfl (by decide) (by decide) ?_
              clear hP hD hS
              intro r_148 u_150 H locs w_149 hP hD hS
              replace hP : va_P D vwCl [(k8, .inl (cI, 40, .inl c8)), (k, .inr (11, [.ref k0, .ref k1, .ref k2, .int c3, .ref k4, .ref k5, .ref k6, .ref k7, .ref k8, .int c9, .ref ka, .ref kb, .int cc, .int cd, .int ce, .int cf, .int cg, .int ch, .int ci, .int cj, .int ck, .ref kl, .int cm, .int cn, .ref ko])), (k0, .inl (cI, 1201, .inl c0))] H := hP
              replace hD : va_D A [(k8, .inl (cI, 40, .inl c8)), (k, .inr (11, [.ref k0, .ref k1, .ref k2, .int c3, .ref k4, .ref k5, .ref k6, .ref k7, .ref k8, .int c9, .ref ka, .ref kb, .int cc, .int cd, .int ce, .int cf, .int cg, .int ch, .int ci, .int cj, .int ck, .ref kl, .int cm, .int cn, .ref ko])), (k0, .inl (cI, 1201, .inl c0))] := hD
              rcases w_149 with ⟨hr_148, h_151, h_152, h_153⟩ | ⟨hr_148, h_154, h_155, h_156⟩ | ⟨hr_148, h_157, h_158, h_159⟩ | ⟨hr_148, h_160, h_161, h_162⟩ | ⟨hr_148, h_163, h_164, h_165⟩ | ⟨hr_148, h_166, h_167, h_168⟩ | ⟨hr_148, h_169, h_170, h_171⟩ | ⟨hr_148, h_172, h_173, h_174⟩ | ⟨hr_148, h_175, h_176, h_177⟩ | ⟨hr_148, h_178, h_179, h_180⟩ | ⟨hr_148, h_181, h_182, h_183⟩ | ⟨hr_148, h_184, h_185, h_186⟩ | ⟨hr_148, h_187, h_188, h_189⟩ | ⟨hr_148, h_190, h_191, h_192⟩ | ⟨hr_148, h_193, h_194⟩
              · exfalso; omega
              · have h_154 : l3_5.toInt = 0 := h_154
                have h_155 : a2.toInt = 1 := h_155
                have h_156 : (bKi l3_5 a2).toInt = 11 := h_156
                obtain rfl : r_148 = 11 := hr_148.trans (by decide)
                refine lv_istore (lv' := [(9, .int 11), (8, .int (-1)), (7, .int r_135), (6, .int r_129), (5, .int l3_5), (0, .ref k), (1, .int a0), (2, .int a1), (3, .int a2), (4, .int a3)]) hx hb dX11_speaks_51 hl (by decide) rfl ?_
                clear hl
                intro ls hl
                refine lv_aload_n hx hb dX11_speaks_53 rfl (lv_at hl 5 rfl) ?_
                refine lv_iload hx hb dX11_speaks_54 (lv_at hl 0 rfl) ?_
                refine kJv (wr := [(k0, .inl (cI, 1201, .inl c0))]) (va_runV (As := [.int 11]) (rest := []) ⟨hx, hb, hml, hown, hT⟩ (c_X11_ranG l D cI aK aV k k0 k1 k2 k4 k5 k6 k7 k8 ka kb kl ko H.size c3 c9 cc cd ce cf cg ch ci cj ck cm cn c8 11 (by first | omega | (simp only [zl_11]; first | done | omega) | decide | assumption | rfl) (by first | omega | (simp only [zl_11]; first | done | omega) | decide | assumption | rfl)) (cwV 1 hT (gV_in mw_1585 mw_1582 mw_1584 mw_p6_7 mw_12) rfl rfl rfl (by decide +kernel) ⟨(by dsimp only; omega), (by dsimp only; omega)⟩) (kRecvX (q0 := 1) (ci := 11) hK hP hD hN hXS hS hA rfl rfl [1, 0] rfl (by decide)) rfl rfl hl.1 rfl (lv_room (Nat.le_of_ble_eq_true rfl)) dX11_speaks_56 ⟨Nat.le_of_ble_eq_true rfl, Nat.le_of_ble_eq_true rfl⟩) hP hD hS hA [1, 0] [2] rfl rfl (by decide) (by decide) ?_
                clear hP hD hS
                intro u_199 H locs w_196 hP hD hS
                obtain ⟨sc9_197, sc8_198⟩ := u_199
                replace hP : va_P D vwCl [(k0, .inl (cI, 1201, .inl c0)), (k, .inr (11, [.ref k0, .ref k1, .ref k2, .int c3, .ref k4, .ref k5, .ref k6, .ref k7, .ref k8, .int sc9_197, .ref ka, .ref kb, .int cc, .int cd, .int ce, .int cf, .int cg, .int ch, .int ci, .int cj, .int ck, .ref kl, .int cm, .int cn, .ref ko])), (k8, .inl (cI, 40, .inl sc8_198))] H := hP
                replace hD : va_D A [(k0, .inl (cI, 1201, .inl c0)), (k, .inr (11, [.ref k0, .ref k1, .ref k2, .int c3, .ref k4, .ref k5, .ref k6, .ref k7, .ref k8, .int sc9_197, .ref ka, .ref kb, .int cc, .int cd, .int ce, .int cf, .int cg, .int ch, .int ci, .int cj, .int ck, .ref kl, .int cm, .int cn, .ref ko])), (k8, .inl (cI, 40, .inl sc8_198))] := hD
                have lo_sc9_197 := k_lo sc9_197
                have hi_sc9_197 := k_hi sc9_197
                obtain ⟨h_200, h_201, h_202, h_203⟩ := w_196
                try simp only [zl_11] at h_200
                have h_200 : 0 ≤ sc9_197.toInt := h_200
                try simp only [zl_11] at h_201
                have h_201 : sc9_197.toInt ≤ 40 := h_201
                try simp only [zl_11] at h_202
                have h_202 : sc9_197 = mSV c9 := h_202
                try simp only [zl_11] at h_203
                have h_203 : sc8_198 = gSV c9 c8 11 := h_203
                refine lv_iload hx hb dX11_speaks_59 (lv_at hl 0 rfl) ?_
                refine lv_tableIn (off := 224) (tgt := 285) hx hb dX11_speaks_61 (by decide) (by decide) (by decide) (by decide) ?_
                refine lv_aload_n hx hb dX11_speaks_285 rfl (lv_at hl 5 rfl) ?_
                refine lv_iload_n hx hb dX11_speaks_286 rfl (lv_at hl 6 rfl) ?_
                refine lv_iload hx hb dX11_speaks_287 (lv_at hl 3 rfl) ?_
                refine lv_iconst (v := 0) hx hb dX11_speaks_289 (by decide) ?_
                refine lv_iload hx hb dX11_speaks_290 (lv_at hl 9 rfl) ?_
                refine kJi (wr := []) (va_runV (As := [.int a0, .int r_129, .int 0, .int a3]) (rest := []) ⟨hx, hb, hml, hown, hT⟩ (ih l D cI aK aV k k0 k1 k2 k4 k5 k6 k7 k8 ka kb kl ko H.size c3 sc9_197 cc cd ce cf cg ch ci cj ck cm cn c0 sc8_198 a0 r_129 0 a3 pre0 (by first | omega | (simp only [zl_0]; first | done | omega) | decide | assumption | rfl) (by first | omega | (simp only [zl_0]; first | done | omega) | decide | assumption | rfl) (by first | omega | (simp only [zl_0]; first | done | omega) | decide | assumption | rfl) (by first | omega | (simp only [zl_0]; first | done | omega) | decide | assumption | rfl) (by first | omega | (simp only [zl_0]; first | done | omega) | decide | assumption | rfl) (by first | omega | (simp only [zl_0]; first | done | omega) | decide | assumption | rfl) (by first | omega | (simp only [zl_0]; first | done | omega) | decide | assumption | rfl) (by first | omega | (simp only [zl_0]; first | done | omega) | decide | assumption | rfl) (by first | omega | (simp only [zl_0]; first | done | omega) | decide | assumption | rfl)) (cwV 4 hT (gV_in mw_1578 mw_1575 mw_1577 mw_p6_6 mw_12) rfl rfl rfl (by decide +kernel) ⟨(by dsimp only; omega), (by dsimp only; omega)⟩) (kRecvX (q0 := 1) (ci := 11) hK hP hD hN hXS hS hA rfl rfl [1, 0, 2] rfl (by decide)) rfl rfl hl.1 rfl (lv_room (Nat.le_of_ble_eq_true rfl)) dX11_speaks_292 ⟨Nat.le_of_ble_eq_true rfl, Nat.le_of_ble_eq_true rfl⟩) hP hD hS hA [1, 0, 2] [] rfl rfl (by decide) (by decide) ?_
                clear hP hD hS
                intro r_204 u_208 H locs w_205 hP hD hS
                obtain ⟨sc9_206, sc8_207⟩ := u_208
                replace hP : va_P D vwCl [(k, .inr (11, [.ref k0, .ref k1, .ref k2, .int c3, .ref k4, .ref k5, .ref k6, .ref k7, .ref k8, .int sc9_206, .ref ka, .ref kb, .int cc, .int cd, .int ce, .int cf, .int cg, .int ch, .int ci, .int cj, .int ck, .ref kl, .int cm, .int cn, .ref ko])), (k0, .inl (cI, 1201, .inl c0)), (k8, .inl (cI, 40, .inl sc8_207))] H := hP
                replace hD : va_D A [(k, .inr (11, [.ref k0, .ref k1, .ref k2, .int c3, .ref k4, .ref k5, .ref k6, .ref k7, .ref k8, .int sc9_206, .ref ka, .ref kb, .int cc, .int cd, .int ce, .int cf, .int cg, .int ch, .int ci, .int cj, .int ck, .ref kl, .int cm, .int cn, .ref ko])), (k0, .inl (cI, 1201, .inl c0)), (k8, .inl (cI, 40, .inl sc8_207))] := hD
                have lo_sc9_206 := k_lo sc9_206
                have hi_sc9_206 := k_hi sc9_206
                obtain ⟨h_209, h_210, h_211⟩ := w_205
                try simp only [zl_0] at h_209
                have h_209 : 0 ≤ sc9_206.toInt := h_209
                try simp only [zl_0] at h_210
                have h_210 : sc9_206.toInt ≤ 40 := h_210
                try simp only [zl_0] at h_211
                have h_211 : voB a0 (wW c0 a0 2) (wW c0 a0 0) dd r_129 0 a3 sc9_197 sc8_198 = (r_204, sc9_206, sc8_207) := h_211
                have lo_r_204 := k_lo r_204
                have hi_r_204 := k_hi r_204
                refine lv_iload hx hb dX11_speaks_295 (lv_at hl 2 rfl) ?_
                refine lv_iadd hx hb dX11_speaks_297 ?_
                refine lv_topi (fun v_212 ev_212 => ?_)
                have lo_v_212 := k_lo v_212
                have hi_v_212 := k_hi v_212
                exact hRet (sc9_206, sc8_207) [0, 1, 2] ⟨(by first | omega | decide | assumption | rfl | (dsimp only; first | omega)), (by first | omega | decide | assumption | rfl | (dsimp only; first | omega)), (vo_11 (b := 11) (m1 := sc9_197) (g1 := sc8_198) (by rw [← i3_3]; exact (bd_own (a := l3_5) (c := a2) (bd_bk h_156 (by decide)) (by decide)).symm) (by decide) h_202 h_203 (by have z := h_211; rw [h_132] at z; exact z) (by rw [ev_212, h_138]))⟩ hP hD (by decide) rfl hS rfl dX11_speaks_298
              · exfalso; omega
              · exfalso; omega
              · exfalso; omega
              · exfalso; omega
              · exfalso; omega
              · exfalso; omega
              · exfalso; omega
              · exfalso; omega
              · exfalso; omega
              · exfalso; omega
              · exfalso; omega
              · exfalso; omega
              · exfalso; omega
            · exfalso; omega
            · exfalso; omega
            · exfalso; omega
            · exfalso; omega
          · have h_13 : l3_5.toInt = 0 := h_13
            have h_14 : a2.toInt = 2 := h_14
            have h_15 : (bKi l3_5 a2).toInt = 12 := h_15
            obtain rfl : r_4 = 12 := hr_4.trans (by decide)
            refine b_if_ne hx hb zl_12 (tgt := 22) dX11_speaks_9 (by decide) (fun c_213 => ?_) (fun c_213 => by exfalso; omega)
            refine lv_aload_n hx hb dX11_speaks_22 rfl (lv_at hl 1 rfl) ?_
            refine lv_iload_n hx hb dX11_speaks_23 rfl (lv_at hl 2 rfl) ?_
            refine lv_iconst (v := 0) hx hb dX11_speaks_24 (by decide) ?_
            refine kJi (wr := [(k8, .inl (cI, 40, .inl c8))]) (va_runV (As := [.int a0, .int 0]) (rest := []) ⟨hx, hb, hml, hown, hT⟩ (c_X11_workG0 l D cI aK aV k k0 k1 k2 k4 k5 k6 k7 k8 ka kb kl ko H.size c3 c9 cc cd ce cf cg ch ci cj ck cm cn c0 a0 0 (by first | omega | (simp only [zl_0]; first | done | omega) | decide | assumption | rfl) (by first | omega | (simp only [zl_0]; first | done | omega) | decide | assumption | rfl) (by first | omega | (simp only [zl_0]; first | done | omega) | decide | assumption | rfl)) (cwV 2 hT (gV_in mw_1276 mw_1273 mw_1275 mw_p3_12 mw_12) rfl rfl rfl (by decide +kernel) ⟨(by dsimp only; omega), (by dsimp only; omega)⟩) (kRecvX (q0 := 0) (ci := 11) hK hP hD hN hXS hS hA rfl rfl [0, 1] rfl (by decide)) rfl rfl hl.1 rfl (lv_room (Nat.le_of_ble_eq_true rfl)) dX11_speaks_25 ⟨Nat.le_of_ble_eq_true rfl, Nat.le_of_ble_eq_true rfl⟩) hP hD hS hA [0, 1] [2] rfl rfl (by decide) (by decide) ?_
            clear hP hD hS
            intro r_214 u_216 H locs w_215 hP hD hS
            replace hP : va_P D vwCl [(k8, .inl (cI, 40, .inl c8)), (k, .inr (11, [.ref k0, .ref k1, .ref k2, .int c3, .ref k4, .ref k5, .ref k6, .ref k7, .ref k8, .int c9, .ref ka, .ref kb, .int cc, .int cd, .int ce, .int cf, .int cg, .int ch, .int ci, .int cj, .int ck, .ref kl, .int cm, .int cn, .ref ko])), (k0, .inl (cI, 1201, .inl c0))] H := hP
            replace hD : va_D A [(k8, .inl (cI, 40, .inl c8)), (k, .inr (11, [.ref k0, .ref k1, .ref k2, .int c3, .ref k4, .ref k5, .ref k6, .ref k7, .ref k8, .int c9, .ref ka, .ref kb, .int cc, .int cd, .int ce, .int cf, .int cg, .int ch, .int ci, .int cj, .int ck, .ref kl, .int cm, .int cn, .ref ko])), (k0, .inl (cI, 1201, .inl c0))] := hD
            have h_217 := w_215
            have h_217 : r_214 = wW c0 a0 0 := h_217
            have t_218 : r_214.toInt = (wW c0 a0 0).toInt := by rw [h_217]
            have b_219 : 0 ≤ r_214.toInt ∧ r_214.toInt ≤ 5 := by rw [h_217]; exact SB.w0 pre0 (by omega) (by omega)
            have lo_r_214 := k_lo r_214
            have hi_r_214 := k_hi r_214
            refine lv_istore (lv' := [(6, .int r_214), (5, .int l3_5), (0, .ref k), (1, .int a0), (2, .int a1), (3, .int a2), (4, .int a3)]) hx hb dX11_speaks_28 hl (by decide) rfl ?_
            clear hl
            intro ls hl
            refine lv_aload_n hx hb dX11_speaks_30 rfl (lv_at hl 2 rfl) ?_
            refine lv_iload_n hx hb dX11_speaks_31 rfl (lv_at hl 3 rfl) ?_
            refine lv_iconst (v := 2) hx hb dX11_speaks_32 (by decide) ?_
            refine kJi (wr := [(k8, .inl (cI, 40, .inl c8))]) (va_runV (As := [.int a0, .int 2]) (rest := []) ⟨hx, hb, hml, hown, hT⟩ (c_X11_workG2 l D cI aK aV k k0 k1 k2 k4 k5 k6 k7 k8 ka kb kl ko H.size c3 c9 cc cd ce cf cg ch ci cj ck cm cn c0 a0 2 (by first | omega | (simp only [zl_2]; first | done | omega) | decide | assumption | rfl) (by first | omega | (simp only [zl_2]; first | done | omega) | decide | assumption | rfl) (by first | omega | (simp only [zl_2]; first | done | omega) | decide | assumption | rfl)) (cwV 2 hT (gV_in mw_1276 mw_1273 mw_1275 mw_p3_12 mw_12) rfl rfl rfl (by decide +kernel) ⟨(by dsimp only; omega), (by dsimp only; omega)⟩) (kRecvX (q0 := 1) (ci := 11) hK hP hD hN hXS hS hA rfl rfl [1, 2] rfl (by decide)) rfl rfl hl.1 rfl (lv_room (Nat.le_of_ble_eq_true rfl)) dX11_speaks_33 ⟨Nat.le_of_ble_eq_true rfl, Nat.le_of_ble_eq_true rfl⟩) hP hD hS hA [1, 2] [0] rfl rfl (by decide) (by decide) ?_
            clear hP hD hS
            intro r_220 u_222 H locs w_221 hP hD hS
            replace hP : va_P D vwCl [(k8, .inl (cI, 40, .inl c8)), (k, .inr (11, [.ref k0, .ref k1, .ref k2, .int c3, .ref k4, .ref k5, .ref k6, .ref k7, .ref k8, .int c9, .ref ka, .ref kb, .int cc, .int cd, .int ce, .int cf, .int cg, .int ch, .int ci, .int cj, .int ck, .ref kl, .int cm, .int cn, .ref ko])), (k0, .inl (cI, 1201, .inl c0))] H := hP
            replace hD : va_D A [(k8, .inl (cI, 40, .inl c8)), (k, .inr (11, [.ref k0, .ref k1, .ref k2, .int c3, .ref k4, .ref k5, .ref k6, .ref k7, .ref k8, .int c9, .ref ka, .ref kb, .int cc, .int cd, .int ce, .int cf, .int cg, .int ch, .int ci, .int cj, .int ck, .ref kl, .int cm, .int cn, .ref ko])), (k0, .inl (cI, 1201, .inl c0))] := hD
            have h_223 := w_221
            have h_223 : r_220 = wW c0 a0 2 := h_223
            have t_224 : r_220.toInt = (wW c0 a0 2).toInt := by rw [h_223]
            have lo_r_220 := k_lo r_220
            have hi_r_220 := k_hi r_220
            refine lv_istore (lv' := [(7, .int r_220), (6, .int r_214), (5, .int l3_5), (0, .ref k), (1, .int a0), (2, .int a1), (3, .int a2), (4, .int a3)]) hx hb dX11_speaks_36 hl (by decide) rfl ?_
            clear hl
            intro ls hl
            refine lv_iload hx hb dX11_speaks_38 (lv_at hl 2 rfl) ?_
            refine kJi (wr := [(k8, .inl (cI, 40, .inl c8)), (k, .inr (11, [.ref k0, .ref k1, .ref k2, .int c3, .ref k4, .ref k5, .ref k6, .ref k7, .ref k8, .int c9, .ref ka, .ref kb, .int cc, .int cd, .int ce, .int cf, .int cg, .int ch, .int ci, .int cj, .int ck, .ref kl, .int cm, .int cn, .ref ko])), (k0, .inl (cI, 1201, .inl c0))]) (va_runS (As := [.int l3_5]) (rest := []) ⟨hx, hb, hml, hown, hT⟩ (c_X11_parentG l D cI aK aV H.size l3_5 (by first | omega | decide | assumption | rfl) (by first | omega | decide | assumption | rfl)) (cwS 1 hT (gS_in mw_1282 mw_1280 mw_1281 mw_12) rfl rfl rfl (by decide +kernel) ⟨(by dsimp only; omega), (by dsimp only; omega)⟩) (kStatX hK hP hD hN hXS hS hA [] rfl (by decide)) rfl rfl hl.1 rfl (lv_room (Nat.le_of_ble_eq_true rfl)) dX11_speaks_40 ⟨Nat.le_of_ble_eq_true rfl, Nat.le_of_ble_eq_true rfl⟩) hP hD hS hA [] [0, 1, 2] rfl rfl (by decide) (by decide) ?_
            clear hP hD hS
            intro r_225 u_227 H locs w_226 hP hD hS
            replace hP : va_P D vwCl [(k8, .inl (cI, 40, .inl c8)), (k, .inr (11, [.ref k0, .ref k1, .ref k2, .int c3, .ref k4, .ref k5, .ref k6, .ref k7, .ref k8, .int c9, .ref ka, .ref kb, .int cc, .int cd, .int ce, .int cf, .int cg, .int ch, .int ci, .int cj, .int ck, .ref kl, .int cm, .int cn, .ref ko])), (k0, .inl (cI, 1201, .inl c0))] H := hP
            replace hD : va_D A [(k8, .inl (cI, 40, .inl c8)), (k, .inr (11, [.ref k0, .ref k1, .ref k2, .int c3, .ref k4, .ref k5, .ref k6, .ref k7, .ref k8, .int c9, .ref ka, .ref kb, .int cc, .int cd, .int ce, .int cf, .int cg, .int ch, .int ci, .int cj, .int ck, .ref kl, .int cm, .int cn, .ref ko])), (k0, .inl (cI, 1201, .inl c0))] := hD
            rcases w_226 with ⟨hr_225, h_228⟩ | ⟨hr_225, h_229⟩ | ⟨hr_225, h_230⟩ | ⟨hr_225, h_231⟩ | ⟨hr_225, h_232⟩
            · have h_228 : l3_5.toInt = 0 := h_228
              obtain rfl : r_225 = (-1) := hr_225.trans (by decide)
              refine lv_istore (lv' := [(8, .int (-1)), (7, .int r_220), (6, .int r_214), (5, .int l3_5), (0, .ref k), (1, .int a0), (2, .int a1), (3, .int a2), (4, .int a3)]) hx hb dX11_speaks_43 hl (by decide) rfl ?_
              clear hl
              intro ls hl
              refine lv_iload hx hb dX11_speaks_45 (lv_at hl 3 rfl) ?_
              refine lv_iload_n hx hb dX11_speaks_47 rfl (lv_at hl 7 rfl) ?_
              refine kJi (wr := [(k8, .inl (cI, 40, .inl c8)), (k, .inr (11, [.ref k0, .ref k1, .ref k2, .int c3, .ref k4, .ref k5, .ref k6, .ref k7, .ref k8, .int c9, .ref ka, .ref kb, .int cc, .int cd, .int ce, .int cf, .int cg, .int ch, .int ci, .int cj, .int ck, .ref kl, .int cm, .int cn, .ref ko])), (k0, .inl (cI, 1201, .inl c0))]) (va_runS (As := [.int l3_5, .int a2]) (rest := []) ⟨hx, hb, hml, hown, hT⟩ (c_X11_bodyOfG l D cI aK aV H.size l3_5 a2 (by first | omega | decide | assumption | rfl) (by first | omega | decide | assumption | rfl) (by first | omega | decide | assumption | rfl) (by first | omega | decide | assumption | rfl)) (cwS 2 hT (gS_in mw_1581 mw_1579 mw_1580 mw_12) rfl rfl rfl (by decide +kernel) ⟨(by dsimp only; omega), (by dsimp only; omega)⟩) (kStatX hK hP hD hN hXS hS hA [] rfl (by decide)) rfl rfl hl.1 rfl (lv_room (Nat.le_of_ble_eq_true rfl)) dX11_speaks_48 ⟨Nat.le_of_ble_eq_true rfl, Nat.le_of_ble_eq_true rfl⟩) hP hD hS hA [] [0, 1, 2] rfl rfl (by decide) (by decide) ?_
              clear hP hD hS
              intro r_233 u_235 H locs w_234 hP hD hS
              replace hP : va_P D vwCl [(k8, .inl (cI, 40, .inl c8)), (k, .inr (11, [.ref k0, .ref k1, .ref k2, .int c3, .ref k4, .ref k5, .ref k6, .ref k7, .ref k8, .int c9, .ref ka, .ref kb, .int cc, .int cd, .int ce, .int cf, .int cg, .int ch, .int ci, .int cj, .int ck, .ref kl, .int cm, .int cn, .ref ko])), (k0, .inl (cI, 1201, .inl c0))] H := hP
              replace hD : va_D A [(k8, .inl (cI, 40, .inl c8)), (k, .inr (11, [.ref k0, .ref k1, .ref k2, .int c3, .ref k4, .ref k5, .ref k6, .ref k7, .ref k8, .int c9, .ref ka, .ref kb, .int cc, .int cd, .int ce, .int cf, .int cg, .int ch, .int ci, .int cj, .int ck, .ref kl, .int cm, .int cn, .ref ko])), (k0, .inl (cI, 1201, .inl c0))] := hD
              rcases w_234 with ⟨hr_233, h_236, h_237, h_238⟩ | ⟨hr_233, h_239, h_240, h_241⟩ | ⟨hr_233, h_242, h_243, h_244⟩ | ⟨hr_233, h_245, h_246, h_247⟩ | ⟨hr_233, h_248, h_249, h_250⟩ | ⟨hr_233, h_251, h_252, h_253⟩ | ⟨hr_233, h_254, h_255, h_256⟩ | ⟨hr_233, h_257, h_258, h_259⟩ | ⟨hr_233, h_260, h_261, h_262⟩ | ⟨hr_233, h_263, h_264, h_265⟩ | ⟨hr_233, h_266, h_267, h_268⟩ | ⟨hr_233, h_269, h_270, h_271⟩ | ⟨hr_233, h_272, h_273, h_274⟩ | ⟨hr_233, h_275, h_276, h_277⟩ | ⟨hr_233, h_278, h_279⟩
              · exfalso; omega
              · exfalso; omega
              · have h_242 : l3_5.toInt = 0 := h_242
                have h_243 : a2.toInt = 2 := h_243
                have h_244 : (bKi l3_5 a2).toInt = 12 := h_244
                obtain rfl : r_233 = 12 := hr_233.trans (by decide)
                refine lv_istore (lv' := [(9, .int 12), (8, .int (-1)), (7, .int r_220), (6, .int r_214), (5, .int l3_5), (0, .ref k), (1, .int a0), (2, .int a1), (3, .int a2), (4, .int a3)]) hx hb dX11_speaks_51 hl (by decide) rfl ?_
                clear hl
                intro ls hl
                refine lv_aload_n hx hb dX11_speaks_53 rfl (lv_at hl 5 rfl) ?_
                refine lv_iload hx hb dX11_speaks_54 (lv_at hl 0 rfl) ?_
                refine kJv (wr := [(k0, .inl (cI, 1201, .inl c0))]) (va_runV (As := [.int 12]) (rest := []) ⟨hx, hb, hml, hown, hT⟩ (c_X11_ranG l D cI aK aV k k0 k1 k2 k4 k5 k6 k7 k8 ka kb kl ko H.size c3 c9 cc cd ce cf cg ch ci cj ck cm cn c8 12 (by first | omega | (simp only [zl_12]; first | done | omega) | decide | assumption | rfl) (by first | omega | (simp only [zl_12]; first | done | omega) | decide | assumption | rfl)) (cwV 1 hT (gV_in mw_1585 mw_1582 mw_1584 mw_p6_7 mw_12) rfl rfl rfl (by decide +kernel) ⟨(by dsimp only; omega), (by dsimp only; omega)⟩) (kRecvX (q0 := 1) (ci := 11) hK hP hD hN hXS hS hA rfl rfl [1, 0] rfl (by decide)) rfl rfl hl.1 rfl (lv_room (Nat.le_of_ble_eq_true rfl)) dX11_speaks_56 ⟨Nat.le_of_ble_eq_true rfl, Nat.le_of_ble_eq_true rfl⟩) hP hD hS hA [1, 0] [2] rfl rfl (by decide) (by decide) ?_
                clear hP hD hS
                intro u_284 H locs w_281 hP hD hS
                obtain ⟨sc9_282, sc8_283⟩ := u_284
                replace hP : va_P D vwCl [(k0, .inl (cI, 1201, .inl c0)), (k, .inr (11, [.ref k0, .ref k1, .ref k2, .int c3, .ref k4, .ref k5, .ref k6, .ref k7, .ref k8, .int sc9_282, .ref ka, .ref kb, .int cc, .int cd, .int ce, .int cf, .int cg, .int ch, .int ci, .int cj, .int ck, .ref kl, .int cm, .int cn, .ref ko])), (k8, .inl (cI, 40, .inl sc8_283))] H := hP
                replace hD : va_D A [(k0, .inl (cI, 1201, .inl c0)), (k, .inr (11, [.ref k0, .ref k1, .ref k2, .int c3, .ref k4, .ref k5, .ref k6, .ref k7, .ref k8, .int sc9_282, .ref ka, .ref kb, .int cc, .int cd, .int ce, .int cf, .int cg, .int ch, .int ci, .int cj, .int ck, .ref kl, .int cm, .int cn, .ref ko])), (k8, .inl (cI, 40, .inl sc8_283))] := hD
                have lo_sc9_282 := k_lo sc9_282
                have hi_sc9_282 := k_hi sc9_282
                obtain ⟨h_285, h_286, h_287, h_288⟩ := w_281
                try simp only [zl_12] at h_285
                have h_285 : 0 ≤ sc9_282.toInt := h_285
                try simp only [zl_12] at h_286
                have h_286 : sc9_282.toInt ≤ 40 := h_286
                try simp only [zl_12] at h_287
                have h_287 : sc9_282 = mSV c9 := h_287
                try simp only [zl_12] at h_288
                have h_288 : sc8_283 = gSV c9 c8 12 := h_288
                refine lv_iload hx hb dX11_speaks_59 (lv_at hl 0 rfl) ?_
                refine lv_tableIn (off := 238) (tgt := 299) hx hb dX11_speaks_61 (by decide) (by decide) (by decide) (by decide) ?_
                refine lv_aload_n hx hb dX11_speaks_299 rfl (lv_at hl 5 rfl) ?_
                refine lv_iload_n hx hb dX11_speaks_300 rfl (lv_at hl 6 rfl) ?_
                refine lv_iload hx hb dX11_speaks_301 (lv_at hl 3 rfl) ?_
                refine lv_iconst (v := 1) hx hb dX11_speaks_303 (by decide) ?_
                refine lv_iload hx hb dX11_speaks_304 (lv_at hl 9 rfl) ?_
                refine kJi (wr := []) (va_runV (As := [.int a0, .int r_214, .int 1, .int a3]) (rest := []) ⟨hx, hb, hml, hown, hT⟩ (ih l D cI aK aV k k0 k1 k2 k4 k5 k6 k7 k8 ka kb kl ko H.size c3 sc9_282 cc cd ce cf cg ch ci cj ck cm cn c0 sc8_283 a0 r_214 1 a3 pre0 (by first | omega | (simp only [zl_1]; first | done | omega) | decide | assumption | rfl) (by first | omega | (simp only [zl_1]; first | done | omega) | decide | assumption | rfl) (by first | omega | (simp only [zl_1]; first | done | omega) | decide | assumption | rfl) (by first | omega | (simp only [zl_1]; first | done | omega) | decide | assumption | rfl) (by first | omega | (simp only [zl_1]; first | done | omega) | decide | assumption | rfl) (by first | omega | (simp only [zl_1]; first | done | omega) | decide | assumption | rfl) (by first | omega | (simp only [zl_1]; first | done | omega) | decide | assumption | rfl) (by first | omega | (simp only [zl_1]; first | done | omega) | decide | assumption | rfl) (by first | omega | (simp only [zl_1]; first | done | omega) | decide | assumption | rfl)) (cwV 4 hT (gV_in mw_1578 mw_1575 mw_1577 mw_p6_6 mw_12) rfl rfl rfl (by decide +kernel) ⟨(by dsimp only; omega), (by dsimp only; omega)⟩) (kRecvX (q0 := 1) (ci := 11) hK hP hD hN hXS hS hA rfl rfl [1, 0, 2] rfl (by decide)) rfl rfl hl.1 rfl (lv_room (Nat.le_of_ble_eq_true rfl)) dX11_speaks_306 ⟨Nat.le_of_ble_eq_true rfl, Nat.le_of_ble_eq_true rfl⟩) hP hD hS hA [1, 0, 2] [] rfl rfl (by decide) (by decide) ?_
                clear hP hD hS
                intro r_289 u_293 H locs w_290 hP hD hS
                obtain ⟨sc9_291, sc8_292⟩ := u_293
                replace hP : va_P D vwCl [(k, .inr (11, [.ref k0, .ref k1, .ref k2, .int c3, .ref k4, .ref k5, .ref k6, .ref k7, .ref k8, .int sc9_291, .ref ka, .ref kb, .int cc, .int cd, .int ce, .int cf, .int cg, .int ch, .int ci, .int cj, .int ck, .ref kl, .int cm, .int cn, .ref ko])), (k0, .inl (cI, 1201, .inl c0)), (k8, .inl (cI, 40, .inl sc8_292))] H := hP
                replace hD : va_D A [(k, .inr (11, [.ref k0, .ref k1, .ref k2, .int c3, .ref k4, .ref k5, .ref k6, .ref k7, .ref k8, .int sc9_291, .ref ka, .ref kb, .int cc, .int cd, .int ce, .int cf, .int cg, .int ch, .int ci, .int cj, .int ck, .ref kl, .int cm, .int cn, .ref ko])), (k0, .inl (cI, 1201, .inl c0)), (k8, .inl (cI, 40, .inl sc8_292))] := hD
                have lo_sc9_291 := k_lo sc9_291
                have hi_sc9_291 := k_hi sc9_291
                obtain ⟨h_294, h_295, h_296⟩ := w_290
                try simp only [zl_1] at h_294
                have h_294 : 0 ≤ sc9_291.toInt := h_294
                try simp only [zl_1] at h_295
                have h_295 : sc9_291.toInt ≤ 40 := h_295
                try simp only [zl_1] at h_296
                have h_296 : voB a0 (wW c0 a0 2) (wW c0 a0 0) dd r_214 1 a3 sc9_282 sc8_283 = (r_289, sc9_291, sc8_292) := h_296
                have lo_r_289 := k_lo r_289
                have hi_r_289 := k_hi r_289
                refine lv_iconst (v := 2) hx hb dX11_speaks_309 (by decide) ?_
                refine lv_imul hx hb dX11_speaks_310 ?_
                refine lv_topi (fun v_297 ev_297 => ?_)
                have lo_v_297 := k_lo v_297
                have hi_v_297 := k_hi v_297
                exact hRet (sc9_291, sc8_292) [0, 1, 2] ⟨(by first | omega | decide | assumption | rfl | (dsimp only; first | omega)), (by first | omega | decide | assumption | rfl | (dsimp only; first | omega)), (vo_12 (b := 12) (m1 := sc9_282) (g1 := sc8_283) (by rw [← i3_3]; exact (bd_own (a := l3_5) (c := a2) (bd_bk h_244 (by decide)) (by decide)).symm) (by decide) h_287 h_288 (by have z := h_296; rw [h_217] at z; exact z) ev_297)⟩ hP hD (by decide) rfl hS rfl dX11_speaks_311
              · exfalso; omega
              · exfalso; omega
              · exfalso; omega
              · exfalso; omega
              · exfalso; omega
              · exfalso; omega
              · exfalso; omega
              · exfalso; omega
              · exfalso; omega
              · exfalso; omega
              · exfalso; omega
              · exfalso; omega
            · exfalso; omega
            · exfalso; omega
            · exfalso; omega
            · exfalso; omega
          · have h_16 : l3_5.toInt = 0 := h_16
            have h_17 : a2.toInt = 3 := h_17
            have h_18 : (bKi l3_5 a2).toInt = 13 := h_18
            obtain rfl : r_4 = 13 := hr_4.trans (by decide)
            refine b_if_ne hx hb zl_13 (tgt := 22) dX11_speaks_9 (by decide) (fun c_298 => ?_) (fun c_298 => by exfalso; omega)
            refine lv_aload_n hx hb dX11_speaks_22 rfl (lv_at hl 1 rfl) ?_
            refine lv_iload_n hx hb dX11_speaks_23 rfl (lv_at hl 2 rfl) ?_
            refine lv_iconst (v := 0) hx hb dX11_speaks_24 (by decide) ?_
            refine kJi (wr := [(k8, .inl (cI, 40, .inl c8))]) (va_runV (As := [.int a0, .int 0]) (rest := []) ⟨hx, hb, hml, hown, hT⟩ (c_X11_workG0 l D cI aK aV k k0 k1 k2 k4 k5 k6 k7 k8 ka kb kl ko H.size c3 c9 cc cd ce cf cg ch ci cj ck cm cn c0 a0 0 (by first | omega | (simp only [zl_0]; first | done | omega) | decide | assumption | rfl) (by first | omega | (simp only [zl_0]; first | done | omega) | decide | assumption | rfl) (by first | omega | (simp only [zl_0]; first | done | omega) | decide | assumption | rfl)) (cwV 2 hT (gV_in mw_1276 mw_1273 mw_1275 mw_p3_12 mw_12) rfl rfl rfl (by decide +kernel) ⟨(by dsimp only; omega), (by dsimp only; omega)⟩) (kRecvX (q0 := 0) (ci := 11) hK hP hD hN hXS hS hA rfl rfl [0, 1] rfl (by decide)) rfl rfl hl.1 rfl (lv_room (Nat.le_of_ble_eq_true rfl)) dX11_speaks_25 ⟨Nat.le_of_ble_eq_true rfl, Nat.le_of_ble_eq_true rfl⟩) hP hD hS hA [0, 1] [2] rfl rfl (by decide) (by decide) ?_
            clear hP hD hS
            intro r_299 u_301 H locs w_300 hP hD hS
            replace hP : va_P D vwCl [(k8, .inl (cI, 40, .inl c8)), (k, .inr (11, [.ref k0, .ref k1, .ref k2, .int c3, .ref k4, .ref k5, .ref k6, .ref k7, .ref k8, .int c9, .ref ka, .ref kb, .int cc, .int cd, .int ce, .int cf, .int cg, .int ch, .int ci, .int cj, .int ck, .ref kl, .int cm, .int cn, .ref ko])), (k0, .inl (cI, 1201, .inl c0))] H := hP
            replace hD : va_D A [(k8, .inl (cI, 40, .inl c8)), (k, .inr (11, [.ref k0, .ref k1, .ref k2, .int c3, .ref k4, .ref k5, .ref k6, .ref k7, .ref k8, .int c9, .ref ka, .ref kb, .int cc, .int cd, .int ce, .int cf, .int cg, .int ch, .int ci, .int cj, .int ck, .ref kl, .int cm, .int cn, .ref ko])), (k0, .inl (cI, 1201, .inl c0))] := hD
            have h_302 := w_300
            have h_302 : r_299 = wW c0 a0 0 := h_302
            have t_303 : r_299.toInt = (wW c0 a0 0).toInt := by rw [h_302]
            have b_304 : 0 ≤ r_299.toInt ∧ r_299.toInt ≤ 5 := by rw [h_302]; exact SB.w0 pre0 (by omega) (by omega)
            have lo_r_299 := k_lo r_299
            have hi_r_299 := k_hi r_299
            refine lv_istore (lv' := [(6, .int r_299), (5, .int l3_5), (0, .ref k), (1, .int a0), (2, .int a1), (3, .int a2), (4, .int a3)]) hx hb dX11_speaks_28 hl (by decide) rfl ?_
            clear hl
            intro ls hl
            refine lv_aload_n hx hb dX11_speaks_30 rfl (lv_at hl 2 rfl) ?_
            refine lv_iload_n hx hb dX11_speaks_31 rfl (lv_at hl 3 rfl) ?_
            refine lv_iconst (v := 2) hx hb dX11_speaks_32 (by decide) ?_
            refine kJi (wr := [(k8, .inl (cI, 40, .inl c8))]) (va_runV (As := [.int a0, .int 2]) (rest := []) ⟨hx, hb, hml, hown, hT⟩ (c_X11_workG2 l D cI aK aV k k0 k1 k2 k4 k5 k6 k7 k8 ka kb kl ko H.size c3 c9 cc cd ce cf cg ch ci cj ck cm cn c0 a0 2 (by first | omega | (simp only [zl_2]; first | done | omega) | decide | assumption | rfl) (by first | omega | (simp only [zl_2]; first | done | omega) | decide | assumption | rfl) (by first | omega | (simp only [zl_2]; first | done | omega) | decide | assumption | rfl)) (cwV 2 hT (gV_in mw_1276 mw_1273 mw_1275 mw_p3_12 mw_12) rfl rfl rfl (by decide +kernel) ⟨(by dsimp only; omega), (by dsimp only; omega)⟩) (kRecvX (q0 := 1) (ci := 11) hK hP hD hN hXS hS hA rfl rfl [1, 2] rfl (by decide)) rfl rfl hl.1 rfl (lv_room (Nat.le_of_ble_eq_true rfl)) dX11_speaks_33 ⟨Nat.le_of_ble_eq_true rfl, Nat.le_of_ble_eq_true rfl⟩) hP hD hS hA [1, 2] [0] rfl rfl (by decide) (by decide) ?_
            clear hP hD hS
            intro r_305 u_307 H locs w_306 hP hD hS
            replace hP : va_P D vwCl [(k8, .inl (cI, 40, .inl c8)), (k, .inr (11, [.ref k0, .ref k1, .ref k2, .int c3, .ref k4, .ref k5, .ref k6, .ref k7, .ref k8, .int c9, .ref ka, .ref kb, .int cc, .int cd, .int ce, .int cf, .int cg, .int ch, .int ci, .int cj, .int ck, .ref kl, .int cm, .int cn, .ref ko])), (k0, .inl (cI, 1201, .inl c0))] H := hP
            replace hD : va_D A [(k8, .inl (cI, 40, .inl c8)), (k, .inr (11, [.ref k0, .ref k1, .ref k2, .int c3, .ref k4, .ref k5, .ref k6, .ref k7, .ref k8, .int c9, .ref ka, .ref kb, .int cc, .int cd, .int ce, .int cf, .int cg, .int ch, .int ci, .int cj, .int ck, .ref kl, .int cm, .int cn, .ref ko])), (k0, .inl (cI, 1201, .inl c0))] := hD
            have h_308 := w_306
            have h_308 : r_305 = wW c0 a0 2 := h_308
            have t_309 : r_305.toInt = (wW c0 a0 2).toInt := by rw [h_308]
            have lo_r_305 := k_lo r_305
            have hi_r_305 := k_hi r_305
            refine lv_istore (lv' := [(7, .int r_305), (6, .int r_299), (5, .int l3_5), (0, .ref k), (1, .int a0), (2, .int a1), (3, .int a2), (4, .int a3)]) hx hb dX11_speaks_36 hl (by decide) rfl ?_
            clear hl
            intro ls hl
            refine lv_iload hx hb dX11_speaks_38 (lv_at hl 2 rfl) ?_
            refine kJi (wr := [(k8, .inl (cI, 40, .inl c8)), (k, .inr (11, [.ref k0, .ref k1, .ref k2, .int c3, .ref k4, .ref k5, .ref k6, .ref k7, .ref k8, .int c9, .ref ka, .ref kb, .int cc, .int cd, .int ce, .int cf, .int cg, .int ch, .int ci, .int cj, .int ck, .ref kl, .int cm, .int cn, .ref ko])), (k0, .inl (cI, 1201, .inl c0))]) (va_runS (As := [.int l3_5]) (rest := []) ⟨hx, hb, hml, hown, hT⟩ (c_X11_parentG l D cI aK aV H.size l3_5 (by first | omega | decide | assumption | rfl) (by first | omega | decide | assumption | rfl)) (cwS 1 hT (gS_in mw_1282 mw_1280 mw_1281 mw_12) rfl rfl rfl (by decide +kernel) ⟨(by dsimp only; omega), (by dsimp only; omega)⟩) (kStatX hK hP hD hN hXS hS hA [] rfl (by decide)) rfl rfl hl.1 rfl (lv_room (Nat.le_of_ble_eq_true rfl)) dX11_speaks_40 ⟨Nat.le_of_ble_eq_true rfl, Nat.le_of_ble_eq_true rfl⟩) hP hD hS hA [] [0, 1, 2] rfl rfl (by decide) (by decide) ?_
            clear hP hD hS
            intro r_310 u_312 H locs w_311 hP hD hS
            replace hP : va_P D vwCl [(k8, .inl (cI, 40, .inl c8)), (k, .inr (11, [.ref k0, .ref k1, .ref k2, .int c3, .ref k4, .ref k5, .ref k6, .ref k7, .ref k8, .int c9, .ref ka, .ref kb, .int cc, .int cd, .int ce, .int cf, .int cg, .int ch, .int ci, .int cj, .int ck, .ref kl, .int cm, .int cn, .ref ko])), (k0, .inl (cI, 1201, .inl c0))] H := hP
            replace hD : va_D A [(k8, .inl (cI, 40, .inl c8)), (k, .inr (11, [.ref k0, .ref k1, .ref k2, .int c3, .ref k4, .ref k5, .ref k6, .ref k7, .ref k8, .int c9, .ref ka, .ref kb, .int cc, .int cd, .int ce, .int cf, .int cg, .int ch, .int ci, .int cj, .int ck, .ref kl, .int cm, .int cn, .ref ko])), (k0, .inl (cI, 1201, .inl c0))] := hD
            rcases w_311 with ⟨hr_310, h_313⟩ | ⟨hr_310, h_314⟩ | ⟨hr_310, h_315⟩ | ⟨hr_310, h_316⟩ | ⟨hr_310, h_317⟩
            · have h_313 : l3_5.toInt = 0 := h_313
              obtain rfl : r_310 = (-1) := hr_310.trans (by decide)
              refine lv_istore (lv' := [(8, .int (-1)), (7, .int r_305), (6, .int r_299), (5, .int l3_5), (0, .ref k), (1, .int a0), (2, .int a1), (3, .int a2), (4, .int a3)]) hx hb dX11_speaks_43 hl (by decide) rfl ?_
              clear hl
              intro ls hl
              refine lv_iload hx hb dX11_speaks_45 (lv_at hl 3 rfl) ?_
              refine lv_iload_n hx hb dX11_speaks_47 rfl (lv_at hl 7 rfl) ?_
              refine kJi (wr := [(k8, .inl (cI, 40, .inl c8)), (k, .inr (11, [.ref k0, .ref k1, .ref k2, .int c3, .ref k4, .ref k5, .ref k6, .ref k7, .ref k8, .int c9, .ref ka, .ref kb, .int cc, .int cd, .int ce, .int cf, .int cg, .int ch, .int ci, .int cj, .int ck, .ref kl, .int cm, .int cn, .ref ko])), (k0, .inl (cI, 1201, .inl c0))]) (va_runS (As := [.int l3_5, .int a2]) (rest := []) ⟨hx, hb, hml, hown, hT⟩ (c_X11_bodyOfG l D cI aK aV H.size l3_5 a2 (by first | omega | decide | assumption | rfl) (by first | omega | decide | assumption | rfl) (by first | omega | decide | assumption | rfl) (by first | omega | decide | assumption | rfl)) (cwS 2 hT (gS_in mw_1581 mw_1579 mw_1580 mw_12) rfl rfl rfl (by decide +kernel) ⟨(by dsimp only; omega), (by dsimp only; omega)⟩) (kStatX hK hP hD hN hXS hS hA [] rfl (by decide)) rfl rfl hl.1 rfl (lv_room (Nat.le_of_ble_eq_true rfl)) dX11_speaks_48 ⟨Nat.le_of_ble_eq_true rfl, Nat.le_of_ble_eq_true rfl⟩) hP hD hS hA [] [0, 1, 2] rfl rfl (by decide) (by decide) ?_
              clear hP hD hS
              intro r_318 u_320 H locs w_319 hP hD hS
              replace hP : va_P D vwCl [(k8, .inl (cI, 40, .inl c8)), (k, .inr (11, [.ref k0, .ref k1, .ref k2, .int c3, .ref k4, .ref k5, .ref k6, .ref k7, .ref k8, .int c9, .ref ka, .ref kb, .int cc, .int cd, .int ce, .int cf, .int cg, .int ch, .int ci, .int cj, .int ck, .ref kl, .int cm, .int cn, .ref ko])), (k0, .inl (cI, 1201, .inl c0))] H := hP
              replace hD : va_D A [(k8, .inl (cI, 40, .inl c8)), (k, .inr (11, [.ref k0, .ref k1, .ref k2, .int c3, .ref k4, .ref k5, .ref k6, .ref k7, .ref k8, .int c9, .ref ka, .ref kb, .int cc, .int cd, .int ce, .int cf, .int cg, .int ch, .int ci, .int cj, .int ck, .ref kl, .int cm, .int cn, .ref ko])), (k0, .inl (cI, 1201, .inl c0))] := hD
              rcases w_319 with ⟨hr_318, h_321, h_322, h_323⟩ | ⟨hr_318, h_324, h_325, h_326⟩ | ⟨hr_318, h_327, h_328, h_329⟩ | ⟨hr_318, h_330, h_331, h_332⟩ | ⟨hr_318, h_333, h_334, h_335⟩ | ⟨hr_318, h_336, h_337, h_338⟩ | ⟨hr_318, h_339, h_340, h_341⟩ | ⟨hr_318, h_342, h_343, h_344⟩ | ⟨hr_318, h_345, h_346, h_347⟩ | ⟨hr_318, h_348, h_349, h_350⟩ | ⟨hr_318, h_351, h_352, h_353⟩ | ⟨hr_318, h_354, h_355, h_356⟩ | ⟨hr_318, h_357, h_358, h_359⟩ | ⟨hr_318, h_360, h_361, h_362⟩ | ⟨hr_318, h_363, h_364⟩
              · exfalso; omega
              · exfalso; omega
              · exfalso; omega
              · have h_330 : l3_5.toInt = 0 := h_330
                have h_331 : a2.toInt = 3 := h_331
                have h_332 : (bKi l3_5 a2).toInt = 13 := h_332
                obtain rfl : r_318 = 13 := hr_318.trans (by decide)
                refine lv_istore (lv' := [(9, .int 13), (8, .int (-1)), (7, .int r_305), (6, .int r_299), (5, .int l3_5), (0, .ref k), (1, .int a0), (2, .int a1), (3, .int a2), (4, .int a3)]) hx hb dX11_speaks_51 hl (by decide) rfl ?_
                clear hl
                intro ls hl
                refine lv_aload_n hx hb dX11_speaks_53 rfl (lv_at hl 5 rfl) ?_
                refine lv_iload hx hb dX11_speaks_54 (lv_at hl 0 rfl) ?_
                refine kJv (wr := [(k0, .inl (cI, 1201, .inl c0))]) (va_runV (As := [.int 13]) (rest := []) ⟨hx, hb, hml, hown, hT⟩ (c_X11_ranG l D cI aK aV k k0 k1 k2 k4 k5 k6 k7 k8 ka kb kl ko H.size c3 c9 cc cd ce cf cg ch ci cj ck cm cn c8 13 (by first | omega | (simp only [zl_13]; first | done | omega) | decide | assumption | rfl) (by first | omega | (simp only [zl_13]; first | done | omega) | decide | assumption | rfl)) (cwV 1 hT (gV_in mw_1585 mw_1582 mw_1584 mw_p6_7 mw_12) rfl rfl rfl (by decide +kernel) ⟨(by dsimp only; omega), (by dsimp only; omega)⟩) (kRecvX (q0 := 1) (ci := 11) hK hP hD hN hXS hS hA rfl rfl [1, 0] rfl (by decide)) rfl rfl hl.1 rfl (lv_room (Nat.le_of_ble_eq_true rfl)) dX11_speaks_56 ⟨Nat.le_of_ble_eq_true rfl, Nat.le_of_ble_eq_true rfl⟩) hP hD hS hA [1, 0] [2] rfl rfl (by decide) (by decide) ?_
                clear hP hD hS
                intro u_369 H locs w_366 hP hD hS
                obtain ⟨sc9_367, sc8_368⟩ := u_369
                replace hP : va_P D vwCl [(k0, .inl (cI, 1201, .inl c0)), (k, .inr (11, [.ref k0, .ref k1, .ref k2, .int c3, .ref k4, .ref k5, .ref k6, .ref k7, .ref k8, .int sc9_367, .ref ka, .ref kb, .int cc, .int cd, .int ce, .int cf, .int cg, .int ch, .int ci, .int cj, .int ck, .ref kl, .int cm, .int cn, .ref ko])), (k8, .inl (cI, 40, .inl sc8_368))] H := hP
                replace hD : va_D A [(k0, .inl (cI, 1201, .inl c0)), (k, .inr (11, [.ref k0, .ref k1, .ref k2, .int c3, .ref k4, .ref k5, .ref k6, .ref k7, .ref k8, .int sc9_367, .ref ka, .ref kb, .int cc, .int cd, .int ce, .int cf, .int cg, .int ch, .int ci, .int cj, .int ck, .ref kl, .int cm, .int cn, .ref ko])), (k8, .inl (cI, 40, .inl sc8_368))] := hD
                have lo_sc9_367 := k_lo sc9_367
                have hi_sc9_367 := k_hi sc9_367
                obtain ⟨h_370, h_371, h_372, h_373⟩ := w_366
                try simp only [zl_13] at h_370
                have h_370 : 0 ≤ sc9_367.toInt := h_370
                try simp only [zl_13] at h_371
                have h_371 : sc9_367.toInt ≤ 40 := h_371
                try simp only [zl_13] at h_372
                have h_372 : sc9_367 = mSV c9 := h_372
                try simp only [zl_13] at h_373
                have h_373 : sc8_368 = gSV c9 c8 13 := h_373
                refine lv_iload hx hb dX11_speaks_59 (lv_at hl 0 rfl) ?_
                refine lv_tableIn (off := 251) (tgt := 312) hx hb dX11_speaks_61 (by decide) (by decide) (by decide) (by decide) ?_
                refine lv_aload_n hx hb dX11_speaks_312 rfl (lv_at hl 5 rfl) ?_
                refine lv_iload_n hx hb dX11_speaks_313 rfl (lv_at hl 6 rfl) ?_
                refine lv_iload hx hb dX11_speaks_314 (lv_at hl 3 rfl) ?_
                refine lv_iconst (v := 2) hx hb dX11_speaks_316 (by decide) ?_
                refine lv_iload hx hb dX11_speaks_317 (lv_at hl 9 rfl) ?_
                refine kJi (wr := []) (va_runV (As := [.int a0, .int r_299, .int 2, .int a3]) (rest := []) ⟨hx, hb, hml, hown, hT⟩ (ih l D cI aK aV k k0 k1 k2 k4 k5 k6 k7 k8 ka kb kl ko H.size c3 sc9_367 cc cd ce cf cg ch ci cj ck cm cn c0 sc8_368 a0 r_299 2 a3 pre0 (by first | omega | (simp only [zl_2]; first | done | omega) | decide | assumption | rfl) (by first | omega | (simp only [zl_2]; first | done | omega) | decide | assumption | rfl) (by first | omega | (simp only [zl_2]; first | done | omega) | decide | assumption | rfl) (by first | omega | (simp only [zl_2]; first | done | omega) | decide | assumption | rfl) (by first | omega | (simp only [zl_2]; first | done | omega) | decide | assumption | rfl) (by first | omega | (simp only [zl_2]; first | done | omega) | decide | assumption | rfl) (by first | omega | (simp only [zl_2]; first | done | omega) | decide | assumption | rfl) (by first | omega | (simp only [zl_2]; first | done | omega) | decide | assumption | rfl) (by first | omega | (simp only [zl_2]; first | done | omega) | decide | assumption | rfl)) (cwV 4 hT (gV_in mw_1578 mw_1575 mw_1577 mw_p6_6 mw_12) rfl rfl rfl (by decide +kernel) ⟨(by dsimp only; omega), (by dsimp only; omega)⟩) (kRecvX (q0 := 1) (ci := 11) hK hP hD hN hXS hS hA rfl rfl [1, 0, 2] rfl (by decide)) rfl rfl hl.1 rfl (lv_room (Nat.le_of_ble_eq_true rfl)) dX11_speaks_319 ⟨Nat.le_of_ble_eq_true rfl, Nat.le_of_ble_eq_true rfl⟩) hP hD hS hA [1, 0, 2] [] rfl rfl (by decide) (by decide) ?_
                clear hP hD hS
                intro r_374 u_378 H locs w_375 hP hD hS
                obtain ⟨sc9_376, sc8_377⟩ := u_378
                replace hP : va_P D vwCl [(k, .inr (11, [.ref k0, .ref k1, .ref k2, .int c3, .ref k4, .ref k5, .ref k6, .ref k7, .ref k8, .int sc9_376, .ref ka, .ref kb, .int cc, .int cd, .int ce, .int cf, .int cg, .int ch, .int ci, .int cj, .int ck, .ref kl, .int cm, .int cn, .ref ko])), (k0, .inl (cI, 1201, .inl c0)), (k8, .inl (cI, 40, .inl sc8_377))] H := hP
                replace hD : va_D A [(k, .inr (11, [.ref k0, .ref k1, .ref k2, .int c3, .ref k4, .ref k5, .ref k6, .ref k7, .ref k8, .int sc9_376, .ref ka, .ref kb, .int cc, .int cd, .int ce, .int cf, .int cg, .int ch, .int ci, .int cj, .int ck, .ref kl, .int cm, .int cn, .ref ko])), (k0, .inl (cI, 1201, .inl c0)), (k8, .inl (cI, 40, .inl sc8_377))] := hD
                have lo_sc9_376 := k_lo sc9_376
                have hi_sc9_376 := k_hi sc9_376
                obtain ⟨h_379, h_380, h_381⟩ := w_375
                try simp only [zl_2] at h_379
                have h_379 : 0 ≤ sc9_376.toInt := h_379
                try simp only [zl_2] at h_380
                have h_380 : sc9_376.toInt ≤ 40 := h_380
                try simp only [zl_2] at h_381
                have h_381 : voB a0 (wW c0 a0 2) (wW c0 a0 0) dd r_299 2 a3 sc9_367 sc8_368 = (r_374, sc9_376, sc8_377) := h_381
                have lo_r_374 := k_lo r_374
                have hi_r_374 := k_hi r_374
                refine lv_istore (lv' := [(10, .int r_374), (9, .int 13), (8, .int (-1)), (7, .int r_305), (6, .int r_299), (5, .int l3_5), (0, .ref k), (1, .int a0), (2, .int a1), (3, .int a2), (4, .int a3)]) hx hb dX11_speaks_322 hl (by decide) rfl ?_
                clear hl
                intro ls hl
                refine lv_iload hx hb dX11_speaks_324 (lv_at hl 0 rfl) ?_
                refine lv_aload_n hx hb dX11_speaks_326 rfl (lv_at hl 6 rfl) ?_
                refine lv_iload_n hx hb dX11_speaks_327 rfl (lv_at hl 7 rfl) ?_
                refine lv_iload hx hb dX11_speaks_328 (lv_at hl 4 rfl) ?_
                refine lv_iconst (v := 0) hx hb dX11_speaks_330 (by decide) ?_
                refine lv_iload hx hb dX11_speaks_331 (lv_at hl 10 rfl) ?_
                refine kJi (wr := []) (va_runV (As := [.int a0, .int r_299, .int 0, .int a3]) (rest := [.int r_374]) ⟨hx, hb, hml, hown, hT⟩ (ih l D cI aK aV k k0 k1 k2 k4 k5 k6 k7 k8 ka kb kl ko H.size c3 sc9_376 cc cd ce cf cg ch ci cj ck cm cn c0 sc8_377 a0 r_299 0 a3 pre0 (by first | omega | (simp only [zl_0]; first | done | omega) | decide | assumption | rfl) (by first | omega | (simp only [zl_0]; first | done | omega) | decide | assumption | rfl) (by first | omega | (simp only [zl_0]; first | done | omega) | decide | assumption | rfl) (by first | omega | (simp only [zl_0]; first | done | omega) | decide | assumption | rfl) (by first | omega | (simp only [zl_0]; first | done | omega) | decide | assumption | rfl) (by first | omega | (simp only [zl_0]; first | done | omega) | decide | assumption | rfl) (by first | omega | (simp only [zl_0]; first | done | omega) | decide | assumption | rfl) (by first | omega | (simp only [zl_0]; first | done | omega) | decide | assumption | rfl) (by first | omega | (simp only [zl_0]; first | done | omega) | decide | assumption | rfl)) (cwV 4 hT (gV_in mw_1578 mw_1575 mw_1577 mw_p6_6 mw_12) rfl rfl rfl (by decide +kernel) ⟨(by dsimp only; omega), (by dsimp only; omega)⟩) (kRecvX (q0 := 0) (ci := 11) hK hP hD hN hXS hS hA rfl rfl [0, 1, 2] rfl (by decide)) rfl rfl hl.1 rfl (lv_room (Nat.le_of_ble_eq_true rfl)) dX11_speaks_333 ⟨Nat.le_of_ble_eq_true rfl, Nat.le_of_ble_eq_true rfl⟩) hP hD hS hA [0, 1, 2] [] rfl rfl (by decide) (by decide) ?_
                clear hP hD hS
                intro r_382 u_386 H locs w_383 hP hD hS
                obtain ⟨sc9_384, sc8_385⟩ := u_386
                replace hP : va_P D vwCl [(k, .inr (11, [.ref k0, .ref k1, .ref k2, .int c3, .ref k4, .ref k5, .ref k6, .ref k7, .ref k8, .int sc9_384, .ref ka, .ref kb, .int cc, .int cd, .int ce, .int cf, .int cg, .int ch, .int ci, .int cj, .int ck, .ref kl, .int cm, .int cn, .ref ko])), (k0, .inl (cI, 1201, .inl c0)), (k8, .inl (cI, 40, .inl sc8_385))] H := hP
                replace hD : va_D A [(k, .inr (11, [.ref k0, .ref k1, .ref k2, .int c3, .ref k4, .ref k5, .ref k6, .ref k7, .ref k8, .int sc9_384, .ref ka, .ref kb, .int cc, .int cd, .int ce, .int cf, .int cg, .int ch, .int ci, .int cj, .int ck, .ref kl, .int cm, .int cn, .ref ko])), (k0, .inl (cI, 1201, .inl c0)), (k8, .inl (cI, 40, .inl sc8_385))] := hD
                have lo_sc9_384 := k_lo sc9_384
                have hi_sc9_384 := k_hi sc9_384
                obtain ⟨h_387, h_388, h_389⟩ := w_383
                try simp only [zl_0] at h_387
                have h_387 : 0 ≤ sc9_384.toInt := h_387
                try simp only [zl_0] at h_388
                have h_388 : sc9_384.toInt ≤ 40 := h_388
                try simp only [zl_0] at h_389
                have h_389 : voB a0 (wW c0 a0 2) (wW c0 a0 0) dd r_299 0 a3 sc9_376 sc8_377 = (r_382, sc9_384, sc8_385) := h_389
                have lo_r_382 := k_lo r_382
                have hi_r_382 := k_hi r_382
                refine lv_ixor hx hb dX11_speaks_336 ?_
                refine lv_topi (fun v_390 ev_390 => ?_)
                have lo_v_390 := k_lo v_390
                have hi_v_390 := k_hi v_390
                exact hRet (sc9_384, sc8_385) [0, 1, 2] ⟨(by first | omega | decide | assumption | rfl | (dsimp only; first | omega)), (by first | omega | decide | assumption | rfl | (dsimp only; first | omega)), (vo_13 (b := 13) (m1 := sc9_367) (g1 := sc8_368) (by rw [← i3_3]; exact (bd_own (a := l3_5) (c := a2) (bd_bk h_332 (by decide)) (by decide)).symm) (by decide) h_372 h_373 (by have z := h_381; rw [h_302] at z; exact z) (by have z := h_389; rw [h_302] at z; exact z) ev_390)⟩ hP hD (by decide) rfl hS rfl dX11_speaks_337
              · exfalso; omega
              · exfalso; omega
              · exfalso; omega
              · exfalso; omega
              · exfalso; omega
              · exfalso; omega
              · exfalso; omega
              · exfalso; omega
              · exfalso; omega
              · exfalso; omega
              · exfalso; omega
            · exfalso; omega
            · exfalso; omega
            · exfalso; omega
            · exfalso; omega
          · have h_19 : l3_5.toInt = 1 := h_19
            have h_20 : a2.toInt = 1 := h_20
            have h_21 : (bKi l3_5 a2).toInt = 20 := h_21
            obtain rfl : r_4 = 20 := hr_4.trans (by decide)
            refine b_if_ne hx hb zl_20 (tgt := 22) dX11_speaks_9 (by decide) (fun c_391 => ?_) (fun c_391 => by exfalso; omega)
            refine lv_aload_n hx hb dX11_speaks_22 rfl (lv_at hl 1 rfl) ?_
            refine lv_iload_n hx hb dX11_speaks_23 rfl (lv_at hl 2 rfl) ?_
            refine lv_iconst (v := 0) hx hb dX11_speaks_24 (by decide) ?_
            refine kJi (wr := [(k8, .inl (cI, 40, .inl c8))]) (va_runV (As := [.int a0, .int 0]) (rest := []) ⟨hx, hb, hml, hown, hT⟩ (c_X11_workG0 l D cI aK aV k k0 k1 k2 k4 k5 k6 k7 k8 ka kb kl ko H.size c3 c9 cc cd ce cf cg ch ci cj ck cm cn c0 a0 0 (by first | omega | (simp only [zl_0]; first | done | omega) | decide | assumption | rfl) (by first | omega | (simp only [zl_0]; first | done | omega) | decide | assumption | rfl) (by first | omega | (simp only [zl_0]; first | done | omega) | decide | assumption | rfl)) (cwV 2 hT (gV_in mw_1276 mw_1273 mw_1275 mw_p3_12 mw_12) rfl rfl rfl (by decide +kernel) ⟨(by dsimp only; omega), (by dsimp only; omega)⟩) (kRecvX (q0 := 0) (ci := 11) hK hP hD hN hXS hS hA rfl rfl [0, 1] rfl (by decide)) rfl rfl hl.1 rfl (lv_room (Nat.le_of_ble_eq_true rfl)) dX11_speaks_25 ⟨Nat.le_of_ble_eq_true rfl, Nat.le_of_ble_eq_true rfl⟩) hP hD hS hA [0, 1] [2] rfl rfl (by decide) (by decide) ?_
            clear hP hD hS
            intro r_392 u_394 H locs w_393 hP hD hS
            replace hP : va_P D vwCl [(k8, .inl (cI, 40, .inl c8)), (k, .inr (11, [.ref k0, .ref k1, .ref k2, .int c3, .ref k4, .ref k5, .ref k6, .ref k7, .ref k8, .int c9, .ref ka, .ref kb, .int cc, .int cd, .int ce, .int cf, .int cg, .int ch, .int ci, .int cj, .int ck, .ref kl, .int cm, .int cn, .ref ko])), (k0, .inl (cI, 1201, .inl c0))] H := hP
            replace hD : va_D A [(k8, .inl (cI, 40, .inl c8)), (k, .inr (11, [.ref k0, .ref k1, .ref k2, .int c3, .ref k4, .ref k5, .ref k6, .ref k7, .ref k8, .int c9, .ref ka, .ref kb, .int cc, .int cd, .int ce, .int cf, .int cg, .int ch, .int ci, .int cj, .int ck, .ref kl, .int cm, .int cn, .ref ko])), (k0, .inl (cI, 1201, .inl c0))] := hD
            have h_395 := w_393
            have h_395 : r_392 = wW c0 a0 0 := h_395
            have t_396 : r_392.toInt = (wW c0 a0 0).toInt := by rw [h_395]
            have b_397 : 0 ≤ r_392.toInt ∧ r_392.toInt ≤ 5 := by rw [h_395]; exact SB.w0 pre0 (by omega) (by omega)
            have lo_r_392 := k_lo r_392
            have hi_r_392 := k_hi r_392
            refine lv_istore (lv' := [(6, .int r_392), (5, .int l3_5), (0, .ref k), (1, .int a0), (2, .int a1), (3, .int a2), (4, .int a3)]) hx hb dX11_speaks_28 hl (by decide) rfl ?_
            clear hl
            intro ls hl
            refine lv_aload_n hx hb dX11_speaks_30 rfl (lv_at hl 2 rfl) ?_
            refine lv_iload_n hx hb dX11_speaks_31 rfl (lv_at hl 3 rfl) ?_
            refine lv_iconst (v := 2) hx hb dX11_speaks_32 (by decide) ?_
            refine kJi (wr := [(k8, .inl (cI, 40, .inl c8))]) (va_runV (As := [.int a0, .int 2]) (rest := []) ⟨hx, hb, hml, hown, hT⟩ (c_X11_workG2 l D cI aK aV k k0 k1 k2 k4 k5 k6 k7 k8 ka kb kl ko H.size c3 c9 cc cd ce cf cg ch ci cj ck cm cn c0 a0 2 (by first | omega | (simp only [zl_2]; first | done | omega) | decide | assumption | rfl) (by first | omega | (simp only [zl_2]; first | done | omega) | decide | assumption | rfl) (by first | omega | (simp only [zl_2]; first | done | omega) | decide | assumption | rfl)) (cwV 2 hT (gV_in mw_1276 mw_1273 mw_1275 mw_p3_12 mw_12) rfl rfl rfl (by decide +kernel) ⟨(by dsimp only; omega), (by dsimp only; omega)⟩) (kRecvX (q0 := 1) (ci := 11) hK hP hD hN hXS hS hA rfl rfl [1, 2] rfl (by decide)) rfl rfl hl.1 rfl (lv_room (Nat.le_of_ble_eq_true rfl)) dX11_speaks_33 ⟨Nat.le_of_ble_eq_true rfl, Nat.le_of_ble_eq_true rfl⟩) hP hD hS hA [1, 2] [0] rfl rfl (by decide) (by decide) ?_
            clear hP hD hS
            intro r_398 u_400 H locs w_399 hP hD hS
            replace hP : va_P D vwCl [(k8, .inl (cI, 40, .inl c8)), (k, .inr (11, [.ref k0, .ref k1, .ref k2, .int c3, .ref k4, .ref k5, .ref k6, .ref k7, .ref k8, .int c9, .ref ka, .ref kb, .int cc, .int cd, .int ce, .int cf, .int cg, .int ch, .int ci, .int cj, .int ck, .ref kl, .int cm, .int cn, .ref ko])), (k0, .inl (cI, 1201, .inl c0))] H := hP
            replace hD : va_D A [(k8, .inl (cI, 40, .inl c8)), (k, .inr (11, [.ref k0, .ref k1, .ref k2, .int c3, .ref k4, .ref k5, .ref k6, .ref k7, .ref k8, .int c9, .ref ka, .ref kb, .int cc, .int cd, .int ce, .int cf, .int cg, .int ch, .int ci, .int cj, .int ck, .ref kl, .int cm, .int cn, .ref ko])), (k0, .inl (cI, 1201, .inl c0))] := hD
            have h_401 := w_399
            have h_401 : r_398 = wW c0 a0 2 := h_401
            have t_402 : r_398.toInt = (wW c0 a0 2).toInt := by rw [h_401]
            have lo_r_398 := k_lo r_398
            have hi_r_398 := k_hi r_398
            refine lv_istore (lv' := [(7, .int r_398), (6, .int r_392), (5, .int l3_5), (0, .ref k), (1, .int a0), (2, .int a1), (3, .int a2), (4, .int a3)]) hx hb dX11_speaks_36 hl (by decide) rfl ?_
            clear hl
            intro ls hl
            refine lv_iload hx hb dX11_speaks_38 (lv_at hl 2 rfl) ?_
            refine kJi (wr := [(k8, .inl (cI, 40, .inl c8)), (k, .inr (11, [.ref k0, .ref k1, .ref k2, .int c3, .ref k4, .ref k5, .ref k6, .ref k7, .ref k8, .int c9, .ref ka, .ref kb, .int cc, .int cd, .int ce, .int cf, .int cg, .int ch, .int ci, .int cj, .int ck, .ref kl, .int cm, .int cn, .ref ko])), (k0, .inl (cI, 1201, .inl c0))]) (va_runS (As := [.int l3_5]) (rest := []) ⟨hx, hb, hml, hown, hT⟩ (c_X11_parentG l D cI aK aV H.size l3_5 (by first | omega | decide | assumption | rfl) (by first | omega | decide | assumption | rfl)) (cwS 1 hT (gS_in mw_1282 mw_1280 mw_1281 mw_12) rfl rfl rfl (by decide +kernel) ⟨(by dsimp only; omega), (by dsimp only; omega)⟩) (kStatX hK hP hD hN hXS hS hA [] rfl (by decide)) rfl rfl hl.1 rfl (lv_room (Nat.le_of_ble_eq_true rfl)) dX11_speaks_40 ⟨Nat.le_of_ble_eq_true rfl, Nat.le_of_ble_eq_true rfl⟩) hP hD hS hA [] [0, 1, 2] rfl rfl (by decide) (by decide) ?_
            clear hP hD hS
            intro r_403 u_405 H locs w_404 hP hD hS
            replace hP : va_P D vwCl [(k8, .inl (cI, 40, .inl c8)), (k, .inr (11, [.ref k0, .ref k1, .ref k2, .int c3, .ref k4, .ref k5, .ref k6, .ref k7, .ref k8, .int c9, .ref ka, .ref kb, .int cc, .int cd, .int ce, .int cf, .int cg, .int ch, .int ci, .int cj, .int ck, .ref kl, .int cm, .int cn, .ref ko])), (k0, .inl (cI, 1201, .inl c0))] H := hP
            replace hD : va_D A [(k8, .inl (cI, 40, .inl c8)), (k, .inr (11, [.ref k0, .ref k1, .ref k2, .int c3, .ref k4, .ref k5, .ref k6, .ref k7, .ref k8, .int c9, .ref ka, .ref kb, .int cc, .int cd, .int ce, .int cf, .int cg, .int ch, .int ci, .int cj, .int ck, .ref kl, .int cm, .int cn, .ref ko])), (k0, .inl (cI, 1201, .inl c0))] := hD
            rcases w_404 with ⟨hr_403, h_406⟩ | ⟨hr_403, h_407⟩ | ⟨hr_403, h_408⟩ | ⟨hr_403, h_409⟩ | ⟨hr_403, h_410⟩
            · exfalso; omega
            · have h_407 : l3_5.toInt = 1 ∨ l3_5.toInt = 4 := h_407
              obtain rfl : r_403 = 0 := hr_403.trans (by decide)
              refine lv_istore (lv' := [(8, .int 0), (7, .int r_398), (6, .int r_392), (5, .int l3_5), (0, .ref k), (1, .int a0), (2, .int a1), (3, .int a2), (4, .int a3)]) hx hb dX11_speaks_43 hl (by decide) rfl ?_
              clear hl
              intro ls hl
              refine lv_iload hx hb dX11_speaks_45 (lv_at hl 3 rfl) ?_
              refine lv_iload_n hx hb dX11_speaks_47 rfl (lv_at hl 7 rfl) ?_
              refine kJi (wr := [(k8, .inl (cI, 40, .inl c8)), (k, .inr (11, [.ref k0, .ref k1, .ref k2, .int c3, .ref k4, .ref k5, .ref k6, .ref k7, .ref k8, .int c9, .ref ka, .ref kb, .int cc, .int cd, .int ce, .int cf, .int cg, .int ch, .int ci, .int cj, .int ck, .ref kl, .int cm, .int cn, .ref ko])), (k0, .inl (cI, 1201, .inl c0))]) (va_runS (As := [.int l3_5, .int a2]) (rest := []) ⟨hx, hb, hml, hown, hT⟩ (c_X11_bodyOfG l D cI aK aV H.size l3_5 a2 (by first | omega | decide | assumption | rfl) (by first | omega | decide | assumption | rfl) (by first | omega | decide | assumption | rfl) (by first | omega | decide | assumption | rfl)) (cwS 2 hT (gS_in mw_1581 mw_1579 mw_1580 mw_12) rfl rfl rfl (by decide +kernel) ⟨(by dsimp only; omega), (by dsimp only; omega)⟩) (kStatX hK hP hD hN hXS hS hA [] rfl (by decide)) rfl rfl hl.1 rfl (lv_room (Nat.le_of_ble_eq_true rfl)) dX11_speaks_48 ⟨Nat.le_of_ble_eq_true rfl, Nat.le_of_ble_eq_true rfl⟩) hP hD hS hA [] [0, 1, 2] rfl rfl (by decide) (by decide) ?_
              clear hP hD hS
              intro r_411 u_413 H locs w_412 hP hD hS
              replace hP : va_P D vwCl [(k8, .inl (cI, 40, .inl c8)), (k, .inr (11, [.ref k0, .ref k1, .ref k2, .int c3, .ref k4, .ref k5, .ref k6, .ref k7, .ref k8, .int c9, .ref ka, .ref kb, .int cc, .int cd, .int ce, .int cf, .int cg, .int ch, .int ci, .int cj, .int ck, .ref kl, .int cm, .int cn, .ref ko])), (k0, .inl (cI, 1201, .inl c0))] H := hP
              replace hD : va_D A [(k8, .inl (cI, 40, .inl c8)), (k, .inr (11, [.ref k0, .ref k1, .ref k2, .int c3, .ref k4, .ref k5, .ref k6, .ref k7, .ref k8, .int c9, .ref ka, .ref kb, .int cc, .int cd, .int ce, .int cf, .int cg, .int ch, .int ci, .int cj, .int ck, .ref kl, .int cm, .int cn, .ref ko])), (k0, .inl (cI, 1201, .inl c0))] := hD
              rcases w_412 with ⟨hr_411, h_414, h_415, h_416⟩ | ⟨hr_411, h_417, h_418, h_419⟩ | ⟨hr_411, h_420, h_421, h_422⟩ | ⟨hr_411, h_423, h_424, h_425⟩ | ⟨hr_411, h_426, h_427, h_428⟩ | ⟨hr_411, h_429, h_430, h_431⟩ | ⟨hr_411, h_432, h_433, h_434⟩ | ⟨hr_411, h_435, h_436, h_437⟩ | ⟨hr_411, h_438, h_439, h_440⟩ | ⟨hr_411, h_441, h_442, h_443⟩ | ⟨hr_411, h_444, h_445, h_446⟩ | ⟨hr_411, h_447, h_448, h_449⟩ | ⟨hr_411, h_450, h_451, h_452⟩ | ⟨hr_411, h_453, h_454, h_455⟩ | ⟨hr_411, h_456, h_457⟩
              · exfalso; omega
              · exfalso; omega
              · exfalso; omega
              · exfalso; omega
              · have h_426 : l3_5.toInt = 1 := h_426
                have h_427 : a2.toInt = 1 := h_427
                have h_428 : (bKi l3_5 a2).toInt = 20 := h_428
                obtain rfl : r_411 = 20 := hr_411.trans (by decide)
                refine lv_istore (lv' := [(9, .int 20), (8, .int 0), (7, .int r_398), (6, .int r_392), (5, .int l3_5), (0, .ref k), (1, .int a0), (2, .int a1), (3, .int a2), (4, .int a3)]) hx hb dX11_speaks_51 hl (by decide) rfl ?_
                clear hl
                intro ls hl
                refine lv_aload_n hx hb dX11_speaks_53 rfl (lv_at hl 5 rfl) ?_
                refine lv_iload hx hb dX11_speaks_54 (lv_at hl 0 rfl) ?_
                refine kJv (wr := [(k0, .inl (cI, 1201, .inl c0))]) (va_runV (As := [.int 20]) (rest := []) ⟨hx, hb, hml, hown, hT⟩ (c_X11_ranG l D cI aK aV k k0 k1 k2 k4 k5 k6 k7 k8 ka kb kl ko H.size c3 c9 cc cd ce cf cg ch ci cj ck cm cn c8 20 (by first | omega | (simp only [zl_20]; first | done | omega) | decide | assumption | rfl) (by first | omega | (simp only [zl_20]; first | done | omega) | decide | assumption | rfl)) (cwV 1 hT (gV_in mw_1585 mw_1582 mw_1584 mw_p6_7 mw_12) rfl rfl rfl (by decide +kernel) ⟨(by dsimp only; omega), (by dsimp only; omega)⟩) (kRecvX (q0 := 1) (ci := 11) hK hP hD hN hXS hS hA rfl rfl [1, 0] rfl (by decide)) rfl rfl hl.1 rfl (lv_room (Nat.le_of_ble_eq_true rfl)) dX11_speaks_56 ⟨Nat.le_of_ble_eq_true rfl, Nat.le_of_ble_eq_true rfl⟩) hP hD hS hA [1, 0] [2] rfl rfl (by decide) (by decide) ?_
                clear hP hD hS
                intro u_462 H locs w_459 hP hD hS
                obtain ⟨sc9_460, sc8_461⟩ := u_462
                replace hP : va_P D vwCl [(k0, .inl (cI, 1201, .inl c0)), (k, .inr (11, [.ref k0, .ref k1, .ref k2, .int c3, .ref k4, .ref k5, .ref k6, .ref k7, .ref k8, .int sc9_460, .ref ka, .ref kb, .int cc, .int cd, .int ce, .int cf, .int cg, .int ch, .int ci, .int cj, .int ck, .ref kl, .int cm, .int cn, .ref ko])), (k8, .inl (cI, 40, .inl sc8_461))] H := hP
                replace hD : va_D A [(k0, .inl (cI, 1201, .inl c0)), (k, .inr (11, [.ref k0, .ref k1, .ref k2, .int c3, .ref k4, .ref k5, .ref k6, .ref k7, .ref k8, .int sc9_460, .ref ka, .ref kb, .int cc, .int cd, .int ce, .int cf, .int cg, .int ch, .int ci, .int cj, .int ck, .ref kl, .int cm, .int cn, .ref ko])), (k8, .inl (cI, 40, .inl sc8_461))] := hD
                have lo_sc9_460 := k_lo sc9_460
                have hi_sc9_460 := k_hi sc9_460
                obtain ⟨h_463, h_464, h_465, h_466⟩ := w_459
                try simp only [zl_20] at h_463
                have h_463 : 0 ≤ sc9_460.toInt := h_463
                try simp only [zl_20] at h_464
                have h_464 : sc9_460.toInt ≤ 40 := h_464
                try simp only [zl_20] at h_465
                have h_465 : sc9_460 = mSV c9 := h_465
                try simp only [zl_20] at h_466
                have h_466 : sc8_461 = gSV c9 c8 20 := h_466
                refine lv_iload hx hb dX11_speaks_59 (lv_at hl 0 rfl) ?_
                refine lv_tableIn (off := 277) (tgt := 338) hx hb dX11_speaks_61 (by decide) (by decide) (by decide) (by decide) ?_
                refine lv_aload_n hx hb dX11_speaks_338 rfl (lv_at hl 5 rfl) ?_
                refine lv_iload_n hx hb dX11_speaks_339 rfl (lv_at hl 6 rfl) ?_
                refine lv_iload hx hb dX11_speaks_340 (lv_at hl 1 rfl) ?_
                refine lv_iconst (v := 1) hx hb dX11_speaks_342 (by decide) ?_
                refine lv_iload hx hb dX11_speaks_343 (lv_at hl 9 rfl) ?_
                refine lv_iconst (v := 1) hx hb dX11_speaks_345 (by decide) ?_
                refine lv_iadd hx hb dX11_speaks_346 ?_
                refine lv_topi (fun v_467 ev_467 => ?_)
                have lo_v_467 := k_lo v_467
                have hi_v_467 := k_hi v_467
                refine kJi (wr := []) (va_runV (As := [.int a0, .int 0, .int 1, .int v_467]) (rest := []) ⟨hx, hb, hml, hown, hT⟩ (ih l D cI aK aV k k0 k1 k2 k4 k5 k6 k7 k8 ka kb kl ko H.size c3 sc9_460 cc cd ce cf cg ch ci cj ck cm cn c0 sc8_461 a0 0 1 v_467 pre0 (by first | omega | (simp only [zl_0, zl_1]; first | done | omega) | decide | assumption | rfl) (by first | omega | (simp only [zl_0, zl_1]; first | done | omega) | decide | assumption | rfl) (by first | omega | (simp only [zl_0, zl_1]; first | done | omega) | decide | assumption | rfl) (by first | omega | (simp only [zl_0, zl_1]; first | done | omega) | decide | assumption | rfl) (by first | omega | (simp only [zl_0, zl_1]; first | done | omega) | decide | assumption | rfl) (by first | omega | (simp only [zl_0, zl_1]; first | done | omega) | decide | assumption | rfl) (by first | omega | (simp only [zl_0, zl_1]; first | done | omega) | decide | assumption | rfl) (by first | omega | (simp only [zl_0, zl_1]; first | done | omega) | decide | assumption | rfl) (by first | omega | (simp only [zl_0, zl_1]; first | done | omega) | decide | assumption | rfl)) (cwV 4 hT (gV_in mw_1578 mw_1575 mw_1577 mw_p6_6 mw_12) rfl rfl rfl (by decide +kernel) ⟨(by dsimp only; omega), (by dsimp only; omega)⟩) (kRecvX (q0 := 1) (ci := 11) hK hP hD hN hXS hS hA rfl rfl [1, 0, 2] rfl (by decide)) rfl rfl hl.1 rfl (lv_room (Nat.le_of_ble_eq_true rfl)) dX11_speaks_347 ⟨Nat.le_of_ble_eq_true rfl, Nat.le_of_ble_eq_true rfl⟩) hP hD hS hA [1, 0, 2] [] rfl rfl (by decide) (by decide) ?_
                clear hP hD hS
                intro r_468 u_472 H locs w_469 hP hD hS
                obtain ⟨sc9_470, sc8_471⟩ := u_472
                replace hP : va_P D vwCl [(k, .inr (11, [.ref k0, .ref k1, .ref k2, .int c3, .ref k4, .ref k5, .ref k6, .ref k7, .ref k8, .int sc9_470, .ref ka, .ref kb, .int cc, .int cd, .int ce, .int cf, .int cg, .int ch, .int ci, .int cj, .int ck, .ref kl, .int cm, .int cn, .ref ko])), (k0, .inl (cI, 1201, .inl c0)), (k8, .inl (cI, 40, .inl sc8_471))] H := hP
                replace hD : va_D A [(k, .inr (11, [.ref k0, .ref k1, .ref k2, .int c3, .ref k4, .ref k5, .ref k6, .ref k7, .ref k8, .int sc9_470, .ref ka, .ref kb, .int cc, .int cd, .int ce, .int cf, .int cg, .int ch, .int ci, .int cj, .int ck, .ref kl, .int cm, .int cn, .ref ko])), (k0, .inl (cI, 1201, .inl c0)), (k8, .inl (cI, 40, .inl sc8_471))] := hD
                have lo_sc9_470 := k_lo sc9_470
                have hi_sc9_470 := k_hi sc9_470
                obtain ⟨h_473, h_474, h_475⟩ := w_469
                try simp only [zl_0, zl_1] at h_473
                have h_473 : 0 ≤ sc9_470.toInt := h_473
                try simp only [zl_0, zl_1] at h_474
                have h_474 : sc9_470.toInt ≤ 40 := h_474
                try simp only [zl_0, zl_1] at h_475
                have h_475 : voB a0 (wW c0 a0 2) (wW c0 a0 0) dd 0 1 v_467 sc9_460 sc8_461 = (r_468, sc9_470, sc8_471) := h_475
                have lo_r_468 := k_lo r_468
                have hi_r_468 := k_hi r_468
                exact hRet (sc9_470, sc8_471) [0, 1, 2] ⟨(by first | omega | decide | assumption | rfl | (dsimp only; first | omega)), (by first | omega | decide | assumption | rfl | (dsimp only; first | omega)), (vo_20 (b := 20) (m1 := sc9_460) (g1 := sc8_461) (by rw [← i3_3]; exact (bd_own (a := l3_5) (c := a2) (bd_bk h_428 (by decide)) (by decide)).symm) (by decide) h_465 h_466 (by have z := h_475; rw [ev_467] at z; exact z) rfl)⟩ hP hD (by decide) rfl hS rfl dX11_speaks_350
              · exfalso; omega
              · exfalso; omega
              · exfalso; omega
              · exfalso; omega
              · exfalso; omega
              · exfalso; omega
              · exfalso; omega
              · exfalso; omega
              · exfalso; omega
              · exfalso; omega
            · exfalso; omega
            · exfalso; omega
            · exfalso; omega
          · have h_22 : l3_5.toInt = 1 := h_22
            have h_23 : a2.toInt = 3 := h_23
            have h_24 : (bKi l3_5 a2).toInt = 21 := h_24
            obtain rfl : r_4 = 21 := hr_4.trans (by decide)
            refine b_if_ne hx hb zl_21 (tgt := 22) dX11_speaks_9 (by decide) (fun c_476 => ?_) (fun c_476 => by exfalso; omega)
            refine lv_aload_n hx hb dX11_speaks_22 rfl (lv_at hl 1 rfl) ?_
            refine lv_iload_n hx hb dX11_speaks_23 rfl (lv_at hl 2 rfl) ?_
            refine lv_iconst (v := 0) hx hb dX11_speaks_24 (by decide) ?_
            refine kJi (wr := [(k8, .inl (cI, 40, .inl c8))]) (va_runV (As := [.int a0, .int 0]) (rest := []) ⟨hx, hb, hml, hown, hT⟩ (c_X11_workG0 l D cI aK aV k k0 k1 k2 k4 k5 k6 k7 k8 ka kb kl ko H.size c3 c9 cc cd ce cf cg ch ci cj ck cm cn c0 a0 0 (by first | omega | (simp only [zl_0]; first | done | omega) | decide | assumption | rfl) (by first | omega | (simp only [zl_0]; first | done | omega) | decide | assumption | rfl) (by first | omega | (simp only [zl_0]; first | done | omega) | decide | assumption | rfl)) (cwV 2 hT (gV_in mw_1276 mw_1273 mw_1275 mw_p3_12 mw_12) rfl rfl rfl (by decide +kernel) ⟨(by dsimp only; omega), (by dsimp only; omega)⟩) (kRecvX (q0 := 0) (ci := 11) hK hP hD hN hXS hS hA rfl rfl [0, 1] rfl (by decide)) rfl rfl hl.1 rfl (lv_room (Nat.le_of_ble_eq_true rfl)) dX11_speaks_25 ⟨Nat.le_of_ble_eq_true rfl, Nat.le_of_ble_eq_true rfl⟩) hP hD hS hA [0, 1] [2] rfl rfl (by decide) (by decide) ?_
            clear hP hD hS
            intro r_477 u_479 H locs w_478 hP hD hS
            replace hP : va_P D vwCl [(k8, .inl (cI, 40, .inl c8)), (k, .inr (11, [.ref k0, .ref k1, .ref k2, .int c3, .ref k4, .ref k5, .ref k6, .ref k7, .ref k8, .int c9, .ref ka, .ref kb, .int cc, .int cd, .int ce, .int cf, .int cg, .int ch, .int ci, .int cj, .int ck, .ref kl, .int cm, .int cn, .ref ko])), (k0, .inl (cI, 1201, .inl c0))] H := hP
            replace hD : va_D A [(k8, .inl (cI, 40, .inl c8)), (k, .inr (11, [.ref k0, .ref k1, .ref k2, .int c3, .ref k4, .ref k5, .ref k6, .ref k7, .ref k8, .int c9, .ref ka, .ref kb, .int cc, .int cd, .int ce, .int cf, .int cg, .int ch, .int ci, .int cj, .int ck, .ref kl, .int cm, .int cn, .ref ko])), (k0, .inl (cI, 1201, .inl c0))] := hD
            have h_480 := w_478
            have h_480 : r_477 = wW c0 a0 0 := h_480
            have t_481 : r_477.toInt = (wW c0 a0 0).toInt := by rw [h_480]
            have b_482 : 0 ≤ r_477.toInt ∧ r_477.toInt ≤ 5 := by rw [h_480]; exact SB.w0 pre0 (by omega) (by omega)
            have lo_r_477 := k_lo r_477
            have hi_r_477 := k_hi r_477
            refine lv_istore (lv' := [(6, .int r_477), (5, .int l3_5), (0, .ref k), (1, .int a0), (2, .int a1), (3, .int a2), (4, .int a3)]) hx hb dX11_speaks_28 hl (by decide) rfl ?_
            clear hl
            intro ls hl
            refine lv_aload_n hx hb dX11_speaks_30 rfl (lv_at hl 2 rfl) ?_
            refine lv_iload_n hx hb dX11_speaks_31 rfl (lv_at hl 3 rfl) ?_
            refine lv_iconst (v := 2) hx hb dX11_speaks_32 (by decide) ?_
            refine kJi (wr := [(k8, .inl (cI, 40, .inl c8))]) (va_runV (As := [.int a0, .int 2]) (rest := []) ⟨hx, hb, hml, hown, hT⟩ (c_X11_workG2 l D cI aK aV k k0 k1 k2 k4 k5 k6 k7 k8 ka kb kl ko H.size c3 c9 cc cd ce cf cg ch ci cj ck cm cn c0 a0 2 (by first | omega | (simp only [zl_2]; first | done | omega) | decide | assumption | rfl) (by first | omega | (simp only [zl_2]; first | done | omega) | decide | assumption | rfl) (by first | omega | (simp only [zl_2]; first | done | omega) | decide | assumption | rfl)) (cwV 2 hT (gV_in mw_1276 mw_1273 mw_1275 mw_p3_12 mw_12) rfl rfl rfl (by decide +kernel) ⟨(by dsimp only; omega), (by dsimp only; omega)⟩) (kRecvX (q0 := 1) (ci := 11) hK hP hD hN hXS hS hA rfl rfl [1, 2] rfl (by decide)) rfl rfl hl.1 rfl (lv_room (Nat.le_of_ble_eq_true rfl)) dX11_speaks_33 ⟨Nat.le_of_ble_eq_true rfl, Nat.le_of_ble_eq_true rfl⟩) hP hD hS hA [1, 2] [0] rfl rfl (by decide) (by decide) ?_
            clear hP hD hS
            intro r_483 u_485 H locs w_484 hP hD hS
            replace hP : va_P D vwCl [(k8, .inl (cI, 40, .inl c8)), (k, .inr (11, [.ref k0, .ref k1, .ref k2, .int c3, .ref k4, .ref k5, .ref k6, .ref k7, .ref k8, .int c9, .ref ka, .ref kb, .int cc, .int cd, .int ce, .int cf, .int cg, .int ch, .int ci, .int cj, .int ck, .ref kl, .int cm, .int cn, .ref ko])), (k0, .inl (cI, 1201, .inl c0))] H := hP
            replace hD : va_D A [(k8, .inl (cI, 40, .inl c8)), (k, .inr (11, [.ref k0, .ref k1, .ref k2, .int c3, .ref k4, .ref k5, .ref k6, .ref k7, .ref k8, .int c9, .ref ka, .ref kb, .int cc, .int cd, .int ce, .int cf, .int cg, .int ch, .int ci, .int cj, .int ck, .ref kl, .int cm, .int cn, .ref ko])), (k0, .inl (cI, 1201, .inl c0))] := hD
            have h_486 := w_484
            have h_486 : r_483 = wW c0 a0 2 := h_486
            have t_487 : r_483.toInt = (wW c0 a0 2).toInt := by rw [h_486]
            have lo_r_483 := k_lo r_483
            have hi_r_483 := k_hi r_483
            refine lv_istore (lv' := [(7, .int r_483), (6, .int r_477), (5, .int l3_5), (0, .ref k), (1, .int a0), (2, .int a1), (3, .int a2), (4, .int a3)]) hx hb dX11_speaks_36 hl (by decide) rfl ?_
            clear hl
            intro ls hl
            refine lv_iload hx hb dX11_speaks_38 (lv_at hl 2 rfl) ?_
            refine kJi (wr := [(k8, .inl (cI, 40, .inl c8)), (k, .inr (11, [.ref k0, .ref k1, .ref k2, .int c3, .ref k4, .ref k5, .ref k6, .ref k7, .ref k8, .int c9, .ref ka, .ref kb, .int cc, .int cd, .int ce, .int cf, .int cg, .int ch, .int ci, .int cj, .int ck, .ref kl, .int cm, .int cn, .ref ko])), (k0, .inl (cI, 1201, .inl c0))]) (va_runS (As := [.int l3_5]) (rest := []) ⟨hx, hb, hml, hown, hT⟩ (c_X11_parentG l D cI aK aV H.size l3_5 (by first | omega | decide | assumption | rfl) (by first | omega | decide | assumption | rfl)) (cwS 1 hT (gS_in mw_1282 mw_1280 mw_1281 mw_12) rfl rfl rfl (by decide +kernel) ⟨(by dsimp only; omega), (by dsimp only; omega)⟩) (kStatX hK hP hD hN hXS hS hA [] rfl (by decide)) rfl rfl hl.1 rfl (lv_room (Nat.le_of_ble_eq_true rfl)) dX11_speaks_40 ⟨Nat.le_of_ble_eq_true rfl, Nat.le_of_ble_eq_true rfl⟩) hP hD hS hA [] [0, 1, 2] rfl rfl (by decide) (by decide) ?_
            clear hP hD hS
            intro r_488 u_490 H locs w_489 hP hD hS
            replace hP : va_P D vwCl [(k8, .inl (cI, 40, .inl c8)), (k, .inr (11, [.ref k0, .ref k1, .ref k2, .int c3, .ref k4, .ref k5, .ref k6, .ref k7, .ref k8, .int c9, .ref ka, .ref kb, .int cc, .int cd, .int ce, .int cf, .int cg, .int ch, .int ci, .int cj, .int ck, .ref kl, .int cm, .int cn, .ref ko])), (k0, .inl (cI, 1201, .inl c0))] H := hP
            replace hD : va_D A [(k8, .inl (cI, 40, .inl c8)), (k, .inr (11, [.ref k0, .ref k1, .ref k2, .int c3, .ref k4, .ref k5, .ref k6, .ref k7, .ref k8, .int c9, .ref ka, .ref kb, .int cc, .int cd, .int ce, .int cf, .int cg, .int ch, .int ci, .int cj, .int ck, .ref kl, .int cm, .int cn, .ref ko])), (k0, .inl (cI, 1201, .inl c0))] := hD
            rcases w_489 with ⟨hr_488, h_491⟩ | ⟨hr_488, h_492⟩ | ⟨hr_488, h_493⟩ | ⟨hr_488, h_494⟩ | ⟨hr_488, h_495⟩
            · exfalso; omega
            · have h_492 : l3_5.toInt = 1 ∨ l3_5.toInt = 4 := h_492
              obtain rfl : r_488 = 0 := hr_488.trans (by decide)
              refine lv_istore (lv' := [(8, .int 0), (7, .int r_483), (6, .int r_477), (5, .int l3_5), (0, .ref k), (1, .int a0), (2, .int a1), (3, .int a2), (4, .int a3)]) hx hb dX11_speaks_43 hl (by decide) rfl ?_
              clear hl
              intro ls hl
              refine lv_iload hx hb dX11_speaks_45 (lv_at hl 3 rfl) ?_
              refine lv_iload_n hx hb dX11_speaks_47 rfl (lv_at hl 7 rfl) ?_
              refine kJi (wr := [(k8, .inl (cI, 40, .inl c8)), (k, .inr (11, [.ref k0, .ref k1, .ref k2, .int c3, .ref k4, .ref k5, .ref k6, .ref k7, .ref k8, .int c9, .ref ka, .ref kb, .int cc, .int cd, .int ce, .int cf, .int cg, .int ch, .int ci, .int cj, .int ck, .ref kl, .int cm, .int cn, .ref ko])), (k0, .inl (cI, 1201, .inl c0))]) (va_runS (As := [.int l3_5, .int a2]) (rest := []) ⟨hx, hb, hml, hown, hT⟩ (c_X11_bodyOfG l D cI aK aV H.size l3_5 a2 (by first | omega | decide | assumption | rfl) (by first | omega | decide | assumption | rfl) (by first | omega | decide | assumption | rfl) (by first | omega | decide | assumption | rfl)) (cwS 2 hT (gS_in mw_1581 mw_1579 mw_1580 mw_12) rfl rfl rfl (by decide +kernel) ⟨(by dsimp only; omega), (by dsimp only; omega)⟩) (kStatX hK hP hD hN hXS hS hA [] rfl (by decide)) rfl rfl hl.1 rfl (lv_room (Nat.le_of_ble_eq_true rfl)) dX11_speaks_48 ⟨Nat.le_of_ble_eq_true rfl, Nat.le_of_ble_eq_true rfl⟩) hP hD hS hA [] [0, 1, 2] rfl rfl (by decide) (by decide) ?_
              clear hP hD hS
              intro r_496 u_498 H locs w_497 hP hD hS
              replace hP : va_P D vwCl [(k8, .inl (cI, 40, .inl c8)), (k, .inr (11, [.ref k0, .ref k1, .ref k2, .int c3, .ref k4, .ref k5, .ref k6, .ref k7, .ref k8, .int c9, .ref ka, .ref kb, .int cc, .int cd, .int ce, .int cf, .int cg, .int ch, .int ci, .int cj, .int ck, .ref kl, .int cm, .int cn, .ref ko])), (k0, .inl (cI, 1201, .inl c0))] H := hP
              replace hD : va_D A [(k8, .inl (cI, 40, .inl c8)), (k, .inr (11, [.ref k0, .ref k1, .ref k2, .int c3, .ref k4, .ref k5, .ref k6, .ref k7, .ref k8, .int c9, .ref ka, .ref kb, .int cc, .int cd, .int ce, .int cf, .int cg, .int ch, .int ci, .int cj, .int ck, .ref kl, .int cm, .int cn, .ref ko])), (k0, .inl (cI, 1201, .inl c0))] := hD
              rcases w_497 with ⟨hr_496, h_499, h_500, h_501⟩ | ⟨hr_496, h_502, h_503, h_504⟩ | ⟨hr_496, h_505, h_506, h_507⟩ | ⟨hr_496, h_508, h_509, h_510⟩ | ⟨hr_496, h_511, h_512, h_513⟩ | ⟨hr_496, h_514, h_515, h_516⟩ | ⟨hr_496, h_517, h_518, h_519⟩ | ⟨hr_496, h_520, h_521, h_522⟩ | ⟨hr_496, h_523, h_524, h_525⟩ | ⟨hr_496, h_526, h_527, h_528⟩ | ⟨hr_496, h_529, h_530, h_531⟩ | ⟨hr_496, h_532, h_533, h_534⟩ | ⟨hr_496, h_535, h_536, h_537⟩ | ⟨hr_496, h_538, h_539, h_540⟩ | ⟨hr_496, h_541, h_542⟩
              · exfalso; omega
              · exfalso; omega
              · exfalso; omega
              · exfalso; omega
              · exfalso; omega
              · have h_514 : l3_5.toInt = 1 := h_514
                have h_515 : a2.toInt = 3 := h_515
                have h_516 : (bKi l3_5 a2).toInt = 21 := h_516
                obtain rfl : r_496 = 21 := hr_496.trans (by decide)
                refine lv_istore (lv' := [(9, .int 21), (8, .int 0), (7, .int r_483), (6, .int r_477), (5, .int l3_5), (0, .ref k), (1, .int a0), (2, .int a1), (3, .int a2), (4, .int a3)]) hx hb dX11_speaks_51 hl (by decide) rfl ?_
                clear hl
                intro ls hl
                refine lv_aload_n hx hb dX11_speaks_53 rfl (lv_at hl 5 rfl) ?_
                refine lv_iload hx hb dX11_speaks_54 (lv_at hl 0 rfl) ?_
                refine kJv (wr := [(k0, .inl (cI, 1201, .inl c0))]) (va_runV (As := [.int 21]) (rest := []) ⟨hx, hb, hml, hown, hT⟩ (c_X11_ranG l D cI aK aV k k0 k1 k2 k4 k5 k6 k7 k8 ka kb kl ko H.size c3 c9 cc cd ce cf cg ch ci cj ck cm cn c8 21 (by first | omega | (simp only [zl_21]; first | done | omega) | decide | assumption | rfl) (by first | omega | (simp only [zl_21]; first | done | omega) | decide | assumption | rfl)) (cwV 1 hT (gV_in mw_1585 mw_1582 mw_1584 mw_p6_7 mw_12) rfl rfl rfl (by decide +kernel) ⟨(by dsimp only; omega), (by dsimp only; omega)⟩) (kRecvX (q0 := 1) (ci := 11) hK hP hD hN hXS hS hA rfl rfl [1, 0] rfl (by decide)) rfl rfl hl.1 rfl (lv_room (Nat.le_of_ble_eq_true rfl)) dX11_speaks_56 ⟨Nat.le_of_ble_eq_true rfl, Nat.le_of_ble_eq_true rfl⟩) hP hD hS hA [1, 0] [2] rfl rfl (by decide) (by decide) ?_
                clear hP hD hS
                intro u_547 H locs w_544 hP hD hS
                obtain ⟨sc9_545, sc8_546⟩ := u_547
                replace hP : va_P D vwCl [(k0, .inl (cI, 1201, .inl c0)), (k, .inr (11, [.ref k0, .ref k1, .ref k2, .int c3, .ref k4, .ref k5, .ref k6, .ref k7, .ref k8, .int sc9_545, .ref ka, .ref kb, .int cc, .int cd, .int ce, .int cf, .int cg, .int ch, .int ci, .int cj, .int ck, .ref kl, .int cm, .int cn, .ref ko])), (k8, .inl (cI, 40, .inl sc8_546))] H := hP
                replace hD : va_D A [(k0, .inl (cI, 1201, .inl c0)), (k, .inr (11, [.ref k0, .ref k1, .ref k2, .int c3, .ref k4, .ref k5, .ref k6, .ref k7, .ref k8, .int sc9_545, .ref ka, .ref kb, .int cc, .int cd, .int ce, .int cf, .int cg, .int ch, .int ci, .int cj, .int ck, .ref kl, .int cm, .int cn, .ref ko])), (k8, .inl (cI, 40, .inl sc8_546))] := hD
                have lo_sc9_545 := k_lo sc9_545
                have hi_sc9_545 := k_hi sc9_545
                obtain ⟨h_548, h_549, h_550, h_551⟩ := w_544
                try simp only [zl_21] at h_548
                have h_548 : 0 ≤ sc9_545.toInt := h_548
                try simp only [zl_21] at h_549
                have h_549 : sc9_545.toInt ≤ 40 := h_549
                try simp only [zl_21] at h_550
                have h_550 : sc9_545 = mSV c9 := h_550
                try simp only [zl_21] at h_551
                have h_551 : sc8_546 = gSV c9 c8 21 := h_551
                refine lv_iload hx hb dX11_speaks_59 (lv_at hl 0 rfl) ?_
                refine lv_tableIn (off := 290) (tgt := 351) hx hb dX11_speaks_61 (by decide) (by decide) (by decide) (by decide) ?_
                refine lv_aload_n hx hb dX11_speaks_351 rfl (lv_at hl 5 rfl) ?_
                refine lv_iload_n hx hb dX11_speaks_352 rfl (lv_at hl 6 rfl) ?_
                refine lv_iload hx hb dX11_speaks_353 (lv_at hl 1 rfl) ?_
                refine lv_iconst (v := 3) hx hb dX11_speaks_355 (by decide) ?_
                refine lv_iload hx hb dX11_speaks_356 (lv_at hl 9 rfl) ?_
                refine kJi (wr := []) (va_runV (As := [.int a0, .int 0, .int 3, .int a3]) (rest := []) ⟨hx, hb, hml, hown, hT⟩ (ih l D cI aK aV k k0 k1 k2 k4 k5 k6 k7 k8 ka kb kl ko H.size c3 sc9_545 cc cd ce cf cg ch ci cj ck cm cn c0 sc8_546 a0 0 3 a3 pre0 (by first | omega | (simp only [zl_0, zl_3]; first | done | omega) | decide | assumption | rfl) (by first | omega | (simp only [zl_0, zl_3]; first | done | omega) | decide | assumption | rfl) (by first | omega | (simp only [zl_0, zl_3]; first | done | omega) | decide | assumption | rfl) (by first | omega | (simp only [zl_0, zl_3]; first | done | omega) | decide | assumption | rfl) (by first | omega | (simp only [zl_0, zl_3]; first | done | omega) | decide | assumption | rfl) (by first | omega | (simp only [zl_0, zl_3]; first | done | omega) | decide | assumption | rfl) (by first | omega | (simp only [zl_0, zl_3]; first | done | omega) | decide | assumption | rfl) (by first | omega | (simp only [zl_0, zl_3]; first | done | omega) | decide | assumption | rfl) (by first | omega | (simp only [zl_0, zl_3]; first | done | omega) | decide | assumption | rfl)) (cwV 4 hT (gV_in mw_1578 mw_1575 mw_1577 mw_p6_6 mw_12) rfl rfl rfl (by decide +kernel) ⟨(by dsimp only; omega), (by dsimp only; omega)⟩) (kRecvX (q0 := 1) (ci := 11) hK hP hD hN hXS hS hA rfl rfl [1, 0, 2] rfl (by decide)) rfl rfl hl.1 rfl (lv_room (Nat.le_of_ble_eq_true rfl)) dX11_speaks_358 ⟨Nat.le_of_ble_eq_true rfl, Nat.le_of_ble_eq_true rfl⟩) hP hD hS hA [1, 0, 2] [] rfl rfl (by decide) (by decide) ?_
                clear hP hD hS
                intro r_552 u_556 H locs w_553 hP hD hS
                obtain ⟨sc9_554, sc8_555⟩ := u_556
                replace hP : va_P D vwCl [(k, .inr (11, [.ref k0, .ref k1, .ref k2, .int c3, .ref k4, .ref k5, .ref k6, .ref k7, .ref k8, .int sc9_554, .ref ka, .ref kb, .int cc, .int cd, .int ce, .int cf, .int cg, .int ch, .int ci, .int cj, .int ck, .ref kl, .int cm, .int cn, .ref ko])), (k0, .inl (cI, 1201, .inl c0)), (k8, .inl (cI, 40, .inl sc8_555))] H := hP
                replace hD : va_D A [(k, .inr (11, [.ref k0, .ref k1, .ref k2, .int c3, .ref k4, .ref k5, .ref k6, .ref k7, .ref k8, .int sc9_554, .ref ka, .ref kb, .int cc, .int cd, .int ce, .int cf, .int cg, .int ch, .int ci, .int cj, .int ck, .ref kl, .int cm, .int cn, .ref ko])), (k0, .inl (cI, 1201, .inl c0)), (k8, .inl (cI, 40, .inl sc8_555))] := hD
                have lo_sc9_554 := k_lo sc9_554
                have hi_sc9_554 := k_hi sc9_554
                obtain ⟨h_557, h_558, h_559⟩ := w_553
                try simp only [zl_0, zl_3] at h_557
                have h_557 : 0 ≤ sc9_554.toInt := h_557
                try simp only [zl_0, zl_3] at h_558
                have h_558 : sc9_554.toInt ≤ 40 := h_558
                try simp only [zl_0, zl_3] at h_559
                have h_559 : voB a0 (wW c0 a0 2) (wW c0 a0 0) dd 0 3 a3 sc9_545 sc8_546 = (r_552, sc9_554, sc8_555) := h_559
                have lo_r_552 := k_lo r_552
                have hi_r_552 := k_hi r_552
                refine lv_iload_n hx hb dX11_speaks_361 rfl (lv_at hl 6 rfl) ?_
                refine lv_isub hx hb dX11_speaks_362 ?_
                refine lv_topi (fun v_560 ev_560 => ?_)
                have lo_v_560 := k_lo v_560
                have hi_v_560 := k_hi v_560
                exact hRet (sc9_554, sc8_555) [0, 1, 2] ⟨(by first | omega | decide | assumption | rfl | (dsimp only; first | omega)), (by first | omega | decide | assumption | rfl | (dsimp only; first | omega)), (vo_21 (b := 21) (m1 := sc9_545) (g1 := sc8_546) (by rw [← i3_3]; exact (bd_own (a := l3_5) (c := a2) (bd_bk h_516 (by decide)) (by decide)).symm) (by decide) h_550 h_551 h_559 ev_560)⟩ hP hD (by decide) rfl hS rfl dX11_speaks_363
              · exfalso; omega
              · exfalso; omega
              · exfalso; omega
              · exfalso; omega
              · exfalso; omega
              · exfalso; omega
              · exfalso; omega
              · exfalso; omega
              · exfalso; omega
            · exfalso; omega
            · exfalso; omega
            · exfalso; omega
          · have h_25 : l3_5.toInt = 2 := h_25
            have h_26 : a2.toInt = 0 := h_26
            have h_27 : (bKi l3_5 a2).toInt = 30 := h_27
            obtain rfl : r_4 = 30 := hr_4.trans (by decide)
            refine b_if_ne hx hb zl_30 (tgt := 22) dX11_speaks_9 (by decide) (fun c_561 => ?_) (fun c_561 => by exfalso; omega)
            refine lv_aload_n hx hb dX11_speaks_22 rfl (lv_at hl 1 rfl) ?_
            refine lv_iload_n hx hb dX11_speaks_23 rfl (lv_at hl 2 rfl) ?_
            refine lv_iconst (v := 0) hx hb dX11_speaks_24 (by decide) ?_
            refine kJi (wr := [(k8, .inl (cI, 40, .inl c8))]) (va_runV (As := [.int a0, .int 0]) (rest := []) ⟨hx, hb, hml, hown, hT⟩ (c_X11_workG0 l D cI aK aV k k0 k1 k2 k4 k5 k6 k7 k8 ka kb kl ko H.size c3 c9 cc cd ce cf cg ch ci cj ck cm cn c0 a0 0 (by first | omega | (simp only [zl_0]; first | done | omega) | decide | assumption | rfl) (by first | omega | (simp only [zl_0]; first | done | omega) | decide | assumption | rfl) (by first | omega | (simp only [zl_0]; first | done | omega) | decide | assumption | rfl)) (cwV 2 hT (gV_in mw_1276 mw_1273 mw_1275 mw_p3_12 mw_12) rfl rfl rfl (by decide +kernel) ⟨(by dsimp only; omega), (by dsimp only; omega)⟩) (kRecvX (q0 := 0) (ci := 11) hK hP hD hN hXS hS hA rfl rfl [0, 1] rfl (by decide)) rfl rfl hl.1 rfl (lv_room (Nat.le_of_ble_eq_true rfl)) dX11_speaks_25 ⟨Nat.le_of_ble_eq_true rfl, Nat.le_of_ble_eq_true rfl⟩) hP hD hS hA [0, 1] [2] rfl rfl (by decide) (by decide) ?_
            clear hP hD hS
            intro r_562 u_564 H locs w_563 hP hD hS
            replace hP : va_P D vwCl [(k8, .inl (cI, 40, .inl c8)), (k, .inr (11, [.ref k0, .ref k1, .ref k2, .int c3, .ref k4, .ref k5, .ref k6, .ref k7, .ref k8, .int c9, .ref ka, .ref kb, .int cc, .int cd, .int ce, .int cf, .int cg, .int ch, .int ci, .int cj, .int ck, .ref kl, .int cm, .int cn, .ref ko])), (k0, .inl (cI, 1201, .inl c0))] H := hP
            replace hD : va_D A [(k8, .inl (cI, 40, .inl c8)), (k, .inr (11, [.ref k0, .ref k1, .ref k2, .int c3, .ref k4, .ref k5, .ref k6, .ref k7, .ref k8, .int c9, .ref ka, .ref kb, .int cc, .int cd, .int ce, .int cf, .int cg, .int ch, .int ci, .int cj, .int ck, .ref kl, .int cm, .int cn, .ref ko])), (k0, .inl (cI, 1201, .inl c0))] := hD
            have h_565 := w_563
            have h_565 : r_562 = wW c0 a0 0 := h_565
            have t_566 : r_562.toInt = (wW c0 a0 0).toInt := by rw [h_565]
            have b_567 : 0 ≤ r_562.toInt ∧ r_562.toInt ≤ 5 := by rw [h_565]; exact SB.w0 pre0 (by omega) (by omega)
            have lo_r_562 := k_lo r_562
            have hi_r_562 := k_hi r_562
            refine lv_istore (lv' := [(6, .int r_562), (5, .int l3_5), (0, .ref k), (1, .int a0), (2, .int a1), (3, .int a2), (4, .int a3)]) hx hb dX11_speaks_28 hl (by decide) rfl ?_
            clear hl
            intro ls hl
            refine lv_aload_n hx hb dX11_speaks_30 rfl (lv_at hl 2 rfl) ?_
            refine lv_iload_n hx hb dX11_speaks_31 rfl (lv_at hl 3 rfl) ?_
            refine lv_iconst (v := 2) hx hb dX11_speaks_32 (by decide) ?_
            refine kJi (wr := [(k8, .inl (cI, 40, .inl c8))]) (va_runV (As := [.int a0, .int 2]) (rest := []) ⟨hx, hb, hml, hown, hT⟩ (c_X11_workG2 l D cI aK aV k k0 k1 k2 k4 k5 k6 k7 k8 ka kb kl ko H.size c3 c9 cc cd ce cf cg ch ci cj ck cm cn c0 a0 2 (by first | omega | (simp only [zl_2]; first | done | omega) | decide | assumption | rfl) (by first | omega | (simp only [zl_2]; first | done | omega) | decide | assumption | rfl) (by first | omega | (simp only [zl_2]; first | done | omega) | decide | assumption | rfl)) (cwV 2 hT (gV_in mw_1276 mw_1273 mw_1275 mw_p3_12 mw_12) rfl rfl rfl (by decide +kernel) ⟨(by dsimp only; omega), (by dsimp only; omega)⟩) (kRecvX (q0 := 1) (ci := 11) hK hP hD hN hXS hS hA rfl rfl [1, 2] rfl (by decide)) rfl rfl hl.1 rfl (lv_room (Nat.le_of_ble_eq_true rfl)) dX11_speaks_33 ⟨Nat.le_of_ble_eq_true rfl, Nat.le_of_ble_eq_true rfl⟩) hP hD hS hA [1, 2] [0] rfl rfl (by decide) (by decide) ?_
            clear hP hD hS
            intro r_568 u_570 H locs w_569 hP hD hS
            replace hP : va_P D vwCl [(k8, .inl (cI, 40, .inl c8)), (k, .inr (11, [.ref k0, .ref k1, .ref k2, .int c3, .ref k4, .ref k5, .ref k6, .ref k7, .ref k8, .int c9, .ref ka, .ref kb, .int cc, .int cd, .int ce, .int cf, .int cg, .int ch, .int ci, .int cj, .int ck, .ref kl, .int cm, .int cn, .ref ko])), (k0, .inl (cI, 1201, .inl c0))] H := hP
            replace hD : va_D A [(k8, .inl (cI, 40, .inl c8)), (k, .inr (11, [.ref k0, .ref k1, .ref k2, .int c3, .ref k4, .ref k5, .ref k6, .ref k7, .ref k8, .int c9, .ref ka, .ref kb, .int cc, .int cd, .int ce, .int cf, .int cg, .int ch, .int ci, .int cj, .int ck, .ref kl, .int cm, .int cn, .ref ko])), (k0, .inl (cI, 1201, .inl c0))] := hD
            have h_571 := w_569
            have h_571 : r_568 = wW c0 a0 2 := h_571
            have t_572 : r_568.toInt = (wW c0 a0 2).toInt := by rw [h_571]
            have lo_r_568 := k_lo r_568
            have hi_r_568 := k_hi r_568
            refine lv_istore (lv' := [(7, .int r_568), (6, .int r_562), (5, .int l3_5), (0, .ref k), (1, .int a0), (2, .int a1), (3, .int a2), (4, .int a3)]) hx hb dX11_speaks_36 hl (by decide) rfl ?_
            clear hl
            intro ls hl
            refine lv_iload hx hb dX11_speaks_38 (lv_at hl 2 rfl) ?_
            refine kJi (wr := [(k8, .inl (cI, 40, .inl c8)), (k, .inr (11, [.ref k0, .ref k1, .ref k2, .int c3, .ref k4, .ref k5, .ref k6, .ref k7, .ref k8, .int c9, .ref ka, .ref kb, .int cc, .int cd, .int ce, .int cf, .int cg, .int ch, .int ci, .int cj, .int ck, .ref kl, .int cm, .int cn, .ref ko])), (k0, .inl (cI, 1201, .inl c0))]) (va_runS (As := [.int l3_5]) (rest := []) ⟨hx, hb, hml, hown, hT⟩ (c_X11_parentG l D cI aK aV H.size l3_5 (by first | omega | decide | assumption | rfl) (by first | omega | decide | assumption | rfl)) (cwS 1 hT (gS_in mw_1282 mw_1280 mw_1281 mw_12) rfl rfl rfl (by decide +kernel) ⟨(by dsimp only; omega), (by dsimp only; omega)⟩) (kStatX hK hP hD hN hXS hS hA [] rfl (by decide)) rfl rfl hl.1 rfl (lv_room (Nat.le_of_ble_eq_true rfl)) dX11_speaks_40 ⟨Nat.le_of_ble_eq_true rfl, Nat.le_of_ble_eq_true rfl⟩) hP hD hS hA [] [0, 1, 2] rfl rfl (by decide) (by decide) ?_
            clear hP hD hS
            intro r_573 u_575 H locs w_574 hP hD hS
            replace hP : va_P D vwCl [(k8, .inl (cI, 40, .inl c8)), (k, .inr (11, [.ref k0, .ref k1, .ref k2, .int c3, .ref k4, .ref k5, .ref k6, .ref k7, .ref k8, .int c9, .ref ka, .ref kb, .int cc, .int cd, .int ce, .int cf, .int cg, .int ch, .int ci, .int cj, .int ck, .ref kl, .int cm, .int cn, .ref ko])), (k0, .inl (cI, 1201, .inl c0))] H := hP
            replace hD : va_D A [(k8, .inl (cI, 40, .inl c8)), (k, .inr (11, [.ref k0, .ref k1, .ref k2, .int c3, .ref k4, .ref k5, .ref k6, .ref k7, .ref k8, .int c9, .ref ka, .ref kb, .int cc, .int cd, .int ce, .int cf, .int cg, .int ch, .int ci, .int cj, .int ck, .ref kl, .int cm, .int cn, .ref ko])), (k0, .inl (cI, 1201, .inl c0))] := hD
            rcases w_574 with ⟨hr_573, h_576⟩ | ⟨hr_573, h_577⟩ | ⟨hr_573, h_578⟩ | ⟨hr_573, h_579⟩ | ⟨hr_573, h_580⟩
            · exfalso; omega
            · exfalso; omega
            · have h_578 : l3_5.toInt = 2 := h_578
              obtain rfl : r_573 = 1 := hr_573.trans (by decide)
              refine lv_istore (lv' := [(8, .int 1), (7, .int r_568), (6, .int r_562), (5, .int l3_5), (0, .ref k), (1, .int a0), (2, .int a1), (3, .int a2), (4, .int a3)]) hx hb dX11_speaks_43 hl (by decide) rfl ?_
              clear hl
              intro ls hl
              refine lv_iload hx hb dX11_speaks_45 (lv_at hl 3 rfl) ?_
              refine lv_iload_n hx hb dX11_speaks_47 rfl (lv_at hl 7 rfl) ?_
              refine kJi (wr := [(k8, .inl (cI, 40, .inl c8)), (k, .inr (11, [.ref k0, .ref k1, .ref k2, .int c3, .ref k4, .ref k5, .ref k6, .ref k7, .ref k8, .int c9, .ref ka, .ref kb, .int cc, .int cd, .int ce, .int cf, .int cg, .int ch, .int ci, .int cj, .int ck, .ref kl, .int cm, .int cn, .ref ko])), (k0, .inl (cI, 1201, .inl c0))]) (va_runS (As := [.int l3_5, .int a2]) (rest := []) ⟨hx, hb, hml, hown, hT⟩ (c_X11_bodyOfG l D cI aK aV H.size l3_5 a2 (by first | omega | decide | assumption | rfl) (by first | omega | decide | assumption | rfl) (by first | omega | decide | assumption | rfl) (by first | omega | decide | assumption | rfl)) (cwS 2 hT (gS_in mw_1581 mw_1579 mw_1580 mw_12) rfl rfl rfl (by decide +kernel) ⟨(by dsimp only; omega), (by dsimp only; omega)⟩) (kStatX hK hP hD hN hXS hS hA [] rfl (by decide)) rfl rfl hl.1 rfl (lv_room (Nat.le_of_ble_eq_true rfl)) dX11_speaks_48 ⟨Nat.le_of_ble_eq_true rfl, Nat.le_of_ble_eq_true rfl⟩) hP hD hS hA [] [0, 1, 2] rfl rfl (by decide) (by decide) ?_
              clear hP hD hS
              intro r_581 u_583 H locs w_582 hP hD hS
              replace hP : va_P D vwCl [(k8, .inl (cI, 40, .inl c8)), (k, .inr (11, [.ref k0, .ref k1, .ref k2, .int c3, .ref k4, .ref k5, .ref k6, .ref k7, .ref k8, .int c9, .ref ka, .ref kb, .int cc, .int cd, .int ce, .int cf, .int cg, .int ch, .int ci, .int cj, .int ck, .ref kl, .int cm, .int cn, .ref ko])), (k0, .inl (cI, 1201, .inl c0))] H := hP
              replace hD : va_D A [(k8, .inl (cI, 40, .inl c8)), (k, .inr (11, [.ref k0, .ref k1, .ref k2, .int c3, .ref k4, .ref k5, .ref k6, .ref k7, .ref k8, .int c9, .ref ka, .ref kb, .int cc, .int cd, .int ce, .int cf, .int cg, .int ch, .int ci, .int cj, .int ck, .ref kl, .int cm, .int cn, .ref ko])), (k0, .inl (cI, 1201, .inl c0))] := hD
              rcases w_582 with ⟨hr_581, h_584, h_585, h_586⟩ | ⟨hr_581, h_587, h_588, h_589⟩ | ⟨hr_581, h_590, h_591, h_592⟩ | ⟨hr_581, h_593, h_594, h_595⟩ | ⟨hr_581, h_596, h_597, h_598⟩ | ⟨hr_581, h_599, h_600, h_601⟩ | ⟨hr_581, h_602, h_603, h_604⟩ | ⟨hr_581, h_605, h_606, h_607⟩ | ⟨hr_581, h_608, h_609, h_610⟩ | ⟨hr_581, h_611, h_612, h_613⟩ | ⟨hr_581, h_614, h_615, h_616⟩ | ⟨hr_581, h_617, h_618, h_619⟩ | ⟨hr_581, h_620, h_621, h_622⟩ | ⟨hr_581, h_623, h_624, h_625⟩ | ⟨hr_581, h_626, h_627⟩
              · exfalso; omega
              · exfalso; omega
              · exfalso; omega
              · exfalso; omega
              · exfalso; omega
              · exfalso; omega
              · have h_602 : l3_5.toInt = 2 := h_602
                have h_603 : a2.toInt = 0 := h_603
                have h_604 : (bKi l3_5 a2).toInt = 30 := h_604
                obtain rfl : r_581 = 30 := hr_581.trans (by decide)
                refine lv_istore (lv' := [(9, .int 30), (8, .int 1), (7, .int r_568), (6, .int r_562), (5, .int l3_5), (0, .ref k), (1, .int a0), (2, .int a1), (3, .int a2), (4, .int a3)]) hx hb dX11_speaks_51 hl (by decide) rfl ?_
                clear hl
                intro ls hl
                refine lv_aload_n hx hb dX11_speaks_53 rfl (lv_at hl 5 rfl) ?_
                refine lv_iload hx hb dX11_speaks_54 (lv_at hl 0 rfl) ?_
                refine kJv (wr := [(k0, .inl (cI, 1201, .inl c0))]) (va_runV (As := [.int 30]) (rest := []) ⟨hx, hb, hml, hown, hT⟩ (c_X11_ranG l D cI aK aV k k0 k1 k2 k4 k5 k6 k7 k8 ka kb kl ko H.size c3 c9 cc cd ce cf cg ch ci cj ck cm cn c8 30 (by first | omega | (simp only [zl_30]; first | done | omega) | decide | assumption | rfl) (by first | omega | (simp only [zl_30]; first | done | omega) | decide | assumption | rfl)) (cwV 1 hT (gV_in mw_1585 mw_1582 mw_1584 mw_p6_7 mw_12) rfl rfl rfl (by decide +kernel) ⟨(by dsimp only; omega), (by dsimp only; omega)⟩) (kRecvX (q0 := 1) (ci := 11) hK hP hD hN hXS hS hA rfl rfl [1, 0] rfl (by decide)) rfl rfl hl.1 rfl (lv_room (Nat.le_of_ble_eq_true rfl)) dX11_speaks_56 ⟨Nat.le_of_ble_eq_true rfl, Nat.le_of_ble_eq_true rfl⟩) hP hD hS hA [1, 0] [2] rfl rfl (by decide) (by decide) ?_
                clear hP hD hS
                intro u_632 H locs w_629 hP hD hS
                obtain ⟨sc9_630, sc8_631⟩ := u_632
                replace hP : va_P D vwCl [(k0, .inl (cI, 1201, .inl c0)), (k, .inr (11, [.ref k0, .ref k1, .ref k2, .int c3, .ref k4, .ref k5, .ref k6, .ref k7, .ref k8, .int sc9_630, .ref ka, .ref kb, .int cc, .int cd, .int ce, .int cf, .int cg, .int ch, .int ci, .int cj, .int ck, .ref kl, .int cm, .int cn, .ref ko])), (k8, .inl (cI, 40, .inl sc8_631))] H := hP
                replace hD : va_D A [(k0, .inl (cI, 1201, .inl c0)), (k, .inr (11, [.ref k0, .ref k1, .ref k2, .int c3, .ref k4, .ref k5, .ref k6, .ref k7, .ref k8, .int sc9_630, .ref ka, .ref kb, .int cc, .int cd, .int ce, .int cf, .int cg, .int ch, .int ci, .int cj, .int ck, .ref kl, .int cm, .int cn, .ref ko])), (k8, .inl (cI, 40, .inl sc8_631))] := hD
                have lo_sc9_630 := k_lo sc9_630
                have hi_sc9_630 := k_hi sc9_630
                obtain ⟨h_633, h_634, h_635, h_636⟩ := w_629
                try simp only [zl_30] at h_633
                have h_633 : 0 ≤ sc9_630.toInt := h_633
                try simp only [zl_30] at h_634
                have h_634 : sc9_630.toInt ≤ 40 := h_634
                try simp only [zl_30] at h_635
                have h_635 : sc9_630 = mSV c9 := h_635
                try simp only [zl_30] at h_636
                have h_636 : sc8_631 = gSV c9 c8 30 := h_636
                refine lv_iload hx hb dX11_speaks_59 (lv_at hl 0 rfl) ?_
                refine lv_tableIn (off := 303) (tgt := 364) hx hb dX11_speaks_61 (by decide) (by decide) (by decide) (by decide) ?_
                refine lv_aload_n hx hb dX11_speaks_364 rfl (lv_at hl 5 rfl) ?_
                refine lv_iload_n hx hb dX11_speaks_365 rfl (lv_at hl 6 rfl) ?_
                refine lv_iload hx hb dX11_speaks_366 (lv_at hl 1 rfl) ?_
                refine lv_iconst (v := 0) hx hb dX11_speaks_368 (by decide) ?_
                refine lv_iload hx hb dX11_speaks_369 (lv_at hl 9 rfl) ?_
                refine kJi (wr := []) (va_runV (As := [.int a0, .int 1, .int 0, .int a3]) (rest := []) ⟨hx, hb, hml, hown, hT⟩ (ih l D cI aK aV k k0 k1 k2 k4 k5 k6 k7 k8 ka kb kl ko H.size c3 sc9_630 cc cd ce cf cg ch ci cj ck cm cn c0 sc8_631 a0 1 0 a3 pre0 (by first | omega | (simp only [zl_0, zl_1]; first | done | omega) | decide | assumption | rfl) (by first | omega | (simp only [zl_0, zl_1]; first | done | omega) | decide | assumption | rfl) (by first | omega | (simp only [zl_0, zl_1]; first | done | omega) | decide | assumption | rfl) (by first | omega | (simp only [zl_0, zl_1]; first | done | omega) | decide | assumption | rfl) (by first | omega | (simp only [zl_0, zl_1]; first | done | omega) | decide | assumption | rfl) (by first | omega | (simp only [zl_0, zl_1]; first | done | omega) | decide | assumption | rfl) (by first | omega | (simp only [zl_0, zl_1]; first | done | omega) | decide | assumption | rfl) (by first | omega | (simp only [zl_0, zl_1]; first | done | omega) | decide | assumption | rfl) (by first | omega | (simp only [zl_0, zl_1]; first | done | omega) | decide | assumption | rfl)) (cwV 4 hT (gV_in mw_1578 mw_1575 mw_1577 mw_p6_6 mw_12) rfl rfl rfl (by decide +kernel) ⟨(by dsimp only; omega), (by dsimp only; omega)⟩) (kRecvX (q0 := 1) (ci := 11) hK hP hD hN hXS hS hA rfl rfl [1, 0, 2] rfl (by decide)) rfl rfl hl.1 rfl (lv_room (Nat.le_of_ble_eq_true rfl)) dX11_speaks_371 ⟨Nat.le_of_ble_eq_true rfl, Nat.le_of_ble_eq_true rfl⟩) hP hD hS hA [1, 0, 2] [] rfl rfl (by decide) (by decide) ?_
                clear hP hD hS
                intro r_637 u_641 H locs w_638 hP hD hS
                obtain ⟨sc9_639, sc8_640⟩ := u_641
                replace hP : va_P D vwCl [(k, .inr (11, [.ref k0, .ref k1, .ref k2, .int c3, .ref k4, .ref k5, .ref k6, .ref k7, .ref k8, .int sc9_639, .ref ka, .ref kb, .int cc, .int cd, .int ce, .int cf, .int cg, .int ch, .int ci, .int cj, .int ck, .ref kl, .int cm, .int cn, .ref ko])), (k0, .inl (cI, 1201, .inl c0)), (k8, .inl (cI, 40, .inl sc8_640))] H := hP
                replace hD : va_D A [(k, .inr (11, [.ref k0, .ref k1, .ref k2, .int c3, .ref k4, .ref k5, .ref k6, .ref k7, .ref k8, .int sc9_639, .ref ka, .ref kb, .int cc, .int cd, .int ce, .int cf, .int cg, .int ch, .int ci, .int cj, .int ck, .ref kl, .int cm, .int cn, .ref ko])), (k0, .inl (cI, 1201, .inl c0)), (k8, .inl (cI, 40, .inl sc8_640))] := hD
                have lo_sc9_639 := k_lo sc9_639
                have hi_sc9_639 := k_hi sc9_639
                obtain ⟨h_642, h_643, h_644⟩ := w_638
                try simp only [zl_0, zl_1] at h_642
                have h_642 : 0 ≤ sc9_639.toInt := h_642
                try simp only [zl_0, zl_1] at h_643
                have h_643 : sc9_639.toInt ≤ 40 := h_643
                try simp only [zl_0, zl_1] at h_644
                have h_644 : voB a0 (wW c0 a0 2) (wW c0 a0 0) dd 1 0 a3 sc9_630 sc8_631 = (r_637, sc9_639, sc8_640) := h_644
                have lo_r_637 := k_lo r_637
                have hi_r_637 := k_hi r_637
                refine lv_iconst (v := 3) hx hb dX11_speaks_374 (by decide) ?_
                refine lv_imul hx hb dX11_speaks_375 ?_
                refine lv_topi (fun v_645 ev_645 => ?_)
                have lo_v_645 := k_lo v_645
                have hi_v_645 := k_hi v_645
                exact hRet (sc9_639, sc8_640) [0, 1, 2] ⟨(by first | omega | decide | assumption | rfl | (dsimp only; first | omega)), (by first | omega | decide | assumption | rfl | (dsimp only; first | omega)), (vo_30 (b := 30) (m1 := sc9_630) (g1 := sc8_631) (by rw [← i3_3]; exact (bd_own (a := l3_5) (c := a2) (bd_bk h_604 (by decide)) (by decide)).symm) (by decide) h_635 h_636 h_644 ev_645)⟩ hP hD (by decide) rfl hS rfl dX11_speaks_376
              · exfalso; omega
              · exfalso; omega
              · exfalso; omega
              · exfalso; omega
              · exfalso; omega
              · exfalso; omega
              · exfalso; omega
              · exfalso; omega
            · exfalso; omega
            · exfalso; omega
          · have h_28 : l3_5.toInt = 2 := h_28
            have h_29 : a2.toInt = 2 := h_29
            have h_30 : (bKi l3_5 a2).toInt = 31 := h_30
            obtain rfl : r_4 = 31 := hr_4.trans (by decide)
            refine b_if_ne hx hb zl_31 (tgt := 22) dX11_speaks_9 (by decide) (fun c_646 => ?_) (fun c_646 => by exfalso; omega)
            refine lv_aload_n hx hb dX11_speaks_22 rfl (lv_at hl 1 rfl) ?_
            refine lv_iload_n hx hb dX11_speaks_23 rfl (lv_at hl 2 rfl) ?_
            refine lv_iconst (v := 0) hx hb dX11_speaks_24 (by decide) ?_
            refine kJi (wr := [(k8, .inl (cI, 40, .inl c8))]) (va_runV (As := [.int a0, .int 0]) (rest := []) ⟨hx, hb, hml, hown, hT⟩ (c_X11_workG0 l D cI aK aV k k0 k1 k2 k4 k5 k6 k7 k8 ka kb kl ko H.size c3 c9 cc cd ce cf cg ch ci cj ck cm cn c0 a0 0 (by first | omega | (simp only [zl_0]; first | done | omega) | decide | assumption | rfl) (by first | omega | (simp only [zl_0]; first | done | omega) | decide | assumption | rfl) (by first | omega | (simp only [zl_0]; first | done | omega) | decide | assumption | rfl)) (cwV 2 hT (gV_in mw_1276 mw_1273 mw_1275 mw_p3_12 mw_12) rfl rfl rfl (by decide +kernel) ⟨(by dsimp only; omega), (by dsimp only; omega)⟩) (kRecvX (q0 := 0) (ci := 11) hK hP hD hN hXS hS hA rfl rfl [0, 1] rfl (by decide)) rfl rfl hl.1 rfl (lv_room (Nat.le_of_ble_eq_true rfl)) dX11_speaks_25 ⟨Nat.le_of_ble_eq_true rfl, Nat.le_of_ble_eq_true rfl⟩) hP hD hS hA [0, 1] [2] rfl rfl (by decide) (by decide) ?_
            clear hP hD hS
            intro r_647 u_649 H locs w_648 hP hD hS
            replace hP : va_P D vwCl [(k8, .inl (cI, 40, .inl c8)), (k, .inr (11, [.ref k0, .ref k1, .ref k2, .int c3, .ref k4, .ref k5, .ref k6, .ref k7, .ref k8, .int c9, .ref ka, .ref kb, .int cc, .int cd, .int ce, .int cf, .int cg, .int ch, .int ci, .int cj, .int ck, .ref kl, .int cm, .int cn, .ref ko])), (k0, .inl (cI, 1201, .inl c0))] H := hP
            replace hD : va_D A [(k8, .inl (cI, 40, .inl c8)), (k, .inr (11, [.ref k0, .ref k1, .ref k2, .int c3, .ref k4, .ref k5, .ref k6, .ref k7, .ref k8, .int c9, .ref ka, .ref kb, .int cc, .int cd, .int ce, .int cf, .int cg, .int ch, .int ci, .int cj, .int ck, .ref kl, .int cm, .int cn, .ref ko])), (k0, .inl (cI, 1201, .inl c0))] := hD
            have h_650 := w_648
            have h_650 : r_647 = wW c0 a0 0 := h_650
            have t_651 : r_647.toInt = (wW c0 a0 0).toInt := by rw [h_650]
            have b_652 : 0 ≤ r_647.toInt ∧ r_647.toInt ≤ 5 := by rw [h_650]; exact SB.w0 pre0 (by omega) (by omega)
            have lo_r_647 := k_lo r_647
            have hi_r_647 := k_hi r_647
            refine lv_istore (lv' := [(6, .int r_647), (5, .int l3_5), (0, .ref k), (1, .int a0), (2, .int a1), (3, .int a2), (4, .int a3)]) hx hb dX11_speaks_28 hl (by decide) rfl ?_
            clear hl
            intro ls hl
            refine lv_aload_n hx hb dX11_speaks_30 rfl (lv_at hl 2 rfl) ?_
            refine lv_iload_n hx hb dX11_speaks_31 rfl (lv_at hl 3 rfl) ?_
            refine lv_iconst (v := 2) hx hb dX11_speaks_32 (by decide) ?_
            refine kJi (wr := [(k8, .inl (cI, 40, .inl c8))]) (va_runV (As := [.int a0, .int 2]) (rest := []) ⟨hx, hb, hml, hown, hT⟩ (c_X11_workG2 l D cI aK aV k k0 k1 k2 k4 k5 k6 k7 k8 ka kb kl ko H.size c3 c9 cc cd ce cf cg ch ci cj ck cm cn c0 a0 2 (by first | omega | (simp only [zl_2]; first | done | omega) | decide | assumption | rfl) (by first | omega | (simp only [zl_2]; first | done | omega) | decide | assumption | rfl) (by first | omega | (simp only [zl_2]; first | done | omega) | decide | assumption | rfl)) (cwV 2 hT (gV_in mw_1276 mw_1273 mw_1275 mw_p3_12 mw_12) rfl rfl rfl (by decide +kernel) ⟨(by dsimp only; omega), (by dsimp only; omega)⟩) (kRecvX (q0 := 1) (ci := 11) hK hP hD hN hXS hS hA rfl rfl [1, 2] rfl (by decide)) rfl rfl hl.1 rfl (lv_room (Nat.le_of_ble_eq_true rfl)) dX11_speaks_33 ⟨Nat.le_of_ble_eq_true rfl, Nat.le_of_ble_eq_true rfl⟩) hP hD hS hA [1, 2] [0] rfl rfl (by decide) (by decide) ?_
            clear hP hD hS
            intro r_653 u_655 H locs w_654 hP hD hS
            replace hP : va_P D vwCl [(k8, .inl (cI, 40, .inl c8)), (k, .inr (11, [.ref k0, .ref k1, .ref k2, .int c3, .ref k4, .ref k5, .ref k6, .ref k7, .ref k8, .int c9, .ref ka, .ref kb, .int cc, .int cd, .int ce, .int cf, .int cg, .int ch, .int ci, .int cj, .int ck, .ref kl, .int cm, .int cn, .ref ko])), (k0, .inl (cI, 1201, .inl c0))] H := hP
            replace hD : va_D A [(k8, .inl (cI, 40, .inl c8)), (k, .inr (11, [.ref k0, .ref k1, .ref k2, .int c3, .ref k4, .ref k5, .ref k6, .ref k7, .ref k8, .int c9, .ref ka, .ref kb, .int cc, .int cd, .int ce, .int cf, .int cg, .int ch, .int ci, .int cj, .int ck, .ref kl, .int cm, .int cn, .ref ko])), (k0, .inl (cI, 1201, .inl c0))] := hD
            have h_656 := w_654
            have h_656 : r_653 = wW c0 a0 2 := h_656
            have t_657 : r_653.toInt = (wW c0 a0 2).toInt := by rw [h_656]
            have lo_r_653 := k_lo r_653
            have hi_r_653 := k_hi r_653
            refine lv_istore (lv' := [(7, .int r_653), (6, .int r_647), (5, .int l3_5), (0, .ref k), (1, .int a0), (2, .int a1), (3, .int a2), (4, .int a3)]) hx hb dX11_speaks_36 hl (by decide) rfl ?_
            clear hl
            intro ls hl
            refine lv_iload hx hb dX11_speaks_38 (lv_at hl 2 rfl) ?_
            refine kJi (wr := [(k8, .inl (cI, 40, .inl c8)), (k, .inr (11, [.ref k0, .ref k1, .ref k2, .int c3, .ref k4, .ref k5, .ref k6, .ref k7, .ref k8, .int c9, .ref ka, .ref kb, .int cc, .int cd, .int ce, .int cf, .int cg, .int ch, .int ci, .int cj, .int ck, .ref kl, .int cm, .int cn, .ref ko])), (k0, .inl (cI, 1201, .inl c0))]) (va_runS (As := [.int l3_5]) (rest := []) ⟨hx, hb, hml, hown, hT⟩ (c_X11_parentG l D cI aK aV H.size l3_5 (by first | omega | decide | assumption | rfl) (by first | omega | decide | assumption | rfl)) (cwS 1 hT (gS_in mw_1282 mw_1280 mw_1281 mw_12) rfl rfl rfl (by decide +kernel) ⟨(by dsimp only; omega), (by dsimp only; omega)⟩) (kStatX hK hP hD hN hXS hS hA [] rfl (by decide)) rfl rfl hl.1 rfl (lv_room (Nat.le_of_ble_eq_true rfl)) dX11_speaks_40 ⟨Nat.le_of_ble_eq_true rfl, Nat.le_of_ble_eq_true rfl⟩) hP hD hS hA [] [0, 1, 2] rfl rfl (by decide) (by decide) ?_
            clear hP hD hS
            intro r_658 u_660 H locs w_659 hP hD hS
            replace hP : va_P D vwCl [(k8, .inl (cI, 40, .inl c8)), (k, .inr (11, [.ref k0, .ref k1, .ref k2, .int c3, .ref k4, .ref k5, .ref k6, .ref k7, .ref k8, .int c9, .ref ka, .ref kb, .int cc, .int cd, .int ce, .int cf, .int cg, .int ch, .int ci, .int cj, .int ck, .ref kl, .int cm, .int cn, .ref ko])), (k0, .inl (cI, 1201, .inl c0))] H := hP
            replace hD : va_D A [(k8, .inl (cI, 40, .inl c8)), (k, .inr (11, [.ref k0, .ref k1, .ref k2, .int c3, .ref k4, .ref k5, .ref k6, .ref k7, .ref k8, .int c9, .ref ka, .ref kb, .int cc, .int cd, .int ce, .int cf, .int cg, .int ch, .int ci, .int cj, .int ck, .ref kl, .int cm, .int cn, .ref ko])), (k0, .inl (cI, 1201, .inl c0))] := hD
            rcases w_659 with ⟨hr_658, h_661⟩ | ⟨hr_658, h_662⟩ | ⟨hr_658, h_663⟩ | ⟨hr_658, h_664⟩ | ⟨hr_658, h_665⟩
            · exfalso; omega
            · exfalso; omega
            · have h_663 : l3_5.toInt = 2 := h_663
              obtain rfl : r_658 = 1 := hr_658.trans (by decide)
              refine lv_istore (lv' := [(8, .int 1), (7, .int r_653), (6, .int r_647), (5, .int l3_5), (0, .ref k), (1, .int a0), (2, .int a1), (3, .int a2), (4, .int a3)]) hx hb dX11_speaks_43 hl (by decide) rfl ?_
              clear hl
              intro ls hl
              refine lv_iload hx hb dX11_speaks_45 (lv_at hl 3 rfl) ?_
              refine lv_iload_n hx hb dX11_speaks_47 rfl (lv_at hl 7 rfl) ?_
              refine kJi (wr := [(k8, .inl (cI, 40, .inl c8)), (k, .inr (11, [.ref k0, .ref k1, .ref k2, .int c3, .ref k4, .ref k5, .ref k6, .ref k7, .ref k8, .int c9, .ref ka, .ref kb, .int cc, .int cd, .int ce, .int cf, .int cg, .int ch, .int ci, .int cj, .int ck, .ref kl, .int cm, .int cn, .ref ko])), (k0, .inl (cI, 1201, .inl c0))]) (va_runS (As := [.int l3_5, .int a2]) (rest := []) ⟨hx, hb, hml, hown, hT⟩ (c_X11_bodyOfG l D cI aK aV H.size l3_5 a2 (by first | omega | decide | assumption | rfl) (by first | omega | decide | assumption | rfl) (by first | omega | decide | assumption | rfl) (by first | omega | decide | assumption | rfl)) (cwS 2 hT (gS_in mw_1581 mw_1579 mw_1580 mw_12) rfl rfl rfl (by decide +kernel) ⟨(by dsimp only; omega), (by dsimp only; omega)⟩) (kStatX hK hP hD hN hXS hS hA [] rfl (by decide)) rfl rfl hl.1 rfl (lv_room (Nat.le_of_ble_eq_true rfl)) dX11_speaks_48 ⟨Nat.le_of_ble_eq_true rfl, Nat.le_of_ble_eq_true rfl⟩) hP hD hS hA [] [0, 1, 2] rfl rfl (by decide) (by decide) ?_
              clear hP hD hS
              intro r_666 u_668 H locs w_667 hP hD hS
              replace hP : va_P D vwCl [(k8, .inl (cI, 40, .inl c8)), (k, .inr (11, [.ref k0, .ref k1, .ref k2, .int c3, .ref k4, .ref k5, .ref k6, .ref k7, .ref k8, .int c9, .ref ka, .ref kb, .int cc, .int cd, .int ce, .int cf, .int cg, .int ch, .int ci, .int cj, .int ck, .ref kl, .int cm, .int cn, .ref ko])), (k0, .inl (cI, 1201, .inl c0))] H := hP
              replace hD : va_D A [(k8, .inl (cI, 40, .inl c8)), (k, .inr (11, [.ref k0, .ref k1, .ref k2, .int c3, .ref k4, .ref k5, .ref k6, .ref k7, .ref k8, .int c9, .ref ka, .ref kb, .int cc, .int cd, .int ce, .int cf, .int cg, .int ch, .int ci, .int cj, .int ck, .ref kl, .int cm, .int cn, .ref ko])), (k0, .inl (cI, 1201, .inl c0))] := hD
              rcases w_667 with ⟨hr_666, h_669, h_670, h_671⟩ | ⟨hr_666, h_672, h_673, h_674⟩ | ⟨hr_666, h_675, h_676, h_677⟩ | ⟨hr_666, h_678, h_679, h_680⟩ | ⟨hr_666, h_681, h_682, h_683⟩ | ⟨hr_666, h_684, h_685, h_686⟩ | ⟨hr_666, h_687, h_688, h_689⟩ | ⟨hr_666, h_690, h_691, h_692⟩ | ⟨hr_666, h_693, h_694, h_695⟩ | ⟨hr_666, h_696, h_697, h_698⟩ | ⟨hr_666, h_699, h_700, h_701⟩ | ⟨hr_666, h_702, h_703, h_704⟩ | ⟨hr_666, h_705, h_706, h_707⟩ | ⟨hr_666, h_708, h_709, h_710⟩ | ⟨hr_666, h_711, h_712⟩
              · exfalso; omega
              · exfalso; omega
              · exfalso; omega
              · exfalso; omega
              · exfalso; omega
              · exfalso; omega
              · exfalso; omega
              · have h_690 : l3_5.toInt = 2 := h_690
                have h_691 : a2.toInt = 2 := h_691
                have h_692 : (bKi l3_5 a2).toInt = 31 := h_692
                obtain rfl : r_666 = 31 := hr_666.trans (by decide)
                refine lv_istore (lv' := [(9, .int 31), (8, .int 1), (7, .int r_653), (6, .int r_647), (5, .int l3_5), (0, .ref k), (1, .int a0), (2, .int a1), (3, .int a2), (4, .int a3)]) hx hb dX11_speaks_51 hl (by decide) rfl ?_
                clear hl
                intro ls hl
                refine lv_aload_n hx hb dX11_speaks_53 rfl (lv_at hl 5 rfl) ?_
                refine lv_iload hx hb dX11_speaks_54 (lv_at hl 0 rfl) ?_
                refine kJv (wr := [(k0, .inl (cI, 1201, .inl c0))]) (va_runV (As := [.int 31]) (rest := []) ⟨hx, hb, hml, hown, hT⟩ (c_X11_ranG l D cI aK aV k k0 k1 k2 k4 k5 k6 k7 k8 ka kb kl ko H.size c3 c9 cc cd ce cf cg ch ci cj ck cm cn c8 31 (by first | omega | (simp only [zl_31]; first | done | omega) | decide | assumption | rfl) (by first | omega | (simp only [zl_31]; first | done | omega) | decide | assumption | rfl)) (cwV 1 hT (gV_in mw_1585 mw_1582 mw_1584 mw_p6_7 mw_12) rfl rfl rfl (by decide +kernel) ⟨(by dsimp only; omega), (by dsimp only; omega)⟩) (kRecvX (q0 := 1) (ci := 11) hK hP hD hN hXS hS hA rfl rfl [1, 0] rfl (by decide)) rfl rfl hl.1 rfl (lv_room (Nat.le_of_ble_eq_true rfl)) dX11_speaks_56 ⟨Nat.le_of_ble_eq_true rfl, Nat.le_of_ble_eq_true rfl⟩) hP hD hS hA [1, 0] [2] rfl rfl (by decide) (by decide) ?_
                clear hP hD hS
                intro u_717 H locs w_714 hP hD hS
                obtain ⟨sc9_715, sc8_716⟩ := u_717
                replace hP : va_P D vwCl [(k0, .inl (cI, 1201, .inl c0)), (k, .inr (11, [.ref k0, .ref k1, .ref k2, .int c3, .ref k4, .ref k5, .ref k6, .ref k7, .ref k8, .int sc9_715, .ref ka, .ref kb, .int cc, .int cd, .int ce, .int cf, .int cg, .int ch, .int ci, .int cj, .int ck, .ref kl, .int cm, .int cn, .ref ko])), (k8, .inl (cI, 40, .inl sc8_716))] H := hP
                replace hD : va_D A [(k0, .inl (cI, 1201, .inl c0)), (k, .inr (11, [.ref k0, .ref k1, .ref k2, .int c3, .ref k4, .ref k5, .ref k6, .ref k7, .ref k8, .int sc9_715, .ref ka, .ref kb, .int cc, .int cd, .int ce, .int cf, .int cg, .int ch, .int ci, .int cj, .int ck, .ref kl, .int cm, .int cn, .ref ko])), (k8, .inl (cI, 40, .inl sc8_716))] := hD
                have lo_sc9_715 := k_lo sc9_715
                have hi_sc9_715 := k_hi sc9_715
                obtain ⟨h_718, h_719, h_720, h_721⟩ := w_714
                try simp only [zl_31] at h_718
                have h_718 : 0 ≤ sc9_715.toInt := h_718
                try simp only [zl_31] at h_719
                have h_719 : sc9_715.toInt ≤ 40 := h_719
                try simp only [zl_31] at h_720
                have h_720 : sc9_715 = mSV c9 := h_720
                try simp only [zl_31] at h_721
                have h_721 : sc8_716 = gSV c9 c8 31 := h_721
                refine lv_iload hx hb dX11_speaks_59 (lv_at hl 0 rfl) ?_
                refine lv_tableIn (off := 316) (tgt := 377) hx hb dX11_speaks_61 (by decide) (by decide) (by decide) (by decide) ?_
                refine lv_aload_n hx hb dX11_speaks_377 rfl (lv_at hl 5 rfl) ?_
                refine lv_iload_n hx hb dX11_speaks_378 rfl (lv_at hl 6 rfl) ?_
                refine lv_iload hx hb dX11_speaks_379 (lv_at hl 1 rfl) ?_
                refine lv_iconst (v := 2) hx hb dX11_speaks_381 (by decide) ?_
                refine lv_iload hx hb dX11_speaks_382 (lv_at hl 9 rfl) ?_
                refine kJi (wr := []) (va_runV (As := [.int a0, .int 1, .int 2, .int a3]) (rest := []) ⟨hx, hb, hml, hown, hT⟩ (ih l D cI aK aV k k0 k1 k2 k4 k5 k6 k7 k8 ka kb kl ko H.size c3 sc9_715 cc cd ce cf cg ch ci cj ck cm cn c0 sc8_716 a0 1 2 a3 pre0 (by first | omega | (simp only [zl_1, zl_2]; first | done | omega) | decide | assumption | rfl) (by first | omega | (simp only [zl_1, zl_2]; first | done | omega) | decide | assumption | rfl) (by first | omega | (simp only [zl_1, zl_2]; first | done | omega) | decide | assumption | rfl) (by first | omega | (simp only [zl_1, zl_2]; first | done | omega) | decide | assumption | rfl) (by first | omega | (simp only [zl_1, zl_2]; first | done | omega) | decide | assumption | rfl) (by first | omega | (simp only [zl_1, zl_2]; first | done | omega) | decide | assumption | rfl) (by first | omega | (simp only [zl_1, zl_2]; first | done | omega) | decide | assumption | rfl) (by first | omega | (simp only [zl_1, zl_2]; first | done | omega) | decide | assumption | rfl) (by first | omega | (simp only [zl_1, zl_2]; first | done | omega) | decide | assumption | rfl)) (cwV 4 hT (gV_in mw_1578 mw_1575 mw_1577 mw_p6_6 mw_12) rfl rfl rfl (by decide +kernel) ⟨(by dsimp only; omega), (by dsimp only; omega)⟩) (kRecvX (q0 := 1) (ci := 11) hK hP hD hN hXS hS hA rfl rfl [1, 0, 2] rfl (by decide)) rfl rfl hl.1 rfl (lv_room (Nat.le_of_ble_eq_true rfl)) dX11_speaks_384 ⟨Nat.le_of_ble_eq_true rfl, Nat.le_of_ble_eq_true rfl⟩) hP hD hS hA [1, 0, 2] [] rfl rfl (by decide) (by decide) ?_
                clear hP hD hS
                intro r_722 u_726 H locs w_723 hP hD hS
                obtain ⟨sc9_724, sc8_725⟩ := u_726
                replace hP : va_P D vwCl [(k, .inr (11, [.ref k0, .ref k1, .ref k2, .int c3, .ref k4, .ref k5, .ref k6, .ref k7, .ref k8, .int sc9_724, .ref ka, .ref kb, .int cc, .int cd, .int ce, .int cf, .int cg, .int ch, .int ci, .int cj, .int ck, .ref kl, .int cm, .int cn, .ref ko])), (k0, .inl (cI, 1201, .inl c0)), (k8, .inl (cI, 40, .inl sc8_725))] H := hP
                replace hD : va_D A [(k, .inr (11, [.ref k0, .ref k1, .ref k2, .int c3, .ref k4, .ref k5, .ref k6, .ref k7, .ref k8, .int sc9_724, .ref ka, .ref kb, .int cc, .int cd, .int ce, .int cf, .int cg, .int ch, .int ci, .int cj, .int ck, .ref kl, .int cm, .int cn, .ref ko])), (k0, .inl (cI, 1201, .inl c0)), (k8, .inl (cI, 40, .inl sc8_725))] := hD
                have lo_sc9_724 := k_lo sc9_724
                have hi_sc9_724 := k_hi sc9_724
                obtain ⟨h_727, h_728, h_729⟩ := w_723
                try simp only [zl_1, zl_2] at h_727
                have h_727 : 0 ≤ sc9_724.toInt := h_727
                try simp only [zl_1, zl_2] at h_728
                have h_728 : sc9_724.toInt ≤ 40 := h_728
                try simp only [zl_1, zl_2] at h_729
                have h_729 : voB a0 (wW c0 a0 2) (wW c0 a0 0) dd 1 2 a3 sc9_715 sc8_716 = (r_722, sc9_724, sc8_725) := h_729
                have lo_r_722 := k_lo r_722
                have hi_r_722 := k_hi r_722
                refine lv_ineg hx hb dX11_speaks_387 ?_
                refine lv_topi (fun v_730 ev_730 => ?_)
                have lo_v_730 := k_lo v_730
                have hi_v_730 := k_hi v_730
                exact hRet (sc9_724, sc8_725) [0, 1, 2] ⟨(by first | omega | decide | assumption | rfl | (dsimp only; first | omega)), (by first | omega | decide | assumption | rfl | (dsimp only; first | omega)), (vo_31 (b := 31) (m1 := sc9_715) (g1 := sc8_716) (by rw [← i3_3]; exact (bd_own (a := l3_5) (c := a2) (bd_bk h_692 (by decide)) (by decide)).symm) (by decide) h_720 h_721 h_729 (by rw [ev_730]; exact (i_zsub _).symm))⟩ hP hD (by decide) rfl hS rfl dX11_speaks_388
              · exfalso; omega
              · exfalso; omega
              · exfalso; omega
              · exfalso; omega
              · exfalso; omega
              · exfalso; omega
              · exfalso; omega
            · exfalso; omega
            · exfalso; omega
          · have h_31 : l3_5.toInt = 3 := h_31
            have h_32 : a2.toInt = 2 := h_32
            have h_33 : (bKi l3_5 a2).toInt = 40 := h_33
            obtain rfl : r_4 = 40 := hr_4.trans (by decide)
            refine b_if_ne hx hb zl_40 (tgt := 22) dX11_speaks_9 (by decide) (fun c_731 => ?_) (fun c_731 => by exfalso; omega)
            refine lv_aload_n hx hb dX11_speaks_22 rfl (lv_at hl 1 rfl) ?_
            refine lv_iload_n hx hb dX11_speaks_23 rfl (lv_at hl 2 rfl) ?_
            refine lv_iconst (v := 0) hx hb dX11_speaks_24 (by decide) ?_
            refine kJi (wr := [(k8, .inl (cI, 40, .inl c8))]) (va_runV (As := [.int a0, .int 0]) (rest := []) ⟨hx, hb, hml, hown, hT⟩ (c_X11_workG0 l D cI aK aV k k0 k1 k2 k4 k5 k6 k7 k8 ka kb kl ko H.size c3 c9 cc cd ce cf cg ch ci cj ck cm cn c0 a0 0 (by first | omega | (simp only [zl_0]; first | done | omega) | decide | assumption | rfl) (by first | omega | (simp only [zl_0]; first | done | omega) | decide | assumption | rfl) (by first | omega | (simp only [zl_0]; first | done | omega) | decide | assumption | rfl)) (cwV 2 hT (gV_in mw_1276 mw_1273 mw_1275 mw_p3_12 mw_12) rfl rfl rfl (by decide +kernel) ⟨(by dsimp only; omega), (by dsimp only; omega)⟩) (kRecvX (q0 := 0) (ci := 11) hK hP hD hN hXS hS hA rfl rfl [0, 1] rfl (by decide)) rfl rfl hl.1 rfl (lv_room (Nat.le_of_ble_eq_true rfl)) dX11_speaks_25 ⟨Nat.le_of_ble_eq_true rfl, Nat.le_of_ble_eq_true rfl⟩) hP hD hS hA [0, 1] [2] rfl rfl (by decide) (by decide) ?_
            clear hP hD hS
            intro r_732 u_734 H locs w_733 hP hD hS
            replace hP : va_P D vwCl [(k8, .inl (cI, 40, .inl c8)), (k, .inr (11, [.ref k0, .ref k1, .ref k2, .int c3, .ref k4, .ref k5, .ref k6, .ref k7, .ref k8, .int c9, .ref ka, .ref kb, .int cc, .int cd, .int ce, .int cf, .int cg, .int ch, .int ci, .int cj, .int ck, .ref kl, .int cm, .int cn, .ref ko])), (k0, .inl (cI, 1201, .inl c0))] H := hP
            replace hD : va_D A [(k8, .inl (cI, 40, .inl c8)), (k, .inr (11, [.ref k0, .ref k1, .ref k2, .int c3, .ref k4, .ref k5, .ref k6, .ref k7, .ref k8, .int c9, .ref ka, .ref kb, .int cc, .int cd, .int ce, .int cf, .int cg, .int ch, .int ci, .int cj, .int ck, .ref kl, .int cm, .int cn, .ref ko])), (k0, .inl (cI, 1201, .inl c0))] := hD
            have h_735 := w_733
            have h_735 : r_732 = wW c0 a0 0 := h_735
            have t_736 : r_732.toInt = (wW c0 a0 0).toInt := by rw [h_735]
            have b_737 : 0 ≤ r_732.toInt ∧ r_732.toInt ≤ 5 := by rw [h_735]; exact SB.w0 pre0 (by omega) (by omega)
            have lo_r_732 := k_lo r_732
            have hi_r_732 := k_hi r_732
            refine lv_istore (lv' := [(6, .int r_732), (5, .int l3_5), (0, .ref k), (1, .int a0), (2, .int a1), (3, .int a2), (4, .int a3)]) hx hb dX11_speaks_28 hl (by decide) rfl ?_
            clear hl
            intro ls hl
            refine lv_aload_n hx hb dX11_speaks_30 rfl (lv_at hl 2 rfl) ?_
            refine lv_iload_n hx hb dX11_speaks_31 rfl (lv_at hl 3 rfl) ?_
            refine lv_iconst (v := 2) hx hb dX11_speaks_32 (by decide) ?_
            refine kJi (wr := [(k8, .inl (cI, 40, .inl c8))]) (va_runV (As := [.int a0, .int 2]) (rest := []) ⟨hx, hb, hml, hown, hT⟩ (c_X11_workG2 l D cI aK aV k k0 k1 k2 k4 k5 k6 k7 k8 ka kb kl ko H.size c3 c9 cc cd ce cf cg ch ci cj ck cm cn c0 a0 2 (by first | omega | (simp only [zl_2]; first | done | omega) | decide | assumption | rfl) (by first | omega | (simp only [zl_2]; first | done | omega) | decide | assumption | rfl) (by first | omega | (simp only [zl_2]; first | done | omega) | decide | assumption | rfl)) (cwV 2 hT (gV_in mw_1276 mw_1273 mw_1275 mw_p3_12 mw_12) rfl rfl rfl (by decide +kernel) ⟨(by dsimp only; omega), (by dsimp only; omega)⟩) (kRecvX (q0 := 1) (ci := 11) hK hP hD hN hXS hS hA rfl rfl [1, 2] rfl (by decide)) rfl rfl hl.1 rfl (lv_room (Nat.le_of_ble_eq_true rfl)) dX11_speaks_33 ⟨Nat.le_of_ble_eq_true rfl, Nat.le_of_ble_eq_true rfl⟩) hP hD hS hA [1, 2] [0] rfl rfl (by decide) (by decide) ?_
            clear hP hD hS
            intro r_738 u_740 H locs w_739 hP hD hS
            replace hP : va_P D vwCl [(k8, .inl (cI, 40, .inl c8)), (k, .inr (11, [.ref k0, .ref k1, .ref k2, .int c3, .ref k4, .ref k5, .ref k6, .ref k7, .ref k8, .int c9, .ref ka, .ref kb, .int cc, .int cd, .int ce, .int cf, .int cg, .int ch, .int ci, .int cj, .int ck, .ref kl, .int cm, .int cn, .ref ko])), (k0, .inl (cI, 1201, .inl c0))] H := hP
            replace hD : va_D A [(k8, .inl (cI, 40, .inl c8)), (k, .inr (11, [.ref k0, .ref k1, .ref k2, .int c3, .ref k4, .ref k5, .ref k6, .ref k7, .ref k8, .int c9, .ref ka, .ref kb, .int cc, .int cd, .int ce, .int cf, .int cg, .int ch, .int ci, .int cj, .int ck, .ref kl, .int cm, .int cn, .ref ko])), (k0, .inl (cI, 1201, .inl c0))] := hD
            have h_741 := w_739
            have h_741 : r_738 = wW c0 a0 2 := h_741
            have t_742 : r_738.toInt = (wW c0 a0 2).toInt := by rw [h_741]
            have lo_r_738 := k_lo r_738
            have hi_r_738 := k_hi r_738
            refine lv_istore (lv' := [(7, .int r_738), (6, .int r_732), (5, .int l3_5), (0, .ref k), (1, .int a0), (2, .int a1), (3, .int a2), (4, .int a3)]) hx hb dX11_speaks_36 hl (by decide) rfl ?_
            clear hl
            intro ls hl
            refine lv_iload hx hb dX11_speaks_38 (lv_at hl 2 rfl) ?_
            refine kJi (wr := [(k8, .inl (cI, 40, .inl c8)), (k, .inr (11, [.ref k0, .ref k1, .ref k2, .int c3, .ref k4, .ref k5, .ref k6, .ref k7, .ref k8, .int c9, .ref ka, .ref kb, .int cc, .int cd, .int ce, .int cf, .int cg, .int ch, .int ci, .int cj, .int ck, .ref kl, .int cm, .int cn, .ref ko])), (k0, .inl (cI, 1201, .inl c0))]) (va_runS (As := [.int l3_5]) (rest := []) ⟨hx, hb, hml, hown, hT⟩ (c_X11_parentG l D cI aK aV H.size l3_5 (by first | omega | decide | assumption | rfl) (by first | omega | decide | assumption | rfl)) (cwS 1 hT (gS_in mw_1282 mw_1280 mw_1281 mw_12) rfl rfl rfl (by decide +kernel) ⟨(by dsimp only; omega), (by dsimp only; omega)⟩) (kStatX hK hP hD hN hXS hS hA [] rfl (by decide)) rfl rfl hl.1 rfl (lv_room (Nat.le_of_ble_eq_true rfl)) dX11_speaks_40 ⟨Nat.le_of_ble_eq_true rfl, Nat.le_of_ble_eq_true rfl⟩) hP hD hS hA [] [0, 1, 2] rfl rfl (by decide) (by decide) ?_
            clear hP hD hS
            intro r_743 u_745 H locs w_744 hP hD hS
            replace hP : va_P D vwCl [(k8, .inl (cI, 40, .inl c8)), (k, .inr (11, [.ref k0, .ref k1, .ref k2, .int c3, .ref k4, .ref k5, .ref k6, .ref k7, .ref k8, .int c9, .ref ka, .ref kb, .int cc, .int cd, .int ce, .int cf, .int cg, .int ch, .int ci, .int cj, .int ck, .ref kl, .int cm, .int cn, .ref ko])), (k0, .inl (cI, 1201, .inl c0))] H := hP
            replace hD : va_D A [(k8, .inl (cI, 40, .inl c8)), (k, .inr (11, [.ref k0, .ref k1, .ref k2, .int c3, .ref k4, .ref k5, .ref k6, .ref k7, .ref k8, .int c9, .ref ka, .ref kb, .int cc, .int cd, .int ce, .int cf, .int cg, .int ch, .int ci, .int cj, .int ck, .ref kl, .int cm, .int cn, .ref ko])), (k0, .inl (cI, 1201, .inl c0))] := hD
            rcases w_744 with ⟨hr_743, h_746⟩ | ⟨hr_743, h_747⟩ | ⟨hr_743, h_748⟩ | ⟨hr_743, h_749⟩ | ⟨hr_743, h_750⟩
            · exfalso; omega
            · exfalso; omega
            · exfalso; omega
            · have h_749 : l3_5.toInt = 3 := h_749
              obtain rfl : r_743 = 2 := hr_743.trans (by decide)
              refine lv_istore (lv' := [(8, .int 2), (7, .int r_738), (6, .int r_732), (5, .int l3_5), (0, .ref k), (1, .int a0), (2, .int a1), (3, .int a2), (4, .int a3)]) hx hb dX11_speaks_43 hl (by decide) rfl ?_
              clear hl
              intro ls hl
              refine lv_iload hx hb dX11_speaks_45 (lv_at hl 3 rfl) ?_
              refine lv_iload_n hx hb dX11_speaks_47 rfl (lv_at hl 7 rfl) ?_
              refine kJi (wr := [(k8, .inl (cI, 40, .inl c8)), (k, .inr (11, [.ref k0, .ref k1, .ref k2, .int c3, .ref k4, .ref k5, .ref k6, .ref k7, .ref k8, .int c9, .ref ka, .ref kb, .int cc, .int cd, .int ce, .int cf, .int cg, .int ch, .int ci, .int cj, .int ck, .ref kl, .int cm, .int cn, .ref ko])), (k0, .inl (cI, 1201, .inl c0))]) (va_runS (As := [.int l3_5, .int a2]) (rest := []) ⟨hx, hb, hml, hown, hT⟩ (c_X11_bodyOfG l D cI aK aV H.size l3_5 a2 (by first | omega | decide | assumption | rfl) (by first | omega | decide | assumption | rfl) (by first | omega | decide | assumption | rfl) (by first | omega | decide | assumption | rfl)) (cwS 2 hT (gS_in mw_1581 mw_1579 mw_1580 mw_12) rfl rfl rfl (by decide +kernel) ⟨(by dsimp only; omega), (by dsimp only; omega)⟩) (kStatX hK hP hD hN hXS hS hA [] rfl (by decide)) rfl rfl hl.1 rfl (lv_room (Nat.le_of_ble_eq_true rfl)) dX11_speaks_48 ⟨Nat.le_of_ble_eq_true rfl, Nat.le_of_ble_eq_true rfl⟩) hP hD hS hA [] [0, 1, 2] rfl rfl (by decide) (by decide) ?_
              clear hP hD hS
              intro r_751 u_753 H locs w_752 hP hD hS
              replace hP : va_P D vwCl [(k8, .inl (cI, 40, .inl c8)), (k, .inr (11, [.ref k0, .ref k1, .ref k2, .int c3, .ref k4, .ref k5, .ref k6, .ref k7, .ref k8, .int c9, .ref ka, .ref kb, .int cc, .int cd, .int ce, .int cf, .int cg, .int ch, .int ci, .int cj, .int ck, .ref kl, .int cm, .int cn, .ref ko])), (k0, .inl (cI, 1201, .inl c0))] H := hP
              replace hD : va_D A [(k8, .inl (cI, 40, .inl c8)), (k, .inr (11, [.ref k0, .ref k1, .ref k2, .int c3, .ref k4, .ref k5, .ref k6, .ref k7, .ref k8, .int c9, .ref ka, .ref kb, .int cc, .int cd, .int ce, .int cf, .int cg, .int ch, .int ci, .int cj, .int ck, .ref kl, .int cm, .int cn, .ref ko])), (k0, .inl (cI, 1201, .inl c0))] := hD
              rcases w_752 with ⟨hr_751, h_754, h_755, h_756⟩ | ⟨hr_751, h_757, h_758, h_759⟩ | ⟨hr_751, h_760, h_761, h_762⟩ | ⟨hr_751, h_763, h_764, h_765⟩ | ⟨hr_751, h_766, h_767, h_768⟩ | ⟨hr_751, h_769, h_770, h_771⟩ | ⟨hr_751, h_772, h_773, h_774⟩ | ⟨hr_751, h_775, h_776, h_777⟩ | ⟨hr_751, h_778, h_779, h_780⟩ | ⟨hr_751, h_781, h_782, h_783⟩ | ⟨hr_751, h_784, h_785, h_786⟩ | ⟨hr_751, h_787, h_788, h_789⟩ | ⟨hr_751, h_790, h_791, h_792⟩ | ⟨hr_751, h_793, h_794, h_795⟩ | ⟨hr_751, h_796, h_797⟩
              · exfalso; omega
              · exfalso; omega
              · exfalso; omega
              · exfalso; omega
              · exfalso; omega
              · exfalso; omega
              · exfalso; omega
              · exfalso; omega
              · have h_778 : l3_5.toInt = 3 := h_778
                have h_779 : a2.toInt = 2 := h_779
                have h_780 : (bKi l3_5 a2).toInt = 40 := h_780
                obtain rfl : r_751 = 40 := hr_751.trans (by decide)
                refine lv_istore (lv' := [(9, .int 40), (8, .int 2), (7, .int r_738), (6, .int r_732), (5, .int l3_5), (0, .ref k), (1, .int a0), (2, .int a1), (3, .int a2), (4, .int a3)]) hx hb dX11_speaks_51 hl (by decide) rfl ?_
                clear hl
                intro ls hl
                refine lv_aload_n hx hb dX11_speaks_53 rfl (lv_at hl 5 rfl) ?_
                refine lv_iload hx hb dX11_speaks_54 (lv_at hl 0 rfl) ?_
                refine kJv (wr := [(k0, .inl (cI, 1201, .inl c0))]) (va_runV (As := [.int 40]) (rest := []) ⟨hx, hb, hml, hown, hT⟩ (c_X11_ranG l D cI aK aV k k0 k1 k2 k4 k5 k6 k7 k8 ka kb kl ko H.size c3 c9 cc cd ce cf cg ch ci cj ck cm cn c8 40 (by first | omega | (simp only [zl_40]; first | done | omega) | decide | assumption | rfl) (by first | omega | (simp only [zl_40]; first | done | omega) | decide | assumption | rfl)) (cwV 1 hT (gV_in mw_1585 mw_1582 mw_1584 mw_p6_7 mw_12) rfl rfl rfl (by decide +kernel) ⟨(by dsimp only; omega), (by dsimp only; omega)⟩) (kRecvX (q0 := 1) (ci := 11) hK hP hD hN hXS hS hA rfl rfl [1, 0] rfl (by decide)) rfl rfl hl.1 rfl (lv_room (Nat.le_of_ble_eq_true rfl)) dX11_speaks_56 ⟨Nat.le_of_ble_eq_true rfl, Nat.le_of_ble_eq_true rfl⟩) hP hD hS hA [1, 0] [2] rfl rfl (by decide) (by decide) ?_
                clear hP hD hS
                intro u_802 H locs w_799 hP hD hS
                obtain ⟨sc9_800, sc8_801⟩ := u_802
                replace hP : va_P D vwCl [(k0, .inl (cI, 1201, .inl c0)), (k, .inr (11, [.ref k0, .ref k1, .ref k2, .int c3, .ref k4, .ref k5, .ref k6, .ref k7, .ref k8, .int sc9_800, .ref ka, .ref kb, .int cc, .int cd, .int ce, .int cf, .int cg, .int ch, .int ci, .int cj, .int ck, .ref kl, .int cm, .int cn, .ref ko])), (k8, .inl (cI, 40, .inl sc8_801))] H := hP
                replace hD : va_D A [(k0, .inl (cI, 1201, .inl c0)), (k, .inr (11, [.ref k0, .ref k1, .ref k2, .int c3, .ref k4, .ref k5, .ref k6, .ref k7, .ref k8, .int sc9_800, .ref ka, .ref kb, .int cc, .int cd, .int ce, .int cf, .int cg, .int ch, .int ci, .int cj, .int ck, .ref kl, .int cm, .int cn, .ref ko])), (k8, .inl (cI, 40, .inl sc8_801))] := hD
                have lo_sc9_800 := k_lo sc9_800
                have hi_sc9_800 := k_hi sc9_800
                obtain ⟨h_803, h_804, h_805, h_806⟩ := w_799
                try simp only [zl_40] at h_803
                have h_803 : 0 ≤ sc9_800.toInt := h_803
                try simp only [zl_40] at h_804
                have h_804 : sc9_800.toInt ≤ 40 := h_804
                try simp only [zl_40] at h_805
                have h_805 : sc9_800 = mSV c9 := h_805
                try simp only [zl_40] at h_806
                have h_806 : sc8_801 = gSV c9 c8 40 := h_806
                refine lv_iload hx hb dX11_speaks_59 (lv_at hl 0 rfl) ?_
                refine lv_tableIn (off := 328) (tgt := 389) hx hb dX11_speaks_61 (by decide) (by decide) (by decide) (by decide) ?_
                refine lv_aload_n hx hb dX11_speaks_389 rfl (lv_at hl 5 rfl) ?_
                refine lv_iload_n hx hb dX11_speaks_390 rfl (lv_at hl 6 rfl) ?_
                refine lv_iload hx hb dX11_speaks_391 (lv_at hl 1 rfl) ?_
                refine lv_iconst (v := 2) hx hb dX11_speaks_393 (by decide) ?_
                refine lv_iload hx hb dX11_speaks_394 (lv_at hl 9 rfl) ?_
                refine kJi (wr := []) (va_runV (As := [.int a0, .int 2, .int 2, .int a3]) (rest := []) ⟨hx, hb, hml, hown, hT⟩ (ih l D cI aK aV k k0 k1 k2 k4 k5 k6 k7 k8 ka kb kl ko H.size c3 sc9_800 cc cd ce cf cg ch ci cj ck cm cn c0 sc8_801 a0 2 2 a3 pre0 (by first | omega | (simp only [zl_2]; first | done | omega) | decide | assumption | rfl) (by first | omega | (simp only [zl_2]; first | done | omega) | decide | assumption | rfl) (by first | omega | (simp only [zl_2]; first | done | omega) | decide | assumption | rfl) (by first | omega | (simp only [zl_2]; first | done | omega) | decide | assumption | rfl) (by first | omega | (simp only [zl_2]; first | done | omega) | decide | assumption | rfl) (by first | omega | (simp only [zl_2]; first | done | omega) | decide | assumption | rfl) (by first | omega | (simp only [zl_2]; first | done | omega) | decide | assumption | rfl) (by first | omega | (simp only [zl_2]; first | done | omega) | decide | assumption | rfl) (by first | omega | (simp only [zl_2]; first | done | omega) | decide | assumption | rfl)) (cwV 4 hT (gV_in mw_1578 mw_1575 mw_1577 mw_p6_6 mw_12) rfl rfl rfl (by decide +kernel) ⟨(by dsimp only; omega), (by dsimp only; omega)⟩) (kRecvX (q0 := 1) (ci := 11) hK hP hD hN hXS hS hA rfl rfl [1, 0, 2] rfl (by decide)) rfl rfl hl.1 rfl (lv_room (Nat.le_of_ble_eq_true rfl)) dX11_speaks_396 ⟨Nat.le_of_ble_eq_true rfl, Nat.le_of_ble_eq_true rfl⟩) hP hD hS hA [1, 0, 2] [] rfl rfl (by decide) (by decide) ?_
                clear hP hD hS
                intro r_807 u_811 H locs w_808 hP hD hS
                obtain ⟨sc9_809, sc8_810⟩ := u_811
                replace hP : va_P D vwCl [(k, .inr (11, [.ref k0, .ref k1, .ref k2, .int c3, .ref k4, .ref k5, .ref k6, .ref k7, .ref k8, .int sc9_809, .ref ka, .ref kb, .int cc, .int cd, .int ce, .int cf, .int cg, .int ch, .int ci, .int cj, .int ck, .ref kl, .int cm, .int cn, .ref ko])), (k0, .inl (cI, 1201, .inl c0)), (k8, .inl (cI, 40, .inl sc8_810))] H := hP
                replace hD : va_D A [(k, .inr (11, [.ref k0, .ref k1, .ref k2, .int c3, .ref k4, .ref k5, .ref k6, .ref k7, .ref k8, .int sc9_809, .ref ka, .ref kb, .int cc, .int cd, .int ce, .int cf, .int cg, .int ch, .int ci, .int cj, .int ck, .ref kl, .int cm, .int cn, .ref ko])), (k0, .inl (cI, 1201, .inl c0)), (k8, .inl (cI, 40, .inl sc8_810))] := hD
                have lo_sc9_809 := k_lo sc9_809
                have hi_sc9_809 := k_hi sc9_809
                obtain ⟨h_812, h_813, h_814⟩ := w_808
                try simp only [zl_2] at h_812
                have h_812 : 0 ≤ sc9_809.toInt := h_812
                try simp only [zl_2] at h_813
                have h_813 : sc9_809.toInt ≤ 40 := h_813
                try simp only [zl_2] at h_814
                have h_814 : voB a0 (wW c0 a0 2) (wW c0 a0 0) dd 2 2 a3 sc9_800 sc8_801 = (r_807, sc9_809, sc8_810) := h_814
                have lo_r_807 := k_lo r_807
                have hi_r_807 := k_hi r_807
                refine lv_istore (lv' := [(10, .int r_807), (9, .int 40), (8, .int 2), (7, .int r_738), (6, .int r_732), (5, .int l3_5), (0, .ref k), (1, .int a0), (2, .int a1), (3, .int a2), (4, .int a3)]) hx hb dX11_speaks_399 hl (by decide) rfl ?_
                clear hl
                intro ls hl
                refine lv_iload hx hb dX11_speaks_401 (lv_at hl 0 rfl) ?_
                refine lv_aload_n hx hb dX11_speaks_403 rfl (lv_at hl 6 rfl) ?_
                refine lv_iload_n hx hb dX11_speaks_404 rfl (lv_at hl 7 rfl) ?_
                refine lv_iload hx hb dX11_speaks_405 (lv_at hl 4 rfl) ?_
                refine lv_iconst (v := 0) hx hb dX11_speaks_407 (by decide) ?_
                refine lv_iload hx hb dX11_speaks_408 (lv_at hl 3 rfl) ?_
                refine kJi (wr := []) (va_runV (As := [.int a0, .int r_732, .int 0, .int r_738]) (rest := [.int r_807]) ⟨hx, hb, hml, hown, hT⟩ (ih l D cI aK aV k k0 k1 k2 k4 k5 k6 k7 k8 ka kb kl ko H.size c3 sc9_809 cc cd ce cf cg ch ci cj ck cm cn c0 sc8_810 a0 r_732 0 r_738 pre0 (by first | omega | (simp only [zl_0]; first | done | omega) | decide | assumption | rfl) (by first | omega | (simp only [zl_0]; first | done | omega) | decide | assumption | rfl) (by first | omega | (simp only [zl_0]; first | done | omega) | decide | assumption | rfl) (by first | omega | (simp only [zl_0]; first | done | omega) | decide | assumption | rfl) (by first | omega | (simp only [zl_0]; first | done | omega) | decide | assumption | rfl) (by first | omega | (simp only [zl_0]; first | done | omega) | decide | assumption | rfl) (by first | omega | (simp only [zl_0]; first | done | omega) | decide | assumption | rfl) (by first | omega | (simp only [zl_0]; first | done | omega) | decide | assumption | rfl) (by first | omega | (simp only [zl_0]; first | done | omega) | decide | assumption | rfl)) (cwV 4 hT (gV_in mw_1578 mw_1575 mw_1577 mw_p6_6 mw_12) rfl rfl rfl (by decide +kernel) ⟨(by dsimp only; omega), (by dsimp only; omega)⟩) (kRecvX (q0 := 0) (ci := 11) hK hP hD hN hXS hS hA rfl rfl [0, 1, 2] rfl (by decide)) rfl rfl hl.1 rfl (lv_room (Nat.le_of_ble_eq_true rfl)) dX11_speaks_410 ⟨Nat.le_of_ble_eq_true rfl, Nat.le_of_ble_eq_true rfl⟩) hP hD hS hA [0, 1, 2] [] rfl rfl (by decide) (by decide) ?_
                clear hP hD hS
                intro r_815 u_819 H locs w_816 hP hD hS
                obtain ⟨sc9_817, sc8_818⟩ := u_819
                replace hP : va_P D vwCl [(k, .inr (11, [.ref k0, .ref k1, .ref k2, .int c3, .ref k4, .ref k5, .ref k6, .ref k7, .ref k8, .int sc9_817, .ref ka, .ref kb, .int cc, .int cd, .int ce, .int cf, .int cg, .int ch, .int ci, .int cj, .int ck, .ref kl, .int cm, .int cn, .ref ko])), (k0, .inl (cI, 1201, .inl c0)), (k8, .inl (cI, 40, .inl sc8_818))] H := hP
                replace hD : va_D A [(k, .inr (11, [.ref k0, .ref k1, .ref k2, .int c3, .ref k4, .ref k5, .ref k6, .ref k7, .ref k8, .int sc9_817, .ref ka, .ref kb, .int cc, .int cd, .int ce, .int cf, .int cg, .int ch, .int ci, .int cj, .int ck, .ref kl, .int cm, .int cn, .ref ko])), (k0, .inl (cI, 1201, .inl c0)), (k8, .inl (cI, 40, .inl sc8_818))] := hD
                have lo_sc9_817 := k_lo sc9_817
                have hi_sc9_817 := k_hi sc9_817
                obtain ⟨h_820, h_821, h_822⟩ := w_816
                try simp only [zl_0] at h_820
                have h_820 : 0 ≤ sc9_817.toInt := h_820
                try simp only [zl_0] at h_821
                have h_821 : sc9_817.toInt ≤ 40 := h_821
                try simp only [zl_0] at h_822
                have h_822 : voB a0 (wW c0 a0 2) (wW c0 a0 0) dd r_732 0 r_738 sc9_809 sc8_810 = (r_815, sc9_817, sc8_818) := h_822
                have lo_r_815 := k_lo r_815
                have hi_r_815 := k_hi r_815
                refine lv_iadd hx hb dX11_speaks_413 ?_
                refine lv_topi (fun v_823 ev_823 => ?_)
                have lo_v_823 := k_lo v_823
                have hi_v_823 := k_hi v_823
                exact hRet (sc9_817, sc8_818) [0, 1, 2] ⟨(by first | omega | decide | assumption | rfl | (dsimp only; first | omega)), (by first | omega | decide | assumption | rfl | (dsimp only; first | omega)), (vo_40 (b := 40) (m1 := sc9_800) (g1 := sc8_801) (by rw [← i3_3]; exact (bd_own (a := l3_5) (c := a2) (bd_bk h_780 (by decide)) (by decide)).symm) (by decide) h_805 h_806 h_814 (by have z := h_822; rw [h_735, h_741] at z; exact z) ev_823)⟩ hP hD (by decide) rfl hS rfl dX11_speaks_414
              · exfalso; omega
              · exfalso; omega
              · exfalso; omega
              · exfalso; omega
              · exfalso; omega
              · exfalso; omega
            · exfalso; omega
          · have h_34 : l3_5.toInt = 3 := h_34
            have h_35 : a2.toInt = 3 := h_35
            have h_36 : (bKi l3_5 a2).toInt = 41 := h_36
            obtain rfl : r_4 = 41 := hr_4.trans (by decide)
            refine b_if_ne hx hb zl_41 (tgt := 22) dX11_speaks_9 (by decide) (fun c_824 => ?_) (fun c_824 => by exfalso; omega)
            refine lv_aload_n hx hb dX11_speaks_22 rfl (lv_at hl 1 rfl) ?_
            refine lv_iload_n hx hb dX11_speaks_23 rfl (lv_at hl 2 rfl) ?_
            refine lv_iconst (v := 0) hx hb dX11_speaks_24 (by decide) ?_
            refine kJi (wr := [(k8, .inl (cI, 40, .inl c8))]) (va_runV (As := [.int a0, .int 0]) (rest := []) ⟨hx, hb, hml, hown, hT⟩ (c_X11_workG0 l D cI aK aV k k0 k1 k2 k4 k5 k6 k7 k8 ka kb kl ko H.size c3 c9 cc cd ce cf cg ch ci cj ck cm cn c0 a0 0 (by first | omega | (simp only [zl_0]; first | done | omega) | decide | assumption | rfl) (by first | omega | (simp only [zl_0]; first | done | omega) | decide | assumption | rfl) (by first | omega | (simp only [zl_0]; first | done | omega) | decide | assumption | rfl)) (cwV 2 hT (gV_in mw_1276 mw_1273 mw_1275 mw_p3_12 mw_12) rfl rfl rfl (by decide +kernel) ⟨(by dsimp only; omega), (by dsimp only; omega)⟩) (kRecvX (q0 := 0) (ci := 11) hK hP hD hN hXS hS hA rfl rfl [0, 1] rfl (by decide)) rfl rfl hl.1 rfl (lv_room (Nat.le_of_ble_eq_true rfl)) dX11_speaks_25 ⟨Nat.le_of_ble_eq_true rfl, Nat.le_of_ble_eq_true rfl⟩) hP hD hS hA [0, 1] [2] rfl rfl (by decide) (by decide) ?_
            clear hP hD hS
            intro r_825 u_827 H locs w_826 hP hD hS
            replace hP : va_P D vwCl [(k8, .inl (cI, 40, .inl c8)), (k, .inr (11, [.ref k0, .ref k1, .ref k2, .int c3, .ref k4, .ref k5, .ref k6, .ref k7, .ref k8, .int c9, .ref ka, .ref kb, .int cc, .int cd, .int ce, .int cf, .int cg, .int ch, .int ci, .int cj, .int ck, .ref kl, .int cm, .int cn, .ref ko])), (k0, .inl (cI, 1201, .inl c0))] H := hP
            replace hD : va_D A [(k8, .inl (cI, 40, .inl c8)), (k, .inr (11, [.ref k0, .ref k1, .ref k2, .int c3, .ref k4, .ref k5, .ref k6, .ref k7, .ref k8, .int c9, .ref ka, .ref kb, .int cc, .int cd, .int ce, .int cf, .int cg, .int ch, .int ci, .int cj, .int ck, .ref kl, .int cm, .int cn, .ref ko])), (k0, .inl (cI, 1201, .inl c0))] := hD
            have h_828 := w_826
            have h_828 : r_825 = wW c0 a0 0 := h_828
            have t_829 : r_825.toInt = (wW c0 a0 0).toInt := by rw [h_828]
            have b_830 : 0 ≤ r_825.toInt ∧ r_825.toInt ≤ 5 := by rw [h_828]; exact SB.w0 pre0 (by omega) (by omega)
            have lo_r_825 := k_lo r_825
            have hi_r_825 := k_hi r_825
            refine lv_istore (lv' := [(6, .int r_825), (5, .int l3_5), (0, .ref k), (1, .int a0), (2, .int a1), (3, .int a2), (4, .int a3)]) hx hb dX11_speaks_28 hl (by decide) rfl ?_
            clear hl
            intro ls hl
            refine lv_aload_n hx hb dX11_speaks_30 rfl (lv_at hl 2 rfl) ?_
            refine lv_iload_n hx hb dX11_speaks_31 rfl (lv_at hl 3 rfl) ?_
            refine lv_iconst (v := 2) hx hb dX11_speaks_32 (by decide) ?_
            refine kJi (wr := [(k8, .inl (cI, 40, .inl c8))]) (va_runV (As := [.int a0, .int 2]) (rest := []) ⟨hx, hb, hml, hown, hT⟩ (c_X11_workG2 l D cI aK aV k k0 k1 k2 k4 k5 k6 k7 k8 ka kb kl ko H.size c3 c9 cc cd ce cf cg ch ci cj ck cm cn c0 a0 2 (by first | omega | (simp only [zl_2]; first | done | omega) | decide | assumption | rfl) (by first | omega | (simp only [zl_2]; first | done | omega) | decide | assumption | rfl) (by first | omega | (simp only [zl_2]; first | done | omega) | decide | assumption | rfl)) (cwV 2 hT (gV_in mw_1276 mw_1273 mw_1275 mw_p3_12 mw_12) rfl rfl rfl (by decide +kernel) ⟨(by dsimp only; omega), (by dsimp only; omega)⟩) (kRecvX (q0 := 1) (ci := 11) hK hP hD hN hXS hS hA rfl rfl [1, 2] rfl (by decide)) rfl rfl hl.1 rfl (lv_room (Nat.le_of_ble_eq_true rfl)) dX11_speaks_33 ⟨Nat.le_of_ble_eq_true rfl, Nat.le_of_ble_eq_true rfl⟩) hP hD hS hA [1, 2] [0] rfl rfl (by decide) (by decide) ?_
            clear hP hD hS
            intro r_831 u_833 H locs w_832 hP hD hS
            replace hP : va_P D vwCl [(k8, .inl (cI, 40, .inl c8)), (k, .inr (11, [.ref k0, .ref k1, .ref k2, .int c3, .ref k4, .ref k5, .ref k6, .ref k7, .ref k8, .int c9, .ref ka, .ref kb, .int cc, .int cd, .int ce, .int cf, .int cg, .int ch, .int ci, .int cj, .int ck, .ref kl, .int cm, .int cn, .ref ko])), (k0, .inl (cI, 1201, .inl c0))] H := hP
            replace hD : va_D A [(k8, .inl (cI, 40, .inl c8)), (k, .inr (11, [.ref k0, .ref k1, .ref k2, .int c3, .ref k4, .ref k5, .ref k6, .ref k7, .ref k8, .int c9, .ref ka, .ref kb, .int cc, .int cd, .int ce, .int cf, .int cg, .int ch, .int ci, .int cj, .int ck, .ref kl, .int cm, .int cn, .ref ko])), (k0, .inl (cI, 1201, .inl c0))] := hD
            have h_834 := w_832
            have h_834 : r_831 = wW c0 a0 2 := h_834
            have t_835 : r_831.toInt = (wW c0 a0 2).toInt := by rw [h_834]
            have lo_r_831 := k_lo r_831
            have hi_r_831 := k_hi r_831
            refine lv_istore (lv' := [(7, .int r_831), (6, .int r_825), (5, .int l3_5), (0, .ref k), (1, .int a0), (2, .int a1), (3, .int a2), (4, .int a3)]) hx hb dX11_speaks_36 hl (by decide) rfl ?_
            clear hl
            intro ls hl
            refine lv_iload hx hb dX11_speaks_38 (lv_at hl 2 rfl) ?_
            refine kJi (wr := [(k8, .inl (cI, 40, .inl c8)), (k, .inr (11, [.ref k0, .ref k1, .ref k2, .int c3, .ref k4, .ref k5, .ref k6, .ref k7, .ref k8, .int c9, .ref ka, .ref kb, .int cc, .int cd, .int ce, .int cf, .int cg, .int ch, .int ci, .int cj, .int ck, .ref kl, .int cm, .int cn, .ref ko])), (k0, .inl (cI, 1201, .inl c0))]) (va_runS (As := [.int l3_5]) (rest := []) ⟨hx, hb, hml, hown, hT⟩ (c_X11_parentG l D cI aK aV H.size l3_5 (by first | omega | decide | assumption | rfl) (by first | omega | decide | assumption | rfl)) (cwS 1 hT (gS_in mw_1282 mw_1280 mw_1281 mw_12) rfl rfl rfl (by decide +kernel) ⟨(by dsimp only; omega), (by dsimp only; omega)⟩) (kStatX hK hP hD hN hXS hS hA [] rfl (by decide)) rfl rfl hl.1 rfl (lv_room (Nat.le_of_ble_eq_true rfl)) dX11_speaks_40 ⟨Nat.le_of_ble_eq_true rfl, Nat.le_of_ble_eq_true rfl⟩) hP hD hS hA [] [0, 1, 2] rfl rfl (by decide) (by decide) ?_
            clear hP hD hS
            intro r_836 u_838 H locs w_837 hP hD hS
            replace hP : va_P D vwCl [(k8, .inl (cI, 40, .inl c8)), (k, .inr (11, [.ref k0, .ref k1, .ref k2, .int c3, .ref k4, .ref k5, .ref k6, .ref k7, .ref k8, .int c9, .ref ka, .ref kb, .int cc, .int cd, .int ce, .int cf, .int cg, .int ch, .int ci, .int cj, .int ck, .ref kl, .int cm, .int cn, .ref ko])), (k0, .inl (cI, 1201, .inl c0))] H := hP
            replace hD : va_D A [(k8, .inl (cI, 40, .inl c8)), (k, .inr (11, [.ref k0, .ref k1, .ref k2, .int c3, .ref k4, .ref k5, .ref k6, .ref k7, .ref k8, .int c9, .ref ka, .ref kb, .int cc, .int cd, .int ce, .int cf, .int cg, .int ch, .int ci, .int cj, .int ck, .ref kl, .int cm, .int cn, .ref ko])), (k0, .inl (cI, 1201, .inl c0))] := hD
            rcases w_837 with ⟨hr_836, h_839⟩ | ⟨hr_836, h_840⟩ | ⟨hr_836, h_841⟩ | ⟨hr_836, h_842⟩ | ⟨hr_836, h_843⟩
            · exfalso; omega
            · exfalso; omega
            · exfalso; omega
            · have h_842 : l3_5.toInt = 3 := h_842
              obtain rfl : r_836 = 2 := hr_836.trans (by decide)
              refine lv_istore (lv' := [(8, .int 2), (7, .int r_831), (6, .int r_825), (5, .int l3_5), (0, .ref k), (1, .int a0), (2, .int a1), (3, .int a2), (4, .int a3)]) hx hb dX11_speaks_43 hl (by decide) rfl ?_
              clear hl
              intro ls hl
              refine lv_iload hx hb dX11_speaks_45 (lv_at hl 3 rfl) ?_
              refine lv_iload_n hx hb dX11_speaks_47 rfl (lv_at hl 7 rfl) ?_
              refine kJi (wr := [(k8, .inl (cI, 40, .inl c8)), (k, .inr (11, [.ref k0, .ref k1, .ref k2, .int c3, .ref k4, .ref k5, .ref k6, .ref k7, .ref k8, .int c9, .ref ka, .ref kb, .int cc, .int cd, .int ce, .int cf, .int cg, .int ch, .int ci, .int cj, .int ck, .ref kl, .int cm, .int cn, .ref ko])), (k0, .inl (cI, 1201, .inl c0))]) (va_runS (As := [.int l3_5, .int a2]) (rest := []) ⟨hx, hb, hml, hown, hT⟩ (c_X11_bodyOfG l D cI aK aV H.size l3_5 a2 (by first | omega | decide | assumption | rfl) (by first | omega | decide | assumption | rfl) (by first | omega | decide | assumption | rfl) (by first | omega | decide | assumption | rfl)) (cwS 2 hT (gS_in mw_1581 mw_1579 mw_1580 mw_12) rfl rfl rfl (by decide +kernel) ⟨(by dsimp only; omega), (by dsimp only; omega)⟩) (kStatX hK hP hD hN hXS hS hA [] rfl (by decide)) rfl rfl hl.1 rfl (lv_room (Nat.le_of_ble_eq_true rfl)) dX11_speaks_48 ⟨Nat.le_of_ble_eq_true rfl, Nat.le_of_ble_eq_true rfl⟩) hP hD hS hA [] [0, 1, 2] rfl rfl (by decide) (by decide) ?_
              clear hP hD hS
              intro r_844 u_846 H locs w_845 hP hD hS
              replace hP : va_P D vwCl [(k8, .inl (cI, 40, .inl c8)), (k, .inr (11, [.ref k0, .ref k1, .ref k2, .int c3, .ref k4, .ref k5, .ref k6, .ref k7, .ref k8, .int c9, .ref ka, .ref kb, .int cc, .int cd, .int ce, .int cf, .int cg, .int ch, .int ci, .int cj, .int ck, .ref kl, .int cm, .int cn, .ref ko])), (k0, .inl (cI, 1201, .inl c0))] H := hP
              replace hD : va_D A [(k8, .inl (cI, 40, .inl c8)), (k, .inr (11, [.ref k0, .ref k1, .ref k2, .int c3, .ref k4, .ref k5, .ref k6, .ref k7, .ref k8, .int c9, .ref ka, .ref kb, .int cc, .int cd, .int ce, .int cf, .int cg, .int ch, .int ci, .int cj, .int ck, .ref kl, .int cm, .int cn, .ref ko])), (k0, .inl (cI, 1201, .inl c0))] := hD
              rcases w_845 with ⟨hr_844, h_847, h_848, h_849⟩ | ⟨hr_844, h_850, h_851, h_852⟩ | ⟨hr_844, h_853, h_854, h_855⟩ | ⟨hr_844, h_856, h_857, h_858⟩ | ⟨hr_844, h_859, h_860, h_861⟩ | ⟨hr_844, h_862, h_863, h_864⟩ | ⟨hr_844, h_865, h_866, h_867⟩ | ⟨hr_844, h_868, h_869, h_870⟩ | ⟨hr_844, h_871, h_872, h_873⟩ | ⟨hr_844, h_874, h_875, h_876⟩ | ⟨hr_844, h_877, h_878, h_879⟩ | ⟨hr_844, h_880, h_881, h_882⟩ | ⟨hr_844, h_883, h_884, h_885⟩ | ⟨hr_844, h_886, h_887, h_888⟩ | ⟨hr_844, h_889, h_890⟩
              · exfalso; omega
              · exfalso; omega
              · exfalso; omega
              · exfalso; omega
              · exfalso; omega
              · exfalso; omega
              · exfalso; omega
              · exfalso; omega
              · exfalso; omega
              · have h_874 : l3_5.toInt = 3 := h_874
                have h_875 : a2.toInt = 3 := h_875
                have h_876 : (bKi l3_5 a2).toInt = 41 := h_876
                obtain rfl : r_844 = 41 := hr_844.trans (by decide)
                refine lv_istore (lv' := [(9, .int 41), (8, .int 2), (7, .int r_831), (6, .int r_825), (5, .int l3_5), (0, .ref k), (1, .int a0), (2, .int a1), (3, .int a2), (4, .int a3)]) hx hb dX11_speaks_51 hl (by decide) rfl ?_
                clear hl
                intro ls hl
                refine lv_aload_n hx hb dX11_speaks_53 rfl (lv_at hl 5 rfl) ?_
                refine lv_iload hx hb dX11_speaks_54 (lv_at hl 0 rfl) ?_
                refine kJv (wr := [(k0, .inl (cI, 1201, .inl c0))]) (va_runV (As := [.int 41]) (rest := []) ⟨hx, hb, hml, hown, hT⟩ (c_X11_ranG l D cI aK aV k k0 k1 k2 k4 k5 k6 k7 k8 ka kb kl ko H.size c3 c9 cc cd ce cf cg ch ci cj ck cm cn c8 41 (by first | omega | (simp only [zl_41]; first | done | omega) | decide | assumption | rfl) (by first | omega | (simp only [zl_41]; first | done | omega) | decide | assumption | rfl)) (cwV 1 hT (gV_in mw_1585 mw_1582 mw_1584 mw_p6_7 mw_12) rfl rfl rfl (by decide +kernel) ⟨(by dsimp only; omega), (by dsimp only; omega)⟩) (kRecvX (q0 := 1) (ci := 11) hK hP hD hN hXS hS hA rfl rfl [1, 0] rfl (by decide)) rfl rfl hl.1 rfl (lv_room (Nat.le_of_ble_eq_true rfl)) dX11_speaks_56 ⟨Nat.le_of_ble_eq_true rfl, Nat.le_of_ble_eq_true rfl⟩) hP hD hS hA [1, 0] [2] rfl rfl (by decide) (by decide) ?_
                clear hP hD hS
                intro u_895 H locs w_892 hP hD hS
                obtain ⟨sc9_893, sc8_894⟩ := u_895
                replace hP : va_P D vwCl [(k0, .inl (cI, 1201, .inl c0)), (k, .inr (11, [.ref k0, .ref k1, .ref k2, .int c3, .ref k4, .ref k5, .ref k6, .ref k7, .ref k8, .int sc9_893, .ref ka, .ref kb, .int cc, .int cd, .int ce, .int cf, .int cg, .int ch, .int ci, .int cj, .int ck, .ref kl, .int cm, .int cn, .ref ko])), (k8, .inl (cI, 40, .inl sc8_894))] H := hP
                replace hD : va_D A [(k0, .inl (cI, 1201, .inl c0)), (k, .inr (11, [.ref k0, .ref k1, .ref k2, .int c3, .ref k4, .ref k5, .ref k6, .ref k7, .ref k8, .int sc9_893, .ref ka, .ref kb, .int cc, .int cd, .int ce, .int cf, .int cg, .int ch, .int ci, .int cj, .int ck, .ref kl, .int cm, .int cn, .ref ko])), (k8, .inl (cI, 40, .inl sc8_894))] := hD
                have lo_sc9_893 := k_lo sc9_893
                have hi_sc9_893 := k_hi sc9_893
                obtain ⟨h_896, h_897, h_898, h_899⟩ := w_892
                try simp only [zl_41] at h_896
                have h_896 : 0 ≤ sc9_893.toInt := h_896
                try simp only [zl_41] at h_897
                have h_897 : sc9_893.toInt ≤ 40 := h_897
                try simp only [zl_41] at h_898
                have h_898 : sc9_893 = mSV c9 := h_898
                try simp only [zl_41] at h_899
                have h_899 : sc8_894 = gSV c9 c8 41 := h_899
                refine lv_iload hx hb dX11_speaks_59 (lv_at hl 0 rfl) ?_
                refine lv_tableIn (off := 354) (tgt := 415) hx hb dX11_speaks_61 (by decide) (by decide) (by decide) (by decide) ?_
                refine lv_aload_n hx hb dX11_speaks_415 rfl (lv_at hl 5 rfl) ?_
                refine lv_iload_n hx hb dX11_speaks_416 rfl (lv_at hl 6 rfl) ?_
                refine lv_iload hx hb dX11_speaks_417 (lv_at hl 1 rfl) ?_
                refine lv_iconst (v := 3) hx hb dX11_speaks_419 (by decide) ?_
                refine lv_iload hx hb dX11_speaks_420 (lv_at hl 9 rfl) ?_
                refine kJi (wr := []) (va_runV (As := [.int a0, .int 2, .int 3, .int a3]) (rest := []) ⟨hx, hb, hml, hown, hT⟩ (ih l D cI aK aV k k0 k1 k2 k4 k5 k6 k7 k8 ka kb kl ko H.size c3 sc9_893 cc cd ce cf cg ch ci cj ck cm cn c0 sc8_894 a0 2 3 a3 pre0 (by first | omega | (simp only [zl_2, zl_3]; first | done | omega) | decide | assumption | rfl) (by first | omega | (simp only [zl_2, zl_3]; first | done | omega) | decide | assumption | rfl) (by first | omega | (simp only [zl_2, zl_3]; first | done | omega) | decide | assumption | rfl) (by first | omega | (simp only [zl_2, zl_3]; first | done | omega) | decide | assumption | rfl) (by first | omega | (simp only [zl_2, zl_3]; first | done | omega) | decide | assumption | rfl) (by first | omega | (simp only [zl_2, zl_3]; first | done | omega) | decide | assumption | rfl) (by first | omega | (simp only [zl_2, zl_3]; first | done | omega) | decide | assumption | rfl) (by first | omega | (simp only [zl_2, zl_3]; first | done | omega) | decide | assumption | rfl) (by first | omega | (simp only [zl_2, zl_3]; first | done | omega) | decide | assumption | rfl)) (cwV 4 hT (gV_in mw_1578 mw_1575 mw_1577 mw_p6_6 mw_12) rfl rfl rfl (by decide +kernel) ⟨(by dsimp only; omega), (by dsimp only; omega)⟩) (kRecvX (q0 := 1) (ci := 11) hK hP hD hN hXS hS hA rfl rfl [1, 0, 2] rfl (by decide)) rfl rfl hl.1 rfl (lv_room (Nat.le_of_ble_eq_true rfl)) dX11_speaks_422 ⟨Nat.le_of_ble_eq_true rfl, Nat.le_of_ble_eq_true rfl⟩) hP hD hS hA [1, 0, 2] [] rfl rfl (by decide) (by decide) ?_
                clear hP hD hS
                intro r_900 u_904 H locs w_901 hP hD hS
                obtain ⟨sc9_902, sc8_903⟩ := u_904
                replace hP : va_P D vwCl [(k, .inr (11, [.ref k0, .ref k1, .ref k2, .int c3, .ref k4, .ref k5, .ref k6, .ref k7, .ref k8, .int sc9_902, .ref ka, .ref kb, .int cc, .int cd, .int ce, .int cf, .int cg, .int ch, .int ci, .int cj, .int ck, .ref kl, .int cm, .int cn, .ref ko])), (k0, .inl (cI, 1201, .inl c0)), (k8, .inl (cI, 40, .inl sc8_903))] H := hP
                replace hD : va_D A [(k, .inr (11, [.ref k0, .ref k1, .ref k2, .int c3, .ref k4, .ref k5, .ref k6, .ref k7, .ref k8, .int sc9_902, .ref ka, .ref kb, .int cc, .int cd, .int ce, .int cf, .int cg, .int ch, .int ci, .int cj, .int ck, .ref kl, .int cm, .int cn, .ref ko])), (k0, .inl (cI, 1201, .inl c0)), (k8, .inl (cI, 40, .inl sc8_903))] := hD
                have lo_sc9_902 := k_lo sc9_902
                have hi_sc9_902 := k_hi sc9_902
                obtain ⟨h_905, h_906, h_907⟩ := w_901
                try simp only [zl_2, zl_3] at h_905
                have h_905 : 0 ≤ sc9_902.toInt := h_905
                try simp only [zl_2, zl_3] at h_906
                have h_906 : sc9_902.toInt ≤ 40 := h_906
                try simp only [zl_2, zl_3] at h_907
                have h_907 : voB a0 (wW c0 a0 2) (wW c0 a0 0) dd 2 3 a3 sc9_893 sc8_894 = (r_900, sc9_902, sc8_903) := h_907
                have lo_r_900 := k_lo r_900
                have hi_r_900 := k_hi r_900
                refine lv_istore (lv' := [(10, .int r_900), (9, .int 41), (8, .int 2), (7, .int r_831), (6, .int r_825), (5, .int l3_5), (0, .ref k), (1, .int a0), (2, .int a1), (3, .int a2), (4, .int a3)]) hx hb dX11_speaks_425 hl (by decide) rfl ?_
                clear hl
                intro ls hl
                refine lv_iload hx hb dX11_speaks_427 (lv_at hl 0 rfl) ?_
                refine lv_aload_n hx hb dX11_speaks_429 rfl (lv_at hl 6 rfl) ?_
                refine lv_iload_n hx hb dX11_speaks_430 rfl (lv_at hl 7 rfl) ?_
                refine lv_iload hx hb dX11_speaks_431 (lv_at hl 4 rfl) ?_
                refine lv_iconst (v := 1) hx hb dX11_speaks_433 (by decide) ?_
                refine lv_iload_n hx hb dX11_speaks_434 rfl (lv_at hl 7 rfl) ?_
                refine kJi (wr := []) (va_runV (As := [.int a0, .int r_825, .int 1, .int a0]) (rest := [.int r_900]) ⟨hx, hb, hml, hown, hT⟩ (ih l D cI aK aV k k0 k1 k2 k4 k5 k6 k7 k8 ka kb kl ko H.size c3 sc9_902 cc cd ce cf cg ch ci cj ck cm cn c0 sc8_903 a0 r_825 1 a0 pre0 (by first | omega | (simp only [zl_1]; first | done | omega) | decide | assumption | rfl) (by first | omega | (simp only [zl_1]; first | done | omega) | decide | assumption | rfl) (by first | omega | (simp only [zl_1]; first | done | omega) | decide | assumption | rfl) (by first | omega | (simp only [zl_1]; first | done | omega) | decide | assumption | rfl) (by first | omega | (simp only [zl_1]; first | done | omega) | decide | assumption | rfl) (by first | omega | (simp only [zl_1]; first | done | omega) | decide | assumption | rfl) (by first | omega | (simp only [zl_1]; first | done | omega) | decide | assumption | rfl) (by first | omega | (simp only [zl_1]; first | done | omega) | decide | assumption | rfl) (by first | omega | (simp only [zl_1]; first | done | omega) | decide | assumption | rfl)) (cwV 4 hT (gV_in mw_1578 mw_1575 mw_1577 mw_p6_6 mw_12) rfl rfl rfl (by decide +kernel) ⟨(by dsimp only; omega), (by dsimp only; omega)⟩) (kRecvX (q0 := 0) (ci := 11) hK hP hD hN hXS hS hA rfl rfl [0, 1, 2] rfl (by decide)) rfl rfl hl.1 rfl (lv_room (Nat.le_of_ble_eq_true rfl)) dX11_speaks_435 ⟨Nat.le_of_ble_eq_true rfl, Nat.le_of_ble_eq_true rfl⟩) hP hD hS hA [0, 1, 2] [] rfl rfl (by decide) (by decide) ?_
                clear hP hD hS
                intro r_908 u_912 H locs w_909 hP hD hS
                obtain ⟨sc9_910, sc8_911⟩ := u_912
                replace hP : va_P D vwCl [(k, .inr (11, [.ref k0, .ref k1, .ref k2, .int c3, .ref k4, .ref k5, .ref k6, .ref k7, .ref k8, .int sc9_910, .ref ka, .ref kb, .int cc, .int cd, .int ce, .int cf, .int cg, .int ch, .int ci, .int cj, .int ck, .ref kl, .int cm, .int cn, .ref ko])), (k0, .inl (cI, 1201, .inl c0)), (k8, .inl (cI, 40, .inl sc8_911))] H := hP
                replace hD : va_D A [(k, .inr (11, [.ref k0, .ref k1, .ref k2, .int c3, .ref k4, .ref k5, .ref k6, .ref k7, .ref k8, .int sc9_910, .ref ka, .ref kb, .int cc, .int cd, .int ce, .int cf, .int cg, .int ch, .int ci, .int cj, .int ck, .ref kl, .int cm, .int cn, .ref ko])), (k0, .inl (cI, 1201, .inl c0)), (k8, .inl (cI, 40, .inl sc8_911))] := hD
                have lo_sc9_910 := k_lo sc9_910
                have hi_sc9_910 := k_hi sc9_910
                obtain ⟨h_913, h_914, h_915⟩ := w_909
                try simp only [zl_1] at h_913
                have h_913 : 0 ≤ sc9_910.toInt := h_913
                try simp only [zl_1] at h_914
                have h_914 : sc9_910.toInt ≤ 40 := h_914
                try simp only [zl_1] at h_915
                have h_915 : voB a0 (wW c0 a0 2) (wW c0 a0 0) dd r_825 1 a0 sc9_902 sc8_903 = (r_908, sc9_910, sc8_911) := h_915
                have lo_r_908 := k_lo r_908
                have hi_r_908 := k_hi r_908
                refine lv_ixor hx hb dX11_speaks_438 ?_
                refine lv_topi (fun v_916 ev_916 => ?_)
                have lo_v_916 := k_lo v_916
                have hi_v_916 := k_hi v_916
                exact hRet (sc9_910, sc8_911) [0, 1, 2] ⟨(by first | omega | decide | assumption | rfl | (dsimp only; first | omega)), (by first | omega | decide | assumption | rfl | (dsimp only; first | omega)), (vo_41 (b := 41) (m1 := sc9_893) (g1 := sc8_894) (by rw [← i3_3]; exact (bd_own (a := l3_5) (c := a2) (bd_bk h_876 (by decide)) (by decide)).symm) (by decide) h_898 h_899 h_907 (by have z := h_915; rw [h_828] at z; exact z) ev_916)⟩ hP hD (by decide) rfl hS rfl dX11_speaks_439
              · exfalso; omega
              · exfalso; omega
              · exfalso; omega
              · exfalso; omega
              · exfalso; omega
            · exfalso; omega
          · have h_37 : l3_5.toInt = 4 := h_37
            have h_38 : a2.toInt = 0 := h_38
            have h_39 : (bKi l3_5 a2).toInt = 50 := h_39
            obtain rfl : r_4 = 50 := hr_4.trans (by decide)
            refine b_if_ne hx hb zl_50 (tgt := 22) dX11_speaks_9 (by decide) (fun c_917 => ?_) (fun c_917 => by exfalso; omega)
            refine lv_aload_n hx hb dX11_speaks_22 rfl (lv_at hl 1 rfl) ?_
            refine lv_iload_n hx hb dX11_speaks_23 rfl (lv_at hl 2 rfl) ?_
            refine lv_iconst (v := 0) hx hb dX11_speaks_24 (by decide) ?_
            refine kJi (wr := [(k8, .inl (cI, 40, .inl c8))]) (va_runV (As := [.int a0, .int 0]) (rest := []) ⟨hx, hb, hml, hown, hT⟩ (c_X11_workG0 l D cI aK aV k k0 k1 k2 k4 k5 k6 k7 k8 ka kb kl ko H.size c3 c9 cc cd ce cf cg ch ci cj ck cm cn c0 a0 0 (by first | omega | (simp only [zl_0]; first | done | omega) | decide | assumption | rfl) (by first | omega | (simp only [zl_0]; first | done | omega) | decide | assumption | rfl) (by first | omega | (simp only [zl_0]; first | done | omega) | decide | assumption | rfl)) (cwV 2 hT (gV_in mw_1276 mw_1273 mw_1275 mw_p3_12 mw_12) rfl rfl rfl (by decide +kernel) ⟨(by dsimp only; omega), (by dsimp only; omega)⟩) (kRecvX (q0 := 0) (ci := 11) hK hP hD hN hXS hS hA rfl rfl [0, 1] rfl (by decide)) rfl rfl hl.1 rfl (lv_room (Nat.le_of_ble_eq_true rfl)) dX11_speaks_25 ⟨Nat.le_of_ble_eq_true rfl, Nat.le_of_ble_eq_true rfl⟩) hP hD hS hA [0, 1] [2] rfl rfl (by decide) (by decide) ?_
            clear hP hD hS
            intro r_918 u_920 H locs w_919 hP hD hS
            replace hP : va_P D vwCl [(k8, .inl (cI, 40, .inl c8)), (k, .inr (11, [.ref k0, .ref k1, .ref k2, .int c3, .ref k4, .ref k5, .ref k6, .ref k7, .ref k8, .int c9, .ref ka, .ref kb, .int cc, .int cd, .int ce, .int cf, .int cg, .int ch, .int ci, .int cj, .int ck, .ref kl, .int cm, .int cn, .ref ko])), (k0, .inl (cI, 1201, .inl c0))] H := hP
            replace hD : va_D A [(k8, .inl (cI, 40, .inl c8)), (k, .inr (11, [.ref k0, .ref k1, .ref k2, .int c3, .ref k4, .ref k5, .ref k6, .ref k7, .ref k8, .int c9, .ref ka, .ref kb, .int cc, .int cd, .int ce, .int cf, .int cg, .int ch, .int ci, .int cj, .int ck, .ref kl, .int cm, .int cn, .ref ko])), (k0, .inl (cI, 1201, .inl c0))] := hD
            have h_921 := w_919
            have h_921 : r_918 = wW c0 a0 0 := h_921
            have t_922 : r_918.toInt = (wW c0 a0 0).toInt := by rw [h_921]
            have b_923 : 0 ≤ r_918.toInt ∧ r_918.toInt ≤ 5 := by rw [h_921]; exact SB.w0 pre0 (by omega) (by omega)
            have lo_r_918 := k_lo r_918
            have hi_r_918 := k_hi r_918
            refine lv_istore (lv' := [(6, .int r_918), (5, .int l3_5), (0, .ref k), (1, .int a0), (2, .int a1), (3, .int a2), (4, .int a3)]) hx hb dX11_speaks_28 hl (by decide) rfl ?_
            clear hl
            intro ls hl
            refine lv_aload_n hx hb dX11_speaks_30 rfl (lv_at hl 2 rfl) ?_
            refine lv_iload_n hx hb dX11_speaks_31 rfl (lv_at hl 3 rfl) ?_
            refine lv_iconst (v := 2) hx hb dX11_speaks_32 (by decide) ?_
            refine kJi (wr := [(k8, .inl (cI, 40, .inl c8))]) (va_runV (As := [.int a0, .int 2]) (rest := []) ⟨hx, hb, hml, hown, hT⟩ (c_X11_workG2 l D cI aK aV k k0 k1 k2 k4 k5 k6 k7 k8 ka kb kl ko H.size c3 c9 cc cd ce cf cg ch ci cj ck cm cn c0 a0 2 (by first | omega | (simp only [zl_2]; first | done | omega) | decide | assumption | rfl) (by first | omega | (simp only [zl_2]; first | done | omega) | decide | assumption | rfl) (by first | omega | (simp only [zl_2]; first | done | omega) | decide | assumption | rfl)) (cwV 2 hT (gV_in mw_1276 mw_1273 mw_1275 mw_p3_12 mw_12) rfl rfl rfl (by decide +kernel) ⟨(by dsimp only; omega), (by dsimp only; omega)⟩) (kRecvX (q0 := 1) (ci := 11) hK hP hD hN hXS hS hA rfl rfl [1, 2] rfl (by decide)) rfl rfl hl.1 rfl (lv_room (Nat.le_of_ble_eq_true rfl)) dX11_speaks_33 ⟨Nat.le_of_ble_eq_true rfl, Nat.le_of_ble_eq_true rfl⟩) hP hD hS hA [1, 2] [0] rfl rfl (by decide) (by decide) ?_
            clear hP hD hS
            intro r_924 u_926 H locs w_925 hP hD hS
            replace hP : va_P D vwCl [(k8, .inl (cI, 40, .inl c8)), (k, .inr (11, [.ref k0, .ref k1, .ref k2, .int c3, .ref k4, .ref k5, .ref k6, .ref k7, .ref k8, .int c9, .ref ka, .ref kb, .int cc, .int cd, .int ce, .int cf, .int cg, .int ch, .int ci, .int cj, .int ck, .ref kl, .int cm, .int cn, .ref ko])), (k0, .inl (cI, 1201, .inl c0))] H := hP
            replace hD : va_D A [(k8, .inl (cI, 40, .inl c8)), (k, .inr (11, [.ref k0, .ref k1, .ref k2, .int c3, .ref k4, .ref k5, .ref k6, .ref k7, .ref k8, .int c9, .ref ka, .ref kb, .int cc, .int cd, .int ce, .int cf, .int cg, .int ch, .int ci, .int cj, .int ck, .ref kl, .int cm, .int cn, .ref ko])), (k0, .inl (cI, 1201, .inl c0))] := hD
            have h_927 := w_925
            have h_927 : r_924 = wW c0 a0 2 := h_927
            have t_928 : r_924.toInt = (wW c0 a0 2).toInt := by rw [h_927]
            have lo_r_924 := k_lo r_924
            have hi_r_924 := k_hi r_924
            refine lv_istore (lv' := [(7, .int r_924), (6, .int r_918), (5, .int l3_5), (0, .ref k), (1, .int a0), (2, .int a1), (3, .int a2), (4, .int a3)]) hx hb dX11_speaks_36 hl (by decide) rfl ?_
            clear hl
            intro ls hl
            refine lv_iload hx hb dX11_speaks_38 (lv_at hl 2 rfl) ?_
            refine kJi (wr := [(k8, .inl (cI, 40, .inl c8)), (k, .inr (11, [.ref k0, .ref k1, .ref k2, .int c3, .ref k4, .ref k5, .ref k6, .ref k7, .ref k8, .int c9, .ref ka, .ref kb, .int cc, .int cd, .int ce, .int cf, .int cg, .int ch, .int ci, .int cj, .int ck, .ref kl, .int cm, .int cn, .ref ko])), (k0, .inl (cI, 1201, .inl c0))]) (va_runS (As := [.int l3_5]) (rest := []) ⟨hx, hb, hml, hown, hT⟩ (c_X11_parentG l D cI aK aV H.size l3_5 (by first | omega | decide | assumption | rfl) (by first | omega | decide | assumption | rfl)) (cwS 1 hT (gS_in mw_1282 mw_1280 mw_1281 mw_12) rfl rfl rfl (by decide +kernel) ⟨(by dsimp only; omega), (by dsimp only; omega)⟩) (kStatX hK hP hD hN hXS hS hA [] rfl (by decide)) rfl rfl hl.1 rfl (lv_room (Nat.le_of_ble_eq_true rfl)) dX11_speaks_40 ⟨Nat.le_of_ble_eq_true rfl, Nat.le_of_ble_eq_true rfl⟩) hP hD hS hA [] [0, 1, 2] rfl rfl (by decide) (by decide) ?_
            clear hP hD hS
            intro r_929 u_931 H locs w_930 hP hD hS
            replace hP : va_P D vwCl [(k8, .inl (cI, 40, .inl c8)), (k, .inr (11, [.ref k0, .ref k1, .ref k2, .int c3, .ref k4, .ref k5, .ref k6, .ref k7, .ref k8, .int c9, .ref ka, .ref kb, .int cc, .int cd, .int ce, .int cf, .int cg, .int ch, .int ci, .int cj, .int ck, .ref kl, .int cm, .int cn, .ref ko])), (k0, .inl (cI, 1201, .inl c0))] H := hP
            replace hD : va_D A [(k8, .inl (cI, 40, .inl c8)), (k, .inr (11, [.ref k0, .ref k1, .ref k2, .int c3, .ref k4, .ref k5, .ref k6, .ref k7, .ref k8, .int c9, .ref ka, .ref kb, .int cc, .int cd, .int ce, .int cf, .int cg, .int ch, .int ci, .int cj, .int ck, .ref kl, .int cm, .int cn, .ref ko])), (k0, .inl (cI, 1201, .inl c0))] := hD
            rcases w_930 with ⟨hr_929, h_932⟩ | ⟨hr_929, h_933⟩ | ⟨hr_929, h_934⟩ | ⟨hr_929, h_935⟩ | ⟨hr_929, h_936⟩
            · exfalso; omega
            · have h_933 : l3_5.toInt = 1 ∨ l3_5.toInt = 4 := h_933
              obtain rfl : r_929 = 0 := hr_929.trans (by decide)
              refine lv_istore (lv' := [(8, .int 0), (7, .int r_924), (6, .int r_918), (5, .int l3_5), (0, .ref k), (1, .int a0), (2, .int a1), (3, .int a2), (4, .int a3)]) hx hb dX11_speaks_43 hl (by decide) rfl ?_
              clear hl
              intro ls hl
              refine lv_iload hx hb dX11_speaks_45 (lv_at hl 3 rfl) ?_
              refine lv_iload_n hx hb dX11_speaks_47 rfl (lv_at hl 7 rfl) ?_
              refine kJi (wr := [(k8, .inl (cI, 40, .inl c8)), (k, .inr (11, [.ref k0, .ref k1, .ref k2, .int c3, .ref k4, .ref k5, .ref k6, .ref k7, .ref k8, .int c9, .ref ka, .ref kb, .int cc, .int cd, .int ce, .int cf, .int cg, .int ch, .int ci, .int cj, .int ck, .ref kl, .int cm, .int cn, .ref ko])), (k0, .inl (cI, 1201, .inl c0))]) (va_runS (As := [.int l3_5, .int a2]) (rest := []) ⟨hx, hb, hml, hown, hT⟩ (c_X11_bodyOfG l D cI aK aV H.size l3_5 a2 (by first | omega | decide | assumption | rfl) (by first | omega | decide | assumption | rfl) (by first | omega | decide | assumption | rfl) (by first | omega | decide | assumption | rfl)) (cwS 2 hT (gS_in mw_1581 mw_1579 mw_1580 mw_12) rfl rfl rfl (by decide +kernel) ⟨(by dsimp only; omega), (by dsimp only; omega)⟩) (kStatX hK hP hD hN hXS hS hA [] rfl (by decide)) rfl rfl hl.1 rfl (lv_room (Nat.le_of_ble_eq_true rfl)) dX11_speaks_48 ⟨Nat.le_of_ble_eq_true rfl, Nat.le_of_ble_eq_true rfl⟩) hP hD hS hA [] [0, 1, 2] rfl rfl (by decide) (by decide) ?_
              clear hP hD hS
              intro r_937 u_939 H locs w_938 hP hD hS
              replace hP : va_P D vwCl [(k8, .inl (cI, 40, .inl c8)), (k, .inr (11, [.ref k0, .ref k1, .ref k2, .int c3, .ref k4, .ref k5, .ref k6, .ref k7, .ref k8, .int c9, .ref ka, .ref kb, .int cc, .int cd, .int ce, .int cf, .int cg, .int ch, .int ci, .int cj, .int ck, .ref kl, .int cm, .int cn, .ref ko])), (k0, .inl (cI, 1201, .inl c0))] H := hP
              replace hD : va_D A [(k8, .inl (cI, 40, .inl c8)), (k, .inr (11, [.ref k0, .ref k1, .ref k2, .int c3, .ref k4, .ref k5, .ref k6, .ref k7, .ref k8, .int c9, .ref ka, .ref kb, .int cc, .int cd, .int ce, .int cf, .int cg, .int ch, .int ci, .int cj, .int ck, .ref kl, .int cm, .int cn, .ref ko])), (k0, .inl (cI, 1201, .inl c0))] := hD
              rcases w_938 with ⟨hr_937, h_940, h_941, h_942⟩ | ⟨hr_937, h_943, h_944, h_945⟩ | ⟨hr_937, h_946, h_947, h_948⟩ | ⟨hr_937, h_949, h_950, h_951⟩ | ⟨hr_937, h_952, h_953, h_954⟩ | ⟨hr_937, h_955, h_956, h_957⟩ | ⟨hr_937, h_958, h_959, h_960⟩ | ⟨hr_937, h_961, h_962, h_963⟩ | ⟨hr_937, h_964, h_965, h_966⟩ | ⟨hr_937, h_967, h_968, h_969⟩ | ⟨hr_937, h_970, h_971, h_972⟩ | ⟨hr_937, h_973, h_974, h_975⟩ | ⟨hr_937, h_976, h_977, h_978⟩ | ⟨hr_937, h_979, h_980, h_981⟩ | ⟨hr_937, h_982, h_983⟩
              · exfalso; omega
              · exfalso; omega
              · exfalso; omega
              · exfalso; omega
              · exfalso; omega
              · exfalso; omega
              · exfalso; omega
              · exfalso; omega
              · exfalso; omega
              · exfalso; omega
              · have h_970 : l3_5.toInt = 4 := h_970
                have h_971 : a2.toInt = 0 := h_971
                have h_972 : (bKi l3_5 a2).toInt = 50 := h_972
                obtain rfl : r_937 = 50 := hr_937.trans (by decide)
                refine lv_istore (lv' := [(9, .int 50), (8, .int 0), (7, .int r_924), (6, .int r_918), (5, .int l3_5), (0, .ref k), (1, .int a0), (2, .int a1), (3, .int a2), (4, .int a3)]) hx hb dX11_speaks_51 hl (by decide) rfl ?_
                clear hl
                intro ls hl
                refine lv_aload_n hx hb dX11_speaks_53 rfl (lv_at hl 5 rfl) ?_
                refine lv_iload hx hb dX11_speaks_54 (lv_at hl 0 rfl) ?_
                refine kJv (wr := [(k0, .inl (cI, 1201, .inl c0))]) (va_runV (As := [.int 50]) (rest := []) ⟨hx, hb, hml, hown, hT⟩ (c_X11_ranG l D cI aK aV k k0 k1 k2 k4 k5 k6 k7 k8 ka kb kl ko H.size c3 c9 cc cd ce cf cg ch ci cj ck cm cn c8 50 (by first | omega | (simp only [zl_50]; first | done | omega) | decide | assumption | rfl) (by first | omega | (simp only [zl_50]; first | done | omega) | decide | assumption | rfl)) (cwV 1 hT (gV_in mw_1585 mw_1582 mw_1584 mw_p6_7 mw_12) rfl rfl rfl (by decide +kernel) ⟨(by dsimp only; omega), (by dsimp only; omega)⟩) (kRecvX (q0 := 1) (ci := 11) hK hP hD hN hXS hS hA rfl rfl [1, 0] rfl (by decide)) rfl rfl hl.1 rfl (lv_room (Nat.le_of_ble_eq_true rfl)) dX11_speaks_56 ⟨Nat.le_of_ble_eq_true rfl, Nat.le_of_ble_eq_true rfl⟩) hP hD hS hA [1, 0] [2] rfl rfl (by decide) (by decide) ?_
                clear hP hD hS
                intro u_988 H locs w_985 hP hD hS
                obtain ⟨sc9_986, sc8_987⟩ := u_988
                replace hP : va_P D vwCl [(k0, .inl (cI, 1201, .inl c0)), (k, .inr (11, [.ref k0, .ref k1, .ref k2, .int c3, .ref k4, .ref k5, .ref k6, .ref k7, .ref k8, .int sc9_986, .ref ka, .ref kb, .int cc, .int cd, .int ce, .int cf, .int cg, .int ch, .int ci, .int cj, .int ck, .ref kl, .int cm, .int cn, .ref ko])), (k8, .inl (cI, 40, .inl sc8_987))] H := hP
                replace hD : va_D A [(k0, .inl (cI, 1201, .inl c0)), (k, .inr (11, [.ref k0, .ref k1, .ref k2, .int c3, .ref k4, .ref k5, .ref k6, .ref k7, .ref k8, .int sc9_986, .ref ka, .ref kb, .int cc, .int cd, .int ce, .int cf, .int cg, .int ch, .int ci, .int cj, .int ck, .ref kl, .int cm, .int cn, .ref ko])), (k8, .inl (cI, 40, .inl sc8_987))] := hD
                have lo_sc9_986 := k_lo sc9_986
                have hi_sc9_986 := k_hi sc9_986
                obtain ⟨h_989, h_990, h_991, h_992⟩ := w_985
                try simp only [zl_50] at h_989
                have h_989 : 0 ≤ sc9_986.toInt := h_989
                try simp only [zl_50] at h_990
                have h_990 : sc9_986.toInt ≤ 40 := h_990
                try simp only [zl_50] at h_991
                have h_991 : sc9_986 = mSV c9 := h_991
                try simp only [zl_50] at h_992
                have h_992 : sc8_987 = gSV c9 c8 50 := h_992
                refine lv_iload hx hb dX11_speaks_59 (lv_at hl 0 rfl) ?_
                refine lv_tableIn (off := 379) (tgt := 440) hx hb dX11_speaks_61 (by decide) (by decide) (by decide) (by decide) ?_
                refine lv_aload_n hx hb dX11_speaks_440 rfl (lv_at hl 5 rfl) ?_
                refine lv_iload_n hx hb dX11_speaks_441 rfl (lv_at hl 6 rfl) ?_
                refine lv_iload hx hb dX11_speaks_442 (lv_at hl 1 rfl) ?_
                refine lv_iconst (v := 0) hx hb dX11_speaks_444 (by decide) ?_
                refine lv_iload hx hb dX11_speaks_445 (lv_at hl 9 rfl) ?_
                refine kJi (wr := []) (va_runV (As := [.int a0, .int 0, .int 0, .int a3]) (rest := []) ⟨hx, hb, hml, hown, hT⟩ (ih l D cI aK aV k k0 k1 k2 k4 k5 k6 k7 k8 ka kb kl ko H.size c3 sc9_986 cc cd ce cf cg ch ci cj ck cm cn c0 sc8_987 a0 0 0 a3 pre0 (by first | omega | (simp only [zl_0]; first | done | omega) | decide | assumption | rfl) (by first | omega | (simp only [zl_0]; first | done | omega) | decide | assumption | rfl) (by first | omega | (simp only [zl_0]; first | done | omega) | decide | assumption | rfl) (by first | omega | (simp only [zl_0]; first | done | omega) | decide | assumption | rfl) (by first | omega | (simp only [zl_0]; first | done | omega) | decide | assumption | rfl) (by first | omega | (simp only [zl_0]; first | done | omega) | decide | assumption | rfl) (by first | omega | (simp only [zl_0]; first | done | omega) | decide | assumption | rfl) (by first | omega | (simp only [zl_0]; first | done | omega) | decide | assumption | rfl) (by first | omega | (simp only [zl_0]; first | done | omega) | decide | assumption | rfl)) (cwV 4 hT (gV_in mw_1578 mw_1575 mw_1577 mw_p6_6 mw_12) rfl rfl rfl (by decide +kernel) ⟨(by dsimp only; omega), (by dsimp only; omega)⟩) (kRecvX (q0 := 1) (ci := 11) hK hP hD hN hXS hS hA rfl rfl [1, 0, 2] rfl (by decide)) rfl rfl hl.1 rfl (lv_room (Nat.le_of_ble_eq_true rfl)) dX11_speaks_447 ⟨Nat.le_of_ble_eq_true rfl, Nat.le_of_ble_eq_true rfl⟩) hP hD hS hA [1, 0, 2] [] rfl rfl (by decide) (by decide) ?_
                clear hP hD hS
                intro r_993 u_997 H locs w_994 hP hD hS
                obtain ⟨sc9_995, sc8_996⟩ := u_997
                replace hP : va_P D vwCl [(k, .inr (11, [.ref k0, .ref k1, .ref k2, .int c3, .ref k4, .ref k5, .ref k6, .ref k7, .ref k8, .int sc9_995, .ref ka, .ref kb, .int cc, .int cd, .int ce, .int cf, .int cg, .int ch, .int ci, .int cj, .int ck, .ref kl, .int cm, .int cn, .ref ko])), (k0, .inl (cI, 1201, .inl c0)), (k8, .inl (cI, 40, .inl sc8_996))] H := hP
                replace hD : va_D A [(k, .inr (11, [.ref k0, .ref k1, .ref k2, .int c3, .ref k4, .ref k5, .ref k6, .ref k7, .ref k8, .int sc9_995, .ref ka, .ref kb, .int cc, .int cd, .int ce, .int cf, .int cg, .int ch, .int ci, .int cj, .int ck, .ref kl, .int cm, .int cn, .ref ko])), (k0, .inl (cI, 1201, .inl c0)), (k8, .inl (cI, 40, .inl sc8_996))] := hD
                have lo_sc9_995 := k_lo sc9_995
                have hi_sc9_995 := k_hi sc9_995
                obtain ⟨h_998, h_999, h_1000⟩ := w_994
                try simp only [zl_0] at h_998
                have h_998 : 0 ≤ sc9_995.toInt := h_998
                try simp only [zl_0] at h_999
                have h_999 : sc9_995.toInt ≤ 40 := h_999
                try simp only [zl_0] at h_1000
                have h_1000 : voB a0 (wW c0 a0 2) (wW c0 a0 0) dd 0 0 a3 sc9_986 sc8_987 = (r_993, sc9_995, sc8_996) := h_1000
                have lo_r_993 := k_lo r_993
                have hi_r_993 := k_hi r_993
                refine lv_iload hx hb dX11_speaks_450 (lv_at hl 2 rfl) ?_
                refine lv_iadd hx hb dX11_speaks_452 ?_
                refine lv_topi (fun v_1001 ev_1001 => ?_)
                have lo_v_1001 := k_lo v_1001
                have hi_v_1001 := k_hi v_1001
                exact hRet (sc9_995, sc8_996) [0, 1, 2] ⟨(by first | omega | decide | assumption | rfl | (dsimp only; first | omega)), (by first | omega | decide | assumption | rfl | (dsimp only; first | omega)), (vo_50 (b := 50) (m1 := sc9_986) (g1 := sc8_987) (by rw [← i3_3]; exact (bd_own (a := l3_5) (c := a2) (bd_bk h_972 (by decide)) (by decide)).symm) (by decide) h_991 h_992 h_1000 (by rw [ev_1001, h_927]))⟩ hP hD (by decide) rfl hS rfl dX11_speaks_453
              · exfalso; omega
              · exfalso; omega
              · exfalso; omega
              · exfalso; omega
            · exfalso; omega
            · exfalso; omega
            · exfalso; omega
          · have h_40 : l3_5.toInt = 4 := h_40
            have h_41 : a2.toInt = 2 := h_41
            have h_42 : (bKi l3_5 a2).toInt = 51 := h_42
            obtain rfl : r_4 = 51 := hr_4.trans (by decide)
            refine b_if_ne hx hb zl_51 (tgt := 22) dX11_speaks_9 (by decide) (fun c_1002 => ?_) (fun c_1002 => by exfalso; omega)
            refine lv_aload_n hx hb dX11_speaks_22 rfl (lv_at hl 1 rfl) ?_
            refine lv_iload_n hx hb dX11_speaks_23 rfl (lv_at hl 2 rfl) ?_
            refine lv_iconst (v := 0) hx hb dX11_speaks_24 (by decide) ?_
            refine kJi (wr := [(k8, .inl (cI, 40, .inl c8))]) (va_runV (As := [.int a0, .int 0]) (rest := []) ⟨hx, hb, hml, hown, hT⟩ (c_X11_workG0 l D cI aK aV k k0 k1 k2 k4 k5 k6 k7 k8 ka kb kl ko H.size c3 c9 cc cd ce cf cg ch ci cj ck cm cn c0 a0 0 (by first | omega | (simp only [zl_0]; first | done | omega) | decide | assumption | rfl) (by first | omega | (simp only [zl_0]; first | done | omega) | decide | assumption | rfl) (by first | omega | (simp only [zl_0]; first | done | omega) | decide | assumption | rfl)) (cwV 2 hT (gV_in mw_1276 mw_1273 mw_1275 mw_p3_12 mw_12) rfl rfl rfl (by decide +kernel) ⟨(by dsimp only; omega), (by dsimp only; omega)⟩) (kRecvX (q0 := 0) (ci := 11) hK hP hD hN hXS hS hA rfl rfl [0, 1] rfl (by decide)) rfl rfl hl.1 rfl (lv_room (Nat.le_of_ble_eq_true rfl)) dX11_speaks_25 ⟨Nat.le_of_ble_eq_true rfl, Nat.le_of_ble_eq_true rfl⟩) hP hD hS hA [0, 1] [2] rfl rfl (by decide) (by decide) ?_
            clear hP hD hS
            intro r_1003 u_1005 H locs w_1004 hP hD hS
            replace hP : va_P D vwCl [(k8, .inl (cI, 40, .inl c8)), (k, .inr (11, [.ref k0, .ref k1, .ref k2, .int c3, .ref k4, .ref k5, .ref k6, .ref k7, .ref k8, .int c9, .ref ka, .ref kb, .int cc, .int cd, .int ce, .int cf, .int cg, .int ch, .int ci, .int cj, .int ck, .ref kl, .int cm, .int cn, .ref ko])), (k0, .inl (cI, 1201, .inl c0))] H := hP
            replace hD : va_D A [(k8, .inl (cI, 40, .inl c8)), (k, .inr (11, [.ref k0, .ref k1, .ref k2, .int c3, .ref k4, .ref k5, .ref k6, .ref k7, .ref k8, .int c9, .ref ka, .ref kb, .int cc, .int cd, .int ce, .int cf, .int cg, .int ch, .int ci, .int cj, .int ck, .ref kl, .int cm, .int cn, .ref ko])), (k0, .inl (cI, 1201, .inl c0))] := hD
            have h_1006 := w_1004
            have h_1006 : r_1003 = wW c0 a0 0 := h_1006
            have t_1007 : r_1003.toInt = (wW c0 a0 0).toInt := by rw [h_1006]
            have b_1008 : 0 ≤ r_1003.toInt ∧ r_1003.toInt ≤ 5 := by rw [h_1006]; exact SB.w0 pre0 (by omega) (by omega)
            have lo_r_1003 := k_lo r_1003
            have hi_r_1003 := k_hi r_1003
            refine lv_istore (lv' := [(6, .int r_1003), (5, .int l3_5), (0, .ref k), (1, .int a0), (2, .int a1), (3, .int a2), (4, .int a3)]) hx hb dX11_speaks_28 hl (by decide) rfl ?_
            clear hl
            intro ls hl
            refine lv_aload_n hx hb dX11_speaks_30 rfl (lv_at hl 2 rfl) ?_
            refine lv_iload_n hx hb dX11_speaks_31 rfl (lv_at hl 3 rfl) ?_
            refine lv_iconst (v := 2) hx hb dX11_speaks_32 (by decide) ?_
            refine kJi (wr := [(k8, .inl (cI, 40, .inl c8))]) (va_runV (As := [.int a0, .int 2]) (rest := []) ⟨hx, hb, hml, hown, hT⟩ (c_X11_workG2 l D cI aK aV k k0 k1 k2 k4 k5 k6 k7 k8 ka kb kl ko H.size c3 c9 cc cd ce cf cg ch ci cj ck cm cn c0 a0 2 (by first | omega | (simp only [zl_2]; first | done | omega) | decide | assumption | rfl) (by first | omega | (simp only [zl_2]; first | done | omega) | decide | assumption | rfl) (by first | omega | (simp only [zl_2]; first | done | omega) | decide | assumption | rfl)) (cwV 2 hT (gV_in mw_1276 mw_1273 mw_1275 mw_p3_12 mw_12) rfl rfl rfl (by decide +kernel) ⟨(by dsimp only; omega), (by dsimp only; omega)⟩) (kRecvX (q0 := 1) (ci := 11) hK hP hD hN hXS hS hA rfl rfl [1, 2] rfl (by decide)) rfl rfl hl.1 rfl (lv_room (Nat.le_of_ble_eq_true rfl)) dX11_speaks_33 ⟨Nat.le_of_ble_eq_true rfl, Nat.le_of_ble_eq_true rfl⟩) hP hD hS hA [1, 2] [0] rfl rfl (by decide) (by decide) ?_
            clear hP hD hS
            intro r_1009 u_1011 H locs w_1010 hP hD hS
            replace hP : va_P D vwCl [(k8, .inl (cI, 40, .inl c8)), (k, .inr (11, [.ref k0, .ref k1, .ref k2, .int c3, .ref k4, .ref k5, .ref k6, .ref k7, .ref k8, .int c9, .ref ka, .ref kb, .int cc, .int cd, .int ce, .int cf, .int cg, .int ch, .int ci, .int cj, .int ck, .ref kl, .int cm, .int cn, .ref ko])), (k0, .inl (cI, 1201, .inl c0))] H := hP
            replace hD : va_D A [(k8, .inl (cI, 40, .inl c8)), (k, .inr (11, [.ref k0, .ref k1, .ref k2, .int c3, .ref k4, .ref k5, .ref k6, .ref k7, .ref k8, .int c9, .ref ka, .ref kb, .int cc, .int cd, .int ce, .int cf, .int cg, .int ch, .int ci, .int cj, .int ck, .ref kl, .int cm, .int cn, .ref ko])), (k0, .inl (cI, 1201, .inl c0))] := hD
            have h_1012 := w_1010
            have h_1012 : r_1009 = wW c0 a0 2 := h_1012
            have t_1013 : r_1009.toInt = (wW c0 a0 2).toInt := by rw [h_1012]
            have lo_r_1009 := k_lo r_1009
            have hi_r_1009 := k_hi r_1009
            refine lv_istore (lv' := [(7, .int r_1009), (6, .int r_1003), (5, .int l3_5), (0, .ref k), (1, .int a0), (2, .int a1), (3, .int a2), (4, .int a3)]) hx hb dX11_speaks_36 hl (by decide) rfl ?_
            clear hl
            intro ls hl
            refine lv_iload hx hb dX11_speaks_38 (lv_at hl 2 rfl) ?_
            refine kJi (wr := [(k8, .inl (cI, 40, .inl c8)), (k, .inr (11, [.ref k0, .ref k1, .ref k2, .int c3, .ref k4, .ref k5, .ref k6, .ref k7, .ref k8, .int c9, .ref ka, .ref kb, .int cc, .int cd, .int ce, .int cf, .int cg, .int ch, .int ci, .int cj, .int ck, .ref kl, .int cm, .int cn, .ref ko])), (k0, .inl (cI, 1201, .inl c0))]) (va_runS (As := [.int l3_5]) (rest := []) ⟨hx, hb, hml, hown, hT⟩ (c_X11_parentG l D cI aK aV H.size l3_5 (by first | omega | decide | assumption | rfl) (by first | omega | decide | assumption | rfl)) (cwS 1 hT (gS_in mw_1282 mw_1280 mw_1281 mw_12) rfl rfl rfl (by decide +kernel) ⟨(by dsimp only; omega), (by dsimp only; omega)⟩) (kStatX hK hP hD hN hXS hS hA [] rfl (by decide)) rfl rfl hl.1 rfl (lv_room (Nat.le_of_ble_eq_true rfl)) dX11_speaks_40 ⟨Nat.le_of_ble_eq_true rfl, Nat.le_of_ble_eq_true rfl⟩) hP hD hS hA [] [0, 1, 2] rfl rfl (by decide) (by decide) ?_
            clear hP hD hS
            intro r_1014 u_1016 H locs w_1015 hP hD hS
            replace hP : va_P D vwCl [(k8, .inl (cI, 40, .inl c8)), (k, .inr (11, [.ref k0, .ref k1, .ref k2, .int c3, .ref k4, .ref k5, .ref k6, .ref k7, .ref k8, .int c9, .ref ka, .ref kb, .int cc, .int cd, .int ce, .int cf, .int cg, .int ch, .int ci, .int cj, .int ck, .ref kl, .int cm, .int cn, .ref ko])), (k0, .inl (cI, 1201, .inl c0))] H := hP
            replace hD : va_D A [(k8, .inl (cI, 40, .inl c8)), (k, .inr (11, [.ref k0, .ref k1, .ref k2, .int c3, .ref k4, .ref k5, .ref k6, .ref k7, .ref k8, .int c9, .ref ka, .ref kb, .int cc, .int cd, .int ce, .int cf, .int cg, .int ch, .int ci, .int cj, .int ck, .ref kl, .int cm, .int cn, .ref ko])), (k0, .inl (cI, 1201, .inl c0))] := hD
            rcases w_1015 with ⟨hr_1014, h_1017⟩ | ⟨hr_1014, h_1018⟩ | ⟨hr_1014, h_1019⟩ | ⟨hr_1014, h_1020⟩ | ⟨hr_1014, h_1021⟩
            · exfalso; omega
            · have h_1018 : l3_5.toInt = 1 ∨ l3_5.toInt = 4 := h_1018
              obtain rfl : r_1014 = 0 := hr_1014.trans (by decide)
              refine lv_istore (lv' := [(8, .int 0), (7, .int r_1009), (6, .int r_1003), (5, .int l3_5), (0, .ref k), (1, .int a0), (2, .int a1), (3, .int a2), (4, .int a3)]) hx hb dX11_speaks_43 hl (by decide) rfl ?_
              clear hl
              intro ls hl
              refine lv_iload hx hb dX11_speaks_45 (lv_at hl 3 rfl) ?_
              refine lv_iload_n hx hb dX11_speaks_47 rfl (lv_at hl 7 rfl) ?_
              refine kJi (wr := [(k8, .inl (cI, 40, .inl c8)), (k, .inr (11, [.ref k0, .ref k1, .ref k2, .int c3, .ref k4, .ref k5, .ref k6, .ref k7, .ref k8, .int c9, .ref ka, .ref kb, .int cc, .int cd, .int ce, .int cf, .int cg, .int ch, .int ci, .int cj, .int ck, .ref kl, .int cm, .int cn, .ref ko])), (k0, .inl (cI, 1201, .inl c0))]) (va_runS (As := [.int l3_5, .int a2]) (rest := []) ⟨hx, hb, hml, hown, hT⟩ (c_X11_bodyOfG l D cI aK aV H.size l3_5 a2 (by first | omega | decide | assumption | rfl) (by first | omega | decide | assumption | rfl) (by first | omega | decide | assumption | rfl) (by first | omega | decide | assumption | rfl)) (cwS 2 hT (gS_in mw_1581 mw_1579 mw_1580 mw_12) rfl rfl rfl (by decide +kernel) ⟨(by dsimp only; omega), (by dsimp only; omega)⟩) (kStatX hK hP hD hN hXS hS hA [] rfl (by decide)) rfl rfl hl.1 rfl (lv_room (Nat.le_of_ble_eq_true rfl)) dX11_speaks_48 ⟨Nat.le_of_ble_eq_true rfl, Nat.le_of_ble_eq_true rfl⟩) hP hD hS hA [] [0, 1, 2] rfl rfl (by decide) (by decide) ?_
              clear hP hD hS
              intro r_1022 u_1024 H locs w_1023 hP hD hS
              replace hP : va_P D vwCl [(k8, .inl (cI, 40, .inl c8)), (k, .inr (11, [.ref k0, .ref k1, .ref k2, .int c3, .ref k4, .ref k5, .ref k6, .ref k7, .ref k8, .int c9, .ref ka, .ref kb, .int cc, .int cd, .int ce, .int cf, .int cg, .int ch, .int ci, .int cj, .int ck, .ref kl, .int cm, .int cn, .ref ko])), (k0, .inl (cI, 1201, .inl c0))] H := hP
              replace hD : va_D A [(k8, .inl (cI, 40, .inl c8)), (k, .inr (11, [.ref k0, .ref k1, .ref k2, .int c3, .ref k4, .ref k5, .ref k6, .ref k7, .ref k8, .int c9, .ref ka, .ref kb, .int cc, .int cd, .int ce, .int cf, .int cg, .int ch, .int ci, .int cj, .int ck, .ref kl, .int cm, .int cn, .ref ko])), (k0, .inl (cI, 1201, .inl c0))] := hD
              rcases w_1023 with ⟨hr_1022, h_1025, h_1026, h_1027⟩ | ⟨hr_1022, h_1028, h_1029, h_1030⟩ | ⟨hr_1022, h_1031, h_1032, h_1033⟩ | ⟨hr_1022, h_1034, h_1035, h_1036⟩ | ⟨hr_1022, h_1037, h_1038, h_1039⟩ | ⟨hr_1022, h_1040, h_1041, h_1042⟩ | ⟨hr_1022, h_1043, h_1044, h_1045⟩ | ⟨hr_1022, h_1046, h_1047, h_1048⟩ | ⟨hr_1022, h_1049, h_1050, h_1051⟩ | ⟨hr_1022, h_1052, h_1053, h_1054⟩ | ⟨hr_1022, h_1055, h_1056, h_1057⟩ | ⟨hr_1022, h_1058, h_1059, h_1060⟩ | ⟨hr_1022, h_1061, h_1062, h_1063⟩ | ⟨hr_1022, h_1064, h_1065, h_1066⟩ | ⟨hr_1022, h_1067, h_1068⟩
              · exfalso; omega
              · exfalso; omega
              · exfalso; omega
              · exfalso; omega
              · exfalso; omega
              · exfalso; omega
              · exfalso; omega
              · exfalso; omega
              · exfalso; omega
              · exfalso; omega
              · exfalso; omega
              · have h_1058 : l3_5.toInt = 4 := h_1058
                have h_1059 : a2.toInt = 2 := h_1059
                have h_1060 : (bKi l3_5 a2).toInt = 51 := h_1060
                obtain rfl : r_1022 = 51 := hr_1022.trans (by decide)
                refine lv_istore (lv' := [(9, .int 51), (8, .int 0), (7, .int r_1009), (6, .int r_1003), (5, .int l3_5), (0, .ref k), (1, .int a0), (2, .int a1), (3, .int a2), (4, .int a3)]) hx hb dX11_speaks_51 hl (by decide) rfl ?_
                clear hl
                intro ls hl
                refine lv_aload_n hx hb dX11_speaks_53 rfl (lv_at hl 5 rfl) ?_
                refine lv_iload hx hb dX11_speaks_54 (lv_at hl 0 rfl) ?_
                refine kJv (wr := [(k0, .inl (cI, 1201, .inl c0))]) (va_runV (As := [.int 51]) (rest := []) ⟨hx, hb, hml, hown, hT⟩ (c_X11_ranG l D cI aK aV k k0 k1 k2 k4 k5 k6 k7 k8 ka kb kl ko H.size c3 c9 cc cd ce cf cg ch ci cj ck cm cn c8 51 (by first | omega | (simp only [zl_51]; first | done | omega) | decide | assumption | rfl) (by first | omega | (simp only [zl_51]; first | done | omega) | decide | assumption | rfl)) (cwV 1 hT (gV_in mw_1585 mw_1582 mw_1584 mw_p6_7 mw_12) rfl rfl rfl (by decide +kernel) ⟨(by dsimp only; omega), (by dsimp only; omega)⟩) (kRecvX (q0 := 1) (ci := 11) hK hP hD hN hXS hS hA rfl rfl [1, 0] rfl (by decide)) rfl rfl hl.1 rfl (lv_room (Nat.le_of_ble_eq_true rfl)) dX11_speaks_56 ⟨Nat.le_of_ble_eq_true rfl, Nat.le_of_ble_eq_true rfl⟩) hP hD hS hA [1, 0] [2] rfl rfl (by decide) (by decide) ?_
                clear hP hD hS
                intro u_1073 H locs w_1070 hP hD hS
                obtain ⟨sc9_1071, sc8_1072⟩ := u_1073
                replace hP : va_P D vwCl [(k0, .inl (cI, 1201, .inl c0)), (k, .inr (11, [.ref k0, .ref k1, .ref k2, .int c3, .ref k4, .ref k5, .ref k6, .ref k7, .ref k8, .int sc9_1071, .ref ka, .ref kb, .int cc, .int cd, .int ce, .int cf, .int cg, .int ch, .int ci, .int cj, .int ck, .ref kl, .int cm, .int cn, .ref ko])), (k8, .inl (cI, 40, .inl sc8_1072))] H := hP
                replace hD : va_D A [(k0, .inl (cI, 1201, .inl c0)), (k, .inr (11, [.ref k0, .ref k1, .ref k2, .int c3, .ref k4, .ref k5, .ref k6, .ref k7, .ref k8, .int sc9_1071, .ref ka, .ref kb, .int cc, .int cd, .int ce, .int cf, .int cg, .int ch, .int ci, .int cj, .int ck, .ref kl, .int cm, .int cn, .ref ko])), (k8, .inl (cI, 40, .inl sc8_1072))] := hD
                have lo_sc9_1071 := k_lo sc9_1071
                have hi_sc9_1071 := k_hi sc9_1071
                obtain ⟨h_1074, h_1075, h_1076, h_1077⟩ := w_1070
                try simp only [zl_51] at h_1074
                have h_1074 : 0 ≤ sc9_1071.toInt := h_1074
                try simp only [zl_51] at h_1075
                have h_1075 : sc9_1071.toInt ≤ 40 := h_1075
                try simp only [zl_51] at h_1076
                have h_1076 : sc9_1071 = mSV c9 := h_1076
                try simp only [zl_51] at h_1077
                have h_1077 : sc8_1072 = gSV c9 c8 51 := h_1077
                refine lv_iload hx hb dX11_speaks_59 (lv_at hl 0 rfl) ?_
                refine lv_tableIn (off := 393) (tgt := 454) hx hb dX11_speaks_61 (by decide) (by decide) (by decide) (by decide) ?_
                refine lv_aload_n hx hb dX11_speaks_454 rfl (lv_at hl 5 rfl) ?_
                refine lv_iload_n hx hb dX11_speaks_455 rfl (lv_at hl 6 rfl) ?_
                refine lv_iload hx hb dX11_speaks_456 (lv_at hl 1 rfl) ?_
                refine lv_iconst (v := 2) hx hb dX11_speaks_458 (by decide) ?_
                refine lv_iload hx hb dX11_speaks_459 (lv_at hl 9 rfl) ?_
                refine kJi (wr := []) (va_runV (As := [.int a0, .int 0, .int 2, .int a3]) (rest := []) ⟨hx, hb, hml, hown, hT⟩ (ih l D cI aK aV k k0 k1 k2 k4 k5 k6 k7 k8 ka kb kl ko H.size c3 sc9_1071 cc cd ce cf cg ch ci cj ck cm cn c0 sc8_1072 a0 0 2 a3 pre0 (by first | omega | (simp only [zl_0, zl_2]; first | done | omega) | decide | assumption | rfl) (by first | omega | (simp only [zl_0, zl_2]; first | done | omega) | decide | assumption | rfl) (by first | omega | (simp only [zl_0, zl_2]; first | done | omega) | decide | assumption | rfl) (by first | omega | (simp only [zl_0, zl_2]; first | done | omega) | decide | assumption | rfl) (by first | omega | (simp only [zl_0, zl_2]; first | done | omega) | decide | assumption | rfl) (by first | omega | (simp only [zl_0, zl_2]; first | done | omega) | decide | assumption | rfl) (by first | omega | (simp only [zl_0, zl_2]; first | done | omega) | decide | assumption | rfl) (by first | omega | (simp only [zl_0, zl_2]; first | done | omega) | decide | assumption | rfl) (by first | omega | (simp only [zl_0, zl_2]; first | done | omega) | decide | assumption | rfl)) (cwV 4 hT (gV_in mw_1578 mw_1575 mw_1577 mw_p6_6 mw_12) rfl rfl rfl (by decide +kernel) ⟨(by dsimp only; omega), (by dsimp only; omega)⟩) (kRecvX (q0 := 1) (ci := 11) hK hP hD hN hXS hS hA rfl rfl [1, 0, 2] rfl (by decide)) rfl rfl hl.1 rfl (lv_room (Nat.le_of_ble_eq_true rfl)) dX11_speaks_461 ⟨Nat.le_of_ble_eq_true rfl, Nat.le_of_ble_eq_true rfl⟩) hP hD hS hA [1, 0, 2] [] rfl rfl (by decide) (by decide) ?_
                clear hP hD hS
                intro r_1078 u_1082 H locs w_1079 hP hD hS
                obtain ⟨sc9_1080, sc8_1081⟩ := u_1082
                replace hP : va_P D vwCl [(k, .inr (11, [.ref k0, .ref k1, .ref k2, .int c3, .ref k4, .ref k5, .ref k6, .ref k7, .ref k8, .int sc9_1080, .ref ka, .ref kb, .int cc, .int cd, .int ce, .int cf, .int cg, .int ch, .int ci, .int cj, .int ck, .ref kl, .int cm, .int cn, .ref ko])), (k0, .inl (cI, 1201, .inl c0)), (k8, .inl (cI, 40, .inl sc8_1081))] H := hP
                replace hD : va_D A [(k, .inr (11, [.ref k0, .ref k1, .ref k2, .int c3, .ref k4, .ref k5, .ref k6, .ref k7, .ref k8, .int sc9_1080, .ref ka, .ref kb, .int cc, .int cd, .int ce, .int cf, .int cg, .int ch, .int ci, .int cj, .int ck, .ref kl, .int cm, .int cn, .ref ko])), (k0, .inl (cI, 1201, .inl c0)), (k8, .inl (cI, 40, .inl sc8_1081))] := hD
                have lo_sc9_1080 := k_lo sc9_1080
                have hi_sc9_1080 := k_hi sc9_1080
                obtain ⟨h_1083, h_1084, h_1085⟩ := w_1079
                try simp only [zl_0, zl_2] at h_1083
                have h_1083 : 0 ≤ sc9_1080.toInt := h_1083
                try simp only [zl_0, zl_2] at h_1084
                have h_1084 : sc9_1080.toInt ≤ 40 := h_1084
                try simp only [zl_0, zl_2] at h_1085
                have h_1085 : voB a0 (wW c0 a0 2) (wW c0 a0 0) dd 0 2 a3 sc9_1071 sc8_1072 = (r_1078, sc9_1080, sc8_1081) := h_1085
                have lo_r_1078 := k_lo r_1078
                have hi_r_1078 := k_hi r_1078
                refine lv_istore (lv' := [(10, .int r_1078), (9, .int 51), (8, .int 0), (7, .int r_1009), (6, .int r_1003), (5, .int l3_5), (0, .ref k), (1, .int a0), (2, .int a1), (3, .int a2), (4, .int a3)]) hx hb dX11_speaks_464 hl (by decide) rfl ?_
                clear hl
                intro ls hl
                refine lv_iload hx hb dX11_speaks_466 (lv_at hl 0 rfl) ?_
                refine lv_aload_n hx hb dX11_speaks_468 rfl (lv_at hl 6 rfl) ?_
                refine lv_iload_n hx hb dX11_speaks_469 rfl (lv_at hl 7 rfl) ?_
                refine lv_iload hx hb dX11_speaks_470 (lv_at hl 4 rfl) ?_
                refine lv_iconst (v := 0) hx hb dX11_speaks_472 (by decide) ?_
                refine lv_iconst (v := 1) hx hb dX11_speaks_473 (by decide) ?_
                refine kJi (wr := []) (va_runV (As := [.int a0, .int r_1003, .int 0, .int 1]) (rest := [.int r_1078]) ⟨hx, hb, hml, hown, hT⟩ (ih l D cI aK aV k k0 k1 k2 k4 k5 k6 k7 k8 ka kb kl ko H.size c3 sc9_1080 cc cd ce cf cg ch ci cj ck cm cn c0 sc8_1081 a0 r_1003 0 1 pre0 (by first | omega | (simp only [zl_0, zl_1]; first | done | omega) | decide | assumption | rfl) (by first | omega | (simp only [zl_0, zl_1]; first | done | omega) | decide | assumption | rfl) (by first | omega | (simp only [zl_0, zl_1]; first | done | omega) | decide | assumption | rfl) (by first | omega | (simp only [zl_0, zl_1]; first | done | omega) | decide | assumption | rfl) (by first | omega | (simp only [zl_0, zl_1]; first | done | omega) | decide | assumption | rfl) (by first | omega | (simp only [zl_0, zl_1]; first | done | omega) | decide | assumption | rfl) (by first | omega | (simp only [zl_0, zl_1]; first | done | omega) | decide | assumption | rfl) (by first | omega | (simp only [zl_0, zl_1]; first | done | omega) | decide | assumption | rfl) (by first | omega | (simp only [zl_0, zl_1]; first | done | omega) | decide | assumption | rfl)) (cwV 4 hT (gV_in mw_1578 mw_1575 mw_1577 mw_p6_6 mw_12) rfl rfl rfl (by decide +kernel) ⟨(by dsimp only; omega), (by dsimp only; omega)⟩) (kRecvX (q0 := 0) (ci := 11) hK hP hD hN hXS hS hA rfl rfl [0, 1, 2] rfl (by decide)) rfl rfl hl.1 rfl (lv_room (Nat.le_of_ble_eq_true rfl)) dX11_speaks_474 ⟨Nat.le_of_ble_eq_true rfl, Nat.le_of_ble_eq_true rfl⟩) hP hD hS hA [0, 1, 2] [] rfl rfl (by decide) (by decide) ?_
                clear hP hD hS
                intro r_1086 u_1090 H locs w_1087 hP hD hS
                obtain ⟨sc9_1088, sc8_1089⟩ := u_1090
                replace hP : va_P D vwCl [(k, .inr (11, [.ref k0, .ref k1, .ref k2, .int c3, .ref k4, .ref k5, .ref k6, .ref k7, .ref k8, .int sc9_1088, .ref ka, .ref kb, .int cc, .int cd, .int ce, .int cf, .int cg, .int ch, .int ci, .int cj, .int ck, .ref kl, .int cm, .int cn, .ref ko])), (k0, .inl (cI, 1201, .inl c0)), (k8, .inl (cI, 40, .inl sc8_1089))] H := hP
                replace hD : va_D A [(k, .inr (11, [.ref k0, .ref k1, .ref k2, .int c3, .ref k4, .ref k5, .ref k6, .ref k7, .ref k8, .int sc9_1088, .ref ka, .ref kb, .int cc, .int cd, .int ce, .int cf, .int cg, .int ch, .int ci, .int cj, .int ck, .ref kl, .int cm, .int cn, .ref ko])), (k0, .inl (cI, 1201, .inl c0)), (k8, .inl (cI, 40, .inl sc8_1089))] := hD
                have lo_sc9_1088 := k_lo sc9_1088
                have hi_sc9_1088 := k_hi sc9_1088
                obtain ⟨h_1091, h_1092, h_1093⟩ := w_1087
                try simp only [zl_0, zl_1] at h_1091
                have h_1091 : 0 ≤ sc9_1088.toInt := h_1091
                try simp only [zl_0, zl_1] at h_1092
                have h_1092 : sc9_1088.toInt ≤ 40 := h_1092
                try simp only [zl_0, zl_1] at h_1093
                have h_1093 : voB a0 (wW c0 a0 2) (wW c0 a0 0) dd r_1003 0 1 sc9_1080 sc8_1081 = (r_1086, sc9_1088, sc8_1089) := h_1093
                have lo_r_1086 := k_lo r_1086
                have hi_r_1086 := k_hi r_1086
                refine lv_isub hx hb dX11_speaks_477 ?_
                refine lv_topi (fun v_1094 ev_1094 => ?_)
                have lo_v_1094 := k_lo v_1094
                have hi_v_1094 := k_hi v_1094
                exact hRet (sc9_1088, sc8_1089) [0, 1, 2] ⟨(by first | omega | decide | assumption | rfl | (dsimp only; first | omega)), (by first | omega | decide | assumption | rfl | (dsimp only; first | omega)), (vo_51 (b := 51) (m1 := sc9_1071) (g1 := sc8_1072) (by rw [← i3_3]; exact (bd_own (a := l3_5) (c := a2) (bd_bk h_1060 (by decide)) (by decide)).symm) (by decide) h_1076 h_1077 h_1085 (by have z := h_1093; rw [h_1006] at z; exact z) ev_1094)⟩ hP hD (by decide) rfl hS rfl dX11_speaks_478
              · exfalso; omega
              · exfalso; omega
              · exfalso; omega
            · exfalso; omega
            · exfalso; omega
            · exfalso; omega
          · have h_43 : l3_5.toInt = 5 := h_43
            have h_44 : a2.toInt = 1 := h_44
            have h_45 : (bKi l3_5 a2).toInt = 60 := h_45
            obtain rfl : r_4 = 60 := hr_4.trans (by decide)
            refine b_if_ne hx hb zl_60 (tgt := 22) dX11_speaks_9 (by decide) (fun c_1095 => ?_) (fun c_1095 => by exfalso; omega)
            refine lv_aload_n hx hb dX11_speaks_22 rfl (lv_at hl 1 rfl) ?_
            refine lv_iload_n hx hb dX11_speaks_23 rfl (lv_at hl 2 rfl) ?_
            refine lv_iconst (v := 0) hx hb dX11_speaks_24 (by decide) ?_
            refine kJi (wr := [(k8, .inl (cI, 40, .inl c8))]) (va_runV (As := [.int a0, .int 0]) (rest := []) ⟨hx, hb, hml, hown, hT⟩ (c_X11_workG0 l D cI aK aV k k0 k1 k2 k4 k5 k6 k7 k8 ka kb kl ko H.size c3 c9 cc cd ce cf cg ch ci cj ck cm cn c0 a0 0 (by first | omega | (simp only [zl_0]; first | done | omega) | decide | assumption | rfl) (by first | omega | (simp only [zl_0]; first | done | omega) | decide | assumption | rfl) (by first | omega | (simp only [zl_0]; first | done | omega) | decide | assumption | rfl)) (cwV 2 hT (gV_in mw_1276 mw_1273 mw_1275 mw_p3_12 mw_12) rfl rfl rfl (by decide +kernel) ⟨(by dsimp only; omega), (by dsimp only; omega)⟩) (kRecvX (q0 := 0) (ci := 11) hK hP hD hN hXS hS hA rfl rfl [0, 1] rfl (by decide)) rfl rfl hl.1 rfl (lv_room (Nat.le_of_ble_eq_true rfl)) dX11_speaks_25 ⟨Nat.le_of_ble_eq_true rfl, Nat.le_of_ble_eq_true rfl⟩) hP hD hS hA [0, 1] [2] rfl rfl (by decide) (by decide) ?_
            clear hP hD hS
            intro r_1096 u_1098 H locs w_1097 hP hD hS
            replace hP : va_P D vwCl [(k8, .inl (cI, 40, .inl c8)), (k, .inr (11, [.ref k0, .ref k1, .ref k2, .int c3, .ref k4, .ref k5, .ref k6, .ref k7, .ref k8, .int c9, .ref ka, .ref kb, .int cc, .int cd, .int ce, .int cf, .int cg, .int ch, .int ci, .int cj, .int ck, .ref kl, .int cm, .int cn, .ref ko])), (k0, .inl (cI, 1201, .inl c0))] H := hP
            replace hD : va_D A [(k8, .inl (cI, 40, .inl c8)), (k, .inr (11, [.ref k0, .ref k1, .ref k2, .int c3, .ref k4, .ref k5, .ref k6, .ref k7, .ref k8, .int c9, .ref ka, .ref kb, .int cc, .int cd, .int ce, .int cf, .int cg, .int ch, .int ci, .int cj, .int ck, .ref kl, .int cm, .int cn, .ref ko])), (k0, .inl (cI, 1201, .inl c0))] := hD
            have h_1099 := w_1097
            have h_1099 : r_1096 = wW c0 a0 0 := h_1099
            have t_1100 : r_1096.toInt = (wW c0 a0 0).toInt := by rw [h_1099]
            have b_1101 : 0 ≤ r_1096.toInt ∧ r_1096.toInt ≤ 5 := by rw [h_1099]; exact SB.w0 pre0 (by omega) (by omega)
            have lo_r_1096 := k_lo r_1096
            have hi_r_1096 := k_hi r_1096
            refine lv_istore (lv' := [(6, .int r_1096), (5, .int l3_5), (0, .ref k), (1, .int a0), (2, .int a1), (3, .int a2), (4, .int a3)]) hx hb dX11_speaks_28 hl (by decide) rfl ?_
            clear hl
            intro ls hl
            refine lv_aload_n hx hb dX11_speaks_30 rfl (lv_at hl 2 rfl) ?_
            refine lv_iload_n hx hb dX11_speaks_31 rfl (lv_at hl 3 rfl) ?_
            refine lv_iconst (v := 2) hx hb dX11_speaks_32 (by decide) ?_
            refine kJi (wr := [(k8, .inl (cI, 40, .inl c8))]) (va_runV (As := [.int a0, .int 2]) (rest := []) ⟨hx, hb, hml, hown, hT⟩ (c_X11_workG2 l D cI aK aV k k0 k1 k2 k4 k5 k6 k7 k8 ka kb kl ko H.size c3 c9 cc cd ce cf cg ch ci cj ck cm cn c0 a0 2 (by first | omega | (simp only [zl_2]; first | done | omega) | decide | assumption | rfl) (by first | omega | (simp only [zl_2]; first | done | omega) | decide | assumption | rfl) (by first | omega | (simp only [zl_2]; first | done | omega) | decide | assumption | rfl)) (cwV 2 hT (gV_in mw_1276 mw_1273 mw_1275 mw_p3_12 mw_12) rfl rfl rfl (by decide +kernel) ⟨(by dsimp only; omega), (by dsimp only; omega)⟩) (kRecvX (q0 := 1) (ci := 11) hK hP hD hN hXS hS hA rfl rfl [1, 2] rfl (by decide)) rfl rfl hl.1 rfl (lv_room (Nat.le_of_ble_eq_true rfl)) dX11_speaks_33 ⟨Nat.le_of_ble_eq_true rfl, Nat.le_of_ble_eq_true rfl⟩) hP hD hS hA [1, 2] [0] rfl rfl (by decide) (by decide) ?_
            clear hP hD hS
            intro r_1102 u_1104 H locs w_1103 hP hD hS
            replace hP : va_P D vwCl [(k8, .inl (cI, 40, .inl c8)), (k, .inr (11, [.ref k0, .ref k1, .ref k2, .int c3, .ref k4, .ref k5, .ref k6, .ref k7, .ref k8, .int c9, .ref ka, .ref kb, .int cc, .int cd, .int ce, .int cf, .int cg, .int ch, .int ci, .int cj, .int ck, .ref kl, .int cm, .int cn, .ref ko])), (k0, .inl (cI, 1201, .inl c0))] H := hP
            replace hD : va_D A [(k8, .inl (cI, 40, .inl c8)), (k, .inr (11, [.ref k0, .ref k1, .ref k2, .int c3, .ref k4, .ref k5, .ref k6, .ref k7, .ref k8, .int c9, .ref ka, .ref kb, .int cc, .int cd, .int ce, .int cf, .int cg, .int ch, .int ci, .int cj, .int ck, .ref kl, .int cm, .int cn, .ref ko])), (k0, .inl (cI, 1201, .inl c0))] := hD
            have h_1105 := w_1103
            have h_1105 : r_1102 = wW c0 a0 2 := h_1105
            have t_1106 : r_1102.toInt = (wW c0 a0 2).toInt := by rw [h_1105]
            have lo_r_1102 := k_lo r_1102
            have hi_r_1102 := k_hi r_1102
            refine lv_istore (lv' := [(7, .int r_1102), (6, .int r_1096), (5, .int l3_5), (0, .ref k), (1, .int a0), (2, .int a1), (3, .int a2), (4, .int a3)]) hx hb dX11_speaks_36 hl (by decide) rfl ?_
            clear hl
            intro ls hl
            refine lv_iload hx hb dX11_speaks_38 (lv_at hl 2 rfl) ?_
            refine kJi (wr := [(k8, .inl (cI, 40, .inl c8)), (k, .inr (11, [.ref k0, .ref k1, .ref k2, .int c3, .ref k4, .ref k5, .ref k6, .ref k7, .ref k8, .int c9, .ref ka, .ref kb, .int cc, .int cd, .int ce, .int cf, .int cg, .int ch, .int ci, .int cj, .int ck, .ref kl, .int cm, .int cn, .ref ko])), (k0, .inl (cI, 1201, .inl c0))]) (va_runS (As := [.int l3_5]) (rest := []) ⟨hx, hb, hml, hown, hT⟩ (c_X11_parentG l D cI aK aV H.size l3_5 (by first | omega | decide | assumption | rfl) (by first | omega | decide | assumption | rfl)) (cwS 1 hT (gS_in mw_1282 mw_1280 mw_1281 mw_12) rfl rfl rfl (by decide +kernel) ⟨(by dsimp only; omega), (by dsimp only; omega)⟩) (kStatX hK hP hD hN hXS hS hA [] rfl (by decide)) rfl rfl hl.1 rfl (lv_room (Nat.le_of_ble_eq_true rfl)) dX11_speaks_40 ⟨Nat.le_of_ble_eq_true rfl, Nat.le_of_ble_eq_true rfl⟩) hP hD hS hA [] [0, 1, 2] rfl rfl (by decide) (by decide) ?_
            clear hP hD hS
            intro r_1107 u_1109 H locs w_1108 hP hD hS
            replace hP : va_P D vwCl [(k8, .inl (cI, 40, .inl c8)), (k, .inr (11, [.ref k0, .ref k1, .ref k2, .int c3, .ref k4, .ref k5, .ref k6, .ref k7, .ref k8, .int c9, .ref ka, .ref kb, .int cc, .int cd, .int ce, .int cf, .int cg, .int ch, .int ci, .int cj, .int ck, .ref kl, .int cm, .int cn, .ref ko])), (k0, .inl (cI, 1201, .inl c0))] H := hP
            replace hD : va_D A [(k8, .inl (cI, 40, .inl c8)), (k, .inr (11, [.ref k0, .ref k1, .ref k2, .int c3, .ref k4, .ref k5, .ref k6, .ref k7, .ref k8, .int c9, .ref ka, .ref kb, .int cc, .int cd, .int ce, .int cf, .int cg, .int ch, .int ci, .int cj, .int ck, .ref kl, .int cm, .int cn, .ref ko])), (k0, .inl (cI, 1201, .inl c0))] := hD
            rcases w_1108 with ⟨hr_1107, h_1110⟩ | ⟨hr_1107, h_1111⟩ | ⟨hr_1107, h_1112⟩ | ⟨hr_1107, h_1113⟩ | ⟨hr_1107, h_1114⟩
            · exfalso; omega
            · exfalso; omega
            · exfalso; omega
            · exfalso; omega
            · have h_1114 : l3_5.toInt = 5 := h_1114
              obtain rfl : r_1107 = 4 := hr_1107.trans (by decide)
              refine lv_istore (lv' := [(8, .int 4), (7, .int r_1102), (6, .int r_1096), (5, .int l3_5), (0, .ref k), (1, .int a0), (2, .int a1), (3, .int a2), (4, .int a3)]) hx hb dX11_speaks_43 hl (by decide) rfl ?_
              clear hl
              intro ls hl
              refine lv_iload hx hb dX11_speaks_45 (lv_at hl 3 rfl) ?_
              refine lv_iload_n hx hb dX11_speaks_47 rfl (lv_at hl 7 rfl) ?_
              refine kJi (wr := [(k8, .inl (cI, 40, .inl c8)), (k, .inr (11, [.ref k0, .ref k1, .ref k2, .int c3, .ref k4, .ref k5, .ref k6, .ref k7, .ref k8, .int c9, .ref ka, .ref kb, .int cc, .int cd, .int ce, .int cf, .int cg, .int ch, .int ci, .int cj, .int ck, .ref kl, .int cm, .int cn, .ref ko])), (k0, .inl (cI, 1201, .inl c0))]) (va_runS (As := [.int l3_5, .int a2]) (rest := []) ⟨hx, hb, hml, hown, hT⟩ (c_X11_bodyOfG l D cI aK aV H.size l3_5 a2 (by first | omega | decide | assumption | rfl) (by first | omega | decide | assumption | rfl) (by first | omega | decide | assumption | rfl) (by first | omega | decide | assumption | rfl)) (cwS 2 hT (gS_in mw_1581 mw_1579 mw_1580 mw_12) rfl rfl rfl (by decide +kernel) ⟨(by dsimp only; omega), (by dsimp only; omega)⟩) (kStatX hK hP hD hN hXS hS hA [] rfl (by decide)) rfl rfl hl.1 rfl (lv_room (Nat.le_of_ble_eq_true rfl)) dX11_speaks_48 ⟨Nat.le_of_ble_eq_true rfl, Nat.le_of_ble_eq_true rfl⟩) hP hD hS hA [] [0, 1, 2] rfl rfl (by decide) (by decide) ?_
              clear hP hD hS
              intro r_1115 u_1117 H locs w_1116 hP hD hS
              replace hP : va_P D vwCl [(k8, .inl (cI, 40, .inl c8)), (k, .inr (11, [.ref k0, .ref k1, .ref k2, .int c3, .ref k4, .ref k5, .ref k6, .ref k7, .ref k8, .int c9, .ref ka, .ref kb, .int cc, .int cd, .int ce, .int cf, .int cg, .int ch, .int ci, .int cj, .int ck, .ref kl, .int cm, .int cn, .ref ko])), (k0, .inl (cI, 1201, .inl c0))] H := hP
              replace hD : va_D A [(k8, .inl (cI, 40, .inl c8)), (k, .inr (11, [.ref k0, .ref k1, .ref k2, .int c3, .ref k4, .ref k5, .ref k6, .ref k7, .ref k8, .int c9, .ref ka, .ref kb, .int cc, .int cd, .int ce, .int cf, .int cg, .int ch, .int ci, .int cj, .int ck, .ref kl, .int cm, .int cn, .ref ko])), (k0, .inl (cI, 1201, .inl c0))] := hD
              rcases w_1116 with ⟨hr_1115, h_1118, h_1119, h_1120⟩ | ⟨hr_1115, h_1121, h_1122, h_1123⟩ | ⟨hr_1115, h_1124, h_1125, h_1126⟩ | ⟨hr_1115, h_1127, h_1128, h_1129⟩ | ⟨hr_1115, h_1130, h_1131, h_1132⟩ | ⟨hr_1115, h_1133, h_1134, h_1135⟩ | ⟨hr_1115, h_1136, h_1137, h_1138⟩ | ⟨hr_1115, h_1139, h_1140, h_1141⟩ | ⟨hr_1115, h_1142, h_1143, h_1144⟩ | ⟨hr_1115, h_1145, h_1146, h_1147⟩ | ⟨hr_1115, h_1148, h_1149, h_1150⟩ | ⟨hr_1115, h_1151, h_1152, h_1153⟩ | ⟨hr_1115, h_1154, h_1155, h_1156⟩ | ⟨hr_1115, h_1157, h_1158, h_1159⟩ | ⟨hr_1115, h_1160, h_1161⟩
              · exfalso; omega
              · exfalso; omega
              · exfalso; omega
              · exfalso; omega
              · exfalso; omega
              · exfalso; omega
              · exfalso; omega
              · exfalso; omega
              · exfalso; omega
              · exfalso; omega
              · exfalso; omega
              · exfalso; omega
              · have h_1154 : l3_5.toInt = 5 := h_1154
                have h_1155 : a2.toInt = 1 := h_1155
                have h_1156 : (bKi l3_5 a2).toInt = 60 := h_1156
                obtain rfl : r_1115 = 60 := hr_1115.trans (by decide)
                refine lv_istore (lv' := [(9, .int 60), (8, .int 4), (7, .int r_1102), (6, .int r_1096), (5, .int l3_5), (0, .ref k), (1, .int a0), (2, .int a1), (3, .int a2), (4, .int a3)]) hx hb dX11_speaks_51 hl (by decide) rfl ?_
                clear hl
                intro ls hl
                refine lv_aload_n hx hb dX11_speaks_53 rfl (lv_at hl 5 rfl) ?_
                refine lv_iload hx hb dX11_speaks_54 (lv_at hl 0 rfl) ?_
                refine kJv (wr := [(k0, .inl (cI, 1201, .inl c0))]) (va_runV (As := [.int 60]) (rest := []) ⟨hx, hb, hml, hown, hT⟩ (c_X11_ranG l D cI aK aV k k0 k1 k2 k4 k5 k6 k7 k8 ka kb kl ko H.size c3 c9 cc cd ce cf cg ch ci cj ck cm cn c8 60 (by first | omega | (simp only [zl_60]; first | done | omega) | decide | assumption | rfl) (by first | omega | (simp only [zl_60]; first | done | omega) | decide | assumption | rfl)) (cwV 1 hT (gV_in mw_1585 mw_1582 mw_1584 mw_p6_7 mw_12) rfl rfl rfl (by decide +kernel) ⟨(by dsimp only; omega), (by dsimp only; omega)⟩) (kRecvX (q0 := 1) (ci := 11) hK hP hD hN hXS hS hA rfl rfl [1, 0] rfl (by decide)) rfl rfl hl.1 rfl (lv_room (Nat.le_of_ble_eq_true rfl)) dX11_speaks_56 ⟨Nat.le_of_ble_eq_true rfl, Nat.le_of_ble_eq_true rfl⟩) hP hD hS hA [1, 0] [2] rfl rfl (by decide) (by decide) ?_
                clear hP hD hS
                intro u_1166 H locs w_1163 hP hD hS
                obtain ⟨sc9_1164, sc8_1165⟩ := u_1166
                replace hP : va_P D vwCl [(k0, .inl (cI, 1201, .inl c0)), (k, .inr (11, [.ref k0, .ref k1, .ref k2, .int c3, .ref k4, .ref k5, .ref k6, .ref k7, .ref k8, .int sc9_1164, .ref ka, .ref kb, .int cc, .int cd, .int ce, .int cf, .int cg, .int ch, .int ci, .int cj, .int ck, .ref kl, .int cm, .int cn, .ref ko])), (k8, .inl (cI, 40, .inl sc8_1165))] H := hP
                replace hD : va_D A [(k0, .inl (cI, 1201, .inl c0)), (k, .inr (11, [.ref k0, .ref k1, .ref k2, .int c3, .ref k4, .ref k5, .ref k6, .ref k7, .ref k8, .int sc9_1164, .ref ka, .ref kb, .int cc, .int cd, .int ce, .int cf, .int cg, .int ch, .int ci, .int cj, .int ck, .ref kl, .int cm, .int cn, .ref ko])), (k8, .inl (cI, 40, .inl sc8_1165))] := hD
                have lo_sc9_1164 := k_lo sc9_1164
                have hi_sc9_1164 := k_hi sc9_1164
                obtain ⟨h_1167, h_1168, h_1169, h_1170⟩ := w_1163
                try simp only [zl_60] at h_1167
                have h_1167 : 0 ≤ sc9_1164.toInt := h_1167
                try simp only [zl_60] at h_1168
                have h_1168 : sc9_1164.toInt ≤ 40 := h_1168
                try simp only [zl_60] at h_1169
                have h_1169 : sc9_1164 = mSV c9 := h_1169
                try simp only [zl_60] at h_1170
                have h_1170 : sc8_1165 = gSV c9 c8 60 := h_1170
                refine lv_iload hx hb dX11_speaks_59 (lv_at hl 0 rfl) ?_
                refine lv_tableIn (off := 418) (tgt := 479) hx hb dX11_speaks_61 (by decide) (by decide) (by decide) (by decide) ?_
                refine lv_aload_n hx hb dX11_speaks_479 rfl (lv_at hl 5 rfl) ?_
                refine lv_iload_n hx hb dX11_speaks_480 rfl (lv_at hl 6 rfl) ?_
                refine lv_iload hx hb dX11_speaks_481 (lv_at hl 1 rfl) ?_
                refine lv_iconst (v := 1) hx hb dX11_speaks_483 (by decide) ?_
                refine lv_iload hx hb dX11_speaks_484 (lv_at hl 9 rfl) ?_
                refine kJi (wr := []) (va_runV (As := [.int a0, .int 4, .int 1, .int a3]) (rest := []) ⟨hx, hb, hml, hown, hT⟩ (ih l D cI aK aV k k0 k1 k2 k4 k5 k6 k7 k8 ka kb kl ko H.size c3 sc9_1164 cc cd ce cf cg ch ci cj ck cm cn c0 sc8_1165 a0 4 1 a3 pre0 (by first | omega | (simp only [zl_1, zl_4]; first | done | omega) | decide | assumption | rfl) (by first | omega | (simp only [zl_1, zl_4]; first | done | omega) | decide | assumption | rfl) (by first | omega | (simp only [zl_1, zl_4]; first | done | omega) | decide | assumption | rfl) (by first | omega | (simp only [zl_1, zl_4]; first | done | omega) | decide | assumption | rfl) (by first | omega | (simp only [zl_1, zl_4]; first | done | omega) | decide | assumption | rfl) (by first | omega | (simp only [zl_1, zl_4]; first | done | omega) | decide | assumption | rfl) (by first | omega | (simp only [zl_1, zl_4]; first | done | omega) | decide | assumption | rfl) (by first | omega | (simp only [zl_1, zl_4]; first | done | omega) | decide | assumption | rfl) (by first | omega | (simp only [zl_1, zl_4]; first | done | omega) | decide | assumption | rfl)) (cwV 4 hT (gV_in mw_1578 mw_1575 mw_1577 mw_p6_6 mw_12) rfl rfl rfl (by decide +kernel) ⟨(by dsimp only; omega), (by dsimp only; omega)⟩) (kRecvX (q0 := 1) (ci := 11) hK hP hD hN hXS hS hA rfl rfl [1, 0, 2] rfl (by decide)) rfl rfl hl.1 rfl (lv_room (Nat.le_of_ble_eq_true rfl)) dX11_speaks_486 ⟨Nat.le_of_ble_eq_true rfl, Nat.le_of_ble_eq_true rfl⟩) hP hD hS hA [1, 0, 2] [] rfl rfl (by decide) (by decide) ?_
                clear hP hD hS
                intro r_1171 u_1175 H locs w_1172 hP hD hS
                obtain ⟨sc9_1173, sc8_1174⟩ := u_1175
                replace hP : va_P D vwCl [(k, .inr (11, [.ref k0, .ref k1, .ref k2, .int c3, .ref k4, .ref k5, .ref k6, .ref k7, .ref k8, .int sc9_1173, .ref ka, .ref kb, .int cc, .int cd, .int ce, .int cf, .int cg, .int ch, .int ci, .int cj, .int ck, .ref kl, .int cm, .int cn, .ref ko])), (k0, .inl (cI, 1201, .inl c0)), (k8, .inl (cI, 40, .inl sc8_1174))] H := hP
                replace hD : va_D A [(k, .inr (11, [.ref k0, .ref k1, .ref k2, .int c3, .ref k4, .ref k5, .ref k6, .ref k7, .ref k8, .int sc9_1173, .ref ka, .ref kb, .int cc, .int cd, .int ce, .int cf, .int cg, .int ch, .int ci, .int cj, .int ck, .ref kl, .int cm, .int cn, .ref ko])), (k0, .inl (cI, 1201, .inl c0)), (k8, .inl (cI, 40, .inl sc8_1174))] := hD
                have lo_sc9_1173 := k_lo sc9_1173
                have hi_sc9_1173 := k_hi sc9_1173
                obtain ⟨h_1176, h_1177, h_1178⟩ := w_1172
                try simp only [zl_1, zl_4] at h_1176
                have h_1176 : 0 ≤ sc9_1173.toInt := h_1176
                try simp only [zl_1, zl_4] at h_1177
                have h_1177 : sc9_1173.toInt ≤ 40 := h_1177
                try simp only [zl_1, zl_4] at h_1178
                have h_1178 : voB a0 (wW c0 a0 2) (wW c0 a0 0) dd 4 1 a3 sc9_1164 sc8_1165 = (r_1171, sc9_1173, sc8_1174) := h_1178
                have lo_r_1171 := k_lo r_1171
                have hi_r_1171 := k_hi r_1171
                refine lv_iload hx hb dX11_speaks_489 (lv_at hl 2 rfl) ?_
                refine lv_imul hx hb dX11_speaks_491 ?_
                refine lv_topi (fun v_1179 ev_1179 => ?_)
                have lo_v_1179 := k_lo v_1179
                have hi_v_1179 := k_hi v_1179
                exact hRet (sc9_1173, sc8_1174) [0, 1, 2] ⟨(by first | omega | decide | assumption | rfl | (dsimp only; first | omega)), (by first | omega | decide | assumption | rfl | (dsimp only; first | omega)), (vo_60 (b := 60) (m1 := sc9_1164) (g1 := sc8_1165) (by rw [← i3_3]; exact (bd_own (a := l3_5) (c := a2) (bd_bk h_1156 (by decide)) (by decide)).symm) (by decide) h_1169 h_1170 h_1178 (by rw [ev_1179, h_1105]))⟩ hP hD (by decide) rfl hS rfl dX11_speaks_492
              · exfalso; omega
              · exfalso; omega
          · have h_46 : l3_5.toInt = 5 := h_46
            have h_47 : a2.toInt = 3 := h_47
            have h_48 : (bKi l3_5 a2).toInt = 61 := h_48
            obtain rfl : r_4 = 61 := hr_4.trans (by decide)
            refine b_if_ne hx hb zl_61 (tgt := 22) dX11_speaks_9 (by decide) (fun c_1180 => ?_) (fun c_1180 => by exfalso; omega)
            refine lv_aload_n hx hb dX11_speaks_22 rfl (lv_at hl 1 rfl) ?_
            refine lv_iload_n hx hb dX11_speaks_23 rfl (lv_at hl 2 rfl) ?_
            refine lv_iconst (v := 0) hx hb dX11_speaks_24 (by decide) ?_
            refine kJi (wr := [(k8, .inl (cI, 40, .inl c8))]) (va_runV (As := [.int a0, .int 0]) (rest := []) ⟨hx, hb, hml, hown, hT⟩ (c_X11_workG0 l D cI aK aV k k0 k1 k2 k4 k5 k6 k7 k8 ka kb kl ko H.size c3 c9 cc cd ce cf cg ch ci cj ck cm cn c0 a0 0 (by first | omega | (simp only [zl_0]; first | done | omega) | decide | assumption | rfl) (by first | omega | (simp only [zl_0]; first | done | omega) | decide | assumption | rfl) (by first | omega | (simp only [zl_0]; first | done | omega) | decide | assumption | rfl)) (cwV 2 hT (gV_in mw_1276 mw_1273 mw_1275 mw_p3_12 mw_12) rfl rfl rfl (by decide +kernel) ⟨(by dsimp only; omega), (by dsimp only; omega)⟩) (kRecvX (q0 := 0) (ci := 11) hK hP hD hN hXS hS hA rfl rfl [0, 1] rfl (by decide)) rfl rfl hl.1 rfl (lv_room (Nat.le_of_ble_eq_true rfl)) dX11_speaks_25 ⟨Nat.le_of_ble_eq_true rfl, Nat.le_of_ble_eq_true rfl⟩) hP hD hS hA [0, 1] [2] rfl rfl (by decide) (by decide) ?_
            clear hP hD hS
            intro r_1181 u_1183 H locs w_1182 hP hD hS
            replace hP : va_P D vwCl [(k8, .inl (cI, 40, .inl c8)), (k, .inr (11, [.ref k0, .ref k1, .ref k2, .int c3, .ref k4, .ref k5, .ref k6, .ref k7, .ref k8, .int c9, .ref ka, .ref kb, .int cc, .int cd, .int ce, .int cf, .int cg, .int ch, .int ci, .int cj, .int ck, .ref kl, .int cm, .int cn, .ref ko])), (k0, .inl (cI, 1201, .inl c0))] H := hP
            replace hD : va_D A [(k8, .inl (cI, 40, .inl c8)), (k, .inr (11, [.ref k0, .ref k1, .ref k2, .int c3, .ref k4, .ref k5, .ref k6, .ref k7, .ref k8, .int c9, .ref ka, .ref kb, .int cc, .int cd, .int ce, .int cf, .int cg, .int ch, .int ci, .int cj, .int ck, .ref kl, .int cm, .int cn, .ref ko])), (k0, .inl (cI, 1201, .inl c0))] := hD
            have h_1184 := w_1182
            have h_1184 : r_1181 = wW c0 a0 0 := h_1184
            have t_1185 : r_1181.toInt = (wW c0 a0 0).toInt := by rw [h_1184]
            have b_1186 : 0 ≤ r_1181.toInt ∧ r_1181.toInt ≤ 5 := by rw [h_1184]; exact SB.w0 pre0 (by omega) (by omega)
            have lo_r_1181 := k_lo r_1181
            have hi_r_1181 := k_hi r_1181
            refine lv_istore (lv' := [(6, .int r_1181), (5, .int l3_5), (0, .ref k), (1, .int a0), (2, .int a1), (3, .int a2), (4, .int a3)]) hx hb dX11_speaks_28 hl (by decide) rfl ?_
            clear hl
            intro ls hl
            refine lv_aload_n hx hb dX11_speaks_30 rfl (lv_at hl 2 rfl) ?_
            refine lv_iload_n hx hb dX11_speaks_31 rfl (lv_at hl 3 rfl) ?_
            refine lv_iconst (v := 2) hx hb dX11_speaks_32 (by decide) ?_
            refine kJi (wr := [(k8, .inl (cI, 40, .inl c8))]) (va_runV (As := [.int a0, .int 2]) (rest := []) ⟨hx, hb, hml, hown, hT⟩ (c_X11_workG2 l D cI aK aV k k0 k1 k2 k4 k5 k6 k7 k8 ka kb kl ko H.size c3 c9 cc cd ce cf cg ch ci cj ck cm cn c0 a0 2 (by first | omega | (simp only [zl_2]; first | done | omega) | decide | assumption | rfl) (by first | omega | (simp only [zl_2]; first | done | omega) | decide | assumption | rfl) (by first | omega | (simp only [zl_2]; first | done | omega) | decide | assumption | rfl)) (cwV 2 hT (gV_in mw_1276 mw_1273 mw_1275 mw_p3_12 mw_12) rfl rfl rfl (by decide +kernel) ⟨(by dsimp only; omega), (by dsimp only; omega)⟩) (kRecvX (q0 := 1) (ci := 11) hK hP hD hN hXS hS hA rfl rfl [1, 2] rfl (by decide)) rfl rfl hl.1 rfl (lv_room (Nat.le_of_ble_eq_true rfl)) dX11_speaks_33 ⟨Nat.le_of_ble_eq_true rfl, Nat.le_of_ble_eq_true rfl⟩) hP hD hS hA [1, 2] [0] rfl rfl (by decide) (by decide) ?_
            clear hP hD hS
            intro r_1187 u_1189 H locs w_1188 hP hD hS
            replace hP : va_P D vwCl [(k8, .inl (cI, 40, .inl c8)), (k, .inr (11, [.ref k0, .ref k1, .ref k2, .int c3, .ref k4, .ref k5, .ref k6, .ref k7, .ref k8, .int c9, .ref ka, .ref kb, .int cc, .int cd, .int ce, .int cf, .int cg, .int ch, .int ci, .int cj, .int ck, .ref kl, .int cm, .int cn, .ref ko])), (k0, .inl (cI, 1201, .inl c0))] H := hP
            replace hD : va_D A [(k8, .inl (cI, 40, .inl c8)), (k, .inr (11, [.ref k0, .ref k1, .ref k2, .int c3, .ref k4, .ref k5, .ref k6, .ref k7, .ref k8, .int c9, .ref ka, .ref kb, .int cc, .int cd, .int ce, .int cf, .int cg, .int ch, .int ci, .int cj, .int ck, .ref kl, .int cm, .int cn, .ref ko])), (k0, .inl (cI, 1201, .inl c0))] := hD
            have h_1190 := w_1188
            have h_1190 : r_1187 = wW c0 a0 2 := h_1190
            have t_1191 : r_1187.toInt = (wW c0 a0 2).toInt := by rw [h_1190]
            have lo_r_1187 := k_lo r_1187
            have hi_r_1187 := k_hi r_1187
            refine lv_istore (lv' := [(7, .int r_1187), (6, .int r_1181), (5, .int l3_5), (0, .ref k), (1, .int a0), (2, .int a1), (3, .int a2), (4, .int a3)]) hx hb dX11_speaks_36 hl (by decide) rfl ?_
            clear hl
            intro ls hl
            refine lv_iload hx hb dX11_speaks_38 (lv_at hl 2 rfl) ?_
            refine kJi (wr := [(k8, .inl (cI, 40, .inl c8)), (k, .inr (11, [.ref k0, .ref k1, .ref k2, .int c3, .ref k4, .ref k5, .ref k6, .ref k7, .ref k8, .int c9, .ref ka, .ref kb, .int cc, .int cd, .int ce, .int cf, .int cg, .int ch, .int ci, .int cj, .int ck, .ref kl, .int cm, .int cn, .ref ko])), (k0, .inl (cI, 1201, .inl c0))]) (va_runS (As := [.int l3_5]) (rest := []) ⟨hx, hb, hml, hown, hT⟩ (c_X11_parentG l D cI aK aV H.size l3_5 (by first | omega | decide | assumption | rfl) (by first | omega | decide | assumption | rfl)) (cwS 1 hT (gS_in mw_1282 mw_1280 mw_1281 mw_12) rfl rfl rfl (by decide +kernel) ⟨(by dsimp only; omega), (by dsimp only; omega)⟩) (kStatX hK hP hD hN hXS hS hA [] rfl (by decide)) rfl rfl hl.1 rfl (lv_room (Nat.le_of_ble_eq_true rfl)) dX11_speaks_40 ⟨Nat.le_of_ble_eq_true rfl, Nat.le_of_ble_eq_true rfl⟩) hP hD hS hA [] [0, 1, 2] rfl rfl (by decide) (by decide) ?_
            clear hP hD hS
            intro r_1192 u_1194 H locs w_1193 hP hD hS
            replace hP : va_P D vwCl [(k8, .inl (cI, 40, .inl c8)), (k, .inr (11, [.ref k0, .ref k1, .ref k2, .int c3, .ref k4, .ref k5, .ref k6, .ref k7, .ref k8, .int c9, .ref ka, .ref kb, .int cc, .int cd, .int ce, .int cf, .int cg, .int ch, .int ci, .int cj, .int ck, .ref kl, .int cm, .int cn, .ref ko])), (k0, .inl (cI, 1201, .inl c0))] H := hP
            replace hD : va_D A [(k8, .inl (cI, 40, .inl c8)), (k, .inr (11, [.ref k0, .ref k1, .ref k2, .int c3, .ref k4, .ref k5, .ref k6, .ref k7, .ref k8, .int c9, .ref ka, .ref kb, .int cc, .int cd, .int ce, .int cf, .int cg, .int ch, .int ci, .int cj, .int ck, .ref kl, .int cm, .int cn, .ref ko])), (k0, .inl (cI, 1201, .inl c0))] := hD
            rcases w_1193 with ⟨hr_1192, h_1195⟩ | ⟨hr_1192, h_1196⟩ | ⟨hr_1192, h_1197⟩ | ⟨hr_1192, h_1198⟩ | ⟨hr_1192, h_1199⟩
            · exfalso; omega
            · exfalso; omega
            · exfalso; omega
            · exfalso; omega
            · have h_1199 : l3_5.toInt = 5 := h_1199
              obtain rfl : r_1192 = 4 := hr_1192.trans (by decide)
              refine lv_istore (lv' := [(8, .int 4), (7, .int r_1187), (6, .int r_1181), (5, .int l3_5), (0, .ref k), (1, .int a0), (2, .int a1), (3, .int a2), (4, .int a3)]) hx hb dX11_speaks_43 hl (by decide) rfl ?_
              clear hl
              intro ls hl
              refine lv_iload hx hb dX11_speaks_45 (lv_at hl 3 rfl) ?_
              refine lv_iload_n hx hb dX11_speaks_47 rfl (lv_at hl 7 rfl) ?_
              refine kJi (wr := [(k8, .inl (cI, 40, .inl c8)), (k, .inr (11, [.ref k0, .ref k1, .ref k2, .int c3, .ref k4, .ref k5, .ref k6, .ref k7, .ref k8, .int c9, .ref ka, .ref kb, .int cc, .int cd, .int ce, .int cf, .int cg, .int ch, .int ci, .int cj, .int ck, .ref kl, .int cm, .int cn, .ref ko])), (k0, .inl (cI, 1201, .inl c0))]) (va_runS (As := [.int l3_5, .int a2]) (rest := []) ⟨hx, hb, hml, hown, hT⟩ (c_X11_bodyOfG l D cI aK aV H.size l3_5 a2 (by first | omega | decide | assumption | rfl) (by first | omega | decide | assumption | rfl) (by first | omega | decide | assumption | rfl) (by first | omega | decide | assumption | rfl)) (cwS 2 hT (gS_in mw_1581 mw_1579 mw_1580 mw_12) rfl rfl rfl (by decide +kernel) ⟨(by dsimp only; omega), (by dsimp only; omega)⟩) (kStatX hK hP hD hN hXS hS hA [] rfl (by decide)) rfl rfl hl.1 rfl (lv_room (Nat.le_of_ble_eq_true rfl)) dX11_speaks_48 ⟨Nat.le_of_ble_eq_true rfl, Nat.le_of_ble_eq_true rfl⟩) hP hD hS hA [] [0, 1, 2] rfl rfl (by decide) (by decide) ?_
              clear hP hD hS
              intro r_1200 u_1202 H locs w_1201 hP hD hS
              replace hP : va_P D vwCl [(k8, .inl (cI, 40, .inl c8)), (k, .inr (11, [.ref k0, .ref k1, .ref k2, .int c3, .ref k4, .ref k5, .ref k6, .ref k7, .ref k8, .int c9, .ref ka, .ref kb, .int cc, .int cd, .int ce, .int cf, .int cg, .int ch, .int ci, .int cj, .int ck, .ref kl, .int cm, .int cn, .ref ko])), (k0, .inl (cI, 1201, .inl c0))] H := hP
              replace hD : va_D A [(k8, .inl (cI, 40, .inl c8)), (k, .inr (11, [.ref k0, .ref k1, .ref k2, .int c3, .ref k4, .ref k5, .ref k6, .ref k7, .ref k8, .int c9, .ref ka, .ref kb, .int cc, .int cd, .int ce, .int cf, .int cg, .int ch, .int ci, .int cj, .int ck, .ref kl, .int cm, .int cn, .ref ko])), (k0, .inl (cI, 1201, .inl c0))] := hD
              rcases w_1201 with ⟨hr_1200, h_1203, h_1204, h_1205⟩ | ⟨hr_1200, h_1206, h_1207, h_1208⟩ | ⟨hr_1200, h_1209, h_1210, h_1211⟩ | ⟨hr_1200, h_1212, h_1213, h_1214⟩ | ⟨hr_1200, h_1215, h_1216, h_1217⟩ | ⟨hr_1200, h_1218, h_1219, h_1220⟩ | ⟨hr_1200, h_1221, h_1222, h_1223⟩ | ⟨hr_1200, h_1224, h_1225, h_1226⟩ | ⟨hr_1200, h_1227, h_1228, h_1229⟩ | ⟨hr_1200, h_1230, h_1231, h_1232⟩ | ⟨hr_1200, h_1233, h_1234, h_1235⟩ | ⟨hr_1200, h_1236, h_1237, h_1238⟩ | ⟨hr_1200, h_1239, h_1240, h_1241⟩ | ⟨hr_1200, h_1242, h_1243, h_1244⟩ | ⟨hr_1200, h_1245, h_1246⟩
              · exfalso; omega
              · exfalso; omega
              · exfalso; omega
              · exfalso; omega
              · exfalso; omega
              · exfalso; omega
              · exfalso; omega
              · exfalso; omega
              · exfalso; omega
              · exfalso; omega
              · exfalso; omega
              · exfalso; omega
              · exfalso; omega
              · have h_1242 : l3_5.toInt = 5 := h_1242
                have h_1243 : a2.toInt = 3 := h_1243
                have h_1244 : (bKi l3_5 a2).toInt = 61 := h_1244
                obtain rfl : r_1200 = 61 := hr_1200.trans (by decide)
                refine lv_istore (lv' := [(9, .int 61), (8, .int 4), (7, .int r_1187), (6, .int r_1181), (5, .int l3_5), (0, .ref k), (1, .int a0), (2, .int a1), (3, .int a2), (4, .int a3)]) hx hb dX11_speaks_51 hl (by decide) rfl ?_
                clear hl
                intro ls hl
                refine lv_aload_n hx hb dX11_speaks_53 rfl (lv_at hl 5 rfl) ?_
                refine lv_iload hx hb dX11_speaks_54 (lv_at hl 0 rfl) ?_
                refine kJv (wr := [(k0, .inl (cI, 1201, .inl c0))]) (va_runV (As := [.int 61]) (rest := []) ⟨hx, hb, hml, hown, hT⟩ (c_X11_ranG l D cI aK aV k k0 k1 k2 k4 k5 k6 k7 k8 ka kb kl ko H.size c3 c9 cc cd ce cf cg ch ci cj ck cm cn c8 61 (by first | omega | (simp only [zl_61]; first | done | omega) | decide | assumption | rfl) (by first | omega | (simp only [zl_61]; first | done | omega) | decide | assumption | rfl)) (cwV 1 hT (gV_in mw_1585 mw_1582 mw_1584 mw_p6_7 mw_12) rfl rfl rfl (by decide +kernel) ⟨(by dsimp only; omega), (by dsimp only; omega)⟩) (kRecvX (q0 := 1) (ci := 11) hK hP hD hN hXS hS hA rfl rfl [1, 0] rfl (by decide)) rfl rfl hl.1 rfl (lv_room (Nat.le_of_ble_eq_true rfl)) dX11_speaks_56 ⟨Nat.le_of_ble_eq_true rfl, Nat.le_of_ble_eq_true rfl⟩) hP hD hS hA [1, 0] [2] rfl rfl (by decide) (by decide) ?_
                clear hP hD hS
                intro u_1251 H locs w_1248 hP hD hS
                obtain ⟨sc9_1249, sc8_1250⟩ := u_1251
                replace hP : va_P D vwCl [(k0, .inl (cI, 1201, .inl c0)), (k, .inr (11, [.ref k0, .ref k1, .ref k2, .int c3, .ref k4, .ref k5, .ref k6, .ref k7, .ref k8, .int sc9_1249, .ref ka, .ref kb, .int cc, .int cd, .int ce, .int cf, .int cg, .int ch, .int ci, .int cj, .int ck, .ref kl, .int cm, .int cn, .ref ko])), (k8, .inl (cI, 40, .inl sc8_1250))] H := hP
                replace hD : va_D A [(k0, .inl (cI, 1201, .inl c0)), (k, .inr (11, [.ref k0, .ref k1, .ref k2, .int c3, .ref k4, .ref k5, .ref k6, .ref k7, .ref k8, .int sc9_1249, .ref ka, .ref kb, .int cc, .int cd, .int ce, .int cf, .int cg, .int ch, .int ci, .int cj, .int ck, .ref kl, .int cm, .int cn, .ref ko])), (k8, .inl (cI, 40, .inl sc8_1250))] := hD
                have lo_sc9_1249 := k_lo sc9_1249
                have hi_sc9_1249 := k_hi sc9_1249
                obtain ⟨h_1252, h_1253, h_1254, h_1255⟩ := w_1248
                try simp only [zl_61] at h_1252
                have h_1252 : 0 ≤ sc9_1249.toInt := h_1252
                try simp only [zl_61] at h_1253
                have h_1253 : sc9_1249.toInt ≤ 40 := h_1253
                try simp only [zl_61] at h_1254
                have h_1254 : sc9_1249 = mSV c9 := h_1254
                try simp only [zl_61] at h_1255
                have h_1255 : sc8_1250 = gSV c9 c8 61 := h_1255
                refine lv_iload hx hb dX11_speaks_59 (lv_at hl 0 rfl) ?_
                refine lv_tableOut (tgt := 493) hx hb dX11_speaks_61 (by decide) (by decide) ?_
                refine lv_aload_n hx hb dX11_speaks_493 rfl (lv_at hl 5 rfl) ?_
                refine lv_iload_n hx hb dX11_speaks_494 rfl (lv_at hl 6 rfl) ?_
                refine lv_iload hx hb dX11_speaks_495 (lv_at hl 1 rfl) ?_
                refine lv_iconst (v := 3) hx hb dX11_speaks_497 (by decide) ?_
                refine lv_iload hx hb dX11_speaks_498 (lv_at hl 9 rfl) ?_
                refine kJi (wr := []) (va_runV (As := [.int a0, .int 4, .int 3, .int a3]) (rest := []) ⟨hx, hb, hml, hown, hT⟩ (ih l D cI aK aV k k0 k1 k2 k4 k5 k6 k7 k8 ka kb kl ko H.size c3 sc9_1249 cc cd ce cf cg ch ci cj ck cm cn c0 sc8_1250 a0 4 3 a3 pre0 (by first | omega | (simp only [zl_3, zl_4]; first | done | omega) | decide | assumption | rfl) (by first | omega | (simp only [zl_3, zl_4]; first | done | omega) | decide | assumption | rfl) (by first | omega | (simp only [zl_3, zl_4]; first | done | omega) | decide | assumption | rfl) (by first | omega | (simp only [zl_3, zl_4]; first | done | omega) | decide | assumption | rfl) (by first | omega | (simp only [zl_3, zl_4]; first | done | omega) | decide | assumption | rfl) (by first | omega | (simp only [zl_3, zl_4]; first | done | omega) | decide | assumption | rfl) (by first | omega | (simp only [zl_3, zl_4]; first | done | omega) | decide | assumption | rfl) (by first | omega | (simp only [zl_3, zl_4]; first | done | omega) | decide | assumption | rfl) (by first | omega | (simp only [zl_3, zl_4]; first | done | omega) | decide | assumption | rfl)) (cwV 4 hT (gV_in mw_1578 mw_1575 mw_1577 mw_p6_6 mw_12) rfl rfl rfl (by decide +kernel) ⟨(by dsimp only; omega), (by dsimp only; omega)⟩) (kRecvX (q0 := 1) (ci := 11) hK hP hD hN hXS hS hA rfl rfl [1, 0, 2] rfl (by decide)) rfl rfl hl.1 rfl (lv_room (Nat.le_of_ble_eq_true rfl)) dX11_speaks_500 ⟨Nat.le_of_ble_eq_true rfl, Nat.le_of_ble_eq_true rfl⟩) hP hD hS hA [1, 0, 2] [] rfl rfl (by decide) (by decide) ?_
                clear hP hD hS
                intro r_1256 u_1260 H locs w_1257 hP hD hS
                obtain ⟨sc9_1258, sc8_1259⟩ := u_1260
                replace hP : va_P D vwCl [(k, .inr (11, [.ref k0, .ref k1, .ref k2, .int c3, .ref k4, .ref k5, .ref k6, .ref k7, .ref k8, .int sc9_1258, .ref ka, .ref kb, .int cc, .int cd, .int ce, .int cf, .int cg, .int ch, .int ci, .int cj, .int ck, .ref kl, .int cm, .int cn, .ref ko])), (k0, .inl (cI, 1201, .inl c0)), (k8, .inl (cI, 40, .inl sc8_1259))] H := hP
                replace hD : va_D A [(k, .inr (11, [.ref k0, .ref k1, .ref k2, .int c3, .ref k4, .ref k5, .ref k6, .ref k7, .ref k8, .int sc9_1258, .ref ka, .ref kb, .int cc, .int cd, .int ce, .int cf, .int cg, .int ch, .int ci, .int cj, .int ck, .ref kl, .int cm, .int cn, .ref ko])), (k0, .inl (cI, 1201, .inl c0)), (k8, .inl (cI, 40, .inl sc8_1259))] := hD
                have lo_sc9_1258 := k_lo sc9_1258
                have hi_sc9_1258 := k_hi sc9_1258
                obtain ⟨h_1261, h_1262, h_1263⟩ := w_1257
                try simp only [zl_3, zl_4] at h_1261
                have h_1261 : 0 ≤ sc9_1258.toInt := h_1261
                try simp only [zl_3, zl_4] at h_1262
                have h_1262 : sc9_1258.toInt ≤ 40 := h_1262
                try simp only [zl_3, zl_4] at h_1263
                have h_1263 : voB a0 (wW c0 a0 2) (wW c0 a0 0) dd 4 3 a3 sc9_1249 sc8_1250 = (r_1256, sc9_1258, sc8_1259) := h_1263
                have lo_r_1256 := k_lo r_1256
                have hi_r_1256 := k_hi r_1256
                refine lv_ineg hx hb dX11_speaks_503 ?_
                refine lv_topi (fun v_1264 ev_1264 => ?_)
                have lo_v_1264 := k_lo v_1264
                have hi_v_1264 := k_hi v_1264
                exact hRet (sc9_1258, sc8_1259) [0, 1, 2] ⟨(by first | omega | decide | assumption | rfl | (dsimp only; first | omega)), (by first | omega | decide | assumption | rfl | (dsimp only; first | omega)), (vo_61 (b := 61) (m1 := sc9_1249) (g1 := sc8_1250) (by rw [← i3_3]; exact (bd_own (a := l3_5) (c := a2) (bd_bk h_1244 (by decide)) (by decide)).symm) (by decide) h_1254 h_1255 h_1263 (by rw [ev_1264]; exact (i_zsub _).symm))⟩ hP hD (by decide) rfl hS rfl dX11_speaks_504
              · exfalso; omega
          · have h_49 : 1 ≤ l3_5.toInt := h_49
            have h_50 : (bKi l3_5 a2).toInt = 0 := h_50
            obtain rfl : r_4 = 0 := hr_4.trans (by decide)
            refine b_if_ne hx hb zl_0 (tgt := 22) dX11_speaks_9 (by decide) (fun c_1265 => by exfalso; omega) (fun c_1265 => ?_)
            refine lv_iload hx hb dX11_speaks_12 (lv_at hl 0 rfl) ?_
            refine kJi (wr := [(k, .inr (11, [.ref k0, .ref k1, .ref k2, .int c3, .ref k4, .ref k5, .ref k6, .ref k7, .ref k8, .int c9, .ref ka, .ref kb, .int cc, .int cd, .int ce, .int cf, .int cg, .int ch, .int ci, .int cj, .int ck, .ref kl, .int cm, .int cn, .ref ko])), (k0, .inl (cI, 1201, .inl c0)), (k8, .inl (cI, 40, .inl c8))]) (va_runS (As := [.int l3_5]) (rest := []) ⟨hx, hb, hml, hown, hT⟩ (c_X11_parentG l D cI aK aV H.size l3_5 (by first | omega | decide | assumption | rfl) (by first | omega | decide | assumption | rfl)) (cwS 1 hT (gS_in mw_1282 mw_1280 mw_1281 mw_12) rfl rfl rfl (by decide +kernel) ⟨(by dsimp only; omega), (by dsimp only; omega)⟩) (kStatX hK hP hD hN hXS hS hA [] rfl (by decide)) rfl rfl hl.1 rfl (lv_room (Nat.le_of_ble_eq_true rfl)) dX11_speaks_14 ⟨Nat.le_of_ble_eq_true rfl, Nat.le_of_ble_eq_true rfl⟩) hP hD hS hA [] [0, 1, 2] rfl rfl (by decide) (by decide) ?_
            clear hP hD hS
            intro r_1266 u_1268 H locs w_1267 hP hD hS
            replace hP : va_P D vwCl [(k, .inr (11, [.ref k0, .ref k1, .ref k2, .int c3, .ref k4, .ref k5, .ref k6, .ref k7, .ref k8, .int c9, .ref ka, .ref kb, .int cc, .int cd, .int ce, .int cf, .int cg, .int ch, .int ci, .int cj, .int ck, .ref kl, .int cm, .int cn, .ref ko])), (k0, .inl (cI, 1201, .inl c0)), (k8, .inl (cI, 40, .inl c8))] H := hP
            replace hD : va_D A [(k, .inr (11, [.ref k0, .ref k1, .ref k2, .int c3, .ref k4, .ref k5, .ref k6, .ref k7, .ref k8, .int c9, .ref ka, .ref kb, .int cc, .int cd, .int ce, .int cf, .int cg, .int ch, .int ci, .int cj, .int ck, .ref kl, .int cm, .int cn, .ref ko])), (k0, .inl (cI, 1201, .inl c0)), (k8, .inl (cI, 40, .inl c8))] := hD
            rcases w_1267 with ⟨hr_1266, h_1269⟩ | ⟨hr_1266, h_1270⟩ | ⟨hr_1266, h_1271⟩ | ⟨hr_1266, h_1272⟩ | ⟨hr_1266, h_1273⟩
            · exfalso; omega
            · have h_1270 : l3_5.toInt = 1 ∨ l3_5.toInt = 4 := h_1270
              obtain rfl : r_1266 = 0 := hr_1266.trans (by decide)
              refine lv_istore (lv' := [(5, .int 0), (0, .ref k), (1, .int a0), (2, .int a1), (3, .int a2), (4, .int a3)]) hx hb dX11_speaks_17 hl (by decide) rfl ?_
              clear hl
              intro ls hl
              refine lv_goto (tgt := 3) hx hb dX11_speaks_19 (by decide) ?_
              exact ih3 0 (by first | omega | (simp only [zl_0]; first | done | omega) | decide | assumption | rfl) (by first | omega | (simp only [zl_0]; first | done | omega) | decide | assumption | rfl) (by first | omega | (simp only [zl_0]; first | done | omega) | decide | assumption | rfl) (Eq.trans (bd_up (a := l3_5) (p := 0) h_50 (by have := zl_0; omega) (by omega) (by omega)) i3_3) (by first | omega | (simp only [zl_0]; omega)) ls _ _ (lv_sub hl [0, 1, 2, 3, 4, 5] rfl) (hP.sub [0, 1, 2] rfl) (hD.sub [0, 1, 2] (by decide) rfl) hS
            · have h_1271 : l3_5.toInt = 2 := h_1271
              obtain rfl : r_1266 = 1 := hr_1266.trans (by decide)
              refine lv_istore (lv' := [(5, .int 1), (0, .ref k), (1, .int a0), (2, .int a1), (3, .int a2), (4, .int a3)]) hx hb dX11_speaks_17 hl (by decide) rfl ?_
              clear hl
              intro ls hl
              refine lv_goto (tgt := 3) hx hb dX11_speaks_19 (by decide) ?_
              exact ih3 1 (by first | omega | (simp only [zl_1]; first | done | omega) | decide | assumption | rfl) (by first | omega | (simp only [zl_1]; first | done | omega) | decide | assumption | rfl) (by first | omega | (simp only [zl_1]; first | done | omega) | decide | assumption | rfl) (Eq.trans (bd_up (a := l3_5) (p := 1) h_50 (by have := zl_1; omega) (by omega) (by omega)) i3_3) (by first | omega | (simp only [zl_1]; omega)) ls _ _ (lv_sub hl [0, 1, 2, 3, 4, 5] rfl) (hP.sub [0, 1, 2] rfl) (hD.sub [0, 1, 2] (by decide) rfl) hS
            · have h_1272 : l3_5.toInt = 3 := h_1272
              obtain rfl : r_1266 = 2 := hr_1266.trans (by decide)
              refine lv_istore (lv' := [(5, .int 2), (0, .ref k), (1, .int a0), (2, .int a1), (3, .int a2), (4, .int a3)]) hx hb dX11_speaks_17 hl (by decide) rfl ?_
              clear hl
              intro ls hl
              refine lv_goto (tgt := 3) hx hb dX11_speaks_19 (by decide) ?_
              exact ih3 2 (by first | omega | (simp only [zl_2]; first | done | omega) | decide | assumption | rfl) (by first | omega | (simp only [zl_2]; first | done | omega) | decide | assumption | rfl) (by first | omega | (simp only [zl_2]; first | done | omega) | decide | assumption | rfl) (Eq.trans (bd_up (a := l3_5) (p := 2) h_50 (by have := zl_2; omega) (by omega) (by omega)) i3_3) (by first | omega | (simp only [zl_2]; omega)) ls _ _ (lv_sub hl [0, 1, 2, 3, 4, 5] rfl) (hP.sub [0, 1, 2] rfl) (hD.sub [0, 1, 2] (by decide) rfl) hS
            · have h_1273 : l3_5.toInt = 5 := h_1273
              obtain rfl : r_1266 = 4 := hr_1266.trans (by decide)
              refine lv_istore (lv' := [(5, .int 4), (0, .ref k), (1, .int a0), (2, .int a1), (3, .int a2), (4, .int a3)]) hx hb dX11_speaks_17 hl (by decide) rfl ?_
              clear hl
              intro ls hl
              refine lv_goto (tgt := 3) hx hb dX11_speaks_19 (by decide) ?_
              exact ih3 4 (by first | omega | (simp only [zl_4]; first | done | omega) | decide | assumption | rfl) (by first | omega | (simp only [zl_4]; first | done | omega) | decide | assumption | rfl) (by first | omega | (simp only [zl_4]; first | done | omega) | decide | assumption | rfl) (Eq.trans (bd_up (a := l3_5) (p := 4) h_50 (by have := zl_4; omega) (by omega) (by omega)) i3_3) (by first | omega | (simp only [zl_4]; omega)) ls _ _ (lv_sub hl [0, 1, 2, 3, 4, 5] rfl) (hP.sub [0, 1, 2] rfl) (hD.sub [0, 1, 2] (by decide) rfl) hS
    exact hloop_3 _ a1 (by first | omega | decide | assumption | rfl) (by first | omega | decide | assumption | rfl) (by first | omega | decide | assumption | rfl) rfl (Nat.lt_succ_self _) ls _ _ (lv_sub hl [0, 1, 2, 3, 4, 5] rfl) hP hD hS
theorem dX11_voice_0 : decode cX11_voice 0 = .ok (.aload_n 0, 1) := by decide +kernel
theorem dX11_voice_1 : decode cX11_voice 1 = .ok (.iload_n 1, 1) := by decide +kernel
theorem dX11_voice_2 : decode cX11_voice 2 = .ok (.invokevirtual 80, 3) := by decide +kernel
theorem dX11_voice_5 : decode cX11_voice 5 = .ok (.ifCond .eq 12, 3) := by decide +kernel
theorem dX11_voice_8 : decode cX11_voice 8 = .ok (.iload_n 2, 1) := by decide +kernel
theorem dX11_voice_9 : decode cX11_voice 9 = .ok (.iconst 0, 1) := by decide +kernel
theorem dX11_voice_10 : decode cX11_voice 10 = .ok (.iconst 3, 1) := by decide +kernel
theorem dX11_voice_11 : decode cX11_voice 11 = .ok (.invokestatic 47, 3) := by decide +kernel
theorem dX11_voice_14 : decode cX11_voice 14 = .ok (.ifCond .ne 10, 3) := by decide +kernel
theorem dX11_voice_17 : decode cX11_voice 17 = .ok (.aload_n 0, 1) := by decide +kernel
theorem dX11_voice_18 : decode cX11_voice 18 = .ok (.ldc 63, 2) := by decide +kernel
theorem dX11_voice_20 : decode cX11_voice 20 = .ok (.invokevirtual 64, 3) := by decide +kernel
theorem dX11_voice_23 : decode cX11_voice 23 = .ok (.ireturn, 1) := by decide +kernel
theorem dX11_voice_24 : decode cX11_voice 24 = .ok (.aload_n 0, 1) := by decide +kernel
theorem dX11_voice_25 : decode cX11_voice 25 = .ok (.iconst 0, 1) := by decide +kernel
theorem dX11_voice_26 : decode cX11_voice 26 = .ok (.putfield 267, 3) := by decide +kernel
theorem dX11_voice_29 : decode cX11_voice 29 = .ok (.aload_n 0, 1) := by decide +kernel
theorem dX11_voice_30 : decode cX11_voice 30 = .ok (.iload_n 1, 1) := by decide +kernel
theorem dX11_voice_31 : decode cX11_voice 31 = .ok (.aload_n 0, 1) := by decide +kernel
theorem dX11_voice_32 : decode cX11_voice 32 = .ok (.iload_n 1, 1) := by decide +kernel
theorem dX11_voice_33 : decode cX11_voice 33 = .ok (.iconst 0, 1) := by decide +kernel
theorem dX11_voice_34 : decode cX11_voice 34 = .ok (.invokevirtual 55, 3) := by decide +kernel
theorem dX11_voice_37 : decode cX11_voice 37 = .ok (.iload_n 2, 1) := by decide +kernel
theorem dX11_voice_38 : decode cX11_voice 38 = .ok (.iload_n 3, 1) := by decide +kernel
theorem dX11_voice_39 : decode cX11_voice 39 = .ok (.invokevirtual 276, 3) := by decide +kernel
theorem dX11_voice_42 : decode cX11_voice 42 = .ok (.ireturn, 1) := by decide +kernel
set_option maxHeartbeats 4000000 in
set_option maxRecDepth 100000 in
theorem c_X11_voiceG (l : Launch) (D : va_G) (cI : ClassId) (aK aV : Nat → Nat) (k k0 k1 k2 k4 k5 k6 k7 k8 ka kb kl ko : Nat) (sz : Nat) (c3 : Int32) (c9 : Int32) (cc : Int32) (cd : Int32) (ce : Int32) (cf : Int32) (cg : Int32) (ch : Int32) (ci : Int32) (cj : Int32) (ck : Int32) (cm : Int32) (cn : Int32) (c0 : Nat → Int32) (c4 : Nat → Int32) (c8 : Nat → Int32) (a0 : Int32) (a1 : Int32) (a2 : Int32) (pre0 : SB c0) (pre1 : 0 ≤ c9.toInt) (pre2 : c9.toInt ≤ 40) : Met l yX11_voice (gW yX11_voice cX11_voice 4 (some .int)) ({ frames := 97, cells := 0, slots := 0, locals := 3102 } : Room) (kPreX D cI aK aV [.ref k, .int a0, .int a1, .int a2] [(k, .inr (11, [.ref k0, .ref k1, .ref k2, .int c3, .ref k4, .ref k5, .ref k6, .ref k7, .ref k8, .int c9, .ref ka, .ref kb, .int cc, .int cd, .int ce, .int cf, .int cg, .int ch, .int ci, .int cj, .int ck, .ref kl, .int cm, .int cn, .ref ko])), (k0, .inl (cI, 1201, .inl c0)), (k4, .inl (cI, 6, .inl c4)), (k8, .inl (cI, 40, .inl c8))] sz) (va_Qi (fun (r : Int32) (u : Int32 × (Nat → Int32) × (Nat → Int32)) => 0 ≤ u.1.toInt ∧ u.1.toInt ≤ 40 ∧ (((0 ≤ a0.toInt ∧ a0.toInt < (c0 1).toInt ∧ 0 ≤ a1.toInt ∧ a1.toInt ≤ 3) ∧ voB a0 (wW c0 a0 2) (wW c0 a0 0) 24 (wW c0 a0 0) a1 a2 0 c8 = (r, u.1, u.2.2)) ∨ (¬ (0 ≤ a0.toInt ∧ a0.toInt < (c0 1).toInt ∧ 0 ≤ a1.toInt ∧ a1.toInt ≤ 3) ∧ r = -1000001 ∧ u.1 = c9 ∧ u.2.2 = c8))) (fun u t => kWd D cI (va_A [(k, .inr (11, [.ref k0, .ref k1, .ref k2, .int c3, .ref k4, .ref k5, .ref k6, .ref k7, .ref k8, .int c9, .ref ka, .ref kb, .int cc, .int cd, .int ce, .int cf, .int cg, .int ch, .int ci, .int cj, .int ck, .ref kl, .int cm, .int cn, .ref ko])), (k0, .inl (cI, 1201, .inl c0)), (k4, .inl (cI, 6, .inl c4)), (k8, .inl (cI, 40, .inl c8))] sz) [(k, .inr (11, [.ref k0, .ref k1, .ref k2, .int c3, .ref k4, .ref k5, .ref k6, .ref k7, .ref k8, .int u.1, .ref ka, .ref kb, .int cc, .int cd, .int ce, .int cf, .int cg, .int ch, .int ci, .int cj, .int ck, .ref kl, .int cm, .int cn, .ref ko])), (k0, .inl (cI, 1201, .inl c0)), (k4, .inl (cI, 6, .inl u.2.1)), (k8, .inl (cI, 40, .inl u.2.2))] t) (va_A [(k, .inr (11, [.ref k0, .ref k1, .ref k2, .int c3, .ref k4, .ref k5, .ref k6, .ref k7, .ref k8, .int c9, .ref ka, .ref kb, .int cc, .int cd, .int ce, .int cf, .int cg, .int ch, .int ci, .int cj, .int ck, .ref kl, .int cm, .int cn, .ref ko])), (k0, .inl (cI, 1201, .inl c0)), (k4, .inl (cI, 6, .inl c4)), (k8, .inl (cI, 40, .inl c8))] sz)) 0 0 (va_A [(k, .inr (11, [.ref k0, .ref k1, .ref k2, .int c3, .ref k4, .ref k5, .ref k6, .ref k7, .ref k8, .int c9, .ref ka, .ref kb, .int cc, .int cd, .int ce, .int cf, .int cg, .int ch, .int ci, .int cj, .int ck, .ref kl, .int cm, .int cn, .ref ko])), (k0, .inl (cI, 1201, .inl c0)), (k4, .inl (cI, 6, .inl c4)), (k8, .inl (cI, 40, .inl c8))] sz) := by
  refine kMetIX (own := RX11) (by decide) rfl (Nat.le_of_ble_eq_true rfl) ?_
  intro p e s m args below meth c hx hb hT hown hname hml A Q hK hP hD hS hA hN hXS hRet ls hl
  have hl : lv_has ls 4 [(0, .ref k), (1, .int a0), (2, .int a1), (3, .int a2)] := hl
  have lo_a0 := k_lo a0
  have hi_a0 := k_hi a0
  have lo_a1 := k_lo a1
  have hi_a1 := k_hi a1
  have lo_a2 := k_lo a2
  have hi_a2 := k_hi a2
  have lo_ci := k_lo ci
  have hi_ci := k_hi ci
  have pre0 : SB c0 := pre0
  have nb_1 : 0 ≤ (c0 0).toInt ∧ (c0 0).toInt ≤ 2000 := SB.n0 pre0
  have nb_2 : 0 ≤ (c0 1).toInt ∧ (c0 1).toInt ≤ 60 := SB.n1 pre0
  have nb_3 : 0 ≤ (c0 2).toInt ∧ (c0 2).toInt ≤ 4 := SB.n2 pre0
  refine lv_aload_n hx hb dX11_voice_0 rfl (lv_at hl 0 rfl) ?_
  refine lv_iload_n hx hb dX11_voice_1 rfl (lv_at hl 1 rfl) ?_
  refine kJi (wr := [(k4, .inl (cI, 6, .inl c4)), (k8, .inl (cI, 40, .inl c8))]) (va_runV (As := [.int a0]) (rest := []) ⟨hx, hb, hml, hown, hT⟩ (c_X11_isWorkG l D cI aK aV k k0 k1 k2 k4 k5 k6 k7 k8 ka kb kl ko s.heap.size c3 c9 cc cd ce cf cg ch ci cj ck cm cn c0 a0 pre0) (cwV 1 hT (gV_in mw_1272 mw_1269 mw_1271 mw_p3_11 mw_12) rfl rfl rfl (by decide +kernel) ⟨Nat.le_of_ble_eq_true rfl, Nat.le_of_ble_eq_true rfl⟩) (kRecvX (q0 := 0) (ci := 11) hK hP hD hN hXS hS hA rfl rfl [0, 1] rfl (by decide)) rfl rfl hl.1 rfl (lv_room (Nat.le_of_ble_eq_true rfl)) dX11_voice_2 ⟨Nat.le_of_ble_eq_true rfl, Nat.le_of_ble_eq_true rfl⟩) hP hD hS hA [0, 1] [2, 3] rfl rfl (by decide) (by decide) ?_
  clear hP hD hS
  intro r_4 u_6 H locs w_5 hP hD hS
  replace hP : va_P D vwCl [(k4, .inl (cI, 6, .inl c4)), (k8, .inl (cI, 40, .inl c8)), (k, .inr (11, [.ref k0, .ref k1, .ref k2, .int c3, .ref k4, .ref k5, .ref k6, .ref k7, .ref k8, .int c9, .ref ka, .ref kb, .int cc, .int cd, .int ce, .int cf, .int cg, .int ch, .int ci, .int cj, .int ck, .ref kl, .int cm, .int cn, .ref ko])), (k0, .inl (cI, 1201, .inl c0))] H := hP
  replace hD : va_D A [(k4, .inl (cI, 6, .inl c4)), (k8, .inl (cI, 40, .inl c8)), (k, .inr (11, [.ref k0, .ref k1, .ref k2, .int c3, .ref k4, .ref k5, .ref k6, .ref k7, .ref k8, .int c9, .ref ka, .ref kb, .int cc, .int cd, .int ce, .int cf, .int cg, .int ch, .int ci, .int cj, .int ck, .ref kl, .int cm, .int cn, .ref ko])), (k0, .inl (cI, 1201, .inl c0))] := hD
  rcases w_5 with ⟨hr_4, h_7, h_8⟩ | ⟨hr_4, h_9⟩
  · have h_7 : 0 ≤ a0.toInt := h_7
    have h_8 : a0.toInt < (c0 1).toInt := h_8
    obtain rfl : r_4 = 1 := hr_4.trans (by decide)
    refine b_if_eq hx hb zl_1 (tgt := 17) dX11_voice_5 (by decide) (fun c_10 => by exfalso; omega) (fun c_10 => ?_)
    refine lv_iload_n hx hb dX11_voice_8 rfl (lv_at hl 2 rfl) ?_
    refine lv_iconst (v := 0) hx hb dX11_voice_9 (by decide) ?_
    refine lv_iconst (v := 3) hx hb dX11_voice_10 (by decide) ?_
    refine kJi (wr := [(k4, .inl (cI, 6, .inl c4)), (k8, .inl (cI, 40, .inl c8)), (k, .inr (11, [.ref k0, .ref k1, .ref k2, .int c3, .ref k4, .ref k5, .ref k6, .ref k7, .ref k8, .int c9, .ref ka, .ref kb, .int cc, .int cd, .int ce, .int cf, .int cg, .int ch, .int ci, .int cj, .int ck, .ref kl, .int cm, .int cn, .ref ko])), (k0, .inl (cI, 1201, .inl c0))]) (va_runS (As := [.int a1, .int 0, .int 3]) (rest := []) ⟨hx, hb, hml, hown, hT⟩ (c_X11_inG l D cI aK aV H.size a1 0 3) (cwS 3 hT (gS_in mw_1238 mw_1236 mw_1237 mw_12) rfl rfl rfl (by decide +kernel) ⟨Nat.le_of_ble_eq_true rfl, Nat.le_of_ble_eq_true rfl⟩) (kStatX hK hP hD hN hXS hS hA [] rfl (by decide)) rfl rfl hl.1 rfl (lv_room (Nat.le_of_ble_eq_true rfl)) dX11_voice_11 ⟨Nat.le_of_ble_eq_true rfl, Nat.le_of_ble_eq_true rfl⟩) hP hD hS hA [] [0, 1, 2, 3] rfl rfl (by decide) (by decide) ?_
    clear hP hD hS
    intro r_11 u_13 H locs w_12 hP hD hS
    replace hP : va_P D vwCl [(k4, .inl (cI, 6, .inl c4)), (k8, .inl (cI, 40, .inl c8)), (k, .inr (11, [.ref k0, .ref k1, .ref k2, .int c3, .ref k4, .ref k5, .ref k6, .ref k7, .ref k8, .int c9, .ref ka, .ref kb, .int cc, .int cd, .int ce, .int cf, .int cg, .int ch, .int ci, .int cj, .int ck, .ref kl, .int cm, .int cn, .ref ko])), (k0, .inl (cI, 1201, .inl c0))] H := hP
    replace hD : va_D A [(k4, .inl (cI, 6, .inl c4)), (k8, .inl (cI, 40, .inl c8)), (k, .inr (11, [.ref k0, .ref k1, .ref k2, .int c3, .ref k4, .ref k5, .ref k6, .ref k7, .ref k8, .int c9, .ref ka, .ref kb, .int cc, .int cd, .int ce, .int cf, .int cg, .int ch, .int ci, .int cj, .int ck, .ref kl, .int cm, .int cn, .ref ko])), (k0, .inl (cI, 1201, .inl c0))] := hD
    rcases w_12 with ⟨hr_11, h_14, h_15⟩ | ⟨hr_11, h_16⟩
    · try simp only [zl_0, zl_3] at h_14
      have h_14 : 0 ≤ a1.toInt := h_14
      try simp only [zl_0, zl_3] at h_15
      have h_15 : a1.toInt ≤ 3 := h_15
      obtain rfl : r_11 = 1 := hr_11.trans (by decide)
      refine b_if_ne hx hb zl_1 (tgt := 24) dX11_voice_14 (by decide) (fun c_17 => ?_) (fun c_17 => by exfalso; omega)
      refine lv_aload_n hx hb dX11_voice_24 rfl (lv_at hl 0 rfl) ?_
      refine lv_iconst (v := 0) hx hb dX11_voice_25 (by decide) ?_
      refine va_put (D := D) (ci := 11) (v := .int 0) (ty := .int) (C := RX11) (T := TX11) (N := 25) hx hb hT giX11 tyX11 tyX11_ok nmX11 hown hK hP hD hS 2 rfl rfl 9 (by decide) (hT (Cond.fieldLink RX11 267 "DesertWireModel" "traces" "I") mw_1165) (fun _ h9 => h9) rfl (by decide +kernel) rfl rfl (Nat.le_of_ble_eq_true rfl) dX11_voice_26 ?_
      clear hP hD hS
      intro H locs hP hD hS
      replace hP : va_P D vwCl [(k4, .inl (cI, 6, .inl c4)), (k8, .inl (cI, 40, .inl c8)), (k, .inr (11, [.ref k0, .ref k1, .ref k2, .int c3, .ref k4, .ref k5, .ref k6, .ref k7, .ref k8, .int 0, .ref ka, .ref kb, .int cc, .int cd, .int ce, .int cf, .int cg, .int ch, .int ci, .int cj, .int ck, .ref kl, .int cm, .int cn, .ref ko])), (k0, .inl (cI, 1201, .inl c0))] H := hP
      replace hD : va_D A [(k4, .inl (cI, 6, .inl c4)), (k8, .inl (cI, 40, .inl c8)), (k, .inr (11, [.ref k0, .ref k1, .ref k2, .int c3, .ref k4, .ref k5, .ref k6, .ref k7, .ref k8, .int 0, .ref ka, .ref kb, .int cc, .int cd, .int ce, .int cf, .int cg, .int ch, .int ci, .int cj, .int ck, .ref kl, .int cm, .int cn, .ref ko])), (k0, .inl (cI, 1201, .inl c0))] := hD
      refine lv_aload_n hx hb dX11_voice_29 rfl (lv_at hl 0 rfl) ?_
      refine lv_iload_n hx hb dX11_voice_30 rfl (lv_at hl 1 rfl) ?_
      refine lv_aload_n hx hb dX11_voice_31 rfl (lv_at hl 0 rfl) ?_
      refine lv_iload_n hx hb dX11_voice_32 rfl (lv_at hl 1 rfl) ?_
      refine lv_iconst (v := 0) hx hb dX11_voice_33 (by decide) ?_
      refine kJi (wr := [(k4, .inl (cI, 6, .inl c4)), (k8, .inl (cI, 40, .inl c8))]) (va_runV (As := [.int a0, .int 0]) (rest := [.int a0, .ref k]) ⟨hx, hb, hml, hown, hT⟩ (c_X11_workG0 l D cI aK aV k k0 k1 k2 k4 k5 k6 k7 k8 ka kb kl ko H.size c3 0 cc cd ce cf cg ch ci cj ck cm cn c0 a0 0 (by first | omega | (simp only [zl_0]; first | done | omega) | decide | assumption | rfl) (by first | omega | (simp only [zl_0]; first | done | omega) | decide | assumption | rfl) (by first | omega | (simp only [zl_0]; first | done | omega) | decide | assumption | rfl)) (cwV 2 hT (gV_in mw_1276 mw_1273 mw_1275 mw_p3_12 mw_12) rfl rfl rfl (by decide +kernel) ⟨Nat.le_of_ble_eq_true rfl, Nat.le_of_ble_eq_true rfl⟩) (kRecvX (q0 := 2) (ci := 11) hK hP hD hN hXS hS hA rfl rfl [2, 3] rfl (by decide)) rfl rfl hl.1 rfl (lv_room (Nat.le_of_ble_eq_true rfl)) dX11_voice_34 ⟨Nat.le_of_ble_eq_true rfl, Nat.le_of_ble_eq_true rfl⟩) hP hD hS hA [2, 3] [0, 1] rfl rfl (by decide) (by decide) ?_
      clear hP hD hS
      intro r_18 u_20 H locs w_19 hP hD hS
      replace hP : va_P D vwCl [(k4, .inl (cI, 6, .inl c4)), (k8, .inl (cI, 40, .inl c8)), (k, .inr (11, [.ref k0, .ref k1, .ref k2, .int c3, .ref k4, .ref k5, .ref k6, .ref k7, .ref k8, .int 0, .ref ka, .ref kb, .int cc, .int cd, .int ce, .int cf, .int cg, .int ch, .int ci, .int cj, .int ck, .ref kl, .int cm, .int cn, .ref ko])), (k0, .inl (cI, 1201, .inl c0))] H := hP
      replace hD : va_D A [(k4, .inl (cI, 6, .inl c4)), (k8, .inl (cI, 40, .inl c8)), (k, .inr (11, [.ref k0, .ref k1, .ref k2, .int c3, .ref k4, .ref k5, .ref k6, .ref k7, .ref k8, .int 0, .ref ka, .ref kb, .int cc, .int cd, .int ce, .int cf, .int cg, .int ch, .int ci, .int cj, .int ck, .ref kl, .int cm, .int cn, .ref ko])), (k0, .inl (cI, 1201, .inl c0))] := hD
      have h_21 := w_19
      have h_21 : r_18 = wW c0 a0 0 := h_21
      have t_22 : r_18.toInt = (wW c0 a0 0).toInt := by rw [h_21]
      have b_23 : 0 ≤ r_18.toInt ∧ r_18.toInt ≤ 5 := by rw [h_21]; exact SB.w0 pre0 (by omega) (by omega)
      have lo_r_18 := k_lo r_18
      have hi_r_18 := k_hi r_18
      refine lv_iload_n hx hb dX11_voice_37 rfl (lv_at hl 2 rfl) ?_
      refine lv_iload_n hx hb dX11_voice_38 rfl (lv_at hl 3 rfl) ?_
      refine kJi (wr := [(k4, .inl (cI, 6, .inl c4))]) (va_runV (As := [.int a0, .int r_18, .int a1, .int a2]) (rest := []) ⟨hx, hb, hml, hown, hT⟩ (c_X11_speaksR 24 l D cI aK aV k k0 k1 k2 k4 k5 k6 k7 k8 ka kb kl ko H.size c3 0 cc cd ce cf cg ch ci cj ck cm cn c0 c8 a0 r_18 a1 a2 pre0 (by first | omega | (simp only [zl_0]; first | done | omega) | decide | assumption | rfl) (by first | omega | (simp only [zl_0]; first | done | omega) | decide | assumption | rfl) (by first | omega | (simp only [zl_0]; first | done | omega) | decide | assumption | rfl) (by first | omega | (simp only [zl_0]; first | done | omega) | decide | assumption | rfl) (by first | omega | (simp only [zl_0]; first | done | omega) | decide | assumption | rfl) (by first | omega | (simp only [zl_0]; first | done | omega) | decide | assumption | rfl) (by first | omega | (simp only [zl_0]; first | done | omega) | decide | assumption | rfl) (by first | omega | (simp only [zl_0]; first | done | omega) | decide | assumption | rfl) (by first | omega | (simp only [zl_0]; first | done | omega) | decide | assumption | rfl)) (cwV 4 hT (gV_in mw_1578 mw_1575 mw_1577 mw_p6_6 mw_12) rfl rfl rfl (by decide +kernel) ⟨Nat.le_of_ble_eq_true rfl, Nat.le_of_ble_eq_true rfl⟩) (kRecvX (q0 := 2) (ci := 11) hK hP hD hN hXS hS hA rfl rfl [2, 3, 1] rfl (by decide)) rfl rfl hl.1 rfl (lv_room (Nat.le_of_ble_eq_true rfl)) dX11_voice_39 ⟨Nat.le_of_ble_eq_true rfl, Nat.le_of_ble_eq_true rfl⟩) hP hD hS hA [2, 3, 1] [0] rfl rfl (by decide) (by decide) ?_
      clear hP hD hS
      intro r_24 u_28 H locs w_25 hP hD hS
      obtain ⟨sc9_26, sc8_27⟩ := u_28
      replace hP : va_P D vwCl [(k4, .inl (cI, 6, .inl c4)), (k, .inr (11, [.ref k0, .ref k1, .ref k2, .int c3, .ref k4, .ref k5, .ref k6, .ref k7, .ref k8, .int sc9_26, .ref ka, .ref kb, .int cc, .int cd, .int ce, .int cf, .int cg, .int ch, .int ci, .int cj, .int ck, .ref kl, .int cm, .int cn, .ref ko])), (k0, .inl (cI, 1201, .inl c0)), (k8, .inl (cI, 40, .inl sc8_27))] H := hP
      replace hD : va_D A [(k4, .inl (cI, 6, .inl c4)), (k, .inr (11, [.ref k0, .ref k1, .ref k2, .int c3, .ref k4, .ref k5, .ref k6, .ref k7, .ref k8, .int sc9_26, .ref ka, .ref kb, .int cc, .int cd, .int ce, .int cf, .int cg, .int ch, .int ci, .int cj, .int ck, .ref kl, .int cm, .int cn, .ref ko])), (k0, .inl (cI, 1201, .inl c0)), (k8, .inl (cI, 40, .inl sc8_27))] := hD
      have lo_sc9_26 := k_lo sc9_26
      have hi_sc9_26 := k_hi sc9_26
      obtain ⟨h_29, h_30, h_31⟩ := w_25
      try simp only [zl_0] at h_29
      have h_29 : 0 ≤ sc9_26.toInt := h_29
      try simp only [zl_0] at h_30
      have h_30 : sc9_26.toInt ≤ 40 := h_30
      try simp only [zl_0] at h_31
      have h_31 : voB a0 (wW c0 a0 2) (wW c0 a0 0) 24 r_18 a1 a2 0 c8 = (r_24, sc9_26, sc8_27) := h_31
      have lo_r_24 := k_lo r_24
      have hi_r_24 := k_hi r_24
      exact hRet (sc9_26, c4, sc8_27) [1, 2, 0, 3] ⟨(by first | omega | decide | assumption | rfl | (dsimp only; first | omega)), (by first | omega | decide | assumption | rfl | (dsimp only; first | omega)), (Or.inl ⟨⟨by omega, by omega, by omega, by omega⟩, (by have z := h_31; rw [h_21] at z; exact z)⟩)⟩ hP hD (by decide) rfl hS rfl dX11_voice_42
    · try simp only [zl_0, zl_3] at h_16
      have h_16 : a1.toInt < 0 ∨ 3 < a1.toInt := h_16
      obtain rfl : r_11 = 0 := hr_11.trans (by decide)
      refine b_if_ne hx hb zl_0 (tgt := 24) dX11_voice_14 (by decide) (fun c_32 => by exfalso; omega) (fun c_32 => ?_)
      refine lv_aload_n hx hb dX11_voice_17 rfl (lv_at hl 0 rfl) ?_
      refine lv_ldc (v := (-1000001)) hx hb hown (hT _ mw_1239) dX11_voice_18 ?_
      refine kJi (wr := [(k8, .inl (cI, 40, .inl c8)), (k0, .inl (cI, 1201, .inl c0))]) (va_runV (As := [.int (-1000001)]) (rest := []) ⟨hx, hb, hml, hown, hT⟩ (c_X11_findingG l D cI aK aV k k0 k1 k2 k4 k5 k6 k7 k8 ka kb kl ko H.size c3 c9 cc cd ce cf cg ch ci cj ck cm cn c4 (-1000001) (by first | omega | (simp only [zl_m1000001]; first | done | omega) | decide | assumption | rfl) (by first | omega | (simp only [zl_m1000001]; first | done | omega) | decide | assumption | rfl)) (cwV 1 hT (gV_in mw_1243 mw_1240 mw_1242 mw_p3_8 mw_12) rfl rfl rfl (by decide +kernel) ⟨Nat.le_of_ble_eq_true rfl, Nat.le_of_ble_eq_true rfl⟩) (kRecvX (q0 := 2) (ci := 11) hK hP hD hN hXS hS hA rfl rfl [2, 0] rfl (by decide)) rfl rfl hl.1 rfl (lv_room (Nat.le_of_ble_eq_true rfl)) dX11_voice_20 ⟨Nat.le_of_ble_eq_true rfl, Nat.le_of_ble_eq_true rfl⟩) hP hD hS hA [2, 0] [1, 3] rfl rfl (by decide) (by decide) ?_
      clear hP hD hS
      intro r_33 sc4_35 H locs w_34 hP hD hS
      replace hP : va_P D vwCl [(k8, .inl (cI, 40, .inl c8)), (k0, .inl (cI, 1201, .inl c0)), (k, .inr (11, [.ref k0, .ref k1, .ref k2, .int c3, .ref k4, .ref k5, .ref k6, .ref k7, .ref k8, .int c9, .ref ka, .ref kb, .int cc, .int cd, .int ce, .int cf, .int cg, .int ch, .int ci, .int cj, .int ck, .ref kl, .int cm, .int cn, .ref ko])), (k4, .inl (cI, 6, .inl sc4_35))] H := hP
      replace hD : va_D A [(k8, .inl (cI, 40, .inl c8)), (k0, .inl (cI, 1201, .inl c0)), (k, .inr (11, [.ref k0, .ref k1, .ref k2, .int c3, .ref k4, .ref k5, .ref k6, .ref k7, .ref k8, .int c9, .ref ka, .ref kb, .int cc, .int cd, .int ce, .int cf, .int cg, .int ch, .int ci, .int cj, .int ck, .ref kl, .int cm, .int cn, .ref ko])), (k4, .inl (cI, 6, .inl sc4_35))] := hD
      have hr_33 := w_34
      obtain rfl : r_33 = (-1000001) := hr_33.trans (by decide)
      exact hRet (c9, sc4_35, c8) [2, 1, 3, 0] ⟨(by first | omega | (simp only [zl_m1000001]; first | done | omega) | decide | assumption | rfl | (dsimp only; first | omega | (simp only [zl_m1000001]; first | done | omega))), (by first | omega | (simp only [zl_m1000001]; first | done | omega) | decide | assumption | rfl | (dsimp only; first | omega | (simp only [zl_m1000001]; first | done | omega))), (Or.inr ⟨(fun z => by omega), rfl, rfl, rfl⟩)⟩ hP hD (by decide) rfl hS rfl dX11_voice_23
  · have h_9 : a0.toInt < 0 ∨ (c0 1).toInt ≤ a0.toInt := h_9
    obtain rfl : r_4 = 0 := hr_4.trans (by decide)
    refine b_if_eq hx hb zl_0 (tgt := 17) dX11_voice_5 (by decide) (fun c_36 => ?_) (fun c_36 => by exfalso; omega)
    refine lv_aload_n hx hb dX11_voice_17 rfl (lv_at hl 0 rfl) ?_
    refine lv_ldc (v := (-1000001)) hx hb hown (hT _ mw_1239) dX11_voice_18 ?_
    refine kJi (wr := [(k8, .inl (cI, 40, .inl c8)), (k0, .inl (cI, 1201, .inl c0))]) (va_runV (As := [.int (-1000001)]) (rest := []) ⟨hx, hb, hml, hown, hT⟩ (c_X11_findingG l D cI aK aV k k0 k1 k2 k4 k5 k6 k7 k8 ka kb kl ko H.size c3 c9 cc cd ce cf cg ch ci cj ck cm cn c4 (-1000001) (by first | omega | (simp only [zl_m1000001]; first | done | omega) | decide | assumption | rfl) (by first | omega | (simp only [zl_m1000001]; first | done | omega) | decide | assumption | rfl)) (cwV 1 hT (gV_in mw_1243 mw_1240 mw_1242 mw_p3_8 mw_12) rfl rfl rfl (by decide +kernel) ⟨Nat.le_of_ble_eq_true rfl, Nat.le_of_ble_eq_true rfl⟩) (kRecvX (q0 := 2) (ci := 11) hK hP hD hN hXS hS hA rfl rfl [2, 0] rfl (by decide)) rfl rfl hl.1 rfl (lv_room (Nat.le_of_ble_eq_true rfl)) dX11_voice_20 ⟨Nat.le_of_ble_eq_true rfl, Nat.le_of_ble_eq_true rfl⟩) hP hD hS hA [2, 0] [1, 3] rfl rfl (by decide) (by decide) ?_
    clear hP hD hS
    intro r_37 sc4_39 H locs w_38 hP hD hS
    replace hP : va_P D vwCl [(k8, .inl (cI, 40, .inl c8)), (k0, .inl (cI, 1201, .inl c0)), (k, .inr (11, [.ref k0, .ref k1, .ref k2, .int c3, .ref k4, .ref k5, .ref k6, .ref k7, .ref k8, .int c9, .ref ka, .ref kb, .int cc, .int cd, .int ce, .int cf, .int cg, .int ch, .int ci, .int cj, .int ck, .ref kl, .int cm, .int cn, .ref ko])), (k4, .inl (cI, 6, .inl sc4_39))] H := hP
    replace hD : va_D A [(k8, .inl (cI, 40, .inl c8)), (k0, .inl (cI, 1201, .inl c0)), (k, .inr (11, [.ref k0, .ref k1, .ref k2, .int c3, .ref k4, .ref k5, .ref k6, .ref k7, .ref k8, .int c9, .ref ka, .ref kb, .int cc, .int cd, .int ce, .int cf, .int cg, .int ch, .int ci, .int cj, .int ck, .ref kl, .int cm, .int cn, .ref ko])), (k4, .inl (cI, 6, .inl sc4_39))] := hD
    have hr_37 := w_38
    obtain rfl : r_37 = (-1000001) := hr_37.trans (by decide)
    exact hRet (c9, sc4_39, c8) [2, 1, 3, 0] ⟨(by first | omega | (simp only [zl_m1000001]; first | done | omega) | decide | assumption | rfl | (dsimp only; first | omega | (simp only [zl_m1000001]; first | done | omega))), (by first | omega | (simp only [zl_m1000001]; first | done | omega) | decide | assumption | rfl | (dsimp only; first | omega | (simp only [zl_m1000001]; first | done | omega))), (Or.inr ⟨(fun z => by omega), rfl, rfl, rfl⟩)⟩ hP hD (by decide) rfl hS rfl dX11_voice_23
