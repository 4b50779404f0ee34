
set_option maxHeartbeats 4000000 in
set_option maxRecDepth 100000 in
theorem c_X11_testG2 (l : Launch) (D : va_G) (cI : ClassId) (aK aV : Nat → Nat) (k k0 k1 k2 k4 k5 k6 k7 k8 ka kb kl ko : Nat) (sz : Nat) (c3 : Int32) (c9 : Int32) (cc : Int32) (cd : Int32) (ce : Int32) (cf : Int32) (cg : Int32) (ch : Int32) (ci : Int32) (cj : Int32) (ck : Int32) (cm : Int32) (cn : Int32) (c0 : Nat → Int32) (pre0 : 0 ≤ cc.toInt) (pre1 : cc.toInt ≤ 1151) (pre2 : 0 ≤ cd.toInt) (pre3 : cd.toInt ≤ ce.toInt) (pre4 : ce.toInt ≤ 50) (pre5 : cg.toInt = 2) : Met l yX11_test (gW yX11_test cX11_test 4 (some .int)) ({ frames := 16, cells := 0, slots := 0, locals := 363 } : Room) (kPreX D cI aK aV [.ref k] [(k, .inr (11, [.ref k0, .ref k1, .ref k2, .int c3, .ref k4, .ref k5, .ref k6, .ref k7, .ref k8, .int c9, .ref ka, .ref kb, .int cc, .int cd, .int ce, .int cf, .int cg, .int ch, .int ci, .int cj, .int ck, .ref kl, .int cm, .int cn, .ref ko])), (k0, .inl (cI, 1201, .inl c0))] sz) (va_Qi (fun (r : Int32) (u : Int32 × Int32 × Int32) => cd.toInt ≤ u.1.toInt ∧ u.1.toInt ≤ ce.toInt ∧ u.2.2.toInt = 2) (fun u t => kWd D cI (va_A [(k, .inr (11, [.ref k0, .ref k1, .ref k2, .int c3, .ref k4, .ref k5, .ref k6, .ref k7, .ref k8, .int c9, .ref ka, .ref kb, .int cc, .int cd, .int ce, .int cf, .int cg, .int ch, .int ci, .int cj, .int ck, .ref kl, .int cm, .int cn, .ref ko])), (k0, .inl (cI, 1201, .inl c0))] sz) [(k, .inr (11, [.ref k0, .ref k1, .ref k2, .int c3, .ref k4, .ref k5, .ref k6, .ref k7, .ref k8, .int c9, .ref ka, .ref kb, .int cc, .int u.1, .int ce, .int u.2.1, .int u.2.2, .int ch, .int ci, .int cj, .int ck, .ref kl, .int cm, .int cn, .ref ko])), (k0, .inl (cI, 1201, .inl c0))] t) (va_A [(k, .inr (11, [.ref k0, .ref k1, .ref k2, .int c3, .ref k4, .ref k5, .ref k6, .ref k7, .ref k8, .int c9, .ref ka, .ref kb, .int cc, .int cd, .int ce, .int cf, .int cg, .int ch, .int ci, .int cj, .int ck, .ref kl, .int cm, .int cn, .ref ko])), (k0, .inl (cI, 1201, .inl c0))] sz)) 0 0 (va_A [(k, .inr (11, [.ref k0, .ref k1, .ref k2, .int c3, .ref k4, .ref k5, .ref k6, .ref k7, .ref k8, .int c9, .ref ka, .ref kb, .int cc, .int cd, .int ce, .int cf, .int cg, .int ch, .int ci, .int cj, .int ck, .ref kl, .int cm, .int cn, .ref ko])), (k0, .inl (cI, 1201, .inl c0))] sz) := by
  refine kMetIX (own := RX11) (by decide) rfl (Nat.le_of_ble_eq_true rfl) ?_
  intro p e s m args below meth c hx hb hT hown hname hml A Q hK hP hD hS hA hN hXS hRet ls hl
  have hl : lv_has ls 4 [(0, .ref k)] := hl
  have lo_cd := k_lo cd
  have hi_cd := k_hi cd
  have lo_ce := k_lo ce
  have hi_ce := k_hi ce
  have lo_ci := k_lo ci
  have hi_ci := k_hi ci
  refine lv_aload_n hx hb dX11_test_0 rfl (lv_at hl 0 rfl) ?_
  refine kJi (wr := []) (va_runV (As := []) (rest := []) ⟨hx, hb, hml, hown, hT⟩ (c_X11_sumG2 l D cI aK aV k k0 k1 k2 k4 k5 k6 k7 k8 ka kb kl ko s.heap.size c3 c9 cc cd ce cf cg ch ci cj ck cm cn c0 (by first | omega | decide | assumption | rfl) (by first | omega | decide | assumption | rfl) (by first | omega | decide | assumption | rfl) (by first | omega | decide | assumption | rfl) (by first | omega | decide | assumption | rfl) (by first | omega | decide | assumption | rfl)) (cwV 0 hT (gV_in mw_1327 mw_1324 mw_1326 mw_p4_6 mw_12) rfl rfl rfl (by decide +kernel) ⟨Nat.le_of_ble_eq_true rfl, Nat.le_of_ble_eq_true rfl⟩) (kRecvX (q0 := 0) (ci := 11) hK hP hD hN hXS hS hA rfl rfl [0, 1] rfl (by decide)) rfl rfl hl.1 rfl (lv_room (Nat.le_of_ble_eq_true rfl)) dX11_test_1 ⟨Nat.le_of_ble_eq_true rfl, Nat.le_of_ble_eq_true rfl⟩) hP hD hS hA [0, 1] [] rfl rfl (by decide) (by decide) ?_
  clear hP hD hS
  intro r_1 u_6 H locs w_2 hP hD hS
  obtain ⟨scd_3, scf_4, scg_5⟩ := u_6
  replace hP : va_P D vwCl [(k, .inr (11, [.ref k0, .ref k1, .ref k2, .int c3, .ref k4, .ref k5, .ref k6, .ref k7, .ref k8, .int c9, .ref ka, .ref kb, .int cc, .int scd_3, .int ce, .int scf_4, .int scg_5, .int ch, .int ci, .int cj, .int ck, .ref kl, .int cm, .int cn, .ref ko])), (k0, .inl (cI, 1201, .inl c0))] H := hP
  replace hD : va_D A [(k, .inr (11, [.ref k0, .ref k1, .ref k2, .int c3, .ref k4, .ref k5, .ref k6, .ref k7, .ref k8, .int c9, .ref ka, .ref kb, .int cc, .int scd_3, .int ce, .int scf_4, .int scg_5, .int ch, .int ci, .int cj, .int ck, .ref kl, .int cm, .int cn, .ref ko])), (k0, .inl (cI, 1201, .inl c0))] := hD
  have lo_scd_3 := k_lo scd_3
  have hi_scd_3 := k_hi scd_3
  have lo_scf_4 := k_lo scf_4
  have hi_scf_4 := k_hi scf_4
  have lo_scg_5 := k_lo scg_5
  have hi_scg_5 := k_hi scg_5
  obtain ⟨h_7, h_8, h_9⟩ := w_2
  have h_7 : cd.toInt ≤ scd_3.toInt := h_7
  have h_8 : scd_3.toInt ≤ ce.toInt := h_8
  have h_9 : scg_5.toInt = 2 := h_9
  have lo_r_1 := k_lo r_1
  have hi_r_1 := k_hi r_1
  refine lv_istore_n (lv' := [(1, .int r_1), (0, .ref k)]) hx hb dX11_test_4 rfl hl (by decide) rfl ?_
  clear hl
  intro ls hl
  refine lv_aload_n hx hb dX11_test_5 rfl (lv_at hl 1 rfl) ?_
  refine kJi (wr := []) (va_runV (As := []) (rest := []) ⟨hx, hb, hml, hown, hT⟩ (c_X11_nowG l D cI aK aV k k0 k1 k2 k4 k5 k6 k7 k8 ka kb kl ko H.size c3 c9 cc scd_3 ce scf_4 scg_5 ch ci cj ck cm cn c0 (by first | omega | decide | assumption | rfl) (by first | omega | decide | assumption | rfl) (by first | omega | decide | assumption | rfl) (by first | omega | decide | assumption | rfl) (by first | omega | decide | assumption | rfl)) (cwV 0 hT (gV_in mw_1339 mw_1336 mw_1338 mw_p4_9 mw_12) rfl rfl rfl (by decide +kernel) ⟨Nat.le_of_ble_eq_true rfl, Nat.le_of_ble_eq_true rfl⟩) (kRecvX (q0 := 0) (ci := 11) hK hP hD hN hXS hS hA rfl rfl [0, 1] rfl (by decide)) rfl rfl hl.1 rfl (lv_room (Nat.le_of_ble_eq_true rfl)) dX11_test_6 ⟨Nat.le_of_ble_eq_true rfl, Nat.le_of_ble_eq_true rfl⟩) hP hD hS hA [0, 1] [] rfl rfl (by decide) (by decide) ?_
  clear hP hD hS
  intro r_10 u_12 H locs w_11 hP hD hS
  replace hP : va_P D vwCl [(k, .inr (11, [.ref k0, .ref k1, .ref k2, .int c3, .ref k4, .ref k5, .ref k6, .ref k7, .ref k8, .int c9, .ref ka, .ref kb, .int cc, .int scd_3, .int ce, .int scf_4, .int scg_5, .int ch, .int ci, .int cj, .int ck, .ref kl, .int cm, .int cn, .ref ko])), (k0, .inl (cI, 1201, .inl c0))] H := hP
  replace hD : va_D A [(k, .inr (11, [.ref k0, .ref k1, .ref k2, .int c3, .ref k4, .ref k5, .ref k6, .ref k7, .ref k8, .int c9, .ref ka, .ref kb, .int cc, .int scd_3, .int ce, .int scf_4, .int scg_5, .int ch, .int ci, .int cj, .int ck, .ref kl, .int cm, .int cn, .ref ko])), (k0, .inl (cI, 1201, .inl c0))] := hD
  rcases w_11 with h_13 | ⟨hr_10, h_14⟩
  · have h_13 : scd_3.toInt < ce.toInt := h_13
    have lo_r_10 := k_lo r_10
    have hi_r_10 := k_hi r_10
    refine lv_istore_n (lv' := [(2, .int r_10), (1, .int r_1), (0, .ref k)]) hx hb dX11_test_9 rfl hl (by decide) rfl ?_
    clear hl
    intro ls hl
    refine lv_aload_n hx hb dX11_test_10 rfl (lv_at hl 2 rfl) ?_
    refine va_get (D := D) (ci := 11) (v := .int scf_4) (C := RX11) (T := TX11) (N := 25) hx hb hT giX11 hown hK hP 0 rfl rfl 15 (by decide) (hT (Cond.fieldLink RX11 148 "DesertWireModel" "isWrong" "Z") mw_1171) (fun _ h9 => h9) rfl dX11_test_11 ?_
    refine b_if_ne hx hb rfl (tgt := 35) dX11_test_14 (by decide) (fun c_15 => ?_) (fun c_15 => ?_)
    · refine lv_iload_n hx hb dX11_test_35 rfl (lv_at hl 1 rfl) ?_
      exact hRet (scd_3, scf_4, scg_5) [0, 1] ⟨(by first | omega | decide | assumption | rfl | (dsimp only; first | omega)), (by first | omega | decide | assumption | rfl | (dsimp only; first | omega)), (by first | omega | decide | assumption | rfl | (dsimp only; first | omega))⟩ hP hD (by decide) rfl hS rfl dX11_test_36
    · refine lv_iload_n hx hb dX11_test_17 rfl (lv_at hl 0 rfl) ?_
      refine lv_bipush (v := 60) hx hb dX11_test_18 (by decide) ?_
      refine b_icmp_eq hx hb rfl zl_60 (tgt := 37) dX11_test_20 (by decide) (fun c_16 => ?_) (fun c_16 => ?_)
      · refine lv_aload_n hx hb dX11_test_37 rfl (lv_at hl 2 rfl) ?_
        refine lv_dup hx hb dX11_test_38 rfl ?_
        refine va_get (D := D) (ci := 11) (v := .int scd_3) (C := RX11) (T := TX11) (N := 25) hx hb hT giX11 hown hK hP 0 rfl rfl 13 (by decide) (hT (Cond.fieldLink RX11 138 "DesertWireModel" "here" "I") mw_1169) (fun _ h9 => h9) rfl dX11_test_39 ?_
        refine lv_iconst (v := 1) hx hb dX11_test_42 (by decide) ?_
        refine lv_iadd hx hb dX11_test_43 ?_
        refine lv_topi (fun v_17 ev_17 => ?_)
        have tv_17 : v_17.toInt = scd_3.toInt + 1 := by rw [ev_17]; exact k_addv rfl zl_1 (by omega) (by omega)
        refine va_put (D := D) (ci := 11) (v := .int v_17) (ty := .int) (C := RX11) (T := TX11) (N := 25) hx hb hT giX11 tyX11 tyX11_ok nmX11 hown hK hP hD hS 0 rfl rfl 13 (by decide) (hT (Cond.fieldLink RX11 138 "DesertWireModel" "here" "I") mw_1169) (fun _ h9 => h9) rfl (by decide +kernel) rfl rfl (Nat.le_of_ble_eq_true rfl) dX11_test_44 ?_
        clear hP hD hS
        intro H locs hP hD hS
        replace hP : va_P D vwCl [(k, .inr (11, [.ref k0, .ref k1, .ref k2, .int c3, .ref k4, .ref k5, .ref k6, .ref k7, .ref k8, .int c9, .ref ka, .ref kb, .int cc, .int v_17, .int ce, .int scf_4, .int scg_5, .int ch, .int ci, .int cj, .int ck, .ref kl, .int cm, .int cn, .ref ko])), (k0, .inl (cI, 1201, .inl c0))] H := hP
        replace hD : va_D A [(k, .inr (11, [.ref k0, .ref k1, .ref k2, .int c3, .ref k4, .ref k5, .ref k6, .ref k7, .ref k8, .int c9, .ref ka, .ref kb, .int cc, .int v_17, .int ce, .int scf_4, .int scg_5, .int ch, .int ci, .int cj, .int ck, .ref kl, .int cm, .int cn, .ref ko])), (k0, .inl (cI, 1201, .inl c0))] := hD
        refine lv_aload_n hx hb dX11_test_47 rfl (lv_at hl 2 rfl) ?_
        refine kJi (wr := []) (va_runV (As := []) (rest := []) ⟨hx, hb, hml, hown, hT⟩ (c_X11_sumG2 l D cI aK aV k k0 k1 k2 k4 k5 k6 k7 k8 ka kb kl ko H.size c3 c9 cc v_17 ce scf_4 scg_5 ch ci cj ck cm cn c0 (by first | omega | decide | assumption | rfl) (by first | omega | decide | assumption | rfl) (by first | omega | decide | assumption | rfl) (by first | omega | decide | assumption | rfl) (by first | omega | decide | assumption | rfl) (by first | omega | decide | assumption | rfl)) (cwV 0 hT (gV_in mw_1327 mw_1324 mw_1326 mw_p4_6 mw_12) rfl rfl rfl (by decide +kernel) ⟨Nat.le_of_ble_eq_true rfl, Nat.le_of_ble_eq_true rfl⟩) (kRecvX (q0 := 0) (ci := 11) hK hP hD hN hXS hS hA rfl rfl [0, 1] rfl (by decide)) rfl rfl hl.1 rfl (lv_room (Nat.le_of_ble_eq_true rfl)) dX11_test_48 ⟨Nat.le_of_ble_eq_true rfl, Nat.le_of_ble_eq_true rfl⟩) hP hD hS hA [0, 1] [] rfl rfl (by decide) (by decide) ?_
        clear hP hD hS
        intro r_18 u_23 H locs w_19 hP hD hS
        obtain ⟨scd_20, scf_21, scg_22⟩ := u_23
        replace hP : va_P D vwCl [(k, .inr (11, [.ref k0, .ref k1, .ref k2, .int c3, .ref k4, .ref k5, .ref k6, .ref k7, .ref k8, .int c9, .ref ka, .ref kb, .int cc, .int scd_20, .int ce, .int scf_21, .int scg_22, .int ch, .int ci, .int cj, .int ck, .ref kl, .int cm, .int cn, .ref ko])), (k0, .inl (cI, 1201, .inl c0))] H := hP
        replace hD : va_D A [(k, .inr (11, [.ref k0, .ref k1, .ref k2, .int c3, .ref k4, .ref k5, .ref k6, .ref k7, .ref k8, .int c9, .ref ka, .ref kb, .int cc, .int scd_20, .int ce, .int scf_21, .int scg_22, .int ch, .int ci, .int cj, .int ck, .ref kl, .int cm, .int cn, .ref ko])), (k0, .inl (cI, 1201, .inl c0))] := hD
        have lo_scd_20 := k_lo scd_20
        have hi_scd_20 := k_hi scd_20
        have lo_scg_22 := k_lo scg_22
        have hi_scg_22 := k_hi scg_22
        obtain ⟨h_24, h_25, h_26⟩ := w_19
        have h_24 : v_17.toInt ≤ scd_20.toInt := h_24
        have h_25 : scd_20.toInt ≤ ce.toInt := h_25
        have h_26 : scg_22.toInt = 2 := h_26
        have lo_r_18 := k_lo r_18
        have hi_r_18 := k_hi r_18
        refine lv_istore_n (lv' := [(3, .int r_18), (2, .int r_10), (1, .int r_1), (0, .ref k)]) hx hb dX11_test_51 rfl hl (by decide) rfl ?_
        clear hl
        intro ls hl
        refine lv_iload_n hx hb dX11_test_52 rfl (lv_at hl 1 rfl) ?_
        refine lv_bipush (v := 60) hx hb dX11_test_53 (by decide) ?_
        refine b_icmp_ne hx hb rfl zl_60 (tgt := 66) dX11_test_55 (by decide) (fun c_27 => by exfalso; omega) (fun c_27 => ?_)
        refine lv_iload_n hx hb dX11_test_58 rfl (lv_at hl 2 rfl) ?_
        refine lv_iload_n hx hb dX11_test_59 rfl (lv_at hl 0 rfl) ?_
        refine b_icmp_ge hx hb rfl rfl (tgt := 89) dX11_test_60 (by decide) (fun c_28 => ?_) (fun c_28 => ?_)
        · refine lv_iconst (v := 0) hx hb dX11_test_89 (by decide) ?_
          exact hRet (scd_20, scf_21, scg_22) [0, 1] ⟨(by first | omega | (simp only [zl_0] <;> omega) | decide | assumption | rfl | (dsimp only; first | omega | (simp only [zl_0] <;> omega))), (by first | omega | (simp only [zl_0] <;> omega) | decide | assumption | rfl | (dsimp only; first | omega | (simp only [zl_0] <;> omega))), (by first | omega | (simp only [zl_0] <;> omega) | decide | assumption | rfl | (dsimp only; first | omega | (simp only [zl_0] <;> omega)))⟩ hP hD (by decide) rfl hS rfl dX11_test_90
        · refine lv_goto (tgt := 85) hx hb dX11_test_63 (by decide) ?_
          refine lv_iconst (v := 1) hx hb dX11_test_85 (by decide) ?_
          refine lv_goto (tgt := 90) hx hb dX11_test_86 (by decide) ?_
          exact hRet (scd_20, scf_21, scg_22) [0, 1] ⟨(by first | omega | (simp only [zl_1] <;> omega) | decide | assumption | rfl | (dsimp only; first | omega | (simp only [zl_1] <;> omega))), (by first | omega | (simp only [zl_1] <;> omega) | decide | assumption | rfl | (dsimp only; first | omega | (simp only [zl_1] <;> omega))), (by first | omega | (simp only [zl_1] <;> omega) | decide | assumption | rfl | (dsimp only; first | omega | (simp only [zl_1] <;> omega)))⟩ hP hD (by decide) rfl hS rfl dX11_test_90
      · refine lv_iload_n hx hb dX11_test_23 rfl (lv_at hl 0 rfl) ?_
        refine lv_bipush (v := 61) hx hb dX11_test_24 (by decide) ?_
        refine b_icmp_eq hx hb rfl zl_61 (tgt := 37) dX11_test_26 (by decide) (fun c_29 => ?_) (fun c_29 => ?_)
        · refine lv_aload_n hx hb dX11_test_37 rfl (lv_at hl 2 rfl) ?_
          refine lv_dup hx hb dX11_test_38 rfl ?_
          refine va_get (D := D) (ci := 11) (v := .int scd_3) (C := RX11) (T := TX11) (N := 25) hx hb hT giX11 hown hK hP 0 rfl rfl 13 (by decide) (hT (Cond.fieldLink RX11 138 "DesertWireModel" "here" "I") mw_1169) (fun _ h9 => h9) rfl dX11_test_39 ?_
          refine lv_iconst (v := 1) hx hb dX11_test_42 (by decide) ?_
          refine lv_iadd hx hb dX11_test_43 ?_
          refine lv_topi (fun v_30 ev_30 => ?_)
          have tv_30 : v_30.toInt = scd_3.toInt + 1 := by rw [ev_30]; exact k_addv rfl zl_1 (by omega) (by omega)
          refine va_put (D := D) (ci := 11) (v := .int v_30) (ty := .int) (C := RX11) (T := TX11) (N := 25) hx hb hT giX11 tyX11 tyX11_ok nmX11 hown hK hP hD hS 0 rfl rfl 13 (by decide) (hT (Cond.fieldLink RX11 138 "DesertWireModel" "here" "I") mw_1169) (fun _ h9 => h9) rfl (by decide +kernel) rfl rfl (Nat.le_of_ble_eq_true rfl) dX11_test_44 ?_
          clear hP hD hS
          intro H locs hP hD hS
          replace hP : va_P D vwCl [(k, .inr (11, [.ref k0, .ref k1, .ref k2, .int c3, .ref k4, .ref k5, .ref k6, .ref k7, .ref k8, .int c9, .ref ka, .ref kb, .int cc, .int v_30, .int ce, .int scf_4, .int scg_5, .int ch, .int ci, .int cj, .int ck, .ref kl, .int cm, .int cn, .ref ko])), (k0, .inl (cI, 1201, .inl c0))] H := hP
          replace hD : va_D A [(k, .inr (11, [.ref k0, .ref k1, .ref k2, .int c3, .ref k4, .ref k5, .ref k6, .ref k7, .ref k8, .int c9, .ref ka, .ref kb, .int cc, .int v_30, .int ce, .int scf_4, .int scg_5, .int ch, .int ci, .int cj, .int ck, .ref kl, .int cm, .int cn, .ref ko])), (k0, .inl (cI, 1201, .inl c0))] := hD
          refine lv_aload_n hx hb dX11_test_47 rfl (lv_at hl 2 rfl) ?_
          refine kJi (wr := []) (va_runV (As := []) (rest := []) ⟨hx, hb, hml, hown, hT⟩ (c_X11_sumG2 l D cI aK aV k k0 k1 k2 k4 k5 k6 k7 k8 ka kb kl ko H.size c3 c9 cc v_30 ce scf_4 scg_5 ch ci cj ck cm cn c0 (by first | omega | decide | assumption | rfl) (by first | omega | decide | assumption | rfl) (by first | omega | decide | assumption | rfl) (by first | omega | decide | assumption | rfl) (by first | omega | decide | assumption | rfl) (by first | omega | decide | assumption | rfl)) (cwV 0 hT (gV_in mw_1327 mw_1324 mw_1326 mw_p4_6 mw_12) rfl rfl rfl (by decide +kernel) ⟨Nat.le_of_ble_eq_true rfl, Nat.le_of_ble_eq_true rfl⟩) (kRecvX (q0 := 0) (ci := 11) hK hP hD hN hXS hS hA rfl rfl [0, 1] rfl (by decide)) rfl rfl hl.1 rfl (lv_room (Nat.le_of_ble_eq_true rfl)) dX11_test_48 ⟨Nat.le_of_ble_eq_true rfl, Nat.le_of_ble_eq_true rfl⟩) hP hD hS hA [0, 1] [] rfl rfl (by decide) (by decide) ?_
          clear hP hD hS
          intro r_31 u_36 H locs w_32 hP hD hS
          obtain ⟨scd_33, scf_34, scg_35⟩ := u_36
          replace hP : va_P D vwCl [(k, .inr (11, [.ref k0, .ref k1, .ref k2, .int c3, .ref k4, .ref k5, .ref k6, .ref k7, .ref k8, .int c9, .ref ka, .ref kb, .int cc, .int scd_33, .int ce, .int scf_34, .int scg_35, .int ch, .int ci, .int cj, .int ck, .ref kl, .int cm, .int cn, .ref ko])), (k0, .inl (cI, 1201, .inl c0))] H := hP
          replace hD : va_D A [(k, .inr (11, [.ref k0, .ref k1, .ref k2, .int c3, .ref k4, .ref k5, .ref k6, .ref k7, .ref k8, .int c9, .ref ka, .ref kb, .int cc, .int scd_33, .int ce, .int scf_34, .int scg_35, .int ch, .int ci, .int cj, .int ck, .ref kl, .int cm, .int cn, .ref ko])), (k0, .inl (cI, 1201, .inl c0))] := hD
          have lo_scd_33 := k_lo scd_33
          have hi_scd_33 := k_hi scd_33
          have lo_scg_35 := k_lo scg_35
          have hi_scg_35 := k_hi scg_35
          obtain ⟨h_37, h_38, h_39⟩ := w_32
          have h_37 : v_30.toInt ≤ scd_33.toInt := h_37
          have h_38 : scd_33.toInt ≤ ce.toInt := h_38
          have h_39 : scg_35.toInt = 2 := h_39
          have lo_r_31 := k_lo r_31
          have hi_r_31 := k_hi r_31
          refine lv_istore_n (lv' := [(3, .int r_31), (2, .int r_10), (1, .int r_1), (0, .ref k)]) hx hb dX11_test_51 rfl hl (by decide) rfl ?_
          clear hl
          intro ls hl
          refine lv_iload_n hx hb dX11_test_52 rfl (lv_at hl 1 rfl) ?_
          refine lv_bipush (v := 60) hx hb dX11_test_53 (by decide) ?_
          refine b_icmp_ne hx hb rfl zl_60 (tgt := 66) dX11_test_55 (by decide) (fun c_40 => ?_) (fun c_40 => by exfalso; omega)
          refine lv_iload_n hx hb dX11_test_66 rfl (lv_at hl 1 rfl) ?_
          refine lv_bipush (v := 62) hx hb dX11_test_67 (by decide) ?_
          refine b_icmp_ne hx hb rfl zl_62 (tgt := 80) dX11_test_69 (by decide) (fun c_41 => ?_) (fun c_41 => by exfalso; omega)
          refine lv_iload_n hx hb dX11_test_80 rfl (lv_at hl 2 rfl) ?_
          refine lv_iload_n hx hb dX11_test_81 rfl (lv_at hl 0 rfl) ?_
          refine b_icmp_ne hx hb rfl rfl (tgt := 89) dX11_test_82 (by decide) (fun c_42 => ?_) (fun c_42 => ?_)
          · refine lv_iconst (v := 0) hx hb dX11_test_89 (by decide) ?_
            exact hRet (scd_33, scf_34, scg_35) [0, 1] ⟨(by first | omega | (simp only [zl_0] <;> omega) | decide | assumption | rfl | (dsimp only; first | omega | (simp only [zl_0] <;> omega))), (by first | omega | (simp only [zl_0] <;> omega) | decide | assumption | rfl | (dsimp only; first | omega | (simp only [zl_0] <;> omega))), (by first | omega | (simp only [zl_0] <;> omega) | decide | assumption | rfl | (dsimp only; first | omega | (simp only [zl_0] <;> omega)))⟩ hP hD (by decide) rfl hS rfl dX11_test_90
          · refine lv_iconst (v := 1) hx hb dX11_test_85 (by decide) ?_
            refine lv_goto (tgt := 90) hx hb dX11_test_86 (by decide) ?_
            exact hRet (scd_33, scf_34, scg_35) [0, 1] ⟨(by first | omega | (simp only [zl_1] <;> omega) | decide | assumption | rfl | (dsimp only; first | omega | (simp only [zl_1] <;> omega))), (by first | omega | (simp only [zl_1] <;> omega) | decide | assumption | rfl | (dsimp only; first | omega | (simp only [zl_1] <;> omega))), (by first | omega | (simp only [zl_1] <;> omega) | decide | assumption | rfl | (dsimp only; first | omega | (simp only [zl_1] <;> omega)))⟩ hP hD (by decide) rfl hS rfl dX11_test_90
        · refine lv_iload_n hx hb dX11_test_29 rfl (lv_at hl 0 rfl) ?_
          refine lv_bipush (v := 62) hx hb dX11_test_30 (by decide) ?_
          refine b_icmp_eq hx hb rfl zl_62 (tgt := 37) dX11_test_32 (by decide) (fun c_43 => ?_) (fun c_43 => ?_)
          · refine lv_aload_n hx hb dX11_test_37 rfl (lv_at hl 2 rfl) ?_
            refine lv_dup hx hb dX11_test_38 rfl ?_
            refine va_get (D := D) (ci := 11) (v := .int scd_3) (C := RX11) (T := TX11) (N := 25) hx hb hT giX11 hown hK hP 0 rfl rfl 13 (by decide) (hT (Cond.fieldLink RX11 138 "DesertWireModel" "here" "I") mw_1169) (fun _ h9 => h9) rfl dX11_test_39 ?_
            refine lv_iconst (v := 1) hx hb dX11_test_42 (by decide) ?_
            refine lv_iadd hx hb dX11_test_43 ?_
            refine lv_topi (fun v_44 ev_44 => ?_)
            have tv_44 : v_44.toInt = scd_3.toInt + 1 := by rw [ev_44]; exact k_addv rfl zl_1 (by omega) (by omega)
            refine va_put (D := D) (ci := 11) (v := .int v_44) (ty := .int) (C := RX11) (T := TX11) (N := 25) hx hb hT giX11 tyX11 tyX11_ok nmX11 hown hK hP hD hS 0 rfl rfl 13 (by decide) (hT (Cond.fieldLink RX11 138 "DesertWireModel" "here" "I") mw_1169) (fun _ h9 => h9) rfl (by decide +kernel) rfl rfl (Nat.le_of_ble_eq_true rfl) dX11_test_44 ?_
            clear hP hD hS
            intro H locs hP hD hS
            replace hP : va_P D vwCl [(k, .inr (11, [.ref k0, .ref k1, .ref k2, .int c3, .ref k4, .ref k5, .ref k6, .ref k7, .ref k8, .int c9, .ref ka, .ref kb, .int cc, .int v_44, .int ce, .int scf_4, .int scg_5, .int ch, .int ci, .int cj, .int ck, .ref kl, .int cm, .int cn, .ref ko])), (k0, .inl (cI, 1201, .inl c0))] H := hP
            replace hD : va_D A [(k, .inr (11, [.ref k0, .ref k1, .ref k2, .int c3, .ref k4, .ref k5, .ref k6, .ref k7, .ref k8, .int c9, .ref ka, .ref kb, .int cc, .int v_44, .int ce, .int scf_4, .int scg_5, .int ch, .int ci, .int cj, .int ck, .ref kl, .int cm, .int cn, .ref ko])), (k0, .inl (cI, 1201, .inl c0))] := hD
            refine lv_aload_n hx hb dX11_test_47 rfl (lv_at hl 2 rfl) ?_
            refine kJi (wr := []) (va_runV (As := []) (rest := []) ⟨hx, hb, hml, hown, hT⟩ (c_X11_sumG2 l D cI aK aV k k0 k1 k2 k4 k5 k6 k7 k8 ka kb kl ko H.size c3 c9 cc v_44 ce scf_4 scg_5 ch ci cj ck cm cn c0 (by first | omega | decide | assumption | rfl) (by first | omega | decide | assumption | rfl) (by first | omega | decide | assumption | rfl) (by first | omega | decide | assumption | rfl) (by first | omega | decide | assumption | rfl) (by first | omega | decide | assumption | rfl)) (cwV 0 hT (gV_in mw_1327 mw_1324 mw_1326 mw_p4_6 mw_12) rfl rfl rfl (by decide +kernel) ⟨Nat.le_of_ble_eq_true rfl, Nat.le_of_ble_eq_true rfl⟩) (kRecvX (q0 := 0) (ci := 11) hK hP hD hN hXS hS hA rfl rfl [0, 1] rfl (by decide)) rfl rfl hl.1 rfl (lv_room (Nat.le_of_ble_eq_true rfl)) dX11_test_48 ⟨Nat.le_of_ble_eq_true rfl, Nat.le_of_ble_eq_true rfl⟩) hP hD hS hA [0, 1] [] rfl rfl (by decide) (by decide) ?_
            clear hP hD hS
            intro r_45 u_50 H locs w_46 hP hD hS
            obtain ⟨scd_47, scf_48, scg_49⟩ := u_50
            replace hP : va_P D vwCl [(k, .inr (11, [.ref k0, .ref k1, .ref k2, .int c3, .ref k4, .ref k5, .ref k6, .ref k7, .ref k8, .int c9, .ref ka, .ref kb, .int cc, .int scd_47, .int ce, .int scf_48, .int scg_49, .int ch, .int ci, .int cj, .int ck, .ref kl, .int cm, .int cn, .ref ko])), (k0, .inl (cI, 1201, .inl c0))] H := hP
            replace hD : va_D A [(k, .inr (11, [.ref k0, .ref k1, .ref k2, .int c3, .ref k4, .ref k5, .ref k6, .ref k7, .ref k8, .int c9, .ref ka, .ref kb, .int cc, .int scd_47, .int ce, .int scf_48, .int scg_49, .int ch, .int ci, .int cj, .int ck, .ref kl, .int cm, .int cn, .ref ko])), (k0, .inl (cI, 1201, .inl c0))] := hD
            have lo_scd_47 := k_lo scd_47
            have hi_scd_47 := k_hi scd_47
            have lo_scg_49 := k_lo scg_49
            have hi_scg_49 := k_hi scg_49
            obtain ⟨h_51, h_52, h_53⟩ := w_46
            have h_51 : v_44.toInt ≤ scd_47.toInt := h_51
            have h_52 : scd_47.toInt ≤ ce.toInt := h_52
            have h_53 : scg_49.toInt = 2 := h_53
            have lo_r_45 := k_lo r_45
            have hi_r_45 := k_hi r_45
            refine lv_istore_n (lv' := [(3, .int r_45), (2, .int r_10), (1, .int r_1), (0, .ref k)]) hx hb dX11_test_51 rfl hl (by decide) rfl ?_
            clear hl
            intro ls hl
            refine lv_iload_n hx hb dX11_test_52 rfl (lv_at hl 1 rfl) ?_
            refine lv_bipush (v := 60) hx hb dX11_test_53 (by decide) ?_
            refine b_icmp_ne hx hb rfl zl_60 (tgt := 66) dX11_test_55 (by decide) (fun c_54 => ?_) (fun c_54 => by exfalso; omega)
            refine lv_iload_n hx hb dX11_test_66 rfl (lv_at hl 1 rfl) ?_
            refine lv_bipush (v := 62) hx hb dX11_test_67 (by decide) ?_
            refine b_icmp_ne hx hb rfl zl_62 (tgt := 80) dX11_test_69 (by decide) (fun c_55 => by exfalso; omega) (fun c_55 => ?_)
            refine lv_iload_n hx hb dX11_test_72 rfl (lv_at hl 2 rfl) ?_
            refine lv_iload_n hx hb dX11_test_73 rfl (lv_at hl 0 rfl) ?_
            refine b_icmp_le hx hb rfl rfl (tgt := 89) dX11_test_74 (by decide) (fun c_56 => ?_) (fun c_56 => ?_)
            · refine lv_iconst (v := 0) hx hb dX11_test_89 (by decide) ?_
              exact hRet (scd_47, scf_48, scg_49) [0, 1] ⟨(by first | omega | (simp only [zl_0] <;> omega) | decide | assumption | rfl | (dsimp only; first | omega | (simp only [zl_0] <;> omega))), (by first | omega | (simp only [zl_0] <;> omega) | decide | assumption | rfl | (dsimp only; first | omega | (simp only [zl_0] <;> omega))), (by first | omega | (simp only [zl_0] <;> omega) | decide | assumption | rfl | (dsimp only; first | omega | (simp only [zl_0] <;> omega)))⟩ hP hD (by decide) rfl hS rfl dX11_test_90
            · refine lv_goto (tgt := 85) hx hb dX11_test_77 (by decide) ?_
              refine lv_iconst (v := 1) hx hb dX11_test_85 (by decide) ?_
              refine lv_goto (tgt := 90) hx hb dX11_test_86 (by decide) ?_
              exact hRet (scd_47, scf_48, scg_49) [0, 1] ⟨(by first | omega | (simp only [zl_1] <;> omega) | decide | assumption | rfl | (dsimp only; first | omega | (simp only [zl_1] <;> omega))), (by first | omega | (simp only [zl_1] <;> omega) | decide | assumption | rfl | (dsimp only; first | omega | (simp only [zl_1] <;> omega))), (by first | omega | (simp only [zl_1] <;> omega) | decide | assumption | rfl | (dsimp only; first | omega | (simp only [zl_1] <;> omega)))⟩ hP hD (by decide) rfl hS rfl dX11_test_90
          · refine lv_iload_n hx hb dX11_test_35 rfl (lv_at hl 1 rfl) ?_
            exact hRet (scd_3, scf_4, scg_5) [0, 1] ⟨(by first | omega | decide | assumption | rfl | (dsimp only; first | omega)), (by first | omega | decide | assumption | rfl | (dsimp only; first | omega)), (by first | omega | decide | assumption | rfl | (dsimp only; first | omega))⟩ hP hD (by decide) rfl hS rfl dX11_test_36
  · have h_14 : scd_3.toInt = ce.toInt := h_14
    obtain rfl : r_10 = (-1) := hr_10.trans (by decide)
    refine lv_istore_n (lv' := [(2, .int (-1)), (1, .int r_1), (0, .ref k)]) hx hb dX11_test_9 rfl hl (by decide) rfl ?_
    clear hl
    intro ls hl
    refine lv_aload_n hx hb dX11_test_10 rfl (lv_at hl 2 rfl) ?_
    refine va_get (D := D) (ci := 11) (v := .int scf_4) (C := RX11) (T := TX11) (N := 25) hx hb hT giX11 hown hK hP 0 rfl rfl 15 (by decide) (hT (Cond.fieldLink RX11 148 "DesertWireModel" "isWrong" "Z") mw_1171) (fun _ h9 => h9) rfl dX11_test_11 ?_
    refine b_if_ne hx hb rfl (tgt := 35) dX11_test_14 (by decide) (fun c_57 => ?_) (fun c_57 => ?_)
    · refine lv_iload_n hx hb dX11_test_35 rfl (lv_at hl 1 rfl) ?_
      exact hRet (scd_3, scf_4, scg_5) [0, 1] ⟨(by first | omega | decide | assumption | rfl | (dsimp only; first | omega)), (by first | omega | decide | assumption | rfl | (dsimp only; first | omega)), (by first | omega | decide | assumption | rfl | (dsimp only; first | omega))⟩ hP hD (by decide) rfl hS rfl dX11_test_36
    · refine lv_iload_n hx hb dX11_test_17 rfl (lv_at hl 0 rfl) ?_
      refine lv_bipush (v := 60) hx hb dX11_test_18 (by decide) ?_
      refine b_icmp_eq hx hb zl_m1 zl_60 (tgt := 37) dX11_test_20 (by decide) (fun c_58 => by exfalso; omega) (fun c_58 => ?_)
      refine lv_iload_n hx hb dX11_test_23 rfl (lv_at hl 0 rfl) ?_
      refine lv_bipush (v := 61) hx hb dX11_test_24 (by decide) ?_
      refine b_icmp_eq hx hb zl_m1 zl_61 (tgt := 37) dX11_test_26 (by decide) (fun c_59 => by exfalso; omega) (fun c_59 => ?_)
      refine lv_iload_n hx hb dX11_test_29 rfl (lv_at hl 0 rfl) ?_
      refine lv_bipush (v := 62) hx hb dX11_test_30 (by decide) ?_
      refine b_icmp_eq hx hb zl_m1 zl_62 (tgt := 37) dX11_test_32 (by decide) (fun c_60 => by exfalso; omega) (fun c_60 => ?_)
      refine lv_iload_n hx hb dX11_test_35 rfl (lv_at hl 1 rfl) ?_
      exact hRet (scd_3, scf_4, scg_5) [0, 1] ⟨(by first | omega | decide | assumption | rfl | (dsimp only; first | omega)), (by first | omega | decide | assumption | rfl | (dsimp only; first | omega)), (by first | omega | decide | assumption | rfl | (dsimp only; first | omega))⟩ hP hD (by decide) rfl hS rfl dX11_test_36

set_option maxHeartbeats 4000000 in
set_option maxRecDepth 100000 in
theorem c_X11_bothG2 (l : Launch) (D : va_G) (cI : ClassId) (aK aV : Nat → Nat) (k k0 k1 k2 k4 k5 k6 k7 k8 ka kb kl ko : Nat) (sz : Nat) (c3 : Int32) (c9 : Int32) (cc : Int32) (cd : Int32) (ce : Int32) (cf : Int32) (cg : Int32) (ch : Int32) (ci : Int32) (cj : Int32) (ck : Int32) (cm : Int32) (cn : Int32) (c0 : Nat → Int32) (pre0 : 0 ≤ cc.toInt) (pre1 : cc.toInt ≤ 1151) (pre2 : 0 ≤ cd.toInt) (pre3 : cd.toInt ≤ ce.toInt) (pre4 : ce.toInt ≤ 50) (pre5 : cg.toInt = 2) : Met l yX11_both (gW yX11_both cX11_both 3 (some .int)) ({ frames := 17, cells := 0, slots := 0, locals := 386 } : Room) (kPreX D cI aK aV [.ref k] [(k, .inr (11, [.ref k0, .ref k1, .ref k2, .int c3, .ref k4, .ref k5, .ref k6, .ref k7, .ref k8, .int c9, .ref ka, .ref kb, .int cc, .int cd, .int ce, .int cf, .int cg, .int ch, .int ci, .int cj, .int ck, .ref kl, .int cm, .int cn, .ref ko])), (k0, .inl (cI, 1201, .inl c0))] sz) (va_Qi (fun (r : Int32) (u : Int32 × Int32 × Int32) => cd.toInt ≤ u.1.toInt ∧ u.1.toInt ≤ ce.toInt ∧ u.2.2.toInt = 2) (fun u t => kWd D cI (va_A [(k, .inr (11, [.ref k0, .ref k1, .ref k2, .int c3, .ref k4, .ref k5, .ref k6, .ref k7, .ref k8, .int c9, .ref ka, .ref kb, .int cc, .int cd, .int ce, .int cf, .int cg, .int ch, .int ci, .int cj, .int ck, .ref kl, .int cm, .int cn, .ref ko])), (k0, .inl (cI, 1201, .inl c0))] sz) [(k, .inr (11, [.ref k0, .ref k1, .ref k2, .int c3, .ref k4, .ref k5, .ref k6, .ref k7, .ref k8, .int c9, .ref ka, .ref kb, .int cc, .int u.1, .int ce, .int u.2.1, .int u.2.2, .int ch, .int ci, .int cj, .int ck, .ref kl, .int cm, .int cn, .ref ko])), (k0, .inl (cI, 1201, .inl c0))] t) (va_A [(k, .inr (11, [.ref k0, .ref k1, .ref k2, .int c3, .ref k4, .ref k5, .ref k6, .ref k7, .ref k8, .int c9, .ref ka, .ref kb, .int cc, .int cd, .int ce, .int cf, .int cg, .int ch, .int ci, .int cj, .int ck, .ref kl, .int cm, .int cn, .ref ko])), (k0, .inl (cI, 1201, .inl c0))] sz)) 0 0 (va_A [(k, .inr (11, [.ref k0, .ref k1, .ref k2, .int c3, .ref k4, .ref k5, .ref k6, .ref k7, .ref k8, .int c9, .ref ka, .ref kb, .int cc, .int cd, .int ce, .int cf, .int cg, .int ch, .int ci, .int cj, .int ck, .ref kl, .int cm, .int cn, .ref ko])), (k0, .inl (cI, 1201, .inl c0))] sz) := by
  refine kMetIX (own := RX11) (by decide) rfl (Nat.le_of_ble_eq_true rfl) ?_
  intro p e s m args below meth c hx hb hT hown hname hml A Q hK hP hD hS hA hN hXS hRet ls hl
  have hl : lv_has ls 3 [(0, .ref k)] := hl
  have lo_cd := k_lo cd
  have hi_cd := k_hi cd
  have lo_ce := k_lo ce
  have hi_ce := k_hi ce
  have lo_ci := k_lo ci
  have hi_ci := k_hi ci
  refine lv_aload_n hx hb dX11_both_0 rfl (lv_at hl 0 rfl) ?_
  refine kJi (wr := []) (va_runV (As := []) (rest := []) ⟨hx, hb, hml, hown, hT⟩ (c_X11_testG2 l D cI aK aV k k0 k1 k2 k4 k5 k6 k7 k8 ka kb kl ko s.heap.size c3 c9 cc cd ce cf cg ch ci cj ck cm cn c0 (by first | omega | decide | assumption | rfl) (by first | omega | decide | assumption | rfl) (by first | omega | decide | assumption | rfl) (by first | omega | decide | assumption | rfl) (by first | omega | decide | assumption | rfl) (by first | omega | decide | assumption | rfl)) (cwV 0 hT (gV_in mw_1323 mw_1320 mw_1322 mw_p4_5 mw_12) rfl rfl rfl (by decide +kernel) ⟨Nat.le_of_ble_eq_true rfl, Nat.le_of_ble_eq_true rfl⟩) (kRecvX (q0 := 0) (ci := 11) hK hP hD hN hXS hS hA rfl rfl [0, 1] rfl (by decide)) rfl rfl hl.1 rfl (lv_room (Nat.le_of_ble_eq_true rfl)) dX11_both_1 ⟨Nat.le_of_ble_eq_true rfl, Nat.le_of_ble_eq_true rfl⟩) hP hD hS hA [0, 1] [] rfl rfl (by decide) (by decide) ?_
  clear hP hD hS
  intro r_1 u_6 H locs w_2 hP hD hS
  obtain ⟨scd_3, scf_4, scg_5⟩ := u_6
  replace hP : va_P D vwCl [(k, .inr (11, [.ref k0, .ref k1, .ref k2, .int c3, .ref k4, .ref k5, .ref k6, .ref k7, .ref k8, .int c9, .ref ka, .ref kb, .int cc, .int scd_3, .int ce, .int scf_4, .int scg_5, .int ch, .int ci, .int cj, .int ck, .ref kl, .int cm, .int cn, .ref ko])), (k0, .inl (cI, 1201, .inl c0))] H := hP
  replace hD : va_D A [(k, .inr (11, [.ref k0, .ref k1, .ref k2, .int c3, .ref k4, .ref k5, .ref k6, .ref k7, .ref k8, .int c9, .ref ka, .ref kb, .int cc, .int scd_3, .int ce, .int scf_4, .int scg_5, .int ch, .int ci, .int cj, .int ck, .ref kl, .int cm, .int cn, .ref ko])), (k0, .inl (cI, 1201, .inl c0))] := hD
  have lo_scd_3 := k_lo scd_3
  have hi_scd_3 := k_hi scd_3
  have lo_scg_5 := k_lo scg_5
  have hi_scg_5 := k_hi scg_5
  obtain ⟨h_7, h_8, h_9⟩ := w_2
  have h_7 : cd.toInt ≤ scd_3.toInt := h_7
  have h_8 : scd_3.toInt ≤ ce.toInt := h_8
  have h_9 : scg_5.toInt = 2 := h_9
  have lo_r_1 := k_lo r_1
  have hi_r_1 := k_hi r_1
  refine lv_istore_n (lv' := [(1, .int r_1), (0, .ref k)]) hx hb dX11_both_4 rfl hl (by decide) rfl ?_
  clear hl
  intro ls hl
  have hloop_5 : ∀ (fu_ : Nat) (l5_1 : Int32) (f5_kd : Int32) (f5_kf : Int32) (f5_kg : Int32), scd_3.toInt ≤ f5_kd.toInt → scg_5.toInt ≤ f5_kg.toInt → f5_kg.toInt ≤ scg_5.toInt → f5_kd.toInt ≤ ce.toInt → (ce.toInt - f5_kd.toInt).toNat < fu_ → ∀ (ls : Array Slot) (H : Heap) (locs : List Loc), lv_has ls 3 [(1, .int l5_1), (0, .ref k)] → va_P D vwCl [(k, .inr (11, [.ref k0, .ref k1, .ref k2, .int c3, .ref k4, .ref k5, .ref k6, .ref k7, .ref k8, .int c9, .ref ka, .ref kb, .int cc, .int f5_kd, .int ce, .int f5_kf, .int f5_kg, .int ch, .int ci, .int cj, .int ck, .ref kl, .int cm, .int cn, .ref ko])), (k0, .inl (cI, 1201, .inl c0))] H → va_D A [(k, .inr (11, [.ref k0, .ref k1, .ref k2, .int c3, .ref k4, .ref k5, .ref k6, .ref k7, .ref k8, .int c9, .ref ka, .ref kb, .int cc, .int f5_kd, .int ce, .int f5_kf, .int f5_kg, .int ch, .int ci, .int cj, .int ck, .ref kl, .int cm, .int cn, .ref ko])), (k0, .inl (cI, 1201, .inl c0))] → va_S A s.heap H locs → W p l e ({ frames := 17, cells := 0, slots := 0, locals := 386 } : Room) s m args below meth c H locs 0 0 Q (F0 m 5 ls []) := by
    intro fu_; induction fu_ with
    | zero => intro l5_1 f5_kd f5_kf f5_kg i5_0 i5_1 i5_2 i5_3 hm; exact absurd hm (by omega)
    | succ fu_ ih5 =>
        intro l5_1 f5_kd f5_kf f5_kg i5_0 i5_1 i5_2 i5_3 hm ls H locs hl hP hD hS
        have lo_l5_1 := k_lo l5_1
        have hi_l5_1 := k_hi l5_1
        have lo_f5_kd := k_lo f5_kd
        have hi_f5_kd := k_hi f5_kd
        have lo_f5_kf := k_lo f5_kf
        have hi_f5_kf := k_hi f5_kf
        have lo_f5_kg := k_lo f5_kg
        have hi_f5_kg := k_hi f5_kg
        refine lv_aload_n hx hb dX11_both_5 rfl (lv_at hl 1 rfl) ?_
        refine lv_bipush (v := 38) hx hb dX11_both_6 (by decide) ?_
        refine kJi (wr := []) (va_runV (As := [.int 38]) (rest := []) ⟨hx, hb, hml, hown, hT⟩ (c_X11_takesG l D cI aK aV k k0 k1 k2 k4 k5 k6 k7 k8 ka kb kl ko H.size c3 c9 cc f5_kd ce f5_kf f5_kg ch ci cj ck cm cn c0 38 (by first | omega | (simp only [zl_38] <;> omega) | decide | assumption | rfl) (by first | omega | (simp only [zl_38] <;> omega) | decide | assumption | rfl) (by first | omega | (simp only [zl_38] <;> omega) | decide | assumption | rfl) (by first | omega | (simp only [zl_38] <;> omega) | decide | assumption | rfl) (by first | omega | (simp only [zl_38] <;> omega) | decide | assumption | rfl) (by first | omega | (simp only [zl_38] <;> omega) | decide | assumption | rfl)) (cwV 1 hT (gV_in mw_1351 mw_1348 mw_1350 mw_p4_12 mw_12) rfl rfl rfl (by decide +kernel) ⟨Nat.le_of_ble_eq_true rfl, Nat.le_of_ble_eq_true rfl⟩) (kRecvX (q0 := 0) (ci := 11) hK hP hD hN hXS hS hA rfl rfl [0, 1] rfl (by decide)) rfl rfl hl.1 rfl (lv_room (Nat.le_of_ble_eq_true rfl)) dX11_both_8 ⟨Nat.le_of_ble_eq_true rfl, Nat.le_of_ble_eq_true rfl⟩) hP hD hS hA [0, 1] [] rfl rfl (by decide) (by decide) ?_
        clear hP hD hS
        intro r_10 scd_12 H locs w_11 hP hD hS
        replace hP : va_P D vwCl [(k, .inr (11, [.ref k0, .ref k1, .ref k2, .int c3, .ref k4, .ref k5, .ref k6, .ref k7, .ref k8, .int c9, .ref ka, .ref kb, .int cc, .int scd_12, .int ce, .int f5_kf, .int f5_kg, .int ch, .int ci, .int cj, .int ck, .ref kl, .int cm, .int cn, .ref ko])), (k0, .inl (cI, 1201, .inl c0))] H := hP
        replace hD : va_D A [(k, .inr (11, [.ref k0, .ref k1, .ref k2, .int c3, .ref k4, .ref k5, .ref k6, .ref k7, .ref k8, .int c9, .ref ka, .ref kb, .int cc, .int scd_12, .int ce, .int f5_kf, .int f5_kg, .int ch, .int ci, .int cj, .int ck, .ref kl, .int cm, .int cn, .ref ko])), (k0, .inl (cI, 1201, .inl c0))] := hD
        have lo_scd_12 := k_lo scd_12
        have hi_scd_12 := k_hi scd_12
        rcases w_11 with ⟨hr_10, h_13, h_14⟩ | ⟨hr_10, h_15⟩
        · try simp only [zl_38] at h_13
          have h_13 : scd_12.toInt = f5_kd.toInt + 1 := h_13
          try simp only [zl_38] at h_14
          have h_14 : scd_12.toInt ≤ ce.toInt := h_14
          obtain rfl : r_10 = 1 := hr_10.trans (by decide)
          refine b_if_eq hx hb zl_1 (tgt := 36) dX11_both_11 (by decide) (fun c_16 => by exfalso; omega) (fun c_16 => ?_)
          refine lv_aload_n hx hb dX11_both_14 rfl (lv_at hl 1 rfl) ?_
          refine kJi (wr := []) (va_runV (As := []) (rest := []) ⟨hx, hb, hml, hown, hT⟩ (c_X11_testG2 l D cI aK aV k k0 k1 k2 k4 k5 k6 k7 k8 ka kb kl ko H.size c3 c9 cc scd_12 ce f5_kf f5_kg ch ci cj ck cm cn c0 (by first | omega | decide | assumption | rfl) (by first | omega | decide | assumption | rfl) (by first | omega | decide | assumption | rfl) (by first | omega | decide | assumption | rfl) (by first | omega | decide | assumption | rfl) (by first | omega | decide | assumption | rfl)) (cwV 0 hT (gV_in mw_1323 mw_1320 mw_1322 mw_p4_5 mw_12) rfl rfl rfl (by decide +kernel) ⟨Nat.le_of_ble_eq_true rfl, Nat.le_of_ble_eq_true rfl⟩) (kRecvX (q0 := 0) (ci := 11) hK hP hD hN hXS hS hA rfl rfl [0, 1] rfl (by decide)) rfl rfl hl.1 rfl (lv_room (Nat.le_of_ble_eq_true rfl)) dX11_both_15 ⟨Nat.le_of_ble_eq_true rfl, Nat.le_of_ble_eq_true rfl⟩) hP hD hS hA [0, 1] [] rfl rfl (by decide) (by decide) ?_
          clear hP hD hS
          intro r_17 u_22 H locs w_18 hP hD hS
          obtain ⟨scd_19, scf_20, scg_21⟩ := u_22
          replace hP : va_P D vwCl [(k, .inr (11, [.ref k0, .ref k1, .ref k2, .int c3, .ref k4, .ref k5, .ref k6, .ref k7, .ref k8, .int c9, .ref ka, .ref kb, .int cc, .int scd_19, .int ce, .int scf_20, .int scg_21, .int ch, .int ci, .int cj, .int ck, .ref kl, .int cm, .int cn, .ref ko])), (k0, .inl (cI, 1201, .inl c0))] H := hP
          replace hD : va_D A [(k, .inr (11, [.ref k0, .ref k1, .ref k2, .int c3, .ref k4, .ref k5, .ref k6, .ref k7, .ref k8, .int c9, .ref ka, .ref kb, .int cc, .int scd_19, .int ce, .int scf_20, .int scg_21, .int ch, .int ci, .int cj, .int ck, .ref kl, .int cm, .int cn, .ref ko])), (k0, .inl (cI, 1201, .inl c0))] := hD
          have lo_scd_19 := k_lo scd_19
          have hi_scd_19 := k_hi scd_19
          have lo_scg_21 := k_lo scg_21
          have hi_scg_21 := k_hi scg_21
          obtain ⟨h_23, h_24, h_25⟩ := w_18
          have h_23 : scd_12.toInt ≤ scd_19.toInt := h_23
          have h_24 : scd_19.toInt ≤ ce.toInt := h_24
          have h_25 : scg_21.toInt = 2 := h_25
          have lo_r_17 := k_lo r_17
          have hi_r_17 := k_hi r_17
          refine lv_istore_n (lv' := [(2, .int r_17), (1, .int l5_1), (0, .ref k)]) hx hb dX11_both_18 rfl hl (by decide) rfl ?_
          clear hl
          intro ls hl
          refine lv_iload_n hx hb dX11_both_19 rfl (lv_at hl 1 rfl) ?_
          refine b_if_eq hx hb rfl (tgt := 31) dX11_both_20 (by decide) (fun c_26 => ?_) (fun c_26 => ?_)
          · refine lv_iconst (v := 0) hx hb dX11_both_31 (by decide) ?_
            refine lv_istore_n (lv' := [(1, .int 0), (2, .int r_17), (0, .ref k)]) hx hb dX11_both_32 rfl hl (by decide) rfl ?_
            clear hl
            intro ls hl
            refine lv_goto (tgt := 5) hx hb dX11_both_33 (by decide) ?_
            exact ih5 0 scd_19 scf_20 scg_21 (by first | omega | (simp only [zl_0] <;> omega) | decide | assumption | rfl) (by first | omega | (simp only [zl_0] <;> omega) | decide | assumption | rfl) (by first | omega | (simp only [zl_0] <;> omega) | decide | assumption | rfl) (by first | omega | (simp only [zl_0] <;> omega) | decide | assumption | rfl) (by omega) ls _ _ (lv_sub hl [0, 2] rfl) (hP.sub [0, 1] rfl) (hD.sub [0, 1] (by decide) rfl) hS
          · refine lv_iload_n hx hb dX11_both_23 rfl (lv_at hl 0 rfl) ?_
            refine b_if_eq hx hb rfl (tgt := 31) dX11_both_24 (by decide) (fun c_27 => ?_) (fun c_27 => ?_)
            · refine lv_iconst (v := 0) hx hb dX11_both_31 (by decide) ?_
              refine lv_istore_n (lv' := [(1, .int 0), (2, .int r_17), (0, .ref k)]) hx hb dX11_both_32 rfl hl (by decide) rfl ?_
              clear hl
              intro ls hl
              refine lv_goto (tgt := 5) hx hb dX11_both_33 (by decide) ?_
              exact ih5 0 scd_19 scf_20 scg_21 (by first | omega | (simp only [zl_0] <;> omega) | decide | assumption | rfl) (by first | omega | (simp only [zl_0] <;> omega) | decide | assumption | rfl) (by first | omega | (simp only [zl_0] <;> omega) | decide | assumption | rfl) (by first | omega | (simp only [zl_0] <;> omega) | decide | assumption | rfl) (by omega) ls _ _ (lv_sub hl [0, 2] rfl) (hP.sub [0, 1] rfl) (hD.sub [0, 1] (by decide) rfl) hS
            · refine lv_iconst (v := 1) hx hb dX11_both_27 (by decide) ?_
              refine lv_goto (tgt := 32) hx hb dX11_both_28 (by decide) ?_
              refine lv_istore_n (lv' := [(1, .int 1), (2, .int r_17), (0, .ref k)]) hx hb dX11_both_32 rfl hl (by decide) rfl ?_
              clear hl
              intro ls hl
              refine lv_goto (tgt := 5) hx hb dX11_both_33 (by decide) ?_
              exact ih5 1 scd_19 scf_20 scg_21 (by first | omega | (simp only [zl_1] <;> omega) | decide | assumption | rfl) (by first | omega | (simp only [zl_1] <;> omega) | decide | assumption | rfl) (by first | omega | (simp only [zl_1] <;> omega) | decide | assumption | rfl) (by first | omega | (simp only [zl_1] <;> omega) | decide | assumption | rfl) (by omega) ls _ _ (lv_sub hl [0, 2] rfl) (hP.sub [0, 1] rfl) (hD.sub [0, 1] (by decide) rfl) hS
        · try simp only [zl_38] at h_15
          have h_15 : scd_12.toInt = f5_kd.toInt := h_15
          obtain rfl : r_10 = 0 := hr_10.trans (by decide)
          refine b_if_eq hx hb zl_0 (tgt := 36) dX11_both_11 (by decide) (fun c_28 => ?_) (fun c_28 => by exfalso; omega)
          refine lv_iload_n hx hb dX11_both_36 rfl (lv_at hl 0 rfl) ?_
          exact hRet (scd_12, f5_kf, f5_kg) [0, 1] ⟨(by first | omega | decide | assumption | rfl | (dsimp only; first | omega)), (by first | omega | decide | assumption | rfl | (dsimp only; first | omega)), (by first | omega | decide | assumption | rfl | (dsimp only; first | omega))⟩ hP hD (by decide) rfl hS rfl dX11_both_37
  exact hloop_5 _ r_1 scd_3 scf_4 scg_5 (by first | omega | decide | assumption | rfl) (by first | omega | decide | assumption | rfl) (by first | omega | decide | assumption | rfl) (by first | omega | decide | assumption | rfl) (Nat.lt_succ_self _) ls _ _ (lv_sub hl [0, 1] rfl) hP hD hS

set_option maxHeartbeats 4000000 in
set_option maxRecDepth 100000 in
theorem c_X11_wholeG2 (l : Launch) (D : va_G) (cI : ClassId) (aK aV : Nat → Nat) (k k0 k1 k2 k4 k5 k6 k7 k8 ka kb kl ko : Nat) (sz : Nat) (c3 : Int32) (c9 : Int32) (cc : Int32) (cd : Int32) (ce : Int32) (cf : Int32) (cg : Int32) (ch : Int32) (ci : Int32) (cj : Int32) (ck : Int32) (cm : Int32) (cn : Int32) (c0 : Nat → Int32) (pre0 : 0 ≤ cc.toInt) (pre1 : cc.toInt ≤ 1151) (pre2 : 0 ≤ cd.toInt) (pre3 : cd.toInt ≤ ce.toInt) (pre4 : ce.toInt ≤ 50) (pre5 : cg.toInt = 2) : Met l yX11_whole (gW yX11_whole cX11_whole 3 (some .int)) ({ frames := 18, cells := 0, slots := 0, locals := 408 } : Room) (kPreX D cI aK aV [.ref k] [(k, .inr (11, [.ref k0, .ref k1, .ref k2, .int c3, .ref k4, .ref k5, .ref k6, .ref k7, .ref k8, .int c9, .ref ka, .ref kb, .int cc, .int cd, .int ce, .int cf, .int cg, .int ch, .int ci, .int cj, .int ck, .ref kl, .int cm, .int cn, .ref ko])), (k0, .inl (cI, 1201, .inl c0))] sz) (va_Qi (fun (r : Int32) (u : Int32 × Int32 × Int32) => cd.toInt ≤ u.1.toInt ∧ u.1.toInt ≤ ce.toInt ∧ u.2.2.toInt = 2) (fun u t => kWd D cI (va_A [(k, .inr (11, [.ref k0, .ref k1, .ref k2, .int c3, .ref k4, .ref k5, .ref k6, .ref k7, .ref k8, .int c9, .ref ka, .ref kb, .int cc, .int cd, .int ce, .int cf, .int cg, .int ch, .int ci, .int cj, .int ck, .ref kl, .int cm, .int cn, .ref ko])), (k0, .inl (cI, 1201, .inl c0))] sz) [(k, .inr (11, [.ref k0, .ref k1, .ref k2, .int c3, .ref k4, .ref k5, .ref k6, .ref k7, .ref k8, .int c9, .ref ka, .ref kb, .int cc, .int u.1, .int ce, .int u.2.1, .int u.2.2, .int ch, .int ci, .int cj, .int ck, .ref kl, .int cm, .int cn, .ref ko])), (k0, .inl (cI, 1201, .inl c0))] t) (va_A [(k, .inr (11, [.ref k0, .ref k1, .ref k2, .int c3, .ref k4, .ref k5, .ref k6, .ref k7, .ref k8, .int c9, .ref ka, .ref kb, .int cc, .int cd, .int ce, .int cf, .int cg, .int ch, .int ci, .int cj, .int ck, .ref kl, .int cm, .int cn, .ref ko])), (k0, .inl (cI, 1201, .inl c0))] sz)) 0 0 (va_A [(k, .inr (11, [.ref k0, .ref k1, .ref k2, .int c3, .ref k4, .ref k5, .ref k6, .ref k7, .ref k8, .int c9, .ref ka, .ref kb, .int cc, .int cd, .int ce, .int cf, .int cg, .int ch, .int ci, .int cj, .int ck, .ref kl, .int cm, .int cn, .ref ko])), (k0, .inl (cI, 1201, .inl c0))] sz) := by
  refine kMetIX (own := RX11) (by decide) rfl (Nat.le_of_ble_eq_true rfl) ?_
  intro p e s m args below meth c hx hb hT hown hname hml A Q hK hP hD hS hA hN hXS hRet ls hl
  have hl : lv_has ls 3 [(0, .ref k)] := hl
  have lo_cd := k_lo cd
  have hi_cd := k_hi cd
  have lo_ce := k_lo ce
  have hi_ce := k_hi ce
  have lo_ci := k_lo ci
  have hi_ci := k_hi ci
  refine lv_aload_n hx hb dX11_whole_0 rfl (lv_at hl 0 rfl) ?_
  refine kJi (wr := []) (va_runV (As := []) (rest := []) ⟨hx, hb, hml, hown, hT⟩ (c_X11_bothG2 l D cI aK aV k k0 k1 k2 k4 k5 k6 k7 k8 ka kb kl ko s.heap.size c3 c9 cc cd ce cf cg ch ci cj ck cm cn c0 (by first | omega | decide | assumption | rfl) (by first | omega | decide | assumption | rfl) (by first | omega | decide | assumption | rfl) (by first | omega | decide | assumption | rfl) (by first | omega | decide | assumption | rfl) (by first | omega | decide | assumption | rfl)) (cwV 0 hT (gV_in mw_1319 mw_1316 mw_1318 mw_p4_4 mw_12) rfl rfl rfl (by decide +kernel) ⟨Nat.le_of_ble_eq_true rfl, Nat.le_of_ble_eq_true rfl⟩) (kRecvX (q0 := 0) (ci := 11) hK hP hD hN hXS hS hA rfl rfl [0, 1] rfl (by decide)) rfl rfl hl.1 rfl (lv_room (Nat.le_of_ble_eq_true rfl)) dX11_whole_1 ⟨Nat.le_of_ble_eq_true rfl, Nat.le_of_ble_eq_true rfl⟩) hP hD hS hA [0, 1] [] rfl rfl (by decide) (by decide) ?_
  clear hP hD hS
  intro r_1 u_6 H locs w_2 hP hD hS
  obtain ⟨scd_3, scf_4, scg_5⟩ := u_6
  replace hP : va_P D vwCl [(k, .inr (11, [.ref k0, .ref k1, .ref k2, .int c3, .ref k4, .ref k5, .ref k6, .ref k7, .ref k8, .int c9, .ref ka, .ref kb, .int cc, .int scd_3, .int ce, .int scf_4, .int scg_5, .int ch, .int ci, .int cj, .int ck, .ref kl, .int cm, .int cn, .ref ko])), (k0, .inl (cI, 1201, .inl c0))] H := hP
  replace hD : va_D A [(k, .inr (11, [.ref k0, .ref k1, .ref k2, .int c3, .ref k4, .ref k5, .ref k6, .ref k7, .ref k8, .int c9, .ref ka, .ref kb, .int cc, .int scd_3, .int ce, .int scf_4, .int scg_5, .int ch, .int ci, .int cj, .int ck, .ref kl, .int cm, .int cn, .ref ko])), (k0, .inl (cI, 1201, .inl c0))] := hD
  have lo_scd_3 := k_lo scd_3
  have hi_scd_3 := k_hi scd_3
  have lo_scg_5 := k_lo scg_5
  have hi_scg_5 := k_hi scg_5
  obtain ⟨h_7, h_8, h_9⟩ := w_2
  have h_7 : cd.toInt ≤ scd_3.toInt := h_7
  have h_8 : scd_3.toInt ≤ ce.toInt := h_8
  have h_9 : scg_5.toInt = 2 := h_9
  have lo_r_1 := k_lo r_1
  have hi_r_1 := k_hi r_1
  refine lv_istore_n (lv' := [(1, .int r_1), (0, .ref k)]) hx hb dX11_whole_4 rfl hl (by decide) rfl ?_
  clear hl
  intro ls hl
  have hloop_5 : ∀ (fu_ : Nat) (l5_1 : Int32) (f5_kd : Int32) (f5_kf : Int32) (f5_kg : Int32), scd_3.toInt ≤ f5_kd.toInt → scg_5.toInt ≤ f5_kg.toInt → f5_kg.toInt ≤ scg_5.toInt → f5_kd.toInt ≤ ce.toInt → (ce.toInt - f5_kd.toInt).toNat < fu_ → ∀ (ls : Array Slot) (H : Heap) (locs : List Loc), lv_has ls 3 [(1, .int l5_1), (0, .ref k)] → va_P D vwCl [(k, .inr (11, [.ref k0, .ref k1, .ref k2, .int c3, .ref k4, .ref k5, .ref k6, .ref k7, .ref k8, .int c9, .ref ka, .ref kb, .int cc, .int f5_kd, .int ce, .int f5_kf, .int f5_kg, .int ch, .int ci, .int cj, .int ck, .ref kl, .int cm, .int cn, .ref ko])), (k0, .inl (cI, 1201, .inl c0))] H → va_D A [(k, .inr (11, [.ref k0, .ref k1, .ref k2, .int c3, .ref k4, .ref k5, .ref k6, .ref k7, .ref k8, .int c9, .ref ka, .ref kb, .int cc, .int f5_kd, .int ce, .int f5_kf, .int f5_kg, .int ch, .int ci, .int cj, .int ck, .ref kl, .int cm, .int cn, .ref ko])), (k0, .inl (cI, 1201, .inl c0))] → va_S A s.heap H locs → W p l e ({ frames := 18, cells := 0, slots := 0, locals := 408 } : Room) s m args below meth c H locs 0 0 Q (F0 m 5 ls []) := by
    intro fu_; induction fu_ with
    | zero => intro l5_1 f5_kd f5_kf f5_kg i5_0 i5_1 i5_2 i5_3 hm; exact absurd hm (by omega)
    | succ fu_ ih5 =>
        intro l5_1 f5_kd f5_kf f5_kg i5_0 i5_1 i5_2 i5_3 hm ls H locs hl hP hD hS
        have lo_l5_1 := k_lo l5_1
        have hi_l5_1 := k_hi l5_1
        have lo_f5_kd := k_lo f5_kd
        have hi_f5_kd := k_hi f5_kd
        have lo_f5_kf := k_lo f5_kf
        have hi_f5_kf := k_hi f5_kf
        have lo_f5_kg := k_lo f5_kg
        have hi_f5_kg := k_hi f5_kg
        refine lv_aload_n hx hb dX11_whole_5 rfl (lv_at hl 1 rfl) ?_
        refine lv_bipush (v := 124) hx hb dX11_whole_6 (by decide) ?_
        refine kJi (wr := []) (va_runV (As := [.int 124]) (rest := []) ⟨hx, hb, hml, hown, hT⟩ (c_X11_takesG l D cI aK aV k k0 k1 k2 k4 k5 k6 k7 k8 ka kb kl ko H.size c3 c9 cc f5_kd ce f5_kf f5_kg ch ci cj ck cm cn c0 124 (by first | omega | (simp only [zl_124] <;> omega) | decide | assumption | rfl) (by first | omega | (simp only [zl_124] <;> omega) | decide | assumption | rfl) (by first | omega | (simp only [zl_124] <;> omega) | decide | assumption | rfl) (by first | omega | (simp only [zl_124] <;> omega) | decide | assumption | rfl) (by first | omega | (simp only [zl_124] <;> omega) | decide | assumption | rfl) (by first | omega | (simp only [zl_124] <;> omega) | decide | assumption | rfl)) (cwV 1 hT (gV_in mw_1351 mw_1348 mw_1350 mw_p4_12 mw_12) rfl rfl rfl (by decide +kernel) ⟨Nat.le_of_ble_eq_true rfl, Nat.le_of_ble_eq_true rfl⟩) (kRecvX (q0 := 0) (ci := 11) hK hP hD hN hXS hS hA rfl rfl [0, 1] rfl (by decide)) rfl rfl hl.1 rfl (lv_room (Nat.le_of_ble_eq_true rfl)) dX11_whole_8 ⟨Nat.le_of_ble_eq_true rfl, Nat.le_of_ble_eq_true rfl⟩) hP hD hS hA [0, 1] [] rfl rfl (by decide) (by decide) ?_
        clear hP hD hS
        intro r_10 scd_12 H locs w_11 hP hD hS
        replace hP : va_P D vwCl [(k, .inr (11, [.ref k0, .ref k1, .ref k2, .int c3, .ref k4, .ref k5, .ref k6, .ref k7, .ref k8, .int c9, .ref ka, .ref kb, .int cc, .int scd_12, .int ce, .int f5_kf, .int f5_kg, .int ch, .int ci, .int cj, .int ck, .ref kl, .int cm, .int cn, .ref ko])), (k0, .inl (cI, 1201, .inl c0))] H := hP
        replace hD : va_D A [(k, .inr (11, [.ref k0, .ref k1, .ref k2, .int c3, .ref k4, .ref k5, .ref k6, .ref k7, .ref k8, .int c9, .ref ka, .ref kb, .int cc, .int scd_12, .int ce, .int f5_kf, .int f5_kg, .int ch, .int ci, .int cj, .int ck, .ref kl, .int cm, .int cn, .ref ko])), (k0, .inl (cI, 1201, .inl c0))] := hD
        have lo_scd_12 := k_lo scd_12
        have hi_scd_12 := k_hi scd_12
        rcases w_11 with ⟨hr_10, h_13, h_14⟩ | ⟨hr_10, h_15⟩
        · try simp only [zl_124] at h_13
          have h_13 : scd_12.toInt = f5_kd.toInt + 1 := h_13
          try simp only [zl_124] at h_14
          have h_14 : scd_12.toInt ≤ ce.toInt := h_14
          obtain rfl : r_10 = 1 := hr_10.trans (by decide)
          refine b_if_eq hx hb zl_1 (tgt := 36) dX11_whole_11 (by decide) (fun c_16 => by exfalso; omega) (fun c_16 => ?_)
          refine lv_aload_n hx hb dX11_whole_14 rfl (lv_at hl 1 rfl) ?_
          refine kJi (wr := []) (va_runV (As := []) (rest := []) ⟨hx, hb, hml, hown, hT⟩ (c_X11_bothG2 l D cI aK aV k k0 k1 k2 k4 k5 k6 k7 k8 ka kb kl ko H.size c3 c9 cc scd_12 ce f5_kf f5_kg ch ci cj ck cm cn c0 (by first | omega | decide | assumption | rfl) (by first | omega | decide | assumption | rfl) (by first | omega | decide | assumption | rfl) (by first | omega | decide | assumption | rfl) (by first | omega | decide | assumption | rfl) (by first | omega | decide | assumption | rfl)) (cwV 0 hT (gV_in mw_1319 mw_1316 mw_1318 mw_p4_4 mw_12) rfl rfl rfl (by decide +kernel) ⟨Nat.le_of_ble_eq_true rfl, Nat.le_of_ble_eq_true rfl⟩) (kRecvX (q0 := 0) (ci := 11) hK hP hD hN hXS hS hA rfl rfl [0, 1] rfl (by decide)) rfl rfl hl.1 rfl (lv_room (Nat.le_of_ble_eq_true rfl)) dX11_whole_15 ⟨Nat.le_of_ble_eq_true rfl, Nat.le_of_ble_eq_true rfl⟩) hP hD hS hA [0, 1] [] rfl rfl (by decide) (by decide) ?_
          clear hP hD hS
          intro r_17 u_22 H locs w_18 hP hD hS
          obtain ⟨scd_19, scf_20, scg_21⟩ := u_22
          replace hP : va_P D vwCl [(k, .inr (11, [.ref k0, .ref k1, .ref k2, .int c3, .ref k4, .ref k5, .ref k6, .ref k7, .ref k8, .int c9, .ref ka, .ref kb, .int cc, .int scd_19, .int ce, .int scf_20, .int scg_21, .int ch, .int ci, .int cj, .int ck, .ref kl, .int cm, .int cn, .ref ko])), (k0, .inl (cI, 1201, .inl c0))] H := hP
          replace hD : va_D A [(k, .inr (11, [.ref k0, .ref k1, .ref k2, .int c3, .ref k4, .ref k5, .ref k6, .ref k7, .ref k8, .int c9, .ref ka, .ref kb, .int cc, .int scd_19, .int ce, .int scf_20, .int scg_21, .int ch, .int ci, .int cj, .int ck, .ref kl, .int cm, .int cn, .ref ko])), (k0, .inl (cI, 1201, .inl c0))] := hD
          have lo_scd_19 := k_lo scd_19
          have hi_scd_19 := k_hi scd_19
          have lo_scg_21 := k_lo scg_21
          have hi_scg_21 := k_hi scg_21
          obtain ⟨h_23, h_24, h_25⟩ := w_18
          have h_23 : scd_12.toInt ≤ scd_19.toInt := h_23
          have h_24 : scd_19.toInt ≤ ce.toInt := h_24
          have h_25 : scg_21.toInt = 2 := h_25
          have lo_r_17 := k_lo r_17
          have hi_r_17 := k_hi r_17
          refine lv_istore_n (lv' := [(2, .int r_17), (1, .int l5_1), (0, .ref k)]) hx hb dX11_whole_18 rfl hl (by decide) rfl ?_
          clear hl
          intro ls hl
          refine lv_iload_n hx hb dX11_whole_19 rfl (lv_at hl 1 rfl) ?_
          refine b_if_ne hx hb rfl (tgt := 27) dX11_whole_20 (by decide) (fun c_26 => ?_) (fun c_26 => ?_)
          · refine lv_iconst (v := 1) hx hb dX11_whole_27 (by decide) ?_
            refine lv_goto (tgt := 32) hx hb dX11_whole_28 (by decide) ?_
            refine lv_istore_n (lv' := [(1, .int 1), (2, .int r_17), (0, .ref k)]) hx hb dX11_whole_32 rfl hl (by decide) rfl ?_
            clear hl
            intro ls hl
            refine lv_goto (tgt := 5) hx hb dX11_whole_33 (by decide) ?_
            exact ih5 1 scd_19 scf_20 scg_21 (by first | omega | (simp only [zl_1] <;> omega) | decide | assumption | rfl) (by first | omega | (simp only [zl_1] <;> omega) | decide | assumption | rfl) (by first | omega | (simp only [zl_1] <;> omega) | decide | assumption | rfl) (by first | omega | (simp only [zl_1] <;> omega) | decide | assumption | rfl) (by omega) ls _ _ (lv_sub hl [0, 2] rfl) (hP.sub [0, 1] rfl) (hD.sub [0, 1] (by decide) rfl) hS
          · refine lv_iload_n hx hb dX11_whole_23 rfl (lv_at hl 0 rfl) ?_
            refine b_if_eq hx hb rfl (tgt := 31) dX11_whole_24 (by decide) (fun c_27 => ?_) (fun c_27 => ?_)
            · refine lv_iconst (v := 0) hx hb dX11_whole_31 (by decide) ?_
              refine lv_istore_n (lv' := [(1, .int 0), (2, .int r_17), (0, .ref k)]) hx hb dX11_whole_32 rfl hl (by decide) rfl ?_
              clear hl
              intro ls hl
              refine lv_goto (tgt := 5) hx hb dX11_whole_33 (by decide) ?_
              exact ih5 0 scd_19 scf_20 scg_21 (by first | omega | (simp only [zl_0] <;> omega) | decide | assumption | rfl) (by first | omega | (simp only [zl_0] <;> omega) | decide | assumption | rfl) (by first | omega | (simp only [zl_0] <;> omega) | decide | assumption | rfl) (by first | omega | (simp only [zl_0] <;> omega) | decide | assumption | rfl) (by omega) ls _ _ (lv_sub hl [0, 2] rfl) (hP.sub [0, 1] rfl) (hD.sub [0, 1] (by decide) rfl) hS
            · refine lv_iconst (v := 1) hx hb dX11_whole_27 (by decide) ?_
              refine lv_goto (tgt := 32) hx hb dX11_whole_28 (by decide) ?_
              refine lv_istore_n (lv' := [(1, .int 1), (2, .int r_17), (0, .ref k)]) hx hb dX11_whole_32 rfl hl (by decide) rfl ?_
              clear hl
              intro ls hl
              refine lv_goto (tgt := 5) hx hb dX11_whole_33 (by decide) ?_
              exact ih5 1 scd_19 scf_20 scg_21 (by first | omega | (simp only [zl_1] <;> omega) | decide | assumption | rfl) (by first | omega | (simp only [zl_1] <;> omega) | decide | assumption | rfl) (by first | omega | (simp only [zl_1] <;> omega) | decide | assumption | rfl) (by first | omega | (simp only [zl_1] <;> omega) | decide | assumption | rfl) (by omega) ls _ _ (lv_sub hl [0, 2] rfl) (hP.sub [0, 1] rfl) (hD.sub [0, 1] (by decide) rfl) hS
        · try simp only [zl_124] at h_15
          have h_15 : scd_12.toInt = f5_kd.toInt := h_15
          obtain rfl : r_10 = 0 := hr_10.trans (by decide)
          refine b_if_eq hx hb zl_0 (tgt := 36) dX11_whole_11 (by decide) (fun c_28 => ?_) (fun c_28 => by exfalso; omega)
          refine lv_iload_n hx hb dX11_whole_36 rfl (lv_at hl 0 rfl) ?_
          exact hRet (scd_12, f5_kf, f5_kg) [0, 1] ⟨(by first | omega | decide | assumption | rfl | (dsimp only; first | omega)), (by first | omega | decide | assumption | rfl | (dsimp only; first | omega)), (by first | omega | decide | assumption | rfl | (dsimp only; first | omega))⟩ hP hD (by decide) rfl hS rfl dX11_whole_37
  exact hloop_5 _ r_1 scd_3 scf_4 scg_5 (by first | omega | decide | assumption | rfl) (by first | omega | decide | assumption | rfl) (by first | omega | decide | assumption | rfl) (by first | omega | decide | assumption | rfl) (Nat.lt_succ_self _) ls _ _ (lv_sub hl [0, 1] rfl) hP hD hS

set_option maxHeartbeats 4000000 in
set_option maxRecDepth 100000 in
theorem c_X11_oneG1 (l : Launch) (D : va_G) (cI : ClassId) (aK aV : Nat → Nat) (k k0 k1 k2 k4 k5 k6 k7 k8 ka kb kl ko : Nat) (sz : Nat) (c3 : Int32) (c9 : Int32) (cc : Int32) (cd : Int32) (ce : Int32) (cf : Int32) (cg : Int32) (ch : Int32) (ci : Int32) (cj : Int32) (ck : Int32) (cm : Int32) (cn : Int32) (c0 : Nat → Int32) (pre0 : 0 ≤ cc.toInt) (pre1 : cc.toInt ≤ 1151) (pre2 : 0 ≤ cd.toInt) (pre3 : cd.toInt ≤ ce.toInt) (pre4 : ce.toInt ≤ 50) (pre5 : cg.toInt = 1) : Met l yX11_one (gW yX11_one cX11_one 4 (some .int)) ({ frames := 19, cells := 0, slots := 0, locals := 430 } : Room) (kPreX D cI aK aV [.ref k] [(k, .inr (11, [.ref k0, .ref k1, .ref k2, .int c3, .ref k4, .ref k5, .ref k6, .ref k7, .ref k8, .int c9, .ref ka, .ref kb, .int cc, .int cd, .int ce, .int cf, .int cg, .int ch, .int ci, .int cj, .int ck, .ref kl, .int cm, .int cn, .ref ko])), (k0, .inl (cI, 1201, .inl c0))] sz) (va_Qi (fun (r : Int32) (u : Int32 × Int32 × Int32) => cd.toInt ≤ u.1.toInt ∧ u.1.toInt ≤ ce.toInt ∧ u.2.2.toInt = 1) (fun u t => kWd D cI (va_A [(k, .inr (11, [.ref k0, .ref k1, .ref k2, .int c3, .ref k4, .ref k5, .ref k6, .ref k7, .ref k8, .int c9, .ref ka, .ref kb, .int cc, .int cd, .int ce, .int cf, .int cg, .int ch, .int ci, .int cj, .int ck, .ref kl, .int cm, .int cn, .ref ko])), (k0, .inl (cI, 1201, .inl c0))] sz) [(k, .inr (11, [.ref k0, .ref k1, .ref k2, .int c3, .ref k4, .ref k5, .ref k6, .ref k7, .ref k8, .int c9, .ref ka, .ref kb, .int cc, .int u.1, .int ce, .int u.2.1, .int u.2.2, .int ch, .int ci, .int cj, .int ck, .ref kl, .int cm, .int cn, .ref ko])), (k0, .inl (cI, 1201, .inl c0))] t) (va_A [(k, .inr (11, [.ref k0, .ref k1, .ref k2, .int c3, .ref k4, .ref k5, .ref k6, .ref k7, .ref k8, .int c9, .ref ka, .ref kb, .int cc, .int cd, .int ce, .int cf, .int cg, .int ch, .int ci, .int cj, .int ck, .ref kl, .int cm, .int cn, .ref ko])), (k0, .inl (cI, 1201, .inl c0))] sz)) 0 0 (va_A [(k, .inr (11, [.ref k0, .ref k1, .ref k2, .int c3, .ref k4, .ref k5, .ref k6, .ref k7, .ref k8, .int c9, .ref ka, .ref kb, .int cc, .int cd, .int ce, .int cf, .int cg, .int ch, .int ci, .int cj, .int ck, .ref kl, .int cm, .int cn, .ref ko])), (k0, .inl (cI, 1201, .inl c0))] sz) := by
  refine kMetIX (own := RX11) (by decide) rfl (Nat.le_of_ble_eq_true rfl) ?_
  intro p e s m args below meth c hx hb hT hown hname hml A Q hK hP hD hS hA hN hXS hRet ls hl
  have hl : lv_has ls 4 [(0, .ref k)] := hl
  have lo_cd := k_lo cd
  have hi_cd := k_hi cd
  have lo_ce := k_lo ce
  have hi_ce := k_hi ce
  have lo_cf := k_lo cf
  have hi_cf := k_hi cf
  have lo_cg := k_lo cg
  have hi_cg := k_hi cg
  have lo_ci := k_lo ci
  have hi_ci := k_hi ci
  have lo_cj := k_lo cj
  have hi_cj := k_hi cj
  have lo_ck := k_lo ck
  have hi_ck := k_hi ck
  refine lv_aload_n hx hb dX11_one_0 rfl (lv_at hl 0 rfl) ?_
  refine kJi (wr := []) (va_runV (As := []) (rest := []) ⟨hx, hb, hml, hown, hT⟩ (c_X11_nowG l D cI aK aV k k0 k1 k2 k4 k5 k6 k7 k8 ka kb kl ko s.heap.size c3 c9 cc cd ce cf cg ch ci cj ck cm cn c0 (by first | omega | decide | assumption | rfl) (by first | omega | decide | assumption | rfl) (by first | omega | decide | assumption | rfl) (by first | omega | decide | assumption | rfl) (by first | omega | decide | assumption | rfl)) (cwV 0 hT (gV_in mw_1339 mw_1336 mw_1338 mw_p4_9 mw_12) rfl rfl rfl (by decide +kernel) ⟨Nat.le_of_ble_eq_true rfl, Nat.le_of_ble_eq_true rfl⟩) (kRecvX (q0 := 0) (ci := 11) hK hP hD hN hXS hS hA rfl rfl [0, 1] rfl (by decide)) rfl rfl hl.1 rfl (lv_room (Nat.le_of_ble_eq_true rfl)) dX11_one_1 ⟨Nat.le_of_ble_eq_true rfl, Nat.le_of_ble_eq_true rfl⟩) hP hD hS hA [0, 1] [] rfl rfl (by decide) (by decide) ?_
  clear hP hD hS
  intro r_1 u_3 H locs w_2 hP hD hS
  replace hP : va_P D vwCl [(k, .inr (11, [.ref k0, .ref k1, .ref k2, .int c3, .ref k4, .ref k5, .ref k6, .ref k7, .ref k8, .int c9, .ref ka, .ref kb, .int cc, .int cd, .int ce, .int cf, .int cg, .int ch, .int ci, .int cj, .int ck, .ref kl, .int cm, .int cn, .ref ko])), (k0, .inl (cI, 1201, .inl c0))] H := hP
  replace hD : va_D A [(k, .inr (11, [.ref k0, .ref k1, .ref k2, .int c3, .ref k4, .ref k5, .ref k6, .ref k7, .ref k8, .int c9, .ref ka, .ref kb, .int cc, .int cd, .int ce, .int cf, .int cg, .int ch, .int ci, .int cj, .int ck, .ref kl, .int cm, .int cn, .ref ko])), (k0, .inl (cI, 1201, .inl c0))] := hD
  rcases w_2 with h_4 | ⟨hr_1, h_5⟩
  · have h_4 : cd.toInt < ce.toInt := h_4
    have lo_r_1 := k_lo r_1
    have hi_r_1 := k_hi r_1
    refine lv_istore_n (lv' := [(1, .int r_1), (0, .ref k)]) hx hb dX11_one_4 rfl hl (by decide) rfl ?_
    clear hl
    intro ls hl
    refine lv_aload_n hx hb dX11_one_5 rfl (lv_at hl 1 rfl) ?_
    refine va_get (D := D) (ci := 11) (v := .int cf) (C := RX11) (T := TX11) (N := 25) hx hb hT giX11 hown hK hP 0 rfl rfl 15 (by decide) (hT (Cond.fieldLink RX11 148 "DesertWireModel" "isWrong" "Z") mw_1171) (fun _ h9 => h9) rfl dX11_one_6 ?_
    refine b_if_eq hx hb rfl (tgt := 14) dX11_one_9 (by decide) (fun c_6 => ?_) (fun c_6 => ?_)
    · refine lv_iload_n hx hb dX11_one_14 rfl (lv_at hl 0 rfl) ?_
      refine lv_bipush (v := 48) hx hb dX11_one_15 (by decide) ?_
      refine lv_bipush (v := 57) hx hb dX11_one_17 (by decide) ?_
      refine kJi (wr := [(k, .inr (11, [.ref k0, .ref k1, .ref k2, .int c3, .ref k4, .ref k5, .ref k6, .ref k7, .ref k8, .int c9, .ref ka, .ref kb, .int cc, .int cd, .int ce, .int cf, .int cg, .int ch, .int ci, .int cj, .int ck, .ref kl, .int cm, .int cn, .ref ko])), (k0, .inl (cI, 1201, .inl c0))]) (va_runS (As := [.int r_1, .int 48, .int 57]) (rest := []) ⟨hx, hb, hml, hown, hT⟩ (c_X11_inG l D cI aK aV H.size r_1 48 57) (cwS 3 hT (gS_in mw_1238 mw_1236 mw_1237 mw_12) rfl rfl rfl (by decide +kernel) ⟨Nat.le_of_ble_eq_true rfl, Nat.le_of_ble_eq_true rfl⟩) (kStatX hK hP hD hN hXS hS hA [] rfl (by decide)) rfl rfl hl.1 rfl (lv_room (Nat.le_of_ble_eq_true rfl)) dX11_one_19 ⟨Nat.le_of_ble_eq_true rfl, Nat.le_of_ble_eq_true rfl⟩) hP hD hS hA [] [0, 1] rfl rfl (by decide) (by decide) ?_
      clear hP hD hS
      intro r_7 u_9 H locs w_8 hP hD hS
      replace hP : va_P D vwCl [(k, .inr (11, [.ref k0, .ref k1, .ref k2, .int c3, .ref k4, .ref k5, .ref k6, .ref k7, .ref k8, .int c9, .ref ka, .ref kb, .int cc, .int cd, .int ce, .int cf, .int cg, .int ch, .int ci, .int cj, .int ck, .ref kl, .int cm, .int cn, .ref ko])), (k0, .inl (cI, 1201, .inl c0))] H := hP
      replace hD : va_D A [(k, .inr (11, [.ref k0, .ref k1, .ref k2, .int c3, .ref k4, .ref k5, .ref k6, .ref k7, .ref k8, .int c9, .ref ka, .ref kb, .int cc, .int cd, .int ce, .int cf, .int cg, .int ch, .int ci, .int cj, .int ck, .ref kl, .int cm, .int cn, .ref ko])), (k0, .inl (cI, 1201, .inl c0))] := hD
      rcases w_8 with ⟨hr_7, h_10, h_11⟩ | ⟨hr_7, h_12⟩
      · try simp only [zl_48, zl_57] at h_10
        have h_10 : 48 ≤ r_1.toInt := h_10
        try simp only [zl_48, zl_57] at h_11
        have h_11 : r_1.toInt ≤ 57 := h_11
        obtain rfl : r_7 = 1 := hr_7.trans (by decide)
        refine b_if_eq hx hb zl_1 (tgt := 79) dX11_one_22 (by decide) (fun c_13 => by exfalso; omega) (fun c_13 => ?_)
        refine lv_iconst (v := 0) hx hb dX11_one_25 (by decide) ?_
        refine lv_istore_n (lv' := [(2, .int 0), (1, .int r_1), (0, .ref k)]) hx hb dX11_one_26 rfl hl (by decide) rfl ?_
        clear hl
        intro ls hl
        refine lv_iconst (v := 0) hx hb dX11_one_27 (by decide) ?_
        refine lv_istore_n (lv' := [(3, .int 0), (2, .int 0), (1, .int r_1), (0, .ref k)]) hx hb dX11_one_28 rfl hl (by decide) rfl ?_
        clear hl
        intro ls hl
        have hloop_29 : ∀ (fu_ : Nat) (l29_2 : Int32) (l29_3 : Int32) (f29_kd : Int32), 0 ≤ l29_3.toInt → cd.toInt ≤ f29_kd.toInt → f29_kd.toInt ≤ ce.toInt → (4 - l29_3.toInt).toNat < fu_ → ∀ (ls : Array Slot) (H : Heap) (locs : List Loc), lv_has ls 4 [(3, .int l29_3), (2, .int l29_2), (1, .int r_1), (0, .ref k)] → va_P D vwCl [(k, .inr (11, [.ref k0, .ref k1, .ref k2, .int c3, .ref k4, .ref k5, .ref k6, .ref k7, .ref k8, .int c9, .ref ka, .ref kb, .int cc, .int f29_kd, .int ce, .int cf, .int cg, .int ch, .int ci, .int cj, .int ck, .ref kl, .int cm, .int cn, .ref ko])), (k0, .inl (cI, 1201, .inl c0))] H → va_D A [(k, .inr (11, [.ref k0, .ref k1, .ref k2, .int c3, .ref k4, .ref k5, .ref k6, .ref k7, .ref k8, .int c9, .ref ka, .ref kb, .int cc, .int f29_kd, .int ce, .int cf, .int cg, .int ch, .int ci, .int cj, .int ck, .ref kl, .int cm, .int cn, .ref ko])), (k0, .inl (cI, 1201, .inl c0))] → va_S A s.heap H locs → W p l e ({ frames := 19, cells := 0, slots := 0, locals := 430 } : Room) s m args below meth c H locs 0 0 Q (F0 m 29 ls []) := by
          intro fu_; induction fu_ with
          | zero => intro l29_2 l29_3 f29_kd i29_0 i29_1 i29_2 hm; exact absurd hm (by omega)
          | succ fu_ ih29 =>
              intro l29_2 l29_3 f29_kd i29_0 i29_1 i29_2 hm ls H locs hl hP hD hS
              have lo_l29_2 := k_lo l29_2
              have hi_l29_2 := k_hi l29_2
              have lo_l29_3 := k_lo l29_3
              have hi_l29_3 := k_hi l29_3
              have lo_f29_kd := k_lo f29_kd
              have hi_f29_kd := k_hi f29_kd
              refine lv_iload_n hx hb dX11_one_29 rfl (lv_at hl 0 rfl) ?_
              refine lv_iconst (v := 4) hx hb dX11_one_30 (by decide) ?_
              refine b_icmp_ge hx hb rfl zl_4 (tgt := 77) dX11_one_31 (by decide) (fun c_14 => ?_) (fun c_14 => ?_)
              · refine lv_iload_n hx hb dX11_one_77 rfl (lv_at hl 1 rfl) ?_
                exact hRet (f29_kd, cf, cg) [0, 1] ⟨(by first | omega | decide | assumption | rfl | (dsimp only; first | omega)), (by first | omega | decide | assumption | rfl | (dsimp only; first | omega)), (by first | omega | decide | assumption | rfl | (dsimp only; first | omega))⟩ hP hD (by decide) rfl hS rfl dX11_one_78
              · refine lv_aload_n hx hb dX11_one_34 rfl (lv_at hl 3 rfl) ?_
                refine kJi (wr := []) (va_runV (As := []) (rest := []) ⟨hx, hb, hml, hown, hT⟩ (c_X11_nowG l D cI aK aV k k0 k1 k2 k4 k5 k6 k7 k8 ka kb kl ko H.size c3 c9 cc f29_kd ce cf cg ch ci cj ck cm cn c0 (by first | omega | decide | assumption | rfl) (by first | omega | decide | assumption | rfl) (by first | omega | decide | assumption | rfl) (by first | omega | decide | assumption | rfl) (by first | omega | decide | assumption | rfl)) (cwV 0 hT (gV_in mw_1339 mw_1336 mw_1338 mw_p4_9 mw_12) rfl rfl rfl (by decide +kernel) ⟨Nat.le_of_ble_eq_true rfl, Nat.le_of_ble_eq_true rfl⟩) (kRecvX (q0 := 0) (ci := 11) hK hP hD hN hXS hS hA rfl rfl [0, 1] rfl (by decide)) rfl rfl hl.1 rfl (lv_room (Nat.le_of_ble_eq_true rfl)) dX11_one_35 ⟨Nat.le_of_ble_eq_true rfl, Nat.le_of_ble_eq_true rfl⟩) hP hD hS hA [0, 1] [] rfl rfl (by decide) (by decide) ?_
                clear hP hD hS
                intro r_15 u_17 H locs w_16 hP hD hS
                replace hP : va_P D vwCl [(k, .inr (11, [.ref k0, .ref k1, .ref k2, .int c3, .ref k4, .ref k5, .ref k6, .ref k7, .ref k8, .int c9, .ref ka, .ref kb, .int cc, .int f29_kd, .int ce, .int cf, .int cg, .int ch, .int ci, .int cj, .int ck, .ref kl, .int cm, .int cn, .ref ko])), (k0, .inl (cI, 1201, .inl c0))] H := hP
                replace hD : va_D A [(k, .inr (11, [.ref k0, .ref k1, .ref k2, .int c3, .ref k4, .ref k5, .ref k6, .ref k7, .ref k8, .int c9, .ref ka, .ref kb, .int cc, .int f29_kd, .int ce, .int cf, .int cg, .int ch, .int ci, .int cj, .int ck, .ref kl, .int cm, .int cn, .ref ko])), (k0, .inl (cI, 1201, .inl c0))] := hD
                rcases w_16 with h_18 | ⟨hr_15, h_19⟩
                · have h_18 : f29_kd.toInt < ce.toInt := h_18
                  have lo_r_15 := k_lo r_15
                  have hi_r_15 := k_hi r_15
                  refine lv_bipush (v := 48) hx hb dX11_one_38 (by decide) ?_
                  refine lv_bipush (v := 57) hx hb dX11_one_40 (by decide) ?_
                  refine kJi (wr := [(k, .inr (11, [.ref k0, .ref k1, .ref k2, .int c3, .ref k4, .ref k5, .ref k6, .ref k7, .ref k8, .int c9, .ref ka, .ref kb, .int cc, .int f29_kd, .int ce, .int cf, .int cg, .int ch, .int ci, .int cj, .int ck, .ref kl, .int cm, .int cn, .ref ko])), (k0, .inl (cI, 1201, .inl c0))]) (va_runS (As := [.int r_15, .int 48, .int 57]) (rest := []) ⟨hx, hb, hml, hown, hT⟩ (c_X11_inG l D cI aK aV H.size r_15 48 57) (cwS 3 hT (gS_in mw_1238 mw_1236 mw_1237 mw_12) rfl rfl rfl (by decide +kernel) ⟨Nat.le_of_ble_eq_true rfl, Nat.le_of_ble_eq_true rfl⟩) (kStatX hK hP hD hN hXS hS hA [] rfl (by decide)) rfl rfl hl.1 rfl (lv_room (Nat.le_of_ble_eq_true rfl)) dX11_one_42 ⟨Nat.le_of_ble_eq_true rfl, Nat.le_of_ble_eq_true rfl⟩) hP hD hS hA [] [0, 1] rfl rfl (by decide) (by decide) ?_
                  clear hP hD hS
                  intro r_20 u_22 H locs w_21 hP hD hS
                  replace hP : va_P D vwCl [(k, .inr (11, [.ref k0, .ref k1, .ref k2, .int c3, .ref k4, .ref k5, .ref k6, .ref k7, .ref k8, .int c9, .ref ka, .ref kb, .int cc, .int f29_kd, .int ce, .int cf, .int cg, .int ch, .int ci, .int cj, .int ck, .ref kl, .int cm, .int cn, .ref ko])), (k0, .inl (cI, 1201, .inl c0))] H := hP
                  replace hD : va_D A [(k, .inr (11, [.ref k0, .ref k1, .ref k2, .int c3, .ref k4, .ref k5, .ref k6, .ref k7, .ref k8, .int c9, .ref ka, .ref kb, .int cc, .int f29_kd, .int ce, .int cf, .int cg, .int ch, .int ci, .int cj, .int ck, .ref kl, .int cm, .int cn, .ref ko])), (k0, .inl (cI, 1201, .inl c0))] := hD
                  rcases w_21 with ⟨hr_20, h_23, h_24⟩ | ⟨hr_20, h_25⟩
                  · try simp only [zl_48, zl_57] at h_23
                    have h_23 : 48 ≤ r_15.toInt := h_23
                    try simp only [zl_48, zl_57] at h_24
                    have h_24 : r_15.toInt ≤ 57 := h_24
                    obtain rfl : r_20 = 1 := hr_20.trans (by decide)
                    refine b_if_eq hx hb zl_1 (tgt := 77) dX11_one_45 (by decide) (fun c_26 => by exfalso; omega) (fun c_26 => ?_)
                    refine lv_bipush (v := 10) hx hb dX11_one_48 (by decide) ?_
                    refine lv_iload_n hx hb dX11_one_50 rfl (lv_at hl 1 rfl) ?_
                    refine lv_imul hx hb dX11_one_51 ?_
                    refine lv_topi (fun v_27 ev_27 => ?_)
                    have lo_v_27 := k_lo v_27
                    have hi_v_27 := k_hi v_27
                    refine lv_aload_n hx hb dX11_one_52 rfl (lv_at hl 3 rfl) ?_
                    refine kJi (wr := []) (va_runV (As := []) (rest := [.int v_27]) ⟨hx, hb, hml, hown, hT⟩ (c_X11_nowG l D cI aK aV k k0 k1 k2 k4 k5 k6 k7 k8 ka kb kl ko H.size c3 c9 cc f29_kd ce cf cg ch ci cj ck cm cn c0 (by first | omega | decide | assumption | rfl) (by first | omega | decide | assumption | rfl) (by first | omega | decide | assumption | rfl) (by first | omega | decide | assumption | rfl) (by first | omega | decide | assumption | rfl)) (cwV 0 hT (gV_in mw_1339 mw_1336 mw_1338 mw_p4_9 mw_12) rfl rfl rfl (by decide +kernel) ⟨Nat.le_of_ble_eq_true rfl, Nat.le_of_ble_eq_true rfl⟩) (kRecvX (q0 := 0) (ci := 11) hK hP hD hN hXS hS hA rfl rfl [0, 1] rfl (by decide)) rfl rfl hl.1 rfl (lv_room (Nat.le_of_ble_eq_true rfl)) dX11_one_53 ⟨Nat.le_of_ble_eq_true rfl, Nat.le_of_ble_eq_true rfl⟩) hP hD hS hA [0, 1] [] rfl rfl (by decide) (by decide) ?_
                    clear hP hD hS
                    intro r_28 u_30 H locs w_29 hP hD hS
                    replace hP : va_P D vwCl [(k, .inr (11, [.ref k0, .ref k1, .ref k2, .int c3, .ref k4, .ref k5, .ref k6, .ref k7, .ref k8, .int c9, .ref ka, .ref kb, .int cc, .int f29_kd, .int ce, .int cf, .int cg, .int ch, .int ci, .int cj, .int ck, .ref kl, .int cm, .int cn, .ref ko])), (k0, .inl (cI, 1201, .inl c0))] H := hP
                    replace hD : va_D A [(k, .inr (11, [.ref k0, .ref k1, .ref k2, .int c3, .ref k4, .ref k5, .ref k6, .ref k7, .ref k8, .int c9, .ref ka, .ref kb, .int cc, .int f29_kd, .int ce, .int cf, .int cg, .int ch, .int ci, .int cj, .int ck, .ref kl, .int cm, .int cn, .ref ko])), (k0, .inl (cI, 1201, .inl c0))] := hD
                    rcases w_29 with h_31 | ⟨hr_28, h_32⟩
                    · have h_31 : f29_kd.toInt < ce.toInt := h_31
                      have lo_r_28 := k_lo r_28
                      have hi_r_28 := k_hi r_28
                      refine lv_iadd hx hb dX11_one_56 ?_
                      refine lv_topi (fun v_33 ev_33 => ?_)
                      have lo_v_33 := k_lo v_33
                      have hi_v_33 := k_hi v_33
                      refine lv_bipush (v := 48) hx hb dX11_one_57 (by decide) ?_
                      refine lv_isub hx hb dX11_one_59 ?_
                      refine lv_topi (fun v_34 ev_34 => ?_)
                      have lo_v_34 := k_lo v_34
                      have hi_v_34 := k_hi v_34
                      refine lv_istore_n (lv' := [(2, .int v_34), (3, .int l29_3), (1, .int r_1), (0, .ref k)]) hx hb dX11_one_60 rfl hl (by decide) rfl ?_
                      clear hl
                      intro ls hl
                      refine lv_aload_n hx hb dX11_one_61 rfl (lv_at hl 3 rfl) ?_
                      refine lv_dup hx hb dX11_one_62 rfl ?_
                      refine va_get (D := D) (ci := 11) (v := .int f29_kd) (C := RX11) (T := TX11) (N := 25) hx hb hT giX11 hown hK hP 0 rfl rfl 13 (by decide) (hT (Cond.fieldLink RX11 138 "DesertWireModel" "here" "I") mw_1169) (fun _ h9 => h9) rfl dX11_one_63 ?_
                      refine lv_iconst (v := 1) hx hb dX11_one_66 (by decide) ?_
                      refine lv_iadd hx hb dX11_one_67 ?_
                      refine lv_topi (fun v_35 ev_35 => ?_)
                      have tv_35 : v_35.toInt = f29_kd.toInt + 1 := by rw [ev_35]; exact k_addv rfl zl_1 (by omega) (by omega)
                      refine va_put (D := D) (ci := 11) (v := .int v_35) (ty := .int) (C := RX11) (T := TX11) (N := 25) hx hb hT giX11 tyX11 tyX11_ok nmX11 hown hK hP hD hS 0 rfl rfl 13 (by decide) (hT (Cond.fieldLink RX11 138 "DesertWireModel" "here" "I") mw_1169) (fun _ h9 => h9) rfl (by decide +kernel) rfl rfl (Nat.le_of_ble_eq_true rfl) dX11_one_68 ?_
                      clear hP hD hS
                      intro H locs hP hD hS
                      replace hP : va_P D vwCl [(k, .inr (11, [.ref k0, .ref k1, .ref k2, .int c3, .ref k4, .ref k5, .ref k6, .ref k7, .ref k8, .int c9, .ref ka, .ref kb, .int cc, .int v_35, .int ce, .int cf, .int cg, .int ch, .int ci, .int cj, .int ck, .ref kl, .int cm, .int cn, .ref ko])), (k0, .inl (cI, 1201, .inl c0))] H := hP
                      replace hD : va_D A [(k, .inr (11, [.ref k0, .ref k1, .ref k2, .int c3, .ref k4, .ref k5, .ref k6, .ref k7, .ref k8, .int c9, .ref ka, .ref kb, .int cc, .int v_35, .int ce, .int cf, .int cg, .int ch, .int ci, .int cj, .int ck, .ref kl, .int cm, .int cn, .ref ko])), (k0, .inl (cI, 1201, .inl c0))] := hD
                      obtain ⟨v_36, ev_36⟩ : ∃ y : Int32, y = l29_3 + 1 := ⟨_, rfl⟩
                      have tv_36 : v_36.toInt = l29_3.toInt + 1 := by rw [ev_36]; exact k_addv rfl zl_1 (by omega) (by omega)
                      refine lv_iinc (v := v_36) (lv' := [(3, .int v_36), (2, .int v_34), (1, .int r_1), (0, .ref k)]) hx hb dX11_one_71 hl (k := 1) rfl (by rw [ev_36]; rfl) (by decide) rfl ?_
                      clear hl
                      intro ls hl
                      refine lv_goto (tgt := 29) hx hb dX11_one_74 (by decide) ?_
                      exact ih29 v_34 v_36 v_35 (by first | omega | decide | assumption | rfl) (by first | omega | decide | assumption | rfl) (by first | omega | decide | assumption | rfl) (by omega) ls _ _ (lv_sub hl [0, 1, 2, 3] rfl) (hP.sub [0, 1] rfl) (hD.sub [0, 1] (by decide) rfl) hS
                    · exfalso; omega
                  · try simp only [zl_48, zl_57] at h_25
                    have h_25 : r_15.toInt < 48 ∨ 57 < r_15.toInt := h_25
                    obtain rfl : r_20 = 0 := hr_20.trans (by decide)
                    refine b_if_eq hx hb zl_0 (tgt := 77) dX11_one_45 (by decide) (fun c_37 => ?_) (fun c_37 => by exfalso; omega)
                    refine lv_iload_n hx hb dX11_one_77 rfl (lv_at hl 1 rfl) ?_
                    exact hRet (f29_kd, cf, cg) [0, 1] ⟨(by first | omega | decide | assumption | rfl | (dsimp only; first | omega)), (by first | omega | decide | assumption | rfl | (dsimp only; first | omega)), (by first | omega | decide | assumption | rfl | (dsimp only; first | omega))⟩ hP hD (by decide) rfl hS rfl dX11_one_78
                · have h_19 : f29_kd.toInt = ce.toInt := h_19
                  obtain rfl : r_15 = (-1) := hr_15.trans (by decide)
                  refine lv_bipush (v := 48) hx hb dX11_one_38 (by decide) ?_
                  refine lv_bipush (v := 57) hx hb dX11_one_40 (by decide) ?_
                  refine kJi (wr := [(k, .inr (11, [.ref k0, .ref k1, .ref k2, .int c3, .ref k4, .ref k5, .ref k6, .ref k7, .ref k8, .int c9, .ref ka, .ref kb, .int cc, .int f29_kd, .int ce, .int cf, .int cg, .int ch, .int ci, .int cj, .int ck, .ref kl, .int cm, .int cn, .ref ko])), (k0, .inl (cI, 1201, .inl c0))]) (va_runS (As := [.int (-1), .int 48, .int 57]) (rest := []) ⟨hx, hb, hml, hown, hT⟩ (c_X11_inG l D cI aK aV H.size (-1) 48 57) (cwS 3 hT (gS_in mw_1238 mw_1236 mw_1237 mw_12) rfl rfl rfl (by decide +kernel) ⟨Nat.le_of_ble_eq_true rfl, Nat.le_of_ble_eq_true rfl⟩) (kStatX hK hP hD hN hXS hS hA [] rfl (by decide)) rfl rfl hl.1 rfl (lv_room (Nat.le_of_ble_eq_true rfl)) dX11_one_42 ⟨Nat.le_of_ble_eq_true rfl, Nat.le_of_ble_eq_true rfl⟩) hP hD hS hA [] [0, 1] rfl rfl (by decide) (by decide) ?_
                  clear hP hD hS
                  intro r_38 u_40 H locs w_39 hP hD hS
                  replace hP : va_P D vwCl [(k, .inr (11, [.ref k0, .ref k1, .ref k2, .int c3, .ref k4, .ref k5, .ref k6, .ref k7, .ref k8, .int c9, .ref ka, .ref kb, .int cc, .int f29_kd, .int ce, .int cf, .int cg, .int ch, .int ci, .int cj, .int ck, .ref kl, .int cm, .int cn, .ref ko])), (k0, .inl (cI, 1201, .inl c0))] H := hP
                  replace hD : va_D A [(k, .inr (11, [.ref k0, .ref k1, .ref k2, .int c3, .ref k4, .ref k5, .ref k6, .ref k7, .ref k8, .int c9, .ref ka, .ref kb, .int cc, .int f29_kd, .int ce, .int cf, .int cg, .int ch, .int ci, .int cj, .int ck, .ref kl, .int cm, .int cn, .ref ko])), (k0, .inl (cI, 1201, .inl c0))] := hD
                  rcases w_39 with ⟨hr_38, h_41, h_42⟩ | ⟨hr_38, h_43⟩
                  · (try simp only [zl_m1, zl_48, zl_57] at h_41 h_42); exfalso; omega
                  · try simp only [zl_m1, zl_48, zl_57] at h_43
                    obtain rfl : r_38 = 0 := hr_38.trans (by decide)
                    refine b_if_eq hx hb zl_0 (tgt := 77) dX11_one_45 (by decide) (fun c_44 => ?_) (fun c_44 => by exfalso; omega)
                    refine lv_iload_n hx hb dX11_one_77 rfl (lv_at hl 1 rfl) ?_
                    exact hRet (f29_kd, cf, cg) [0, 1] ⟨(by first | omega | decide | assumption | rfl | (dsimp only; first | omega)), (by first | omega | decide | assumption | rfl | (dsimp only; first | omega)), (by first | omega | decide | assumption | rfl | (dsimp only; first | omega))⟩ hP hD (by decide) rfl hS rfl dX11_one_78
        exact hloop_29 _ 0 0 cd (by first | omega | (simp only [zl_0] <;> omega) | decide | assumption | rfl) (by first | omega | (simp only [zl_0] <;> omega) | decide | assumption | rfl) (by first | omega | (simp only [zl_0] <;> omega) | decide | assumption | rfl) (Nat.lt_succ_self _) ls _ _ (lv_sub hl [0, 1, 2, 3] rfl) hP hD hS
      · try simp only [zl_48, zl_57] at h_12
        have h_12 : r_1.toInt < 48 ∨ 57 < r_1.toInt := h_12
        obtain rfl : r_7 = 0 := hr_7.trans (by decide)
        refine b_if_eq hx hb zl_0 (tgt := 79) dX11_one_22 (by decide) (fun c_45 => ?_) (fun c_45 => by exfalso; omega)
        refine lv_aload_n hx hb dX11_one_79 rfl (lv_at hl 1 rfl) ?_
        refine lv_iload_n hx hb dX11_one_80 rfl (lv_at hl 0 rfl) ?_
        refine kJi (wr := [(k0, .inl (cI, 1201, .inl c0))]) (va_runV (As := [.int r_1]) (rest := []) ⟨hx, hb, hml, hown, hT⟩ (c_X11_nameAtG l D cI aK aV k k0 k1 k2 k4 k5 k6 k7 k8 ka kb kl ko H.size c3 c9 cc cd ce cf cg ch ci cj ck cm cn r_1) (cwV 1 hT (gV_in mw_1343 mw_1340 mw_1342 mw_p4_10 mw_12) rfl rfl rfl (by decide +kernel) ⟨Nat.le_of_ble_eq_true rfl, Nat.le_of_ble_eq_true rfl⟩) (kRecvX (q0 := 0) (ci := 11) hK hP hD hN hXS hS hA rfl rfl [0] rfl (by decide)) rfl rfl hl.1 rfl (lv_room (Nat.le_of_ble_eq_true rfl)) dX11_one_81 ⟨Nat.le_of_ble_eq_true rfl, Nat.le_of_ble_eq_true rfl⟩) hP hD hS hA [0] [1] rfl rfl (by decide) (by decide) ?_
        clear hP hD hS
        intro r_46 u_48 H locs w_47 hP hD hS
        replace hP : va_P D vwCl [(k0, .inl (cI, 1201, .inl c0)), (k, .inr (11, [.ref k0, .ref k1, .ref k2, .int c3, .ref k4, .ref k5, .ref k6, .ref k7, .ref k8, .int c9, .ref ka, .ref kb, .int cc, .int cd, .int ce, .int cf, .int cg, .int ch, .int ci, .int cj, .int ck, .ref kl, .int cm, .int cn, .ref ko]))] H := hP
        replace hD : va_D A [(k0, .inl (cI, 1201, .inl c0)), (k, .inr (11, [.ref k0, .ref k1, .ref k2, .int c3, .ref k4, .ref k5, .ref k6, .ref k7, .ref k8, .int c9, .ref ka, .ref kb, .int cc, .int cd, .int ce, .int cf, .int cg, .int ch, .int ci, .int cj, .int ck, .ref kl, .int cm, .int cn, .ref ko]))] := hD
        rcases w_47 with h_49 | hr_46
        · have h_49 : 97 ≤ r_1.toInt := h_49
          have lo_r_46 := k_lo r_46
          have hi_r_46 := k_hi r_46
          refine lv_istore_n (lv' := [(2, .int r_46), (1, .int r_1), (0, .ref k)]) hx hb dX11_one_84 rfl hl (by decide) rfl ?_
          clear hl
          intro ls hl
          refine lv_iload_n hx hb dX11_one_85 rfl (lv_at hl 0 rfl) ?_
          refine b_if_lt hx hb rfl (tgt := 127) dX11_one_86 (by decide) (fun c_50 => ?_) (fun c_50 => ?_)
          · refine lv_aload_n hx hb dX11_one_127 rfl (lv_at hl 2 rfl) ?_
            refine lv_iload_n hx hb dX11_one_128 rfl (lv_at hl 1 rfl) ?_
            refine lv_bipush (v := 45) hx hb dX11_one_129 (by decide) ?_
            refine b_icmp_eq hx hb rfl zl_45 (tgt := 146) dX11_one_131 (by decide) (fun c_51 => by exfalso; omega) (fun c_51 => ?_)
            refine lv_iload_n hx hb dX11_one_134 rfl (lv_at hl 1 rfl) ?_
            refine lv_bipush (v := 33) hx hb dX11_one_135 (by decide) ?_
            refine b_icmp_eq hx hb rfl zl_33 (tgt := 146) dX11_one_137 (by decide) (fun c_52 => by exfalso; omega) (fun c_52 => ?_)
            refine lv_iload_n hx hb dX11_one_140 rfl (lv_at hl 1 rfl) ?_
            refine lv_bipush (v := 40) hx hb dX11_one_141 (by decide) ?_
            refine b_icmp_ne hx hb rfl zl_40 (tgt := 158) dX11_one_143 (by decide) (fun c_53 => ?_) (fun c_53 => by exfalso; omega)
            refine lv_iconst (v := 0) hx hb dX11_one_158 (by decide) ?_
            refine kJv (wr := [(k0, .inl (cI, 1201, .inl c0))]) (va_runV (As := [.int 0]) (rest := []) ⟨hx, hb, hml, hown, hT⟩ (c_X11_needsG l D cI aK aV k k0 k1 k2 k4 k5 k6 k7 k8 ka kb kl ko H.size c3 c9 cc cd ce cf cg ch ci cj ck cm cn 0) (cwV 1 hT (gV_in mw_1347 mw_1344 mw_1346 mw_p4_11 mw_12) rfl rfl rfl (by decide +kernel) ⟨Nat.le_of_ble_eq_true rfl, Nat.le_of_ble_eq_true rfl⟩) (kRecvX (q0 := 1) (ci := 11) hK hP hD hN hXS hS hA rfl rfl [1] rfl (by decide)) rfl rfl hl.1 rfl (lv_room (Nat.le_of_ble_eq_true rfl)) dX11_one_159 ⟨Nat.le_of_ble_eq_true rfl, Nat.le_of_ble_eq_true rfl⟩) hP hD hS hA [1] [0] rfl rfl (by decide) (by decide) ?_
            clear hP hD hS
            intro scf_56 H locs w_55 hP hD hS
            replace hP : va_P D vwCl [(k0, .inl (cI, 1201, .inl c0)), (k, .inr (11, [.ref k0, .ref k1, .ref k2, .int c3, .ref k4, .ref k5, .ref k6, .ref k7, .ref k8, .int c9, .ref ka, .ref kb, .int cc, .int cd, .int ce, .int scf_56, .int cg, .int ch, .int ci, .int cj, .int ck, .ref kl, .int cm, .int cn, .ref ko]))] H := hP
            replace hD : va_D A [(k0, .inl (cI, 1201, .inl c0)), (k, .inr (11, [.ref k0, .ref k1, .ref k2, .int c3, .ref k4, .ref k5, .ref k6, .ref k7, .ref k8, .int c9, .ref ka, .ref kb, .int cc, .int cd, .int ce, .int scf_56, .int cg, .int ch, .int ci, .int cj, .int ck, .ref kl, .int cm, .int cn, .ref ko]))] := hD
            have lo_scf_56 := k_lo scf_56
            have hi_scf_56 := k_hi scf_56
            rcases w_55 with ⟨h_57, h_58, h_59⟩ | h_60
            · (try simp only [zl_0] at h_57 h_58 h_59); exfalso; omega
            · try simp only [zl_0] at h_60
              have h_60 : scf_56.toInt = 1 := h_60
              refine lv_aload_n hx hb dX11_one_162 rfl (lv_at hl 2 rfl) ?_
              refine va_get (D := D) (ci := 11) (v := .int scf_56) (C := RX11) (T := TX11) (N := 25) hx hb hT giX11 hown hK hP 1 rfl rfl 15 (by decide) (hT (Cond.fieldLink RX11 148 "DesertWireModel" "isWrong" "Z") mw_1171) (fun _ h9 => h9) rfl dX11_one_163 ?_
              refine b_if_eq hx hb rfl (tgt := 171) dX11_one_166 (by decide) (fun c_61 => by exfalso; omega) (fun c_61 => ?_)
              refine lv_iconst (v := 0) hx hb dX11_one_169 (by decide) ?_
              exact hRet (cd, scf_56, cg) [1, 0] ⟨(by first | omega | (simp only [zl_0] <;> omega) | decide | assumption | rfl | (dsimp only; first | omega | (simp only [zl_0] <;> omega))), (by first | omega | (simp only [zl_0] <;> omega) | decide | assumption | rfl | (dsimp only; first | omega | (simp only [zl_0] <;> omega))), (by first | omega | (simp only [zl_0] <;> omega) | decide | assumption | rfl | (dsimp only; first | omega | (simp only [zl_0] <;> omega)))⟩ hP hD (by decide) rfl hS rfl dX11_one_170
          · refine lv_aload_n hx hb dX11_one_89 rfl (lv_at hl 2 rfl) ?_
            refine lv_dup hx hb dX11_one_90 rfl ?_
            refine va_get (D := D) (ci := 11) (v := .int cd) (C := RX11) (T := TX11) (N := 25) hx hb hT giX11 hown hK hP 1 rfl rfl 13 (by decide) (hT (Cond.fieldLink RX11 138 "DesertWireModel" "here" "I") mw_1169) (fun _ h9 => h9) rfl dX11_one_91 ?_
            refine lv_iconst (v := 1) hx hb dX11_one_94 (by decide) ?_
            refine lv_iadd hx hb dX11_one_95 ?_
            refine lv_topi (fun v_62 ev_62 => ?_)
            have tv_62 : v_62.toInt = cd.toInt + 1 := by rw [ev_62]; exact k_addv rfl zl_1 (by omega) (by omega)
            refine va_put (D := D) (ci := 11) (v := .int v_62) (ty := .int) (C := RX11) (T := TX11) (N := 25) hx hb hT giX11 tyX11 tyX11_ok nmX11 hown hK hP hD hS 1 rfl rfl 13 (by decide) (hT (Cond.fieldLink RX11 138 "DesertWireModel" "here" "I") mw_1169) (fun _ h9 => h9) rfl (by decide +kernel) rfl rfl (Nat.le_of_ble_eq_true rfl) dX11_one_96 ?_
            clear hP hD hS
            intro H locs hP hD hS
            replace hP : va_P D vwCl [(k0, .inl (cI, 1201, .inl c0)), (k, .inr (11, [.ref k0, .ref k1, .ref k2, .int c3, .ref k4, .ref k5, .ref k6, .ref k7, .ref k8, .int c9, .ref ka, .ref kb, .int cc, .int v_62, .int ce, .int cf, .int cg, .int ch, .int ci, .int cj, .int ck, .ref kl, .int cm, .int cn, .ref ko]))] H := hP
            replace hD : va_D A [(k0, .inl (cI, 1201, .inl c0)), (k, .inr (11, [.ref k0, .ref k1, .ref k2, .int c3, .ref k4, .ref k5, .ref k6, .ref k7, .ref k8, .int c9, .ref ka, .ref kb, .int cc, .int v_62, .int ce, .int cf, .int cg, .int ch, .int ci, .int cj, .int ck, .ref kl, .int cm, .int cn, .ref ko]))] := hD
            refine lv_iload_n hx hb dX11_one_99 rfl (lv_at hl 0 rfl) ?_
            refine b_if_ne hx hb rfl (tgt := 110) dX11_one_100 (by decide) (fun c_63 => ?_) (fun c_63 => ?_)
            · refine lv_iload_n hx hb dX11_one_110 rfl (lv_at hl 0 rfl) ?_
              refine lv_iconst (v := 1) hx hb dX11_one_111 (by decide) ?_
              refine b_icmp_ne hx hb rfl zl_1 (tgt := 122) dX11_one_112 (by decide) (fun c_64 => ?_) (fun c_64 => ?_)
              · refine lv_aload_n hx hb dX11_one_122 rfl (lv_at hl 2 rfl) ?_
                refine va_get (D := D) (ci := 11) (v := .int ck) (C := RX11) (T := TX11) (N := 25) hx hb hT giX11 hown hK hP 1 rfl rfl 20 (by decide) (hT (Cond.fieldLink RX11 167 "DesertWireModel" "nameC" "I") mw_1176) (fun _ h9 => h9) rfl dX11_one_123 ?_
                exact hRet (v_62, cf, cg) [1, 0] ⟨(by first | omega | decide | assumption | rfl | (dsimp only; first | omega)), (by first | omega | decide | assumption | rfl | (dsimp only; first | omega)), (by first | omega | decide | assumption | rfl | (dsimp only; first | omega))⟩ hP hD (by decide) rfl hS rfl dX11_one_126
              · refine lv_aload_n hx hb dX11_one_115 rfl (lv_at hl 2 rfl) ?_
                refine va_get (D := D) (ci := 11) (v := .int cj) (C := RX11) (T := TX11) (N := 25) hx hb hT giX11 hown hK hP 1 rfl rfl 19 (by decide) (hT (Cond.fieldLink RX11 164 "DesertWireModel" "nameB" "I") mw_1175) (fun _ h9 => h9) rfl dX11_one_116 ?_
                refine lv_goto (tgt := 126) hx hb dX11_one_119 (by decide) ?_
                exact hRet (v_62, cf, cg) [1, 0] ⟨(by first | omega | decide | assumption | rfl | (dsimp only; first | omega)), (by first | omega | decide | assumption | rfl | (dsimp only; first | omega)), (by first | omega | decide | assumption | rfl | (dsimp only; first | omega))⟩ hP hD (by decide) rfl hS rfl dX11_one_126
            · refine lv_aload_n hx hb dX11_one_103 rfl (lv_at hl 2 rfl) ?_
              refine va_get (D := D) (ci := 11) (v := .int ci) (C := RX11) (T := TX11) (N := 25) hx hb hT giX11 hown hK hP 1 rfl rfl 18 (by decide) (hT (Cond.fieldLink RX11 161 "DesertWireModel" "nameA" "I") mw_1174) (fun _ h9 => h9) rfl dX11_one_104 ?_
              refine lv_goto (tgt := 126) hx hb dX11_one_107 (by decide) ?_
              exact hRet (v_62, cf, cg) [1, 0] ⟨(by first | omega | decide | assumption | rfl | (dsimp only; first | omega)), (by first | omega | decide | assumption | rfl | (dsimp only; first | omega)), (by first | omega | decide | assumption | rfl | (dsimp only; first | omega))⟩ hP hD (by decide) rfl hS rfl dX11_one_126
        · obtain rfl : r_46 = (-1) := hr_46.trans (by decide)
          refine lv_istore_n (lv' := [(2, .int (-1)), (1, .int r_1), (0, .ref k)]) hx hb dX11_one_84 rfl hl (by decide) rfl ?_
          clear hl
          intro ls hl
          refine lv_iload_n hx hb dX11_one_85 rfl (lv_at hl 0 rfl) ?_
          refine b_if_lt hx hb zl_m1 (tgt := 127) dX11_one_86 (by decide) (fun c_65 => ?_) (fun c_65 => by exfalso; omega)
          refine lv_aload_n hx hb dX11_one_127 rfl (lv_at hl 2 rfl) ?_
          refine lv_iload_n hx hb dX11_one_128 rfl (lv_at hl 1 rfl) ?_
          refine lv_bipush (v := 45) hx hb dX11_one_129 (by decide) ?_
          refine b_icmp_eq hx hb rfl zl_45 (tgt := 146) dX11_one_131 (by decide) (fun c_66 => ?_) (fun c_66 => ?_)
          · refine lv_aload_n hx hb dX11_one_146 rfl (lv_at hl 2 rfl) ?_
            refine va_get (D := D) (ci := 11) (v := .int cg) (C := RX11) (T := TX11) (N := 25) hx hb hT giX11 hown hK hP 1 rfl rfl 16 (by decide) (hT (Cond.fieldLink RX11 170 "DesertWireModel" "open" "I") mw_1172) (fun _ h9 => h9) rfl dX11_one_147 ?_
            refine lv_iconst (v := 4) hx hb dX11_one_150 (by decide) ?_
            refine b_icmp_ge hx hb rfl zl_4 (tgt := 158) dX11_one_151 (by decide) (fun c_67 => by exfalso; omega) (fun c_67 => ?_)
            refine lv_iconst (v := 1) hx hb dX11_one_154 (by decide) ?_
            refine lv_goto (tgt := 159) hx hb dX11_one_155 (by decide) ?_
            refine kJv (wr := [(k0, .inl (cI, 1201, .inl c0))]) (va_runV (As := [.int 1]) (rest := []) ⟨hx, hb, hml, hown, hT⟩ (c_X11_needsG l D cI aK aV k k0 k1 k2 k4 k5 k6 k7 k8 ka kb kl ko H.size c3 c9 cc cd ce cf cg ch ci cj ck cm cn 1) (cwV 1 hT (gV_in mw_1347 mw_1344 mw_1346 mw_p4_11 mw_12) rfl rfl rfl (by decide +kernel) ⟨Nat.le_of_ble_eq_true rfl, Nat.le_of_ble_eq_true rfl⟩) (kRecvX (q0 := 1) (ci := 11) hK hP hD hN hXS hS hA rfl rfl [1] rfl (by decide)) rfl rfl hl.1 rfl (lv_room (Nat.le_of_ble_eq_true rfl)) dX11_one_159 ⟨Nat.le_of_ble_eq_true rfl, Nat.le_of_ble_eq_true rfl⟩) hP hD hS hA [1] [0] rfl rfl (by decide) (by decide) ?_
            clear hP hD hS
            intro scf_70 H locs w_69 hP hD hS
            replace hP : va_P D vwCl [(k0, .inl (cI, 1201, .inl c0)), (k, .inr (11, [.ref k0, .ref k1, .ref k2, .int c3, .ref k4, .ref k5, .ref k6, .ref k7, .ref k8, .int c9, .ref ka, .ref kb, .int cc, .int cd, .int ce, .int scf_70, .int cg, .int ch, .int ci, .int cj, .int ck, .ref kl, .int cm, .int cn, .ref ko]))] H := hP
            replace hD : va_D A [(k0, .inl (cI, 1201, .inl c0)), (k, .inr (11, [.ref k0, .ref k1, .ref k2, .int c3, .ref k4, .ref k5, .ref k6, .ref k7, .ref k8, .int c9, .ref ka, .ref kb, .int cc, .int cd, .int ce, .int scf_70, .int cg, .int ch, .int ci, .int cj, .int ck, .ref kl, .int cm, .int cn, .ref ko]))] := hD
            have lo_scf_70 := k_lo scf_70
            have hi_scf_70 := k_hi scf_70
            rcases w_69 with ⟨h_71, h_72, h_73⟩ | h_74
            · try simp only [zl_1] at h_71
              try simp only [zl_1] at h_72
              have h_72 : cf.toInt = 0 := h_72
              try simp only [zl_1] at h_73
              have h_73 : scf_70.toInt = 0 := h_73
              refine lv_aload_n hx hb dX11_one_162 rfl (lv_at hl 2 rfl) ?_
              refine va_get (D := D) (ci := 11) (v := .int scf_70) (C := RX11) (T := TX11) (N := 25) hx hb hT giX11 hown hK hP 1 rfl rfl 15 (by decide) (hT (Cond.fieldLink RX11 148 "DesertWireModel" "isWrong" "Z") mw_1171) (fun _ h9 => h9) rfl dX11_one_163 ?_
              refine b_if_eq hx hb rfl (tgt := 171) dX11_one_166 (by decide) (fun c_75 => ?_) (fun c_75 => by exfalso; omega)
              refine lv_aload_n hx hb dX11_one_171 rfl (lv_at hl 2 rfl) ?_
              refine lv_dup hx hb dX11_one_172 rfl ?_
              refine va_get (D := D) (ci := 11) (v := .int cd) (C := RX11) (T := TX11) (N := 25) hx hb hT giX11 hown hK hP 1 rfl rfl 13 (by decide) (hT (Cond.fieldLink RX11 138 "DesertWireModel" "here" "I") mw_1169) (fun _ h9 => h9) rfl dX11_one_173 ?_
              refine lv_iconst (v := 1) hx hb dX11_one_176 (by decide) ?_
              refine lv_iadd hx hb dX11_one_177 ?_
              refine lv_topi (fun v_76 ev_76 => ?_)
              have tv_76 : v_76.toInt = cd.toInt + 1 := by rw [ev_76]; exact k_addv rfl zl_1 (by omega) (by omega)
              refine va_put (D := D) (ci := 11) (v := .int v_76) (ty := .int) (C := RX11) (T := TX11) (N := 25) hx hb hT giX11 tyX11 tyX11_ok nmX11 hown hK hP hD hS 1 rfl rfl 13 (by decide) (hT (Cond.fieldLink RX11 138 "DesertWireModel" "here" "I") mw_1169) (fun _ h9 => h9) rfl (by decide +kernel) rfl rfl (Nat.le_of_ble_eq_true rfl) dX11_one_178 ?_
              clear hP hD hS
              intro H locs hP hD hS
              replace hP : va_P D vwCl [(k0, .inl (cI, 1201, .inl c0)), (k, .inr (11, [.ref k0, .ref k1, .ref k2, .int c3, .ref k4, .ref k5, .ref k6, .ref k7, .ref k8, .int c9, .ref ka, .ref kb, .int cc, .int v_76, .int ce, .int scf_70, .int cg, .int ch, .int ci, .int cj, .int ck, .ref kl, .int cm, .int cn, .ref ko]))] H := hP
              replace hD : va_D A [(k0, .inl (cI, 1201, .inl c0)), (k, .inr (11, [.ref k0, .ref k1, .ref k2, .int c3, .ref k4, .ref k5, .ref k6, .ref k7, .ref k8, .int c9, .ref ka, .ref kb, .int cc, .int v_76, .int ce, .int scf_70, .int cg, .int ch, .int ci, .int cj, .int ck, .ref kl, .int cm, .int cn, .ref ko]))] := hD
              refine lv_aload_n hx hb dX11_one_181 rfl (lv_at hl 2 rfl) ?_
              refine lv_dup hx hb dX11_one_182 rfl ?_
              refine va_get (D := D) (ci := 11) (v := .int cg) (C := RX11) (T := TX11) (N := 25) hx hb hT giX11 hown hK hP 1 rfl rfl 16 (by decide) (hT (Cond.fieldLink RX11 170 "DesertWireModel" "open" "I") mw_1172) (fun _ h9 => h9) rfl dX11_one_183 ?_
              refine lv_iconst (v := 1) hx hb dX11_one_186 (by decide) ?_
              refine lv_iadd hx hb dX11_one_187 ?_
              refine lv_topi (fun v_77 ev_77 => ?_)
              have tv_77 : v_77.toInt = cg.toInt + 1 := by rw [ev_77]; exact k_addv rfl zl_1 (by omega) (by omega)
              refine va_put (D := D) (ci := 11) (v := .int v_77) (ty := .int) (C := RX11) (T := TX11) (N := 25) hx hb hT giX11 tyX11 tyX11_ok nmX11 hown hK hP hD hS 1 rfl rfl 16 (by decide) (hT (Cond.fieldLink RX11 170 "DesertWireModel" "open" "I") mw_1172) (fun _ h9 => h9) rfl (by decide +kernel) rfl rfl (Nat.le_of_ble_eq_true rfl) dX11_one_188 ?_
              clear hP hD hS
              intro H locs hP hD hS
              replace hP : va_P D vwCl [(k0, .inl (cI, 1201, .inl c0)), (k, .inr (11, [.ref k0, .ref k1, .ref k2, .int c3, .ref k4, .ref k5, .ref k6, .ref k7, .ref k8, .int c9, .ref ka, .ref kb, .int cc, .int v_76, .int ce, .int scf_70, .int v_77, .int ch, .int ci, .int cj, .int ck, .ref kl, .int cm, .int cn, .ref ko]))] H := hP
              replace hD : va_D A [(k0, .inl (cI, 1201, .inl c0)), (k, .inr (11, [.ref k0, .ref k1, .ref k2, .int c3, .ref k4, .ref k5, .ref k6, .ref k7, .ref k8, .int c9, .ref ka, .ref kb, .int cc, .int v_76, .int ce, .int scf_70, .int v_77, .int ch, .int ci, .int cj, .int ck, .ref kl, .int cm, .int cn, .ref ko]))] := hD
              refine lv_iload_n hx hb dX11_one_191 rfl (lv_at hl 1 rfl) ?_
              refine lv_bipush (v := 40) hx hb dX11_one_192 (by decide) ?_
              refine b_icmp_ne hx hb rfl zl_40 (tgt := 204) dX11_one_194 (by decide) (fun c_78 => ?_) (fun c_78 => by exfalso; omega)
              refine lv_aload_n hx hb dX11_one_204 rfl (lv_at hl 2 rfl) ?_
              refine kJi (wr := []) (va_runV (As := []) (rest := []) ⟨hx, hb, hml, hown, hT⟩ (c_X11_oneG2 l D cI aK aV k k0 k1 k2 k4 k5 k6 k7 k8 ka kb kl ko H.size c3 c9 cc v_76 ce scf_70 v_77 ch ci cj ck cm cn c0 (by first | omega | decide | assumption | rfl) (by first | omega | decide | assumption | rfl) (by first | omega | decide | assumption | rfl) (by first | omega | decide | assumption | rfl) (by first | omega | decide | assumption | rfl) (by first | omega | decide | assumption | rfl)) (cwV 0 hT (gV_in mw_1335 mw_1332 mw_1334 mw_p4_8 mw_12) rfl rfl rfl (by decide +kernel) ⟨Nat.le_of_ble_eq_true rfl, Nat.le_of_ble_eq_true rfl⟩) (kRecvX (q0 := 1) (ci := 11) hK hP hD hN hXS hS hA rfl rfl [1, 0] rfl (by decide)) rfl rfl hl.1 rfl (lv_room (Nat.le_of_ble_eq_true rfl)) dX11_one_205 ⟨Nat.le_of_ble_eq_true rfl, Nat.le_of_ble_eq_true rfl⟩) hP hD hS hA [1, 0] [] rfl rfl (by decide) (by decide) ?_
              clear hP hD hS
              intro r_79 u_84 H locs w_80 hP hD hS
              obtain ⟨scd_81, scf_82, scg_83⟩ := u_84
              replace hP : va_P D vwCl [(k, .inr (11, [.ref k0, .ref k1, .ref k2, .int c3, .ref k4, .ref k5, .ref k6, .ref k7, .ref k8, .int c9, .ref ka, .ref kb, .int cc, .int scd_81, .int ce, .int scf_82, .int scg_83, .int ch, .int ci, .int cj, .int ck, .ref kl, .int cm, .int cn, .ref ko])), (k0, .inl (cI, 1201, .inl c0))] H := hP
              replace hD : va_D A [(k, .inr (11, [.ref k0, .ref k1, .ref k2, .int c3, .ref k4, .ref k5, .ref k6, .ref k7, .ref k8, .int c9, .ref ka, .ref kb, .int cc, .int scd_81, .int ce, .int scf_82, .int scg_83, .int ch, .int ci, .int cj, .int ck, .ref kl, .int cm, .int cn, .ref ko])), (k0, .inl (cI, 1201, .inl c0))] := hD
              have lo_scd_81 := k_lo scd_81
              have hi_scd_81 := k_hi scd_81
              have lo_scf_82 := k_lo scf_82
              have hi_scf_82 := k_hi scf_82
              have lo_scg_83 := k_lo scg_83
              have hi_scg_83 := k_hi scg_83
              obtain ⟨h_85, h_86, h_87⟩ := w_80
              have h_85 : v_76.toInt ≤ scd_81.toInt := h_85
              have h_86 : scd_81.toInt ≤ ce.toInt := h_86
              have h_87 : scg_83.toInt = 2 := h_87
              have lo_r_79 := k_lo r_79
              have hi_r_79 := k_hi r_79
              refine lv_istore_n (lv' := [(3, .int r_79), (2, .int (-1)), (1, .int r_1), (0, .ref k)]) hx hb dX11_one_208 rfl hl (by decide) rfl ?_
              clear hl
              intro ls hl
              refine lv_aload_n hx hb dX11_one_209 rfl (lv_at hl 3 rfl) ?_
              refine lv_iload_n hx hb dX11_one_210 rfl (lv_at hl 2 rfl) ?_
              refine lv_bipush (v := 40) hx hb dX11_one_211 (by decide) ?_
              refine b_icmp_ne hx hb rfl zl_40 (tgt := 225) dX11_one_213 (by decide) (fun c_88 => ?_) (fun c_88 => by exfalso; omega)
              refine lv_iconst (v := 1) hx hb dX11_one_225 (by decide) ?_
              refine lv_goto (tgt := 230) hx hb dX11_one_226 (by decide) ?_
              refine kJv (wr := [(k0, .inl (cI, 1201, .inl c0))]) (va_runV (As := [.int 1]) (rest := []) ⟨hx, hb, hml, hown, hT⟩ (c_X11_needsG l D cI aK aV k k0 k1 k2 k4 k5 k6 k7 k8 ka kb kl ko H.size c3 c9 cc scd_81 ce scf_82 scg_83 ch ci cj ck cm cn 1) (cwV 1 hT (gV_in mw_1347 mw_1344 mw_1346 mw_p4_11 mw_12) rfl rfl rfl (by decide +kernel) ⟨Nat.le_of_ble_eq_true rfl, Nat.le_of_ble_eq_true rfl⟩) (kRecvX (q0 := 0) (ci := 11) hK hP hD hN hXS hS hA rfl rfl [0] rfl (by decide)) rfl rfl hl.1 rfl (lv_room (Nat.le_of_ble_eq_true rfl)) dX11_one_230 ⟨Nat.le_of_ble_eq_true rfl, Nat.le_of_ble_eq_true rfl⟩) hP hD hS hA [0] [1] rfl rfl (by decide) (by decide) ?_
              clear hP hD hS
              intro scf_91 H locs w_90 hP hD hS
              replace hP : va_P D vwCl [(k0, .inl (cI, 1201, .inl c0)), (k, .inr (11, [.ref k0, .ref k1, .ref k2, .int c3, .ref k4, .ref k5, .ref k6, .ref k7, .ref k8, .int c9, .ref ka, .ref kb, .int cc, .int scd_81, .int ce, .int scf_91, .int scg_83, .int ch, .int ci, .int cj, .int ck, .ref kl, .int cm, .int cn, .ref ko]))] H := hP
              replace hD : va_D A [(k0, .inl (cI, 1201, .inl c0)), (k, .inr (11, [.ref k0, .ref k1, .ref k2, .int c3, .ref k4, .ref k5, .ref k6, .ref k7, .ref k8, .int c9, .ref ka, .ref kb, .int cc, .int scd_81, .int ce, .int scf_91, .int scg_83, .int ch, .int ci, .int cj, .int ck, .ref kl, .int cm, .int cn, .ref ko]))] := hD
              have lo_scf_91 := k_lo scf_91
              have hi_scf_91 := k_hi scf_91
              rcases w_90 with ⟨h_92, h_93, h_94⟩ | h_95
              · try simp only [zl_1] at h_92
                try simp only [zl_1] at h_93
                have h_93 : scf_82.toInt = 0 := h_93
                try simp only [zl_1] at h_94
                have h_94 : scf_91.toInt = 0 := h_94
                refine lv_aload_n hx hb dX11_one_233 rfl (lv_at hl 3 rfl) ?_
                refine lv_dup hx hb dX11_one_234 rfl ?_
                refine va_get (D := D) (ci := 11) (v := .int scg_83) (C := RX11) (T := TX11) (N := 25) hx hb hT giX11 hown hK hP 1 rfl rfl 16 (by decide) (hT (Cond.fieldLink RX11 170 "DesertWireModel" "open" "I") mw_1172) (fun _ h9 => h9) rfl dX11_one_235 ?_
                refine lv_iconst (v := 1) hx hb dX11_one_238 (by decide) ?_
                refine lv_isub hx hb dX11_one_239 ?_
                refine lv_topi (fun v_96 ev_96 => ?_)
                have tv_96 : v_96.toInt = scg_83.toInt - 1 := by rw [ev_96]; exact k_subv rfl zl_1 (by omega) (by omega)
                refine va_put (D := D) (ci := 11) (v := .int v_96) (ty := .int) (C := RX11) (T := TX11) (N := 25) hx hb hT giX11 tyX11 tyX11_ok nmX11 hown hK hP hD hS 1 rfl rfl 16 (by decide) (hT (Cond.fieldLink RX11 170 "DesertWireModel" "open" "I") mw_1172) (fun _ h9 => h9) rfl (by decide +kernel) rfl rfl (Nat.le_of_ble_eq_true rfl) dX11_one_240 ?_
                clear hP hD hS
                intro H locs hP hD hS
                replace hP : va_P D vwCl [(k0, .inl (cI, 1201, .inl c0)), (k, .inr (11, [.ref k0, .ref k1, .ref k2, .int c3, .ref k4, .ref k5, .ref k6, .ref k7, .ref k8, .int c9, .ref ka, .ref kb, .int cc, .int scd_81, .int ce, .int scf_91, .int v_96, .int ch, .int ci, .int cj, .int ck, .ref kl, .int cm, .int cn, .ref ko]))] H := hP
                replace hD : va_D A [(k0, .inl (cI, 1201, .inl c0)), (k, .inr (11, [.ref k0, .ref k1, .ref k2, .int c3, .ref k4, .ref k5, .ref k6, .ref k7, .ref k8, .int c9, .ref ka, .ref kb, .int cc, .int scd_81, .int ce, .int scf_91, .int v_96, .int ch, .int ci, .int cj, .int ck, .ref kl, .int cm, .int cn, .ref ko]))] := hD
                refine lv_iload_n hx hb dX11_one_243 rfl (lv_at hl 2 rfl) ?_
                refine lv_bipush (v := 45) hx hb dX11_one_244 (by decide) ?_
                refine b_icmp_ne hx hb rfl zl_45 (tgt := 254) dX11_one_246 (by decide) (fun c_97 => by exfalso; omega) (fun c_97 => ?_)
                refine lv_iload_n hx hb dX11_one_249 rfl (lv_at hl 0 rfl) ?_
                refine lv_ineg hx hb dX11_one_250 ?_
                refine lv_topi (fun v_98 ev_98 => ?_)
                have lo_v_98 := k_lo v_98
                have hi_v_98 := k_hi v_98
                refine lv_goto (tgt := 273) hx hb dX11_one_251 (by decide) ?_
                exact hRet (scd_81, scf_91, v_96) [1, 0] ⟨(by first | omega | decide | assumption | rfl | (dsimp only; first | omega)), (by first | omega | decide | assumption | rfl | (dsimp only; first | omega)), (by first | omega | decide | assumption | rfl | (dsimp only; first | omega))⟩ hP hD (by decide) rfl hS rfl dX11_one_273
              · try simp only [zl_1] at h_95
                have h_95 : scf_91.toInt = 1 := h_95
                refine lv_aload_n hx hb dX11_one_233 rfl (lv_at hl 3 rfl) ?_
                refine lv_dup hx hb dX11_one_234 rfl ?_
                refine va_get (D := D) (ci := 11) (v := .int scg_83) (C := RX11) (T := TX11) (N := 25) hx hb hT giX11 hown hK hP 1 rfl rfl 16 (by decide) (hT (Cond.fieldLink RX11 170 "DesertWireModel" "open" "I") mw_1172) (fun _ h9 => h9) rfl dX11_one_235 ?_
                refine lv_iconst (v := 1) hx hb dX11_one_238 (by decide) ?_
                refine lv_isub hx hb dX11_one_239 ?_
                refine lv_topi (fun v_99 ev_99 => ?_)
                have tv_99 : v_99.toInt = scg_83.toInt - 1 := by rw [ev_99]; exact k_subv rfl zl_1 (by omega) (by omega)
                refine va_put (D := D) (ci := 11) (v := .int v_99) (ty := .int) (C := RX11) (T := TX11) (N := 25) hx hb hT giX11 tyX11 tyX11_ok nmX11 hown hK hP hD hS 1 rfl rfl 16 (by decide) (hT (Cond.fieldLink RX11 170 "DesertWireModel" "open" "I") mw_1172) (fun _ h9 => h9) rfl (by decide +kernel) rfl rfl (Nat.le_of_ble_eq_true rfl) dX11_one_240 ?_
                clear hP hD hS
                intro H locs hP hD hS
                replace hP : va_P D vwCl [(k0, .inl (cI, 1201, .inl c0)), (k, .inr (11, [.ref k0, .ref k1, .ref k2, .int c3, .ref k4, .ref k5, .ref k6, .ref k7, .ref k8, .int c9, .ref ka, .ref kb, .int cc, .int scd_81, .int ce, .int scf_91, .int v_99, .int ch, .int ci, .int cj, .int ck, .ref kl, .int cm, .int cn, .ref ko]))] H := hP
                replace hD : va_D A [(k0, .inl (cI, 1201, .inl c0)), (k, .inr (11, [.ref k0, .ref k1, .ref k2, .int c3, .ref k4, .ref k5, .ref k6, .ref k7, .ref k8, .int c9, .ref ka, .ref kb, .int cc, .int scd_81, .int ce, .int scf_91, .int v_99, .int ch, .int ci, .int cj, .int ck, .ref kl, .int cm, .int cn, .ref ko]))] := hD
                refine lv_iload_n hx hb dX11_one_243 rfl (lv_at hl 2 rfl) ?_
                refine lv_bipush (v := 45) hx hb dX11_one_244 (by decide) ?_
                refine b_icmp_ne hx hb rfl zl_45 (tgt := 254) dX11_one_246 (by decide) (fun c_100 => by exfalso; omega) (fun c_100 => ?_)
                refine lv_iload_n hx hb dX11_one_249 rfl (lv_at hl 0 rfl) ?_
                refine lv_ineg hx hb dX11_one_250 ?_
                refine lv_topi (fun v_101 ev_101 => ?_)
                have lo_v_101 := k_lo v_101
                have hi_v_101 := k_hi v_101
                refine lv_goto (tgt := 273) hx hb dX11_one_251 (by decide) ?_
                exact hRet (scd_81, scf_91, v_99) [1, 0] ⟨(by first | omega | decide | assumption | rfl | (dsimp only; first | omega)), (by first | omega | decide | assumption | rfl | (dsimp only; first | omega)), (by first | omega | decide | assumption | rfl | (dsimp only; first | omega))⟩ hP hD (by decide) rfl hS rfl dX11_one_273
            · try simp only [zl_1] at h_74
              have h_74 : scf_70.toInt = 1 := h_74
              refine lv_aload_n hx hb dX11_one_162 rfl (lv_at hl 2 rfl) ?_
              refine va_get (D := D) (ci := 11) (v := .int scf_70) (C := RX11) (T := TX11) (N := 25) hx hb hT giX11 hown hK hP 1 rfl rfl 15 (by decide) (hT (Cond.fieldLink RX11 148 "DesertWireModel" "isWrong" "Z") mw_1171) (fun _ h9 => h9) rfl dX11_one_163 ?_
              refine b_if_eq hx hb rfl (tgt := 171) dX11_one_166 (by decide) (fun c_102 => by exfalso; omega) (fun c_102 => ?_)
              refine lv_iconst (v := 0) hx hb dX11_one_169 (by decide) ?_
              exact hRet (cd, scf_70, cg) [1, 0] ⟨(by first | omega | (simp only [zl_0] <;> omega) | decide | assumption | rfl | (dsimp only; first | omega | (simp only [zl_0] <;> omega))), (by first | omega | (simp only [zl_0] <;> omega) | decide | assumption | rfl | (dsimp only; first | omega | (simp only [zl_0] <;> omega))), (by first | omega | (simp only [zl_0] <;> omega) | decide | assumption | rfl | (dsimp only; first | omega | (simp only [zl_0] <;> omega)))⟩ hP hD (by decide) rfl hS rfl dX11_one_170
          · refine lv_iload_n hx hb dX11_one_134 rfl (lv_at hl 1 rfl) ?_
            refine lv_bipush (v := 33) hx hb dX11_one_135 (by decide) ?_
            refine b_icmp_eq hx hb rfl zl_33 (tgt := 146) dX11_one_137 (by decide) (fun c_103 => ?_) (fun c_103 => ?_)
            · refine lv_aload_n hx hb dX11_one_146 rfl (lv_at hl 2 rfl) ?_
              refine va_get (D := D) (ci := 11) (v := .int cg) (C := RX11) (T := TX11) (N := 25) hx hb hT giX11 hown hK hP 1 rfl rfl 16 (by decide) (hT (Cond.fieldLink RX11 170 "DesertWireModel" "open" "I") mw_1172) (fun _ h9 => h9) rfl dX11_one_147 ?_
              refine lv_iconst (v := 4) hx hb dX11_one_150 (by decide) ?_
              refine b_icmp_ge hx hb rfl zl_4 (tgt := 158) dX11_one_151 (by decide) (fun c_104 => by exfalso; omega) (fun c_104 => ?_)
              refine lv_iconst (v := 1) hx hb dX11_one_154 (by decide) ?_
              refine lv_goto (tgt := 159) hx hb dX11_one_155 (by decide) ?_
              refine kJv (wr := [(k0, .inl (cI, 1201, .inl c0))]) (va_runV (As := [.int 1]) (rest := []) ⟨hx, hb, hml, hown, hT⟩ (c_X11_needsG l D cI aK aV k k0 k1 k2 k4 k5 k6 k7 k8 ka kb kl ko H.size c3 c9 cc cd ce cf cg ch ci cj ck cm cn 1) (cwV 1 hT (gV_in mw_1347 mw_1344 mw_1346 mw_p4_11 mw_12) rfl rfl rfl (by decide +kernel) ⟨Nat.le_of_ble_eq_true rfl, Nat.le_of_ble_eq_true rfl⟩) (kRecvX (q0 := 1) (ci := 11) hK hP hD hN hXS hS hA rfl rfl [1] rfl (by decide)) rfl rfl hl.1 rfl (lv_room (Nat.le_of_ble_eq_true rfl)) dX11_one_159 ⟨Nat.le_of_ble_eq_true rfl, Nat.le_of_ble_eq_true rfl⟩) hP hD hS hA [1] [0] rfl rfl (by decide) (by decide) ?_
              clear hP hD hS
              intro scf_107 H locs w_106 hP hD hS
              replace hP : va_P D vwCl [(k0, .inl (cI, 1201, .inl c0)), (k, .inr (11, [.ref k0, .ref k1, .ref k2, .int c3, .ref k4, .ref k5, .ref k6, .ref k7, .ref k8, .int c9, .ref ka, .ref kb, .int cc, .int cd, .int ce, .int scf_107, .int cg, .int ch, .int ci, .int cj, .int ck, .ref kl, .int cm, .int cn, .ref ko]))] H := hP
              replace hD : va_D A [(k0, .inl (cI, 1201, .inl c0)), (k, .inr (11, [.ref k0, .ref k1, .ref k2, .int c3, .ref k4, .ref k5, .ref k6, .ref k7, .ref k8, .int c9, .ref ka, .ref kb, .int cc, .int cd, .int ce, .int scf_107, .int cg, .int ch, .int ci, .int cj, .int ck, .ref kl, .int cm, .int cn, .ref ko]))] := hD
              have lo_scf_107 := k_lo scf_107
              have hi_scf_107 := k_hi scf_107
              rcases w_106 with ⟨h_108, h_109, h_110⟩ | h_111
              · try simp only [zl_1] at h_108
                try simp only [zl_1] at h_109
                have h_109 : cf.toInt = 0 := h_109
                try simp only [zl_1] at h_110
                have h_110 : scf_107.toInt = 0 := h_110
                refine lv_aload_n hx hb dX11_one_162 rfl (lv_at hl 2 rfl) ?_
                refine va_get (D := D) (ci := 11) (v := .int scf_107) (C := RX11) (T := TX11) (N := 25) hx hb hT giX11 hown hK hP 1 rfl rfl 15 (by decide) (hT (Cond.fieldLink RX11 148 "DesertWireModel" "isWrong" "Z") mw_1171) (fun _ h9 => h9) rfl dX11_one_163 ?_
                refine b_if_eq hx hb rfl (tgt := 171) dX11_one_166 (by decide) (fun c_112 => ?_) (fun c_112 => by exfalso; omega)
                refine lv_aload_n hx hb dX11_one_171 rfl (lv_at hl 2 rfl) ?_
                refine lv_dup hx hb dX11_one_172 rfl ?_
                refine va_get (D := D) (ci := 11) (v := .int cd) (C := RX11) (T := TX11) (N := 25) hx hb hT giX11 hown hK hP 1 rfl rfl 13 (by decide) (hT (Cond.fieldLink RX11 138 "DesertWireModel" "here" "I") mw_1169) (fun _ h9 => h9) rfl dX11_one_173 ?_
                refine lv_iconst (v := 1) hx hb dX11_one_176 (by decide) ?_
                refine lv_iadd hx hb dX11_one_177 ?_
                refine lv_topi (fun v_113 ev_113 => ?_)
                have tv_113 : v_113.toInt = cd.toInt + 1 := by rw [ev_113]; exact k_addv rfl zl_1 (by omega) (by omega)
                refine va_put (D := D) (ci := 11) (v := .int v_113) (ty := .int) (C := RX11) (T := TX11) (N := 25) hx hb hT giX11 tyX11 tyX11_ok nmX11 hown hK hP hD hS 1 rfl rfl 13 (by decide) (hT (Cond.fieldLink RX11 138 "DesertWireModel" "here" "I") mw_1169) (fun _ h9 => h9) rfl (by decide +kernel) rfl rfl (Nat.le_of_ble_eq_true rfl) dX11_one_178 ?_
                clear hP hD hS
                intro H locs hP hD hS
                replace hP : va_P D vwCl [(k0, .inl (cI, 1201, .inl c0)), (k, .inr (11, [.ref k0, .ref k1, .ref k2, .int c3, .ref k4, .ref k5, .ref k6, .ref k7, .ref k8, .int c9, .ref ka, .ref kb, .int cc, .int v_113, .int ce, .int scf_107, .int cg, .int ch, .int ci, .int cj, .int ck, .ref kl, .int cm, .int cn, .ref ko]))] H := hP
                replace hD : va_D A [(k0, .inl (cI, 1201, .inl c0)), (k, .inr (11, [.ref k0, .ref k1, .ref k2, .int c3, .ref k4, .ref k5, .ref k6, .ref k7, .ref k8, .int c9, .ref ka, .ref kb, .int cc, .int v_113, .int ce, .int scf_107, .int cg, .int ch, .int ci, .int cj, .int ck, .ref kl, .int cm, .int cn, .ref ko]))] := hD
                refine lv_aload_n hx hb dX11_one_181 rfl (lv_at hl 2 rfl) ?_
                refine lv_dup hx hb dX11_one_182 rfl ?_
                refine va_get (D := D) (ci := 11) (v := .int cg) (C := RX11) (T := TX11) (N := 25) hx hb hT giX11 hown hK hP 1 rfl rfl 16 (by decide) (hT (Cond.fieldLink RX11 170 "DesertWireModel" "open" "I") mw_1172) (fun _ h9 => h9) rfl dX11_one_183 ?_
                refine lv_iconst (v := 1) hx hb dX11_one_186 (by decide) ?_
                refine lv_iadd hx hb dX11_one_187 ?_
                refine lv_topi (fun v_114 ev_114 => ?_)
                have tv_114 : v_114.toInt = cg.toInt + 1 := by rw [ev_114]; exact k_addv rfl zl_1 (by omega) (by omega)
                refine va_put (D := D) (ci := 11) (v := .int v_114) (ty := .int) (C := RX11) (T := TX11) (N := 25) hx hb hT giX11 tyX11 tyX11_ok nmX11 hown hK hP hD hS 1 rfl rfl 16 (by decide) (hT (Cond.fieldLink RX11 170 "DesertWireModel" "open" "I") mw_1172) (fun _ h9 => h9) rfl (by decide +kernel) rfl rfl (Nat.le_of_ble_eq_true rfl) dX11_one_188 ?_
                clear hP hD hS
                intro H locs hP hD hS
                replace hP : va_P D vwCl [(k0, .inl (cI, 1201, .inl c0)), (k, .inr (11, [.ref k0, .ref k1, .ref k2, .int c3, .ref k4, .ref k5, .ref k6, .ref k7, .ref k8, .int c9, .ref ka, .ref kb, .int cc, .int v_113, .int ce, .int scf_107, .int v_114, .int ch, .int ci, .int cj, .int ck, .ref kl, .int cm, .int cn, .ref ko]))] H := hP
                replace hD : va_D A [(k0, .inl (cI, 1201, .inl c0)), (k, .inr (11, [.ref k0, .ref k1, .ref k2, .int c3, .ref k4, .ref k5, .ref k6, .ref k7, .ref k8, .int c9, .ref ka, .ref kb, .int cc, .int v_113, .int ce, .int scf_107, .int v_114, .int ch, .int ci, .int cj, .int ck, .ref kl, .int cm, .int cn, .ref ko]))] := hD
                refine lv_iload_n hx hb dX11_one_191 rfl (lv_at hl 1 rfl) ?_
                refine lv_bipush (v := 40) hx hb dX11_one_192 (by decide) ?_
                refine b_icmp_ne hx hb rfl zl_40 (tgt := 204) dX11_one_194 (by decide) (fun c_115 => ?_) (fun c_115 => by exfalso; omega)
                refine lv_aload_n hx hb dX11_one_204 rfl (lv_at hl 2 rfl) ?_
                refine kJi (wr := []) (va_runV (As := []) (rest := []) ⟨hx, hb, hml, hown, hT⟩ (c_X11_oneG2 l D cI aK aV k k0 k1 k2 k4 k5 k6 k7 k8 ka kb kl ko H.size c3 c9 cc v_113 ce scf_107 v_114 ch ci cj ck cm cn c0 (by first | omega | decide | assumption | rfl) (by first | omega | decide | assumption | rfl) (by first | omega | decide | assumption | rfl) (by first | omega | decide | assumption | rfl) (by first | omega | decide | assumption | rfl) (by first | omega | decide | assumption | rfl)) (cwV 0 hT (gV_in mw_1335 mw_1332 mw_1334 mw_p4_8 mw_12) rfl rfl rfl (by decide +kernel) ⟨Nat.le_of_ble_eq_true rfl, Nat.le_of_ble_eq_true rfl⟩) (kRecvX (q0 := 1) (ci := 11) hK hP hD hN hXS hS hA rfl rfl [1, 0] rfl (by decide)) rfl rfl hl.1 rfl (lv_room (Nat.le_of_ble_eq_true rfl)) dX11_one_205 ⟨Nat.le_of_ble_eq_true rfl, Nat.le_of_ble_eq_true rfl⟩) hP hD hS hA [1, 0] [] rfl rfl (by decide) (by decide) ?_
                clear hP hD hS
                intro r_116 u_121 H locs w_117 hP hD hS
                obtain ⟨scd_118, scf_119, scg_120⟩ := u_121
                replace hP : va_P D vwCl [(k, .inr (11, [.ref k0, .ref k1, .ref k2, .int c3, .ref k4, .ref k5, .ref k6, .ref k7, .ref k8, .int c9, .ref ka, .ref kb, .int cc, .int scd_118, .int ce, .int scf_119, .int scg_120, .int ch, .int ci, .int cj, .int ck, .ref kl, .int cm, .int cn, .ref ko])), (k0, .inl (cI, 1201, .inl c0))] H := hP
                replace hD : va_D A [(k, .inr (11, [.ref k0, .ref k1, .ref k2, .int c3, .ref k4, .ref k5, .ref k6, .ref k7, .ref k8, .int c9, .ref ka, .ref kb, .int cc, .int scd_118, .int ce, .int scf_119, .int scg_120, .int ch, .int ci, .int cj, .int ck, .ref kl, .int cm, .int cn, .ref ko])), (k0, .inl (cI, 1201, .inl c0))] := hD
                have lo_scd_118 := k_lo scd_118
                have hi_scd_118 := k_hi scd_118
                have lo_scf_119 := k_lo scf_119
                have hi_scf_119 := k_hi scf_119
                have lo_scg_120 := k_lo scg_120
                have hi_scg_120 := k_hi scg_120
                obtain ⟨h_122, h_123, h_124⟩ := w_117
                have h_122 : v_113.toInt ≤ scd_118.toInt := h_122
                have h_123 : scd_118.toInt ≤ ce.toInt := h_123
                have h_124 : scg_120.toInt = 2 := h_124
                have lo_r_116 := k_lo r_116
                have hi_r_116 := k_hi r_116
                refine lv_istore_n (lv' := [(3, .int r_116), (2, .int (-1)), (1, .int r_1), (0, .ref k)]) hx hb dX11_one_208 rfl hl (by decide) rfl ?_
                clear hl
                intro ls hl
                refine lv_aload_n hx hb dX11_one_209 rfl (lv_at hl 3 rfl) ?_
                refine lv_iload_n hx hb dX11_one_210 rfl (lv_at hl 2 rfl) ?_
                refine lv_bipush (v := 40) hx hb dX11_one_211 (by decide) ?_
                refine b_icmp_ne hx hb rfl zl_40 (tgt := 225) dX11_one_213 (by decide) (fun c_125 => ?_) (fun c_125 => by exfalso; omega)
                refine lv_iconst (v := 1) hx hb dX11_one_225 (by decide) ?_
                refine lv_goto (tgt := 230) hx hb dX11_one_226 (by decide) ?_
                refine kJv (wr := [(k0, .inl (cI, 1201, .inl c0))]) (va_runV (As := [.int 1]) (rest := []) ⟨hx, hb, hml, hown, hT⟩ (c_X11_needsG l D cI aK aV k k0 k1 k2 k4 k5 k6 k7 k8 ka kb kl ko H.size c3 c9 cc scd_118 ce scf_119 scg_120 ch ci cj ck cm cn 1) (cwV 1 hT (gV_in mw_1347 mw_1344 mw_1346 mw_p4_11 mw_12) rfl rfl rfl (by decide +kernel) ⟨Nat.le_of_ble_eq_true rfl, Nat.le_of_ble_eq_true rfl⟩) (kRecvX (q0 := 0) (ci := 11) hK hP hD hN hXS hS hA rfl rfl [0] rfl (by decide)) rfl rfl hl.1 rfl (lv_room (Nat.le_of_ble_eq_true rfl)) dX11_one_230 ⟨Nat.le_of_ble_eq_true rfl, Nat.le_of_ble_eq_true rfl⟩) hP hD hS hA [0] [1] rfl rfl (by decide) (by decide) ?_
                clear hP hD hS
                intro scf_128 H locs w_127 hP hD hS
                replace hP : va_P D vwCl [(k0, .inl (cI, 1201, .inl c0)), (k, .inr (11, [.ref k0, .ref k1, .ref k2, .int c3, .ref k4, .ref k5, .ref k6, .ref k7, .ref k8, .int c9, .ref ka, .ref kb, .int cc, .int scd_118, .int ce, .int scf_128, .int scg_120, .int ch, .int ci, .int cj, .int ck, .ref kl, .int cm, .int cn, .ref ko]))] H := hP
                replace hD : va_D A [(k0, .inl (cI, 1201, .inl c0)), (k, .inr (11, [.ref k0, .ref k1, .ref k2, .int c3, .ref k4, .ref k5, .ref k6, .ref k7, .ref k8, .int c9, .ref ka, .ref kb, .int cc, .int scd_118, .int ce, .int scf_128, .int scg_120, .int ch, .int ci, .int cj, .int ck, .ref kl, .int cm, .int cn, .ref ko]))] := hD
                have lo_scf_128 := k_lo scf_128
                have hi_scf_128 := k_hi scf_128
                rcases w_127 with ⟨h_129, h_130, h_131⟩ | h_132
                · try simp only [zl_1] at h_129
                  try simp only [zl_1] at h_130
                  have h_130 : scf_119.toInt = 0 := h_130
                  try simp only [zl_1] at h_131
                  have h_131 : scf_128.toInt = 0 := h_131
                  refine lv_aload_n hx hb dX11_one_233 rfl (lv_at hl 3 rfl) ?_
                  refine lv_dup hx hb dX11_one_234 rfl ?_
                  refine va_get (D := D) (ci := 11) (v := .int scg_120) (C := RX11) (T := TX11) (N := 25) hx hb hT giX11 hown hK hP 1 rfl rfl 16 (by decide) (hT (Cond.fieldLink RX11 170 "DesertWireModel" "open" "I") mw_1172) (fun _ h9 => h9) rfl dX11_one_235 ?_
                  refine lv_iconst (v := 1) hx hb dX11_one_238 (by decide) ?_
                  refine lv_isub hx hb dX11_one_239 ?_
                  refine lv_topi (fun v_133 ev_133 => ?_)
                  have tv_133 : v_133.toInt = scg_120.toInt - 1 := by rw [ev_133]; exact k_subv rfl zl_1 (by omega) (by omega)
                  refine va_put (D := D) (ci := 11) (v := .int v_133) (ty := .int) (C := RX11) (T := TX11) (N := 25) hx hb hT giX11 tyX11 tyX11_ok nmX11 hown hK hP hD hS 1 rfl rfl 16 (by decide) (hT (Cond.fieldLink RX11 170 "DesertWireModel" "open" "I") mw_1172) (fun _ h9 => h9) rfl (by decide +kernel) rfl rfl (Nat.le_of_ble_eq_true rfl) dX11_one_240 ?_
                  clear hP hD hS
                  intro H locs hP hD hS
                  replace hP : va_P D vwCl [(k0, .inl (cI, 1201, .inl c0)), (k, .inr (11, [.ref k0, .ref k1, .ref k2, .int c3, .ref k4, .ref k5, .ref k6, .ref k7, .ref k8, .int c9, .ref ka, .ref kb, .int cc, .int scd_118, .int ce, .int scf_128, .int v_133, .int ch, .int ci, .int cj, .int ck, .ref kl, .int cm, .int cn, .ref ko]))] H := hP
                  replace hD : va_D A [(k0, .inl (cI, 1201, .inl c0)), (k, .inr (11, [.ref k0, .ref k1, .ref k2, .int c3, .ref k4, .ref k5, .ref k6, .ref k7, .ref k8, .int c9, .ref ka, .ref kb, .int cc, .int scd_118, .int ce, .int scf_128, .int v_133, .int ch, .int ci, .int cj, .int ck, .ref kl, .int cm, .int cn, .ref ko]))] := hD
                  refine lv_iload_n hx hb dX11_one_243 rfl (lv_at hl 2 rfl) ?_
                  refine lv_bipush (v := 45) hx hb dX11_one_244 (by decide) ?_
                  refine b_icmp_ne hx hb rfl zl_45 (tgt := 254) dX11_one_246 (by decide) (fun c_134 => ?_) (fun c_134 => by exfalso; omega)
                  refine lv_iload_n hx hb dX11_one_254 rfl (lv_at hl 2 rfl) ?_
                  refine lv_bipush (v := 33) hx hb dX11_one_255 (by decide) ?_
                  refine b_icmp_ne hx hb rfl zl_33 (tgt := 272) dX11_one_257 (by decide) (fun c_135 => by exfalso; omega) (fun c_135 => ?_)
                  refine lv_iload_n hx hb dX11_one_260 rfl (lv_at hl 0 rfl) ?_
                  refine b_if_ne hx hb rfl (tgt := 268) dX11_one_261 (by decide) (fun c_136 => ?_) (fun c_136 => ?_)
                  · refine lv_iconst (v := 0) hx hb dX11_one_268 (by decide) ?_
                    refine lv_goto (tgt := 273) hx hb dX11_one_269 (by decide) ?_
                    exact hRet (scd_118, scf_128, v_133) [1, 0] ⟨(by first | omega | (simp only [zl_0] <;> omega) | decide | assumption | rfl | (dsimp only; first | omega | (simp only [zl_0] <;> omega))), (by first | omega | (simp only [zl_0] <;> omega) | decide | assumption | rfl | (dsimp only; first | omega | (simp only [zl_0] <;> omega))), (by first | omega | (simp only [zl_0] <;> omega) | decide | assumption | rfl | (dsimp only; first | omega | (simp only [zl_0] <;> omega)))⟩ hP hD (by decide) rfl hS rfl dX11_one_273
                  · refine lv_iconst (v := 1) hx hb dX11_one_264 (by decide) ?_
                    refine lv_goto (tgt := 273) hx hb dX11_one_265 (by decide) ?_
                    exact hRet (scd_118, scf_128, v_133) [1, 0] ⟨(by first | omega | (simp only [zl_1] <;> omega) | decide | assumption | rfl | (dsimp only; first | omega | (simp only [zl_1] <;> omega))), (by first | omega | (simp only [zl_1] <;> omega) | decide | assumption | rfl | (dsimp only; first | omega | (simp only [zl_1] <;> omega))), (by first | omega | (simp only [zl_1] <;> omega) | decide | assumption | rfl | (dsimp only; first | omega | (simp only [zl_1] <;> omega)))⟩ hP hD (by decide) rfl hS rfl dX11_one_273
                · try simp only [zl_1] at h_132
                  have h_132 : scf_128.toInt = 1 := h_132
                  refine lv_aload_n hx hb dX11_one_233 rfl (lv_at hl 3 rfl) ?_
                  refine lv_dup hx hb dX11_one_234 rfl ?_
                  refine va_get (D := D) (ci := 11) (v := .int scg_120) (C := RX11) (T := TX11) (N := 25) hx hb hT giX11 hown hK hP 1 rfl rfl 16 (by decide) (hT (Cond.fieldLink RX11 170 "DesertWireModel" "open" "I") mw_1172) (fun _ h9 => h9) rfl dX11_one_235 ?_
                  refine lv_iconst (v := 1) hx hb dX11_one_238 (by decide) ?_
                  refine lv_isub hx hb dX11_one_239 ?_
                  refine lv_topi (fun v_137 ev_137 => ?_)
                  have tv_137 : v_137.toInt = scg_120.toInt - 1 := by rw [ev_137]; exact k_subv rfl zl_1 (by omega) (by omega)
                  refine va_put (D := D) (ci := 11) (v := .int v_137) (ty := .int) (C := RX11) (T := TX11) (N := 25) hx hb hT giX11 tyX11 tyX11_ok nmX11 hown hK hP hD hS 1 rfl rfl 16 (by decide) (hT (Cond.fieldLink RX11 170 "DesertWireModel" "open" "I") mw_1172) (fun _ h9 => h9) rfl (by decide +kernel) rfl rfl (Nat.le_of_ble_eq_true rfl) dX11_one_240 ?_
                  clear hP hD hS
                  intro H locs hP hD hS
                  replace hP : va_P D vwCl [(k0, .inl (cI, 1201, .inl c0)), (k, .inr (11, [.ref k0, .ref k1, .ref k2, .int c3, .ref k4, .ref k5, .ref k6, .ref k7, .ref k8, .int c9, .ref ka, .ref kb, .int cc, .int scd_118, .int ce, .int scf_128, .int v_137, .int ch, .int ci, .int cj, .int ck, .ref kl, .int cm, .int cn, .ref ko]))] H := hP
                  replace hD : va_D A [(k0, .inl (cI, 1201, .inl c0)), (k, .inr (11, [.ref k0, .ref k1, .ref k2, .int c3, .ref k4, .ref k5, .ref k6, .ref k7, .ref k8, .int c9, .ref ka, .ref kb, .int cc, .int scd_118, .int ce, .int scf_128, .int v_137, .int ch, .int ci, .int cj, .int ck, .ref kl, .int cm, .int cn, .ref ko]))] := hD
                  refine lv_iload_n hx hb dX11_one_243 rfl (lv_at hl 2 rfl) ?_
                  refine lv_bipush (v := 45) hx hb dX11_one_244 (by decide) ?_
                  refine b_icmp_ne hx hb rfl zl_45 (tgt := 254) dX11_one_246 (by decide) (fun c_138 => ?_) (fun c_138 => by exfalso; omega)
                  refine lv_iload_n hx hb dX11_one_254 rfl (lv_at hl 2 rfl) ?_
                  refine lv_bipush (v := 33) hx hb dX11_one_255 (by decide) ?_
                  refine b_icmp_ne hx hb rfl zl_33 (tgt := 272) dX11_one_257 (by decide) (fun c_139 => by exfalso; omega) (fun c_139 => ?_)
                  refine lv_iload_n hx hb dX11_one_260 rfl (lv_at hl 0 rfl) ?_
                  refine b_if_ne hx hb rfl (tgt := 268) dX11_one_261 (by decide) (fun c_140 => ?_) (fun c_140 => ?_)
                  · refine lv_iconst (v := 0) hx hb dX11_one_268 (by decide) ?_
                    refine lv_goto (tgt := 273) hx hb dX11_one_269 (by decide) ?_
                    exact hRet (scd_118, scf_128, v_137) [1, 0] ⟨(by first | omega | (simp only [zl_0] <;> omega) | decide | assumption | rfl | (dsimp only; first | omega | (simp only [zl_0] <;> omega))), (by first | omega | (simp only [zl_0] <;> omega) | decide | assumption | rfl | (dsimp only; first | omega | (simp only [zl_0] <;> omega))), (by first | omega | (simp only [zl_0] <;> omega) | decide | assumption | rfl | (dsimp only; first | omega | (simp only [zl_0] <;> omega)))⟩ hP hD (by decide) rfl hS rfl dX11_one_273
                  · refine lv_iconst (v := 1) hx hb dX11_one_264 (by decide) ?_
                    refine lv_goto (tgt := 273) hx hb dX11_one_265 (by decide) ?_
                    exact hRet (scd_118, scf_128, v_137) [1, 0] ⟨(by first | omega | (simp only [zl_1] <;> omega) | decide | assumption | rfl | (dsimp only; first | omega | (simp only [zl_1] <;> omega))), (by first | omega | (simp only [zl_1] <;> omega) | decide | assumption | rfl | (dsimp only; first | omega | (simp only [zl_1] <;> omega))), (by first | omega | (simp only [zl_1] <;> omega) | decide | assumption | rfl | (dsimp only; first | omega | (simp only [zl_1] <;> omega)))⟩ hP hD (by decide) rfl hS rfl dX11_one_273
              · try simp only [zl_1] at h_111
                have h_111 : scf_107.toInt = 1 := h_111
                refine lv_aload_n hx hb dX11_one_162 rfl (lv_at hl 2 rfl) ?_
                refine va_get (D := D) (ci := 11) (v := .int scf_107) (C := RX11) (T := TX11) (N := 25) hx hb hT giX11 hown hK hP 1 rfl rfl 15 (by decide) (hT (Cond.fieldLink RX11 148 "DesertWireModel" "isWrong" "Z") mw_1171) (fun _ h9 => h9) rfl dX11_one_163 ?_
                refine b_if_eq hx hb rfl (tgt := 171) dX11_one_166 (by decide) (fun c_141 => by exfalso; omega) (fun c_141 => ?_)
                refine lv_iconst (v := 0) hx hb dX11_one_169 (by decide) ?_
                exact hRet (cd, scf_107, cg) [1, 0] ⟨(by first | omega | (simp only [zl_0] <;> omega) | decide | assumption | rfl | (dsimp only; first | omega | (simp only [zl_0] <;> omega))), (by first | omega | (simp only [zl_0] <;> omega) | decide | assumption | rfl | (dsimp only; first | omega | (simp only [zl_0] <;> omega))), (by first | omega | (simp only [zl_0] <;> omega) | decide | assumption | rfl | (dsimp only; first | omega | (simp only [zl_0] <;> omega)))⟩ hP hD (by decide) rfl hS rfl dX11_one_170
            · refine lv_iload_n hx hb dX11_one_140 rfl (lv_at hl 1 rfl) ?_
              refine lv_bipush (v := 40) hx hb dX11_one_141 (by decide) ?_
              refine b_icmp_ne hx hb rfl zl_40 (tgt := 158) dX11_one_143 (by decide) (fun c_142 => ?_) (fun c_142 => ?_)
              · refine lv_iconst (v := 0) hx hb dX11_one_158 (by decide) ?_
                refine kJv (wr := [(k0, .inl (cI, 1201, .inl c0))]) (va_runV (As := [.int 0]) (rest := []) ⟨hx, hb, hml, hown, hT⟩ (c_X11_needsG l D cI aK aV k k0 k1 k2 k4 k5 k6 k7 k8 ka kb kl ko H.size c3 c9 cc cd ce cf cg ch ci cj ck cm cn 0) (cwV 1 hT (gV_in mw_1347 mw_1344 mw_1346 mw_p4_11 mw_12) rfl rfl rfl (by decide +kernel) ⟨Nat.le_of_ble_eq_true rfl, Nat.le_of_ble_eq_true rfl⟩) (kRecvX (q0 := 1) (ci := 11) hK hP hD hN hXS hS hA rfl rfl [1] rfl (by decide)) rfl rfl hl.1 rfl (lv_room (Nat.le_of_ble_eq_true rfl)) dX11_one_159 ⟨Nat.le_of_ble_eq_true rfl, Nat.le_of_ble_eq_true rfl⟩) hP hD hS hA [1] [0] rfl rfl (by decide) (by decide) ?_
                clear hP hD hS
                intro scf_145 H locs w_144 hP hD hS
                replace hP : va_P D vwCl [(k0, .inl (cI, 1201, .inl c0)), (k, .inr (11, [.ref k0, .ref k1, .ref k2, .int c3, .ref k4, .ref k5, .ref k6, .ref k7, .ref k8, .int c9, .ref ka, .ref kb, .int cc, .int cd, .int ce, .int scf_145, .int cg, .int ch, .int ci, .int cj, .int ck, .ref kl, .int cm, .int cn, .ref ko]))] H := hP
                replace hD : va_D A [(k0, .inl (cI, 1201, .inl c0)), (k, .inr (11, [.ref k0, .ref k1, .ref k2, .int c3, .ref k4, .ref k5, .ref k6, .ref k7, .ref k8, .int c9, .ref ka, .ref kb, .int cc, .int cd, .int ce, .int scf_145, .int cg, .int ch, .int ci, .int cj, .int ck, .ref kl, .int cm, .int cn, .ref ko]))] := hD
                have lo_scf_145 := k_lo scf_145
                have hi_scf_145 := k_hi scf_145
                rcases w_144 with ⟨h_146, h_147, h_148⟩ | h_149
                · (try simp only [zl_0] at h_146 h_147 h_148); exfalso; omega
                · try simp only [zl_0] at h_149
                  have h_149 : scf_145.toInt = 1 := h_149
                  refine lv_aload_n hx hb dX11_one_162 rfl (lv_at hl 2 rfl) ?_
                  refine va_get (D := D) (ci := 11) (v := .int scf_145) (C := RX11) (T := TX11) (N := 25) hx hb hT giX11 hown hK hP 1 rfl rfl 15 (by decide) (hT (Cond.fieldLink RX11 148 "DesertWireModel" "isWrong" "Z") mw_1171) (fun _ h9 => h9) rfl dX11_one_163 ?_
                  refine b_if_eq hx hb rfl (tgt := 171) dX11_one_166 (by decide) (fun c_150 => by exfalso; omega) (fun c_150 => ?_)
                  refine lv_iconst (v := 0) hx hb dX11_one_169 (by decide) ?_
                  exact hRet (cd, scf_145, cg) [1, 0] ⟨(by first | omega | (simp only [zl_0] <;> omega) | decide | assumption | rfl | (dsimp only; first | omega | (simp only [zl_0] <;> omega))), (by first | omega | (simp only [zl_0] <;> omega) | decide | assumption | rfl | (dsimp only; first | omega | (simp only [zl_0] <;> omega))), (by first | omega | (simp only [zl_0] <;> omega) | decide | assumption | rfl | (dsimp only; first | omega | (simp only [zl_0] <;> omega)))⟩ hP hD (by decide) rfl hS rfl dX11_one_170
              · refine lv_aload_n hx hb dX11_one_146 rfl (lv_at hl 2 rfl) ?_
                refine va_get (D := D) (ci := 11) (v := .int cg) (C := RX11) (T := TX11) (N := 25) hx hb hT giX11 hown hK hP 1 rfl rfl 16 (by decide) (hT (Cond.fieldLink RX11 170 "DesertWireModel" "open" "I") mw_1172) (fun _ h9 => h9) rfl dX11_one_147 ?_
                refine lv_iconst (v := 4) hx hb dX11_one_150 (by decide) ?_
                refine b_icmp_ge hx hb rfl zl_4 (tgt := 158) dX11_one_151 (by decide) (fun c_151 => by exfalso; omega) (fun c_151 => ?_)
                refine lv_iconst (v := 1) hx hb dX11_one_154 (by decide) ?_
                refine lv_goto (tgt := 159) hx hb dX11_one_155 (by decide) ?_
                refine kJv (wr := [(k0, .inl (cI, 1201, .inl c0))]) (va_runV (As := [.int 1]) (rest := []) ⟨hx, hb, hml, hown, hT⟩ (c_X11_needsG l D cI aK aV k k0 k1 k2 k4 k5 k6 k7 k8 ka kb kl ko H.size c3 c9 cc cd ce cf cg ch ci cj ck cm cn 1) (cwV 1 hT (gV_in mw_1347 mw_1344 mw_1346 mw_p4_11 mw_12) rfl rfl rfl (by decide +kernel) ⟨Nat.le_of_ble_eq_true rfl, Nat.le_of_ble_eq_true rfl⟩) (kRecvX (q0 := 1) (ci := 11) hK hP hD hN hXS hS hA rfl rfl [1] rfl (by decide)) rfl rfl hl.1 rfl (lv_room (Nat.le_of_ble_eq_true rfl)) dX11_one_159 ⟨Nat.le_of_ble_eq_true rfl, Nat.le_of_ble_eq_true rfl⟩) hP hD hS hA [1] [0] rfl rfl (by decide) (by decide) ?_
                clear hP hD hS
                intro scf_154 H locs w_153 hP hD hS
                replace hP : va_P D vwCl [(k0, .inl (cI, 1201, .inl c0)), (k, .inr (11, [.ref k0, .ref k1, .ref k2, .int c3, .ref k4, .ref k5, .ref k6, .ref k7, .ref k8, .int c9, .ref ka, .ref kb, .int cc, .int cd, .int ce, .int scf_154, .int cg, .int ch, .int ci, .int cj, .int ck, .ref kl, .int cm, .int cn, .ref ko]))] H := hP
                replace hD : va_D A [(k0, .inl (cI, 1201, .inl c0)), (k, .inr (11, [.ref k0, .ref k1, .ref k2, .int c3, .ref k4, .ref k5, .ref k6, .ref k7, .ref k8, .int c9, .ref ka, .ref kb, .int cc, .int cd, .int ce, .int scf_154, .int cg, .int ch, .int ci, .int cj, .int ck, .ref kl, .int cm, .int cn, .ref ko]))] := hD
                have lo_scf_154 := k_lo scf_154
                have hi_scf_154 := k_hi scf_154
                rcases w_153 with ⟨h_155, h_156, h_157⟩ | h_158
                · try simp only [zl_1] at h_155
                  try simp only [zl_1] at h_156
                  have h_156 : cf.toInt = 0 := h_156
                  try simp only [zl_1] at h_157
                  have h_157 : scf_154.toInt = 0 := h_157
                  refine lv_aload_n hx hb dX11_one_162 rfl (lv_at hl 2 rfl) ?_
                  refine va_get (D := D) (ci := 11) (v := .int scf_154) (C := RX11) (T := TX11) (N := 25) hx hb hT giX11 hown hK hP 1 rfl rfl 15 (by decide) (hT (Cond.fieldLink RX11 148 "DesertWireModel" "isWrong" "Z") mw_1171) (fun _ h9 => h9) rfl dX11_one_163 ?_
                  refine b_if_eq hx hb rfl (tgt := 171) dX11_one_166 (by decide) (fun c_159 => ?_) (fun c_159 => by exfalso; omega)
                  refine lv_aload_n hx hb dX11_one_171 rfl (lv_at hl 2 rfl) ?_
                  refine lv_dup hx hb dX11_one_172 rfl ?_
                  refine va_get (D := D) (ci := 11) (v := .int cd) (C := RX11) (T := TX11) (N := 25) hx hb hT giX11 hown hK hP 1 rfl rfl 13 (by decide) (hT (Cond.fieldLink RX11 138 "DesertWireModel" "here" "I") mw_1169) (fun _ h9 => h9) rfl dX11_one_173 ?_
                  refine lv_iconst (v := 1) hx hb dX11_one_176 (by decide) ?_
                  refine lv_iadd hx hb dX11_one_177 ?_
                  refine lv_topi (fun v_160 ev_160 => ?_)
                  have tv_160 : v_160.toInt = cd.toInt + 1 := by rw [ev_160]; exact k_addv rfl zl_1 (by omega) (by omega)
                  refine va_put (D := D) (ci := 11) (v := .int v_160) (ty := .int) (C := RX11) (T := TX11) (N := 25) hx hb hT giX11 tyX11 tyX11_ok nmX11 hown hK hP hD hS 1 rfl rfl 13 (by decide) (hT (Cond.fieldLink RX11 138 "DesertWireModel" "here" "I") mw_1169) (fun _ h9 => h9) rfl (by decide +kernel) rfl rfl (Nat.le_of_ble_eq_true rfl) dX11_one_178 ?_
                  clear hP hD hS
                  intro H locs hP hD hS
                  replace hP : va_P D vwCl [(k0, .inl (cI, 1201, .inl c0)), (k, .inr (11, [.ref k0, .ref k1, .ref k2, .int c3, .ref k4, .ref k5, .ref k6, .ref k7, .ref k8, .int c9, .ref ka, .ref kb, .int cc, .int v_160, .int ce, .int scf_154, .int cg, .int ch, .int ci, .int cj, .int ck, .ref kl, .int cm, .int cn, .ref ko]))] H := hP
                  replace hD : va_D A [(k0, .inl (cI, 1201, .inl c0)), (k, .inr (11, [.ref k0, .ref k1, .ref k2, .int c3, .ref k4, .ref k5, .ref k6, .ref k7, .ref k8, .int c9, .ref ka, .ref kb, .int cc, .int v_160, .int ce, .int scf_154, .int cg, .int ch, .int ci, .int cj, .int ck, .ref kl, .int cm, .int cn, .ref ko]))] := hD
                  refine lv_aload_n hx hb dX11_one_181 rfl (lv_at hl 2 rfl) ?_
                  refine lv_dup hx hb dX11_one_182 rfl ?_
                  refine va_get (D := D) (ci := 11) (v := .int cg) (C := RX11) (T := TX11) (N := 25) hx hb hT giX11 hown hK hP 1 rfl rfl 16 (by decide) (hT (Cond.fieldLink RX11 170 "DesertWireModel" "open" "I") mw_1172) (fun _ h9 => h9) rfl dX11_one_183 ?_
                  refine lv_iconst (v := 1) hx hb dX11_one_186 (by decide) ?_
                  refine lv_iadd hx hb dX11_one_187 ?_
                  refine lv_topi (fun v_161 ev_161 => ?_)
                  have tv_161 : v_161.toInt = cg.toInt + 1 := by rw [ev_161]; exact k_addv rfl zl_1 (by omega) (by omega)
                  refine va_put (D := D) (ci := 11) (v := .int v_161) (ty := .int) (C := RX11) (T := TX11) (N := 25) hx hb hT giX11 tyX11 tyX11_ok nmX11 hown hK hP hD hS 1 rfl rfl 16 (by decide) (hT (Cond.fieldLink RX11 170 "DesertWireModel" "open" "I") mw_1172) (fun _ h9 => h9) rfl (by decide +kernel) rfl rfl (Nat.le_of_ble_eq_true rfl) dX11_one_188 ?_
                  clear hP hD hS
                  intro H locs hP hD hS
                  replace hP : va_P D vwCl [(k0, .inl (cI, 1201, .inl c0)), (k, .inr (11, [.ref k0, .ref k1, .ref k2, .int c3, .ref k4, .ref k5, .ref k6, .ref k7, .ref k8, .int c9, .ref ka, .ref kb, .int cc, .int v_160, .int ce, .int scf_154, .int v_161, .int ch, .int ci, .int cj, .int ck, .ref kl, .int cm, .int cn, .ref ko]))] H := hP
                  replace hD : va_D A [(k0, .inl (cI, 1201, .inl c0)), (k, .inr (11, [.ref k0, .ref k1, .ref k2, .int c3, .ref k4, .ref k5, .ref k6, .ref k7, .ref k8, .int c9, .ref ka, .ref kb, .int cc, .int v_160, .int ce, .int scf_154, .int v_161, .int ch, .int ci, .int cj, .int ck, .ref kl, .int cm, .int cn, .ref ko]))] := hD
                  refine lv_iload_n hx hb dX11_one_191 rfl (lv_at hl 1 rfl) ?_
                  refine lv_bipush (v := 40) hx hb dX11_one_192 (by decide) ?_
                  refine b_icmp_ne hx hb rfl zl_40 (tgt := 204) dX11_one_194 (by decide) (fun c_162 => by exfalso; omega) (fun c_162 => ?_)
                  refine lv_aload_n hx hb dX11_one_197 rfl (lv_at hl 2 rfl) ?_
                  refine kJi (wr := []) (va_runV (As := []) (rest := []) ⟨hx, hb, hml, hown, hT⟩ (c_X11_wholeG2 l D cI aK aV k k0 k1 k2 k4 k5 k6 k7 k8 ka kb kl ko H.size c3 c9 cc v_160 ce scf_154 v_161 ch ci cj ck cm cn c0 (by first | omega | decide | assumption | rfl) (by first | omega | decide | assumption | rfl) (by first | omega | decide | assumption | rfl) (by first | omega | decide | assumption | rfl) (by first | omega | decide | assumption | rfl) (by first | omega | decide | assumption | rfl)) (cwV 0 hT (gV_in mw_1315 mw_1312 mw_1314 mw_p4_3 mw_12) rfl rfl rfl (by decide +kernel) ⟨Nat.le_of_ble_eq_true rfl, Nat.le_of_ble_eq_true rfl⟩) (kRecvX (q0 := 1) (ci := 11) hK hP hD hN hXS hS hA rfl rfl [1, 0] rfl (by decide)) rfl rfl hl.1 rfl (lv_room (Nat.le_of_ble_eq_true rfl)) dX11_one_198 ⟨Nat.le_of_ble_eq_true rfl, Nat.le_of_ble_eq_true rfl⟩) hP hD hS hA [1, 0] [] rfl rfl (by decide) (by decide) ?_
                  clear hP hD hS
                  intro r_163 u_168 H locs w_164 hP hD hS
                  obtain ⟨scd_165, scf_166, scg_167⟩ := u_168
                  replace hP : va_P D vwCl [(k, .inr (11, [.ref k0, .ref k1, .ref k2, .int c3, .ref k4, .ref k5, .ref k6, .ref k7, .ref k8, .int c9, .ref ka, .ref kb, .int cc, .int scd_165, .int ce, .int scf_166, .int scg_167, .int ch, .int ci, .int cj, .int ck, .ref kl, .int cm, .int cn, .ref ko])), (k0, .inl (cI, 1201, .inl c0))] H := hP
                  replace hD : va_D A [(k, .inr (11, [.ref k0, .ref k1, .ref k2, .int c3, .ref k4, .ref k5, .ref k6, .ref k7, .ref k8, .int c9, .ref ka, .ref kb, .int cc, .int scd_165, .int ce, .int scf_166, .int scg_167, .int ch, .int ci, .int cj, .int ck, .ref kl, .int cm, .int cn, .ref ko])), (k0, .inl (cI, 1201, .inl c0))] := hD
                  have lo_scd_165 := k_lo scd_165
                  have hi_scd_165 := k_hi scd_165
                  have lo_scf_166 := k_lo scf_166
                  have hi_scf_166 := k_hi scf_166
                  have lo_scg_167 := k_lo scg_167
                  have hi_scg_167 := k_hi scg_167
                  obtain ⟨h_169, h_170, h_171⟩ := w_164
                  have h_169 : v_160.toInt ≤ scd_165.toInt := h_169
                  have h_170 : scd_165.toInt ≤ ce.toInt := h_170
                  have h_171 : scg_167.toInt = 2 := h_171
                  have lo_r_163 := k_lo r_163
                  have hi_r_163 := k_hi r_163
                  refine lv_goto (tgt := 208) hx hb dX11_one_201 (by decide) ?_
                  refine lv_istore_n (lv' := [(3, .int r_163), (2, .int (-1)), (1, .int r_1), (0, .ref k)]) hx hb dX11_one_208 rfl hl (by decide) rfl ?_
                  clear hl
                  intro ls hl
                  refine lv_aload_n hx hb dX11_one_209 rfl (lv_at hl 3 rfl) ?_
                  refine lv_iload_n hx hb dX11_one_210 rfl (lv_at hl 2 rfl) ?_
                  refine lv_bipush (v := 40) hx hb dX11_one_211 (by decide) ?_
                  refine b_icmp_ne hx hb rfl zl_40 (tgt := 225) dX11_one_213 (by decide) (fun c_172 => by exfalso; omega) (fun c_172 => ?_)
                  refine lv_aload_n hx hb dX11_one_216 rfl (lv_at hl 3 rfl) ?_
                  refine lv_bipush (v := 41) hx hb dX11_one_217 (by decide) ?_
                  refine kJi (wr := []) (va_runV (As := [.int 41]) (rest := [.ref k]) ⟨hx, hb, hml, hown, hT⟩ (c_X11_takesG l D cI aK aV k k0 k1 k2 k4 k5 k6 k7 k8 ka kb kl ko H.size c3 c9 cc scd_165 ce scf_166 scg_167 ch ci cj ck cm cn c0 41 (by first | omega | (simp only [zl_41] <;> omega) | decide | assumption | rfl) (by first | omega | (simp only [zl_41] <;> omega) | decide | assumption | rfl) (by first | omega | (simp only [zl_41] <;> omega) | decide | assumption | rfl) (by first | omega | (simp only [zl_41] <;> omega) | decide | assumption | rfl) (by first | omega | (simp only [zl_41] <;> omega) | decide | assumption | rfl) (by first | omega | (simp only [zl_41] <;> omega) | decide | assumption | rfl)) (cwV 1 hT (gV_in mw_1351 mw_1348 mw_1350 mw_p4_12 mw_12) rfl rfl rfl (by decide +kernel) ⟨Nat.le_of_ble_eq_true rfl, Nat.le_of_ble_eq_true rfl⟩) (kRecvX (q0 := 0) (ci := 11) hK hP hD hN hXS hS hA rfl rfl [0, 1] rfl (by decide)) rfl rfl hl.1 rfl (lv_room (Nat.le_of_ble_eq_true rfl)) dX11_one_219 ⟨Nat.le_of_ble_eq_true rfl, Nat.le_of_ble_eq_true rfl⟩) hP hD hS hA [0, 1] [] rfl rfl (by decide) (by decide) ?_
                  clear hP hD hS
                  intro r_173 scd_175 H locs w_174 hP hD hS
                  replace hP : va_P D vwCl [(k, .inr (11, [.ref k0, .ref k1, .ref k2, .int c3, .ref k4, .ref k5, .ref k6, .ref k7, .ref k8, .int c9, .ref ka, .ref kb, .int cc, .int scd_175, .int ce, .int scf_166, .int scg_167, .int ch, .int ci, .int cj, .int ck, .ref kl, .int cm, .int cn, .ref ko])), (k0, .inl (cI, 1201, .inl c0))] H := hP
                  replace hD : va_D A [(k, .inr (11, [.ref k0, .ref k1, .ref k2, .int c3, .ref k4, .ref k5, .ref k6, .ref k7, .ref k8, .int c9, .ref ka, .ref kb, .int cc, .int scd_175, .int ce, .int scf_166, .int scg_167, .int ch, .int ci, .int cj, .int ck, .ref kl, .int cm, .int cn, .ref ko])), (k0, .inl (cI, 1201, .inl c0))] := hD
                  have lo_scd_175 := k_lo scd_175
                  have hi_scd_175 := k_hi scd_175
                  rcases w_174 with ⟨hr_173, h_176, h_177⟩ | ⟨hr_173, h_178⟩
                  · try simp only [zl_41] at h_176
                    have h_176 : scd_175.toInt = scd_165.toInt + 1 := h_176
                    try simp only [zl_41] at h_177
                    have h_177 : scd_175.toInt ≤ ce.toInt := h_177
                    obtain rfl : r_173 = 1 := hr_173.trans (by decide)
                    refine b_if_eq hx hb zl_1 (tgt := 229) dX11_one_222 (by decide) (fun c_179 => by exfalso; omega) (fun c_179 => ?_)
                    refine lv_iconst (v := 1) hx hb dX11_one_225 (by decide) ?_
                    refine lv_goto (tgt := 230) hx hb dX11_one_226 (by decide) ?_
                    refine kJv (wr := [(k0, .inl (cI, 1201, .inl c0))]) (va_runV (As := [.int 1]) (rest := []) ⟨hx, hb, hml, hown, hT⟩ (c_X11_needsG l D cI aK aV k k0 k1 k2 k4 k5 k6 k7 k8 ka kb kl ko H.size c3 c9 cc scd_175 ce scf_166 scg_167 ch ci cj ck cm cn 1) (cwV 1 hT (gV_in mw_1347 mw_1344 mw_1346 mw_p4_11 mw_12) rfl rfl rfl (by decide +kernel) ⟨Nat.le_of_ble_eq_true rfl, Nat.le_of_ble_eq_true rfl⟩) (kRecvX (q0 := 0) (ci := 11) hK hP hD hN hXS hS hA rfl rfl [0] rfl (by decide)) rfl rfl hl.1 rfl (lv_room (Nat.le_of_ble_eq_true rfl)) dX11_one_230 ⟨Nat.le_of_ble_eq_true rfl, Nat.le_of_ble_eq_true rfl⟩) hP hD hS hA [0] [1] rfl rfl (by decide) (by decide) ?_
                    clear hP hD hS
                    intro scf_182 H locs w_181 hP hD hS
                    replace hP : va_P D vwCl [(k0, .inl (cI, 1201, .inl c0)), (k, .inr (11, [.ref k0, .ref k1, .ref k2, .int c3, .ref k4, .ref k5, .ref k6, .ref k7, .ref k8, .int c9, .ref ka, .ref kb, .int cc, .int scd_175, .int ce, .int scf_182, .int scg_167, .int ch, .int ci, .int cj, .int ck, .ref kl, .int cm, .int cn, .ref ko]))] H := hP
                    replace hD : va_D A [(k0, .inl (cI, 1201, .inl c0)), (k, .inr (11, [.ref k0, .ref k1, .ref k2, .int c3, .ref k4, .ref k5, .ref k6, .ref k7, .ref k8, .int c9, .ref ka, .ref kb, .int cc, .int scd_175, .int ce, .int scf_182, .int scg_167, .int ch, .int ci, .int cj, .int ck, .ref kl, .int cm, .int cn, .ref ko]))] := hD
                    have lo_scf_182 := k_lo scf_182
                    have hi_scf_182 := k_hi scf_182
                    rcases w_181 with ⟨h_183, h_184, h_185⟩ | h_186
                    · try simp only [zl_1] at h_183
                      try simp only [zl_1] at h_184
                      have h_184 : scf_166.toInt = 0 := h_184
                      try simp only [zl_1] at h_185
                      have h_185 : scf_182.toInt = 0 := h_185
                      refine lv_aload_n hx hb dX11_one_233 rfl (lv_at hl 3 rfl) ?_
                      refine lv_dup hx hb dX11_one_234 rfl ?_
                      refine va_get (D := D) (ci := 11) (v := .int scg_167) (C := RX11) (T := TX11) (N := 25) hx hb hT giX11 hown hK hP 1 rfl rfl 16 (by decide) (hT (Cond.fieldLink RX11 170 "DesertWireModel" "open" "I") mw_1172) (fun _ h9 => h9) rfl dX11_one_235 ?_
                      refine lv_iconst (v := 1) hx hb dX11_one_238 (by decide) ?_
                      refine lv_isub hx hb dX11_one_239 ?_
                      refine lv_topi (fun v_187 ev_187 => ?_)
                      have tv_187 : v_187.toInt = scg_167.toInt - 1 := by rw [ev_187]; exact k_subv rfl zl_1 (by omega) (by omega)
                      refine va_put (D := D) (ci := 11) (v := .int v_187) (ty := .int) (C := RX11) (T := TX11) (N := 25) hx hb hT giX11 tyX11 tyX11_ok nmX11 hown hK hP hD hS 1 rfl rfl 16 (by decide) (hT (Cond.fieldLink RX11 170 "DesertWireModel" "open" "I") mw_1172) (fun _ h9 => h9) rfl (by decide +kernel) rfl rfl (Nat.le_of_ble_eq_true rfl) dX11_one_240 ?_
                      clear hP hD hS
                      intro H locs hP hD hS
                      replace hP : va_P D vwCl [(k0, .inl (cI, 1201, .inl c0)), (k, .inr (11, [.ref k0, .ref k1, .ref k2, .int c3, .ref k4, .ref k5, .ref k6, .ref k7, .ref k8, .int c9, .ref ka, .ref kb, .int cc, .int scd_175, .int ce, .int scf_182, .int v_187, .int ch, .int ci, .int cj, .int ck, .ref kl, .int cm, .int cn, .ref ko]))] H := hP
                      replace hD : va_D A [(k0, .inl (cI, 1201, .inl c0)), (k, .inr (11, [.ref k0, .ref k1, .ref k2, .int c3, .ref k4, .ref k5, .ref k6, .ref k7, .ref k8, .int c9, .ref ka, .ref kb, .int cc, .int scd_175, .int ce, .int scf_182, .int v_187, .int ch, .int ci, .int cj, .int ck, .ref kl, .int cm, .int cn, .ref ko]))] := hD
                      refine lv_iload_n hx hb dX11_one_243 rfl (lv_at hl 2 rfl) ?_
                      refine lv_bipush (v := 45) hx hb dX11_one_244 (by decide) ?_
                      refine b_icmp_ne hx hb rfl zl_45 (tgt := 254) dX11_one_246 (by decide) (fun c_188 => ?_) (fun c_188 => by exfalso; omega)
                      refine lv_iload_n hx hb dX11_one_254 rfl (lv_at hl 2 rfl) ?_
                      refine lv_bipush (v := 33) hx hb dX11_one_255 (by decide) ?_
                      refine b_icmp_ne hx hb rfl zl_33 (tgt := 272) dX11_one_257 (by decide) (fun c_189 => ?_) (fun c_189 => by exfalso; omega)
                      refine lv_iload_n hx hb dX11_one_272 rfl (lv_at hl 0 rfl) ?_
                      exact hRet (scd_175, scf_182, v_187) [1, 0] ⟨(by first | omega | decide | assumption | rfl | (dsimp only; first | omega)), (by first | omega | decide | assumption | rfl | (dsimp only; first | omega)), (by first | omega | decide | assumption | rfl | (dsimp only; first | omega))⟩ hP hD (by decide) rfl hS rfl dX11_one_273
                    · try simp only [zl_1] at h_186
                      have h_186 : scf_182.toInt = 1 := h_186
                      refine lv_aload_n hx hb dX11_one_233 rfl (lv_at hl 3 rfl) ?_
                      refine lv_dup hx hb dX11_one_234 rfl ?_
                      refine va_get (D := D) (ci := 11) (v := .int scg_167) (C := RX11) (T := TX11) (N := 25) hx hb hT giX11 hown hK hP 1 rfl rfl 16 (by decide) (hT (Cond.fieldLink RX11 170 "DesertWireModel" "open" "I") mw_1172) (fun _ h9 => h9) rfl dX11_one_235 ?_
                      refine lv_iconst (v := 1) hx hb dX11_one_238 (by decide) ?_
                      refine lv_isub hx hb dX11_one_239 ?_
                      refine lv_topi (fun v_190 ev_190 => ?_)
                      have tv_190 : v_190.toInt = scg_167.toInt - 1 := by rw [ev_190]; exact k_subv rfl zl_1 (by omega) (by omega)
                      refine va_put (D := D) (ci := 11) (v := .int v_190) (ty := .int) (C := RX11) (T := TX11) (N := 25) hx hb hT giX11 tyX11 tyX11_ok nmX11 hown hK hP hD hS 1 rfl rfl 16 (by decide) (hT (Cond.fieldLink RX11 170 "DesertWireModel" "open" "I") mw_1172) (fun _ h9 => h9) rfl (by decide +kernel) rfl rfl (Nat.le_of_ble_eq_true rfl) dX11_one_240 ?_
                      clear hP hD hS
                      intro H locs hP hD hS
                      replace hP : va_P D vwCl [(k0, .inl (cI, 1201, .inl c0)), (k, .inr (11, [.ref k0, .ref k1, .ref k2, .int c3, .ref k4, .ref k5, .ref k6, .ref k7, .ref k8, .int c9, .ref ka, .ref kb, .int cc, .int scd_175, .int ce, .int scf_182, .int v_190, .int ch, .int ci, .int cj, .int ck, .ref kl, .int cm, .int cn, .ref ko]))] H := hP
                      replace hD : va_D A [(k0, .inl (cI, 1201, .inl c0)), (k, .inr (11, [.ref k0, .ref k1, .ref k2, .int c3, .ref k4, .ref k5, .ref k6, .ref k7, .ref k8, .int c9, .ref ka, .ref kb, .int cc, .int scd_175, .int ce, .int scf_182, .int v_190, .int ch, .int ci, .int cj, .int ck, .ref kl, .int cm, .int cn, .ref ko]))] := hD
                      refine lv_iload_n hx hb dX11_one_243 rfl (lv_at hl 2 rfl) ?_
                      refine lv_bipush (v := 45) hx hb dX11_one_244 (by decide) ?_
                      refine b_icmp_ne hx hb rfl zl_45 (tgt := 254) dX11_one_246 (by decide) (fun c_191 => ?_) (fun c_191 => by exfalso; omega)
                      refine lv_iload_n hx hb dX11_one_254 rfl (lv_at hl 2 rfl) ?_
                      refine lv_bipush (v := 33) hx hb dX11_one_255 (by decide) ?_
                      refine b_icmp_ne hx hb rfl zl_33 (tgt := 272) dX11_one_257 (by decide) (fun c_192 => ?_) (fun c_192 => by exfalso; omega)
                      refine lv_iload_n hx hb dX11_one_272 rfl (lv_at hl 0 rfl) ?_
                      exact hRet (scd_175, scf_182, v_190) [1, 0] ⟨(by first | omega | decide | assumption | rfl | (dsimp only; first | omega)), (by first | omega | decide | assumption | rfl | (dsimp only; first | omega)), (by first | omega | decide | assumption | rfl | (dsimp only; first | omega))⟩ hP hD (by decide) rfl hS rfl dX11_one_273
                  · try simp only [zl_41] at h_178
                    have h_178 : scd_175.toInt = scd_165.toInt := h_178
                    obtain rfl : r_173 = 0 := hr_173.trans (by decide)
                    refine b_if_eq hx hb zl_0 (tgt := 229) dX11_one_222 (by decide) (fun c_193 => ?_) (fun c_193 => by exfalso; omega)
                    refine lv_iconst (v := 0) hx hb dX11_one_229 (by decide) ?_
                    refine kJv (wr := [(k0, .inl (cI, 1201, .inl c0))]) (va_runV (As := [.int 0]) (rest := []) ⟨hx, hb, hml, hown, hT⟩ (c_X11_needsG l D cI aK aV k k0 k1 k2 k4 k5 k6 k7 k8 ka kb kl ko H.size c3 c9 cc scd_175 ce scf_166 scg_167 ch ci cj ck cm cn 0) (cwV 1 hT (gV_in mw_1347 mw_1344 mw_1346 mw_p4_11 mw_12) rfl rfl rfl (by decide +kernel) ⟨Nat.le_of_ble_eq_true rfl, Nat.le_of_ble_eq_true rfl⟩) (kRecvX (q0 := 0) (ci := 11) hK hP hD hN hXS hS hA rfl rfl [0] rfl (by decide)) rfl rfl hl.1 rfl (lv_room (Nat.le_of_ble_eq_true rfl)) dX11_one_230 ⟨Nat.le_of_ble_eq_true rfl, Nat.le_of_ble_eq_true rfl⟩) hP hD hS hA [0] [1] rfl rfl (by decide) (by decide) ?_
                    clear hP hD hS
                    intro scf_196 H locs w_195 hP hD hS
                    replace hP : va_P D vwCl [(k0, .inl (cI, 1201, .inl c0)), (k, .inr (11, [.ref k0, .ref k1, .ref k2, .int c3, .ref k4, .ref k5, .ref k6, .ref k7, .ref k8, .int c9, .ref ka, .ref kb, .int cc, .int scd_175, .int ce, .int scf_196, .int scg_167, .int ch, .int ci, .int cj, .int ck, .ref kl, .int cm, .int cn, .ref ko]))] H := hP
                    replace hD : va_D A [(k0, .inl (cI, 1201, .inl c0)), (k, .inr (11, [.ref k0, .ref k1, .ref k2, .int c3, .ref k4, .ref k5, .ref k6, .ref k7, .ref k8, .int c9, .ref ka, .ref kb, .int cc, .int scd_175, .int ce, .int scf_196, .int scg_167, .int ch, .int ci, .int cj, .int ck, .ref kl, .int cm, .int cn, .ref ko]))] := hD
                    have lo_scf_196 := k_lo scf_196
                    have hi_scf_196 := k_hi scf_196
                    rcases w_195 with ⟨h_197, h_198, h_199⟩ | h_200
                    · (try simp only [zl_0] at h_197 h_198 h_199); exfalso; omega
                    · try simp only [zl_0] at h_200
                      have h_200 : scf_196.toInt = 1 := h_200
                      refine lv_aload_n hx hb dX11_one_233 rfl (lv_at hl 3 rfl) ?_
                      refine lv_dup hx hb dX11_one_234 rfl ?_
                      refine va_get (D := D) (ci := 11) (v := .int scg_167) (C := RX11) (T := TX11) (N := 25) hx hb hT giX11 hown hK hP 1 rfl rfl 16 (by decide) (hT (Cond.fieldLink RX11 170 "DesertWireModel" "open" "I") mw_1172) (fun _ h9 => h9) rfl dX11_one_235 ?_
                      refine lv_iconst (v := 1) hx hb dX11_one_238 (by decide) ?_
                      refine lv_isub hx hb dX11_one_239 ?_
                      refine lv_topi (fun v_201 ev_201 => ?_)
                      have tv_201 : v_201.toInt = scg_167.toInt - 1 := by rw [ev_201]; exact k_subv rfl zl_1 (by omega) (by omega)
                      refine va_put (D := D) (ci := 11) (v := .int v_201) (ty := .int) (C := RX11) (T := TX11) (N := 25) hx hb hT giX11 tyX11 tyX11_ok nmX11 hown hK hP hD hS 1 rfl rfl 16 (by decide) (hT (Cond.fieldLink RX11 170 "DesertWireModel" "open" "I") mw_1172) (fun _ h9 => h9) rfl (by decide +kernel) rfl rfl (Nat.le_of_ble_eq_true rfl) dX11_one_240 ?_
                      clear hP hD hS
                      intro H locs hP hD hS
                      replace hP : va_P D vwCl [(k0, .inl (cI, 1201, .inl c0)), (k, .inr (11, [.ref k0, .ref k1, .ref k2, .int c3, .ref k4, .ref k5, .ref k6, .ref k7, .ref k8, .int c9, .ref ka, .ref kb, .int cc, .int scd_175, .int ce, .int scf_196, .int v_201, .int ch, .int ci, .int cj, .int ck, .ref kl, .int cm, .int cn, .ref ko]))] H := hP
                      replace hD : va_D A [(k0, .inl (cI, 1201, .inl c0)), (k, .inr (11, [.ref k0, .ref k1, .ref k2, .int c3, .ref k4, .ref k5, .ref k6, .ref k7, .ref k8, .int c9, .ref ka, .ref kb, .int cc, .int scd_175, .int ce, .int scf_196, .int v_201, .int ch, .int ci, .int cj, .int ck, .ref kl, .int cm, .int cn, .ref ko]))] := hD
                      refine lv_iload_n hx hb dX11_one_243 rfl (lv_at hl 2 rfl) ?_
                      refine lv_bipush (v := 45) hx hb dX11_one_244 (by decide) ?_
                      refine b_icmp_ne hx hb rfl zl_45 (tgt := 254) dX11_one_246 (by decide) (fun c_202 => ?_) (fun c_202 => by exfalso; omega)
                      refine lv_iload_n hx hb dX11_one_254 rfl (lv_at hl 2 rfl) ?_
                      refine lv_bipush (v := 33) hx hb dX11_one_255 (by decide) ?_
                      refine b_icmp_ne hx hb rfl zl_33 (tgt := 272) dX11_one_257 (by decide) (fun c_203 => ?_) (fun c_203 => by exfalso; omega)
                      refine lv_iload_n hx hb dX11_one_272 rfl (lv_at hl 0 rfl) ?_
                      exact hRet (scd_175, scf_196, v_201) [1, 0] ⟨(by first | omega | decide | assumption | rfl | (dsimp only; first | omega)), (by first | omega | decide | assumption | rfl | (dsimp only; first | omega)), (by first | omega | decide | assumption | rfl | (dsimp only; first | omega))⟩ hP hD (by decide) rfl hS rfl dX11_one_273
                · try simp only [zl_1] at h_158
                  have h_158 : scf_154.toInt = 1 := h_158
                  refine lv_aload_n hx hb dX11_one_162 rfl (lv_at hl 2 rfl) ?_
                  refine va_get (D := D) (ci := 11) (v := .int scf_154) (C := RX11) (T := TX11) (N := 25) hx hb hT giX11 hown hK hP 1 rfl rfl 15 (by decide) (hT (Cond.fieldLink RX11 148 "DesertWireModel" "isWrong" "Z") mw_1171) (fun _ h9 => h9) rfl dX11_one_163 ?_
                  refine b_if_eq hx hb rfl (tgt := 171) dX11_one_166 (by decide) (fun c_204 => by exfalso; omega) (fun c_204 => ?_)
                  refine lv_iconst (v := 0) hx hb dX11_one_169 (by decide) ?_
                  exact hRet (cd, scf_154, cg) [1, 0] ⟨(by first | omega | (simp only [zl_0] <;> omega) | decide | assumption | rfl | (dsimp only; first | omega | (simp only [zl_0] <;> omega))), (by first | omega | (simp only [zl_0] <;> omega) | decide | assumption | rfl | (dsimp only; first | omega | (simp only [zl_0] <;> omega))), (by first | omega | (simp only [zl_0] <;> omega) | decide | assumption | rfl | (dsimp only; first | omega | (simp only [zl_0] <;> omega)))⟩ hP hD (by decide) rfl hS rfl dX11_one_170
    · refine lv_iconst (v := 0) hx hb dX11_one_12 (by decide) ?_
      exact hRet (cd, cf, cg) [0, 1] ⟨(by first | omega | (simp only [zl_0] <;> omega) | decide | assumption | rfl | (dsimp only; first | omega | (simp only [zl_0] <;> omega))), (by first | omega | (simp only [zl_0] <;> omega) | decide | assumption | rfl | (dsimp only; first | omega | (simp only [zl_0] <;> omega))), (by first | omega | (simp only [zl_0] <;> omega) | decide | assumption | rfl | (dsimp only; first | omega | (simp only [zl_0] <;> omega)))⟩ hP hD (by decide) rfl hS rfl dX11_one_13
  · have h_5 : cd.toInt = ce.toInt := h_5
    obtain rfl : r_1 = (-1) := hr_1.trans (by decide)
    refine lv_istore_n (lv' := [(1, .int (-1)), (0, .ref k)]) hx hb dX11_one_4 rfl hl (by decide) rfl ?_
    clear hl
    intro ls hl
    refine lv_aload_n hx hb dX11_one_5 rfl (lv_at hl 1 rfl) ?_
    refine va_get (D := D) (ci := 11) (v := .int cf) (C := RX11) (T := TX11) (N := 25) hx hb hT giX11 hown hK hP 0 rfl rfl 15 (by decide) (hT (Cond.fieldLink RX11 148 "DesertWireModel" "isWrong" "Z") mw_1171) (fun _ h9 => h9) rfl dX11_one_6 ?_
    refine b_if_eq hx hb rfl (tgt := 14) dX11_one_9 (by decide) (fun c_205 => ?_) (fun c_205 => ?_)
    · refine lv_iload_n hx hb dX11_one_14 rfl (lv_at hl 0 rfl) ?_
      refine lv_bipush (v := 48) hx hb dX11_one_15 (by decide) ?_
      refine lv_bipush (v := 57) hx hb dX11_one_17 (by decide) ?_
      refine kJi (wr := [(k, .inr (11, [.ref k0, .ref k1, .ref k2, .int c3, .ref k4, .ref k5, .ref k6, .ref k7, .ref k8, .int c9, .ref ka, .ref kb, .int cc, .int cd, .int ce, .int cf, .int cg, .int ch, .int ci, .int cj, .int ck, .ref kl, .int cm, .int cn, .ref ko])), (k0, .inl (cI, 1201, .inl c0))]) (va_runS (As := [.int (-1), .int 48, .int 57]) (rest := []) ⟨hx, hb, hml, hown, hT⟩ (c_X11_inG l D cI aK aV H.size (-1) 48 57) (cwS 3 hT (gS_in mw_1238 mw_1236 mw_1237 mw_12) rfl rfl rfl (by decide +kernel) ⟨Nat.le_of_ble_eq_true rfl, Nat.le_of_ble_eq_true rfl⟩) (kStatX hK hP hD hN hXS hS hA [] rfl (by decide)) rfl rfl hl.1 rfl (lv_room (Nat.le_of_ble_eq_true rfl)) dX11_one_19 ⟨Nat.le_of_ble_eq_true rfl, Nat.le_of_ble_eq_true rfl⟩) hP hD hS hA [] [0, 1] rfl rfl (by decide) (by decide) ?_
      clear hP hD hS
      intro r_206 u_208 H locs w_207 hP hD hS
      replace hP : va_P D vwCl [(k, .inr (11, [.ref k0, .ref k1, .ref k2, .int c3, .ref k4, .ref k5, .ref k6, .ref k7, .ref k8, .int c9, .ref ka, .ref kb, .int cc, .int cd, .int ce, .int cf, .int cg, .int ch, .int ci, .int cj, .int ck, .ref kl, .int cm, .int cn, .ref ko])), (k0, .inl (cI, 1201, .inl c0))] H := hP
      replace hD : va_D A [(k, .inr (11, [.ref k0, .ref k1, .ref k2, .int c3, .ref k4, .ref k5, .ref k6, .ref k7, .ref k8, .int c9, .ref ka, .ref kb, .int cc, .int cd, .int ce, .int cf, .int cg, .int ch, .int ci, .int cj, .int ck, .ref kl, .int cm, .int cn, .ref ko])), (k0, .inl (cI, 1201, .inl c0))] := hD
      rcases w_207 with ⟨hr_206, h_209, h_210⟩ | ⟨hr_206, h_211⟩
      · (try simp only [zl_m1, zl_48, zl_57] at h_209 h_210); exfalso; omega
      · try simp only [zl_m1, zl_48, zl_57] at h_211
        obtain rfl : r_206 = 0 := hr_206.trans (by decide)
        refine b_if_eq hx hb zl_0 (tgt := 79) dX11_one_22 (by decide) (fun c_212 => ?_) (fun c_212 => by exfalso; omega)
        refine lv_aload_n hx hb dX11_one_79 rfl (lv_at hl 1 rfl) ?_
        refine lv_iload_n hx hb dX11_one_80 rfl (lv_at hl 0 rfl) ?_
        refine kJi (wr := [(k0, .inl (cI, 1201, .inl c0))]) (va_runV (As := [.int (-1)]) (rest := []) ⟨hx, hb, hml, hown, hT⟩ (c_X11_nameAtG l D cI aK aV k k0 k1 k2 k4 k5 k6 k7 k8 ka kb kl ko H.size c3 c9 cc cd ce cf cg ch ci cj ck cm cn (-1)) (cwV 1 hT (gV_in mw_1343 mw_1340 mw_1342 mw_p4_10 mw_12) rfl rfl rfl (by decide +kernel) ⟨Nat.le_of_ble_eq_true rfl, Nat.le_of_ble_eq_true rfl⟩) (kRecvX (q0 := 0) (ci := 11) hK hP hD hN hXS hS hA rfl rfl [0] rfl (by decide)) rfl rfl hl.1 rfl (lv_room (Nat.le_of_ble_eq_true rfl)) dX11_one_81 ⟨Nat.le_of_ble_eq_true rfl, Nat.le_of_ble_eq_true rfl⟩) hP hD hS hA [0] [1] rfl rfl (by decide) (by decide) ?_
        clear hP hD hS
        intro r_213 u_215 H locs w_214 hP hD hS
        replace hP : va_P D vwCl [(k0, .inl (cI, 1201, .inl c0)), (k, .inr (11, [.ref k0, .ref k1, .ref k2, .int c3, .ref k4, .ref k5, .ref k6, .ref k7, .ref k8, .int c9, .ref ka, .ref kb, .int cc, .int cd, .int ce, .int cf, .int cg, .int ch, .int ci, .int cj, .int ck, .ref kl, .int cm, .int cn, .ref ko]))] H := hP
        replace hD : va_D A [(k0, .inl (cI, 1201, .inl c0)), (k, .inr (11, [.ref k0, .ref k1, .ref k2, .int c3, .ref k4, .ref k5, .ref k6, .ref k7, .ref k8, .int c9, .ref ka, .ref kb, .int cc, .int cd, .int ce, .int cf, .int cg, .int ch, .int ci, .int cj, .int ck, .ref kl, .int cm, .int cn, .ref ko]))] := hD
        rcases w_214 with h_216 | hr_213
        · (try simp only [zl_m1] at h_216); exfalso; omega
        · obtain rfl : r_213 = (-1) := hr_213.trans (by decide)
          refine lv_istore_n (lv' := [(2, .int (-1)), (1, .int (-1)), (0, .ref k)]) hx hb dX11_one_84 rfl hl (by decide) rfl ?_
          clear hl
          intro ls hl
          refine lv_iload_n hx hb dX11_one_85 rfl (lv_at hl 0 rfl) ?_
          refine b_if_lt hx hb zl_m1 (tgt := 127) dX11_one_86 (by decide) (fun c_217 => ?_) (fun c_217 => by exfalso; omega)
          refine lv_aload_n hx hb dX11_one_127 rfl (lv_at hl 2 rfl) ?_
          refine lv_iload_n hx hb dX11_one_128 rfl (lv_at hl 1 rfl) ?_
          refine lv_bipush (v := 45) hx hb dX11_one_129 (by decide) ?_
          refine b_icmp_eq hx hb zl_m1 zl_45 (tgt := 146) dX11_one_131 (by decide) (fun c_218 => by exfalso; omega) (fun c_218 => ?_)
          refine lv_iload_n hx hb dX11_one_134 rfl (lv_at hl 1 rfl) ?_
          refine lv_bipush (v := 33) hx hb dX11_one_135 (by decide) ?_
          refine b_icmp_eq hx hb zl_m1 zl_33 (tgt := 146) dX11_one_137 (by decide) (fun c_219 => by exfalso; omega) (fun c_219 => ?_)
          refine lv_iload_n hx hb dX11_one_140 rfl (lv_at hl 1 rfl) ?_
          refine lv_bipush (v := 40) hx hb dX11_one_141 (by decide) ?_
          refine b_icmp_ne hx hb zl_m1 zl_40 (tgt := 158) dX11_one_143 (by decide) (fun c_220 => ?_) (fun c_220 => by exfalso; omega)
          refine lv_iconst (v := 0) hx hb dX11_one_158 (by decide) ?_
          refine kJv (wr := [(k0, .inl (cI, 1201, .inl c0))]) (va_runV (As := [.int 0]) (rest := []) ⟨hx, hb, hml, hown, hT⟩ (c_X11_needsG l D cI aK aV k k0 k1 k2 k4 k5 k6 k7 k8 ka kb kl ko H.size c3 c9 cc cd ce cf cg ch ci cj ck cm cn 0) (cwV 1 hT (gV_in mw_1347 mw_1344 mw_1346 mw_p4_11 mw_12) rfl rfl rfl (by decide +kernel) ⟨Nat.le_of_ble_eq_true rfl, Nat.le_of_ble_eq_true rfl⟩) (kRecvX (q0 := 1) (ci := 11) hK hP hD hN hXS hS hA rfl rfl [1] rfl (by decide)) rfl rfl hl.1 rfl (lv_room (Nat.le_of_ble_eq_true rfl)) dX11_one_159 ⟨Nat.le_of_ble_eq_true rfl, Nat.le_of_ble_eq_true rfl⟩) hP hD hS hA [1] [0] rfl rfl (by decide) (by decide) ?_
          clear hP hD hS
          intro scf_223 H locs w_222 hP hD hS
          replace hP : va_P D vwCl [(k0, .inl (cI, 1201, .inl c0)), (k, .inr (11, [.ref k0, .ref k1, .ref k2, .int c3, .ref k4, .ref k5, .ref k6, .ref k7, .ref k8, .int c9, .ref ka, .ref kb, .int cc, .int cd, .int ce, .int scf_223, .int cg, .int ch, .int ci, .int cj, .int ck, .ref kl, .int cm, .int cn, .ref ko]))] H := hP
          replace hD : va_D A [(k0, .inl (cI, 1201, .inl c0)), (k, .inr (11, [.ref k0, .ref k1, .ref k2, .int c3, .ref k4, .ref k5, .ref k6, .ref k7, .ref k8, .int c9, .ref ka, .ref kb, .int cc, .int cd, .int ce, .int scf_223, .int cg, .int ch, .int ci, .int cj, .int ck, .ref kl, .int cm, .int cn, .ref ko]))] := hD
          have lo_scf_223 := k_lo scf_223
          have hi_scf_223 := k_hi scf_223
          rcases w_222 with ⟨h_224, h_225, h_226⟩ | h_227
          · (try simp only [zl_0] at h_224 h_225 h_226); exfalso; omega
          · try simp only [zl_0] at h_227
            have h_227 : scf_223.toInt = 1 := h_227
            refine lv_aload_n hx hb dX11_one_162 rfl (lv_at hl 2 rfl) ?_
            refine va_get (D := D) (ci := 11) (v := .int scf_223) (C := RX11) (T := TX11) (N := 25) hx hb hT giX11 hown hK hP 1 rfl rfl 15 (by decide) (hT (Cond.fieldLink RX11 148 "DesertWireModel" "isWrong" "Z") mw_1171) (fun _ h9 => h9) rfl dX11_one_163 ?_
            refine b_if_eq hx hb rfl (tgt := 171) dX11_one_166 (by decide) (fun c_228 => by exfalso; omega) (fun c_228 => ?_)
            refine lv_iconst (v := 0) hx hb dX11_one_169 (by decide) ?_
            exact hRet (cd, scf_223, cg) [1, 0] ⟨(by first | omega | (simp only [zl_0] <;> omega) | decide | assumption | rfl | (dsimp only; first | omega | (simp only [zl_0] <;> omega))), (by first | omega | (simp only [zl_0] <;> omega) | decide | assumption | rfl | (dsimp only; first | omega | (simp only [zl_0] <;> omega))), (by first | omega | (simp only [zl_0] <;> omega) | decide | assumption | rfl | (dsimp only; first | omega | (simp only [zl_0] <;> omega)))⟩ hP hD (by decide) rfl hS rfl dX11_one_170
    · refine lv_iconst (v := 0) hx hb dX11_one_12 (by decide) ?_
      exact hRet (cd, cf, cg) [0, 1] ⟨(by first | omega | (simp only [zl_0] <;> omega) | decide | assumption | rfl | (dsimp only; first | omega | (simp only [zl_0] <;> omega))), (by first | omega | (simp only [zl_0] <;> omega) | decide | assumption | rfl | (dsimp only; first | omega | (simp only [zl_0] <;> omega))), (by first | omega | (simp only [zl_0] <;> omega) | decide | assumption | rfl | (dsimp only; first | omega | (simp only [zl_0] <;> omega)))⟩ hP hD (by decide) rfl hS rfl dX11_one_13

set_option maxHeartbeats 4000000 in
set_option maxRecDepth 100000 in
theorem c_X11_productG1 (l : Launch) (D : va_G) (cI : ClassId) (aK aV : Nat → Nat) (k k0 k1 k2 k4 k5 k6 k7 k8 ka kb kl ko : Nat) (sz : Nat) (c3 : Int32) (c9 : Int32) (cc : Int32) (cd : Int32) (ce : Int32) (cf : Int32) (cg : Int32) (ch : Int32) (ci : Int32) (cj : Int32) (ck : Int32) (cm : Int32) (cn : Int32) (c0 : Nat → Int32) (pre0 : 0 ≤ cc.toInt) (pre1 : cc.toInt ≤ 1151) (pre2 : 0 ≤ cd.toInt) (pre3 : cd.toInt ≤ ce.toInt) (pre4 : ce.toInt ≤ 50) (pre5 : cg.toInt = 1) : Met l yX11_product (gW yX11_product cX11_product 4 (some .int)) ({ frames := 20, cells := 0, slots := 0, locals := 453 } : Room) (kPreX D cI aK aV [.ref k] [(k, .inr (11, [.ref k0, .ref k1, .ref k2, .int c3, .ref k4, .ref k5, .ref k6, .ref k7, .ref k8, .int c9, .ref ka, .ref kb, .int cc, .int cd, .int ce, .int cf, .int cg, .int ch, .int ci, .int cj, .int ck, .ref kl, .int cm, .int cn, .ref ko])), (k0, .inl (cI, 1201, .inl c0))] sz) (va_Qi (fun (r : Int32) (u : Int32 × Int32 × Int32) => cd.toInt ≤ u.1.toInt ∧ u.1.toInt ≤ ce.toInt ∧ u.2.2.toInt = 1) (fun u t => kWd D cI (va_A [(k, .inr (11, [.ref k0, .ref k1, .ref k2, .int c3, .ref k4, .ref k5, .ref k6, .ref k7, .ref k8, .int c9, .ref ka, .ref kb, .int cc, .int cd, .int ce, .int cf, .int cg, .int ch, .int ci, .int cj, .int ck, .ref kl, .int cm, .int cn, .ref ko])), (k0, .inl (cI, 1201, .inl c0))] sz) [(k, .inr (11, [.ref k0, .ref k1, .ref k2, .int c3, .ref k4, .ref k5, .ref k6, .ref k7, .ref k8, .int c9, .ref ka, .ref kb, .int cc, .int u.1, .int ce, .int u.2.1, .int u.2.2, .int ch, .int ci, .int cj, .int ck, .ref kl, .int cm, .int cn, .ref ko])), (k0, .inl (cI, 1201, .inl c0))] t) (va_A [(k, .inr (11, [.ref k0, .ref k1, .ref k2, .int c3, .ref k4, .ref k5, .ref k6, .ref k7, .ref k8, .int c9, .ref ka, .ref kb, .int cc, .int cd, .int ce, .int cf, .int cg, .int ch, .int ci, .int cj, .int ck, .ref kl, .int cm, .int cn, .ref ko])), (k0, .inl (cI, 1201, .inl c0))] sz)) 0 0 (va_A [(k, .inr (11, [.ref k0, .ref k1, .ref k2, .int c3, .ref k4, .ref k5, .ref k6, .ref k7, .ref k8, .int c9, .ref ka, .ref kb, .int cc, .int cd, .int ce, .int cf, .int cg, .int ch, .int ci, .int cj, .int ck, .ref kl, .int cm, .int cn, .ref ko])), (k0, .inl (cI, 1201, .inl c0))] sz) := by
  refine kMetIX (own := RX11) (by decide) rfl (Nat.le_of_ble_eq_true rfl) ?_
  intro p e s m args below meth c hx hb hT hown hname hml A Q hK hP hD hS hA hN hXS hRet ls hl
  have hl : lv_has ls 4 [(0, .ref k)] := hl
  have lo_cd := k_lo cd
  have hi_cd := k_hi cd
  have lo_ce := k_lo ce
  have hi_ce := k_hi ce
  have lo_ci := k_lo ci
  have hi_ci := k_hi ci
  refine lv_aload_n hx hb dX11_product_0 rfl (lv_at hl 0 rfl) ?_
  refine kJi (wr := []) (va_runV (As := []) (rest := []) ⟨hx, hb, hml, hown, hT⟩ (c_X11_oneG1 l D cI aK aV k k0 k1 k2 k4 k5 k6 k7 k8 ka kb kl ko s.heap.size c3 c9 cc cd ce cf cg ch ci cj ck cm cn c0 (by first | omega | decide | assumption | rfl) (by first | omega | decide | assumption | rfl) (by first | omega | decide | assumption | rfl) (by first | omega | decide | assumption | rfl) (by first | omega | decide | assumption | rfl) (by first | omega | decide | assumption | rfl)) (cwV 0 hT (gV_in mw_1335 mw_1332 mw_1334 mw_p4_8 mw_12) rfl rfl rfl (by decide +kernel) ⟨Nat.le_of_ble_eq_true rfl, Nat.le_of_ble_eq_true rfl⟩) (kRecvX (q0 := 0) (ci := 11) hK hP hD hN hXS hS hA rfl rfl [0, 1] rfl (by decide)) rfl rfl hl.1 rfl (lv_room (Nat.le_of_ble_eq_true rfl)) dX11_product_1 ⟨Nat.le_of_ble_eq_true rfl, Nat.le_of_ble_eq_true rfl⟩) hP hD hS hA [0, 1] [] rfl rfl (by decide) (by decide) ?_
  clear hP hD hS
  intro r_1 u_6 H locs w_2 hP hD hS
  obtain ⟨scd_3, scf_4, scg_5⟩ := u_6
  replace hP : va_P D vwCl [(k, .inr (11, [.ref k0, .ref k1, .ref k2, .int c3, .ref k4, .ref k5, .ref k6, .ref k7, .ref k8, .int c9, .ref ka, .ref kb, .int cc, .int scd_3, .int ce, .int scf_4, .int scg_5, .int ch, .int ci, .int cj, .int ck, .ref kl, .int cm, .int cn, .ref ko])), (k0, .inl (cI, 1201, .inl c0))] H := hP
  replace hD : va_D A [(k, .inr (11, [.ref k0, .ref k1, .ref k2, .int c3, .ref k4, .ref k5, .ref k6, .ref k7, .ref k8, .int c9, .ref ka, .ref kb, .int cc, .int scd_3, .int ce, .int scf_4, .int scg_5, .int ch, .int ci, .int cj, .int ck, .ref kl, .int cm, .int cn, .ref ko])), (k0, .inl (cI, 1201, .inl c0))] := hD
  have lo_scd_3 := k_lo scd_3
  have hi_scd_3 := k_hi scd_3
  have lo_scg_5 := k_lo scg_5
  have hi_scg_5 := k_hi scg_5
  obtain ⟨h_7, h_8, h_9⟩ := w_2
  have h_7 : cd.toInt ≤ scd_3.toInt := h_7
  have h_8 : scd_3.toInt ≤ ce.toInt := h_8
  have h_9 : scg_5.toInt = 1 := h_9
  have lo_r_1 := k_lo r_1
  have hi_r_1 := k_hi r_1
  refine lv_istore_n (lv' := [(1, .int r_1), (0, .ref k)]) hx hb dX11_product_4 rfl hl (by decide) rfl ?_
  clear hl
  intro ls hl
  have hloop_5 : ∀ (fu_ : Nat) (l5_1 : Int32) (f5_kd : Int32) (f5_kf : Int32) (f5_kg : Int32), scd_3.toInt ≤ f5_kd.toInt → scg_5.toInt ≤ f5_kg.toInt → f5_kg.toInt ≤ scg_5.toInt → f5_kd.toInt ≤ ce.toInt → (ce.toInt - f5_kd.toInt).toNat < fu_ → ∀ (ls : Array Slot) (H : Heap) (locs : List Loc), lv_has ls 4 [(1, .int l5_1), (0, .ref k)] → va_P D vwCl [(k, .inr (11, [.ref k0, .ref k1, .ref k2, .int c3, .ref k4, .ref k5, .ref k6, .ref k7, .ref k8, .int c9, .ref ka, .ref kb, .int cc, .int f5_kd, .int ce, .int f5_kf, .int f5_kg, .int ch, .int ci, .int cj, .int ck, .ref kl, .int cm, .int cn, .ref ko])), (k0, .inl (cI, 1201, .inl c0))] H → va_D A [(k, .inr (11, [.ref k0, .ref k1, .ref k2, .int c3, .ref k4, .ref k5, .ref k6, .ref k7, .ref k8, .int c9, .ref ka, .ref kb, .int cc, .int f5_kd, .int ce, .int f5_kf, .int f5_kg, .int ch, .int ci, .int cj, .int ck, .ref kl, .int cm, .int cn, .ref ko])), (k0, .inl (cI, 1201, .inl c0))] → va_S A s.heap H locs → W p l e ({ frames := 20, cells := 0, slots := 0, locals := 453 } : Room) s m args below meth c H locs 0 0 Q (F0 m 5 ls []) := by
    intro fu_; induction fu_ with
    | zero => intro l5_1 f5_kd f5_kf f5_kg i5_0 i5_1 i5_2 i5_3 hm; exact absurd hm (by omega)
    | succ fu_ ih5 =>
        intro l5_1 f5_kd f5_kf f5_kg i5_0 i5_1 i5_2 i5_3 hm ls H locs hl hP hD hS
        have lo_l5_1 := k_lo l5_1
        have hi_l5_1 := k_hi l5_1
        have lo_f5_kd := k_lo f5_kd
        have hi_f5_kd := k_hi f5_kd
        have lo_f5_kf := k_lo f5_kf
        have hi_f5_kf := k_hi f5_kf
        have lo_f5_kg := k_lo f5_kg
        have hi_f5_kg := k_hi f5_kg
        refine lv_aload_n hx hb dX11_product_5 rfl (lv_at hl 1 rfl) ?_
        refine va_get (D := D) (ci := 11) (v := .int f5_kf) (C := RX11) (T := TX11) (N := 25) hx hb hT giX11 hown hK hP 0 rfl rfl 15 (by decide) (hT (Cond.fieldLink RX11 148 "DesertWireModel" "isWrong" "Z") mw_1171) (fun _ h9 => h9) rfl dX11_product_6 ?_
        refine b_if_ne hx hb rfl (tgt := 85) dX11_product_9 (by decide) (fun c_10 => ?_) (fun c_10 => ?_)
        · refine lv_iload_n hx hb dX11_product_85 rfl (lv_at hl 0 rfl) ?_
          exact hRet (f5_kd, f5_kf, f5_kg) [0, 1] ⟨(by first | omega | decide | assumption | rfl | (dsimp only; first | omega)), (by first | omega | decide | assumption | rfl | (dsimp only; first | omega)), (by first | omega | decide | assumption | rfl | (dsimp only; first | omega))⟩ hP hD (by decide) rfl hS rfl dX11_product_86
        · refine lv_aload_n hx hb dX11_product_12 rfl (lv_at hl 1 rfl) ?_
          refine kJi (wr := []) (va_runV (As := []) (rest := []) ⟨hx, hb, hml, hown, hT⟩ (c_X11_nowG l D cI aK aV k k0 k1 k2 k4 k5 k6 k7 k8 ka kb kl ko H.size c3 c9 cc f5_kd ce f5_kf f5_kg ch ci cj ck cm cn c0 (by first | omega | decide | assumption | rfl) (by first | omega | decide | assumption | rfl) (by first | omega | decide | assumption | rfl) (by first | omega | decide | assumption | rfl) (by first | omega | decide | assumption | rfl)) (cwV 0 hT (gV_in mw_1339 mw_1336 mw_1338 mw_p4_9 mw_12) rfl rfl rfl (by decide +kernel) ⟨Nat.le_of_ble_eq_true rfl, Nat.le_of_ble_eq_true rfl⟩) (kRecvX (q0 := 0) (ci := 11) hK hP hD hN hXS hS hA rfl rfl [0, 1] rfl (by decide)) rfl rfl hl.1 rfl (lv_room (Nat.le_of_ble_eq_true rfl)) dX11_product_13 ⟨Nat.le_of_ble_eq_true rfl, Nat.le_of_ble_eq_true rfl⟩) hP hD hS hA [0, 1] [] rfl rfl (by decide) (by decide) ?_
          clear hP hD hS
          intro r_11 u_13 H locs w_12 hP hD hS
          replace hP : va_P D vwCl [(k, .inr (11, [.ref k0, .ref k1, .ref k2, .int c3, .ref k4, .ref k5, .ref k6, .ref k7, .ref k8, .int c9, .ref ka, .ref kb, .int cc, .int f5_kd, .int ce, .int f5_kf, .int f5_kg, .int ch, .int ci, .int cj, .int ck, .ref kl, .int cm, .int cn, .ref ko])), (k0, .inl (cI, 1201, .inl c0))] H := hP
          replace hD : va_D A [(k, .inr (11, [.ref k0, .ref k1, .ref k2, .int c3, .ref k4, .ref k5, .ref k6, .ref k7, .ref k8, .int c9, .ref ka, .ref kb, .int cc, .int f5_kd, .int ce, .int f5_kf, .int f5_kg, .int ch, .int ci, .int cj, .int ck, .ref kl, .int cm, .int cn, .ref ko])), (k0, .inl (cI, 1201, .inl c0))] := hD
          rcases w_12 with h_14 | ⟨hr_11, h_15⟩
          · have h_14 : f5_kd.toInt < ce.toInt := h_14
            have lo_r_11 := k_lo r_11
            have hi_r_11 := k_hi r_11
            refine lv_bipush (v := 42) hx hb dX11_product_16 (by decide) ?_
            refine b_icmp_eq hx hb rfl zl_42 (tgt := 30) dX11_product_18 (by decide) (fun c_16 => ?_) (fun c_16 => ?_)
            · refine lv_aload_n hx hb dX11_product_30 rfl (lv_at hl 1 rfl) ?_
              refine kJi (wr := []) (va_runV (As := []) (rest := []) ⟨hx, hb, hml, hown, hT⟩ (c_X11_nowG l D cI aK aV k k0 k1 k2 k4 k5 k6 k7 k8 ka kb kl ko H.size c3 c9 cc f5_kd ce f5_kf f5_kg ch ci cj ck cm cn c0 (by first | omega | decide | assumption | rfl) (by first | omega | decide | assumption | rfl) (by first | omega | decide | assumption | rfl) (by first | omega | decide | assumption | rfl) (by first | omega | decide | assumption | rfl)) (cwV 0 hT (gV_in mw_1339 mw_1336 mw_1338 mw_p4_9 mw_12) rfl rfl rfl (by decide +kernel) ⟨Nat.le_of_ble_eq_true rfl, Nat.le_of_ble_eq_true rfl⟩) (kRecvX (q0 := 0) (ci := 11) hK hP hD hN hXS hS hA rfl rfl [0, 1] rfl (by decide)) rfl rfl hl.1 rfl (lv_room (Nat.le_of_ble_eq_true rfl)) dX11_product_31 ⟨Nat.le_of_ble_eq_true rfl, Nat.le_of_ble_eq_true rfl⟩) hP hD hS hA [0, 1] [] rfl rfl (by decide) (by decide) ?_
              clear hP hD hS
              intro r_17 u_19 H locs w_18 hP hD hS
              replace hP : va_P D vwCl [(k, .inr (11, [.ref k0, .ref k1, .ref k2, .int c3, .ref k4, .ref k5, .ref k6, .ref k7, .ref k8, .int c9, .ref ka, .ref kb, .int cc, .int f5_kd, .int ce, .int f5_kf, .int f5_kg, .int ch, .int ci, .int cj, .int ck, .ref kl, .int cm, .int cn, .ref ko])), (k0, .inl (cI, 1201, .inl c0))] H := hP
              replace hD : va_D A [(k, .inr (11, [.ref k0, .ref k1, .ref k2, .int c3, .ref k4, .ref k5, .ref k6, .ref k7, .ref k8, .int c9, .ref ka, .ref kb, .int cc, .int f5_kd, .int ce, .int f5_kf, .int f5_kg, .int ch, .int ci, .int cj, .int ck, .ref kl, .int cm, .int cn, .ref ko])), (k0, .inl (cI, 1201, .inl c0))] := hD
              rcases w_18 with h_20 | ⟨hr_17, h_21⟩
              · have h_20 : f5_kd.toInt < ce.toInt := h_20
                have lo_r_17 := k_lo r_17
                have hi_r_17 := k_hi r_17
                refine lv_bipush (v := 42) hx hb dX11_product_34 (by decide) ?_
                refine b_icmp_ne hx hb rfl zl_42 (tgt := 43) dX11_product_36 (by decide) (fun c_22 => ?_) (fun c_22 => ?_)
                · refine lv_iconst (v := 0) hx hb dX11_product_43 (by decide) ?_
                  refine lv_istore_n (lv' := [(2, .int 0), (1, .int l5_1), (0, .ref k)]) hx hb dX11_product_44 rfl hl (by decide) rfl ?_
                  clear hl
                  intro ls hl
                  refine lv_aload_n hx hb dX11_product_45 rfl (lv_at hl 2 rfl) ?_
                  refine lv_dup hx hb dX11_product_46 rfl ?_
                  refine va_get (D := D) (ci := 11) (v := .int f5_kd) (C := RX11) (T := TX11) (N := 25) hx hb hT giX11 hown hK hP 0 rfl rfl 13 (by decide) (hT (Cond.fieldLink RX11 138 "DesertWireModel" "here" "I") mw_1169) (fun _ h9 => h9) rfl dX11_product_47 ?_
                  refine lv_iconst (v := 1) hx hb dX11_product_50 (by decide) ?_
                  refine lv_iadd hx hb dX11_product_51 ?_
                  refine lv_topi (fun v_23 ev_23 => ?_)
                  have tv_23 : v_23.toInt = f5_kd.toInt + 1 := by rw [ev_23]; exact k_addv rfl zl_1 (by omega) (by omega)
                  refine va_put (D := D) (ci := 11) (v := .int v_23) (ty := .int) (C := RX11) (T := TX11) (N := 25) hx hb hT giX11 tyX11 tyX11_ok nmX11 hown hK hP hD hS 0 rfl rfl 13 (by decide) (hT (Cond.fieldLink RX11 138 "DesertWireModel" "here" "I") mw_1169) (fun _ h9 => h9) rfl (by decide +kernel) rfl rfl (Nat.le_of_ble_eq_true rfl) dX11_product_52 ?_
                  clear hP hD hS
                  intro H locs hP hD hS
                  replace hP : va_P D vwCl [(k, .inr (11, [.ref k0, .ref k1, .ref k2, .int c3, .ref k4, .ref k5, .ref k6, .ref k7, .ref k8, .int c9, .ref ka, .ref kb, .int cc, .int v_23, .int ce, .int f5_kf, .int f5_kg, .int ch, .int ci, .int cj, .int ck, .ref kl, .int cm, .int cn, .ref ko])), (k0, .inl (cI, 1201, .inl c0))] H := hP
                  replace hD : va_D A [(k, .inr (11, [.ref k0, .ref k1, .ref k2, .int c3, .ref k4, .ref k5, .ref k6, .ref k7, .ref k8, .int c9, .ref ka, .ref kb, .int cc, .int v_23, .int ce, .int f5_kf, .int f5_kg, .int ch, .int ci, .int cj, .int ck, .ref kl, .int cm, .int cn, .ref ko])), (k0, .inl (cI, 1201, .inl c0))] := hD
                  refine lv_aload_n hx hb dX11_product_55 rfl (lv_at hl 2 rfl) ?_
                  refine kJi (wr := []) (va_runV (As := []) (rest := []) ⟨hx, hb, hml, hown, hT⟩ (c_X11_oneG1 l D cI aK aV k k0 k1 k2 k4 k5 k6 k7 k8 ka kb kl ko H.size c3 c9 cc v_23 ce f5_kf f5_kg ch ci cj ck cm cn c0 (by first | omega | decide | assumption | rfl) (by first | omega | decide | assumption | rfl) (by first | omega | decide | assumption | rfl) (by first | omega | decide | assumption | rfl) (by first | omega | decide | assumption | rfl) (by first | omega | decide | assumption | rfl)) (cwV 0 hT (gV_in mw_1335 mw_1332 mw_1334 mw_p4_8 mw_12) rfl rfl rfl (by decide +kernel) ⟨Nat.le_of_ble_eq_true rfl, Nat.le_of_ble_eq_true rfl⟩) (kRecvX (q0 := 0) (ci := 11) hK hP hD hN hXS hS hA rfl rfl [0, 1] rfl (by decide)) rfl rfl hl.1 rfl (lv_room (Nat.le_of_ble_eq_true rfl)) dX11_product_56 ⟨Nat.le_of_ble_eq_true rfl, Nat.le_of_ble_eq_true rfl⟩) hP hD hS hA [0, 1] [] rfl rfl (by decide) (by decide) ?_
                  clear hP hD hS
                  intro r_24 u_29 H locs w_25 hP hD hS
                  obtain ⟨scd_26, scf_27, scg_28⟩ := u_29
                  replace hP : va_P D vwCl [(k, .inr (11, [.ref k0, .ref k1, .ref k2, .int c3, .ref k4, .ref k5, .ref k6, .ref k7, .ref k8, .int c9, .ref ka, .ref kb, .int cc, .int scd_26, .int ce, .int scf_27, .int scg_28, .int ch, .int ci, .int cj, .int ck, .ref kl, .int cm, .int cn, .ref ko])), (k0, .inl (cI, 1201, .inl c0))] H := hP
                  replace hD : va_D A [(k, .inr (11, [.ref k0, .ref k1, .ref k2, .int c3, .ref k4, .ref k5, .ref k6, .ref k7, .ref k8, .int c9, .ref ka, .ref kb, .int cc, .int scd_26, .int ce, .int scf_27, .int scg_28, .int ch, .int ci, .int cj, .int ck, .ref kl, .int cm, .int cn, .ref ko])), (k0, .inl (cI, 1201, .inl c0))] := hD
                  have lo_scd_26 := k_lo scd_26
                  have hi_scd_26 := k_hi scd_26
                  have lo_scg_28 := k_lo scg_28
                  have hi_scg_28 := k_hi scg_28
                  obtain ⟨h_30, h_31, h_32⟩ := w_25
                  have h_30 : v_23.toInt ≤ scd_26.toInt := h_30
                  have h_31 : scd_26.toInt ≤ ce.toInt := h_31
                  have h_32 : scg_28.toInt = 1 := h_32
                  have lo_r_24 := k_lo r_24
                  have hi_r_24 := k_hi r_24
                  refine lv_istore_n (lv' := [(3, .int r_24), (2, .int 0), (1, .int l5_1), (0, .ref k)]) hx hb dX11_product_59 rfl hl (by decide) rfl ?_
                  clear hl
                  intro ls hl
                  refine lv_iload_n hx hb dX11_product_60 rfl (lv_at hl 1 rfl) ?_
                  refine b_if_eq hx hb zl_0 (tgt := 70) dX11_product_61 (by decide) (fun c_33 => ?_) (fun c_33 => by exfalso; omega)
                  refine lv_iload_n hx hb dX11_product_70 rfl (lv_at hl 0 rfl) ?_
                  refine b_if_ne hx hb rfl (tgt := 78) dX11_product_71 (by decide) (fun c_34 => ?_) (fun c_34 => ?_)
                  · refine lv_iload_n hx hb dX11_product_78 rfl (lv_at hl 2 rfl) ?_
                    refine lv_iload_n hx hb dX11_product_79 rfl (lv_at hl 0 rfl) ?_
                    refine lv_irem hx hb dX11_product_80 (k_ne0 (by omega)) ?_
                    refine lv_topi (fun v_35 ev_35 => ?_)
                    have lo_v_35 := k_lo v_35
                    have hi_v_35 := k_hi v_35
                    refine lv_istore_n (lv' := [(1, .int v_35), (3, .int r_24), (2, .int 0), (0, .ref k)]) hx hb dX11_product_81 rfl hl (by decide) rfl ?_
                    clear hl
                    intro ls hl
                    refine lv_goto (tgt := 5) hx hb dX11_product_82 (by decide) ?_
                    exact ih5 v_35 scd_26 scf_27 scg_28 (by first | omega | decide | assumption | rfl) (by first | omega | decide | assumption | rfl) (by first | omega | decide | assumption | rfl) (by first | omega | decide | assumption | rfl) (by omega) ls _ _ (lv_sub hl [0, 3] rfl) (hP.sub [0, 1] rfl) (hD.sub [0, 1] (by decide) rfl) hS
                  · refine lv_iconst (v := 0) hx hb dX11_product_74 (by decide) ?_
                    refine lv_goto (tgt := 81) hx hb dX11_product_75 (by decide) ?_
                    refine lv_istore_n (lv' := [(1, .int 0), (3, .int r_24), (2, .int 0), (0, .ref k)]) hx hb dX11_product_81 rfl hl (by decide) rfl ?_
                    clear hl
                    intro ls hl
                    refine lv_goto (tgt := 5) hx hb dX11_product_82 (by decide) ?_
                    exact ih5 0 scd_26 scf_27 scg_28 (by first | omega | (simp only [zl_0] <;> omega) | decide | assumption | rfl) (by first | omega | (simp only [zl_0] <;> omega) | decide | assumption | rfl) (by first | omega | (simp only [zl_0] <;> omega) | decide | assumption | rfl) (by first | omega | (simp only [zl_0] <;> omega) | decide | assumption | rfl) (by omega) ls _ _ (lv_sub hl [0, 3] rfl) (hP.sub [0, 1] rfl) (hD.sub [0, 1] (by decide) rfl) hS
                · refine lv_iconst (v := 1) hx hb dX11_product_39 (by decide) ?_
                  refine lv_goto (tgt := 44) hx hb dX11_product_40 (by decide) ?_
                  refine lv_istore_n (lv' := [(2, .int 1), (1, .int l5_1), (0, .ref k)]) hx hb dX11_product_44 rfl hl (by decide) rfl ?_
                  clear hl
                  intro ls hl
                  refine lv_aload_n hx hb dX11_product_45 rfl (lv_at hl 2 rfl) ?_
                  refine lv_dup hx hb dX11_product_46 rfl ?_
                  refine va_get (D := D) (ci := 11) (v := .int f5_kd) (C := RX11) (T := TX11) (N := 25) hx hb hT giX11 hown hK hP 0 rfl rfl 13 (by decide) (hT (Cond.fieldLink RX11 138 "DesertWireModel" "here" "I") mw_1169) (fun _ h9 => h9) rfl dX11_product_47 ?_
                  refine lv_iconst (v := 1) hx hb dX11_product_50 (by decide) ?_
                  refine lv_iadd hx hb dX11_product_51 ?_
                  refine lv_topi (fun v_36 ev_36 => ?_)
                  have tv_36 : v_36.toInt = f5_kd.toInt + 1 := by rw [ev_36]; exact k_addv rfl zl_1 (by omega) (by omega)
                  refine va_put (D := D) (ci := 11) (v := .int v_36) (ty := .int) (C := RX11) (T := TX11) (N := 25) hx hb hT giX11 tyX11 tyX11_ok nmX11 hown hK hP hD hS 0 rfl rfl 13 (by decide) (hT (Cond.fieldLink RX11 138 "DesertWireModel" "here" "I") mw_1169) (fun _ h9 => h9) rfl (by decide +kernel) rfl rfl (Nat.le_of_ble_eq_true rfl) dX11_product_52 ?_
                  clear hP hD hS
                  intro H locs hP hD hS
                  replace hP : va_P D vwCl [(k, .inr (11, [.ref k0, .ref k1, .ref k2, .int c3, .ref k4, .ref k5, .ref k6, .ref k7, .ref k8, .int c9, .ref ka, .ref kb, .int cc, .int v_36, .int ce, .int f5_kf, .int f5_kg, .int ch, .int ci, .int cj, .int ck, .ref kl, .int cm, .int cn, .ref ko])), (k0, .inl (cI, 1201, .inl c0))] H := hP
                  replace hD : va_D A [(k, .inr (11, [.ref k0, .ref k1, .ref k2, .int c3, .ref k4, .ref k5, .ref k6, .ref k7, .ref k8, .int c9, .ref ka, .ref kb, .int cc, .int v_36, .int ce, .int f5_kf, .int f5_kg, .int ch, .int ci, .int cj, .int ck, .ref kl, .int cm, .int cn, .ref ko])), (k0, .inl (cI, 1201, .inl c0))] := hD
                  refine lv_aload_n hx hb dX11_product_55 rfl (lv_at hl 2 rfl) ?_
                  refine kJi (wr := []) (va_runV (As := []) (rest := []) ⟨hx, hb, hml, hown, hT⟩ (c_X11_oneG1 l D cI aK aV k k0 k1 k2 k4 k5 k6 k7 k8 ka kb kl ko H.size c3 c9 cc v_36 ce f5_kf f5_kg ch ci cj ck cm cn c0 (by first | omega | decide | assumption | rfl) (by first | omega | decide | assumption | rfl) (by first | omega | decide | assumption | rfl) (by first | omega | decide | assumption | rfl) (by first | omega | decide | assumption | rfl) (by first | omega | decide | assumption | rfl)) (cwV 0 hT (gV_in mw_1335 mw_1332 mw_1334 mw_p4_8 mw_12) rfl rfl rfl (by decide +kernel) ⟨Nat.le_of_ble_eq_true rfl, Nat.le_of_ble_eq_true rfl⟩) (kRecvX (q0 := 0) (ci := 11) hK hP hD hN hXS hS hA rfl rfl [0, 1] rfl (by decide)) rfl rfl hl.1 rfl (lv_room (Nat.le_of_ble_eq_true rfl)) dX11_product_56 ⟨Nat.le_of_ble_eq_true rfl, Nat.le_of_ble_eq_true rfl⟩) hP hD hS hA [0, 1] [] rfl rfl (by decide) (by decide) ?_
                  clear hP hD hS
                  intro r_37 u_42 H locs w_38 hP hD hS
                  obtain ⟨scd_39, scf_40, scg_41⟩ := u_42
                  replace hP : va_P D vwCl [(k, .inr (11, [.ref k0, .ref k1, .ref k2, .int c3, .ref k4, .ref k5, .ref k6, .ref k7, .ref k8, .int c9, .ref ka, .ref kb, .int cc, .int scd_39, .int ce, .int scf_40, .int scg_41, .int ch, .int ci, .int cj, .int ck, .ref kl, .int cm, .int cn, .ref ko])), (k0, .inl (cI, 1201, .inl c0))] H := hP
                  replace hD : va_D A [(k, .inr (11, [.ref k0, .ref k1, .ref k2, .int c3, .ref k4, .ref k5, .ref k6, .ref k7, .ref k8, .int c9, .ref ka, .ref kb, .int cc, .int scd_39, .int ce, .int scf_40, .int scg_41, .int ch, .int ci, .int cj, .int ck, .ref kl, .int cm, .int cn, .ref ko])), (k0, .inl (cI, 1201, .inl c0))] := hD
                  have lo_scd_39 := k_lo scd_39
                  have hi_scd_39 := k_hi scd_39
                  have lo_scg_41 := k_lo scg_41
                  have hi_scg_41 := k_hi scg_41
                  obtain ⟨h_43, h_44, h_45⟩ := w_38
                  have h_43 : v_36.toInt ≤ scd_39.toInt := h_43
                  have h_44 : scd_39.toInt ≤ ce.toInt := h_44
                  have h_45 : scg_41.toInt = 1 := h_45
                  have lo_r_37 := k_lo r_37
                  have hi_r_37 := k_hi r_37
                  refine lv_istore_n (lv' := [(3, .int r_37), (2, .int 1), (1, .int l5_1), (0, .ref k)]) hx hb dX11_product_59 rfl hl (by decide) rfl ?_
                  clear hl
                  intro ls hl
                  refine lv_iload_n hx hb dX11_product_60 rfl (lv_at hl 1 rfl) ?_
                  refine b_if_eq hx hb zl_1 (tgt := 70) dX11_product_61 (by decide) (fun c_46 => by exfalso; omega) (fun c_46 => ?_)
                  refine lv_iload_n hx hb dX11_product_64 rfl (lv_at hl 2 rfl) ?_
                  refine lv_iload_n hx hb dX11_product_65 rfl (lv_at hl 0 rfl) ?_
                  refine lv_imul hx hb dX11_product_66 ?_
                  refine lv_topi (fun v_47 ev_47 => ?_)
                  have lo_v_47 := k_lo v_47
                  have hi_v_47 := k_hi v_47
                  refine lv_goto (tgt := 81) hx hb dX11_product_67 (by decide) ?_
                  refine lv_istore_n (lv' := [(1, .int v_47), (3, .int r_37), (2, .int 1), (0, .ref k)]) hx hb dX11_product_81 rfl hl (by decide) rfl ?_
                  clear hl
                  intro ls hl
                  refine lv_goto (tgt := 5) hx hb dX11_product_82 (by decide) ?_
                  exact ih5 v_47 scd_39 scf_40 scg_41 (by first | omega | decide | assumption | rfl) (by first | omega | decide | assumption | rfl) (by first | omega | decide | assumption | rfl) (by first | omega | decide | assumption | rfl) (by omega) ls _ _ (lv_sub hl [0, 3] rfl) (hP.sub [0, 1] rfl) (hD.sub [0, 1] (by decide) rfl) hS
              · exfalso; omega
            · refine lv_aload_n hx hb dX11_product_21 rfl (lv_at hl 1 rfl) ?_
              refine kJi (wr := []) (va_runV (As := []) (rest := []) ⟨hx, hb, hml, hown, hT⟩ (c_X11_nowG l D cI aK aV k k0 k1 k2 k4 k5 k6 k7 k8 ka kb kl ko H.size c3 c9 cc f5_kd ce f5_kf f5_kg ch ci cj ck cm cn c0 (by first | omega | decide | assumption | rfl) (by first | omega | decide | assumption | rfl) (by first | omega | decide | assumption | rfl) (by first | omega | decide | assumption | rfl) (by first | omega | decide | assumption | rfl)) (cwV 0 hT (gV_in mw_1339 mw_1336 mw_1338 mw_p4_9 mw_12) rfl rfl rfl (by decide +kernel) ⟨Nat.le_of_ble_eq_true rfl, Nat.le_of_ble_eq_true rfl⟩) (kRecvX (q0 := 0) (ci := 11) hK hP hD hN hXS hS hA rfl rfl [0, 1] rfl (by decide)) rfl rfl hl.1 rfl (lv_room (Nat.le_of_ble_eq_true rfl)) dX11_product_22 ⟨Nat.le_of_ble_eq_true rfl, Nat.le_of_ble_eq_true rfl⟩) hP hD hS hA [0, 1] [] rfl rfl (by decide) (by decide) ?_
              clear hP hD hS
              intro r_48 u_50 H locs w_49 hP hD hS
              replace hP : va_P D vwCl [(k, .inr (11, [.ref k0, .ref k1, .ref k2, .int c3, .ref k4, .ref k5, .ref k6, .ref k7, .ref k8, .int c9, .ref ka, .ref kb, .int cc, .int f5_kd, .int ce, .int f5_kf, .int f5_kg, .int ch, .int ci, .int cj, .int ck, .ref kl, .int cm, .int cn, .ref ko])), (k0, .inl (cI, 1201, .inl c0))] H := hP
              replace hD : va_D A [(k, .inr (11, [.ref k0, .ref k1, .ref k2, .int c3, .ref k4, .ref k5, .ref k6, .ref k7, .ref k8, .int c9, .ref ka, .ref kb, .int cc, .int f5_kd, .int ce, .int f5_kf, .int f5_kg, .int ch, .int ci, .int cj, .int ck, .ref kl, .int cm, .int cn, .ref ko])), (k0, .inl (cI, 1201, .inl c0))] := hD
              rcases w_49 with h_51 | ⟨hr_48, h_52⟩
              · have h_51 : f5_kd.toInt < ce.toInt := h_51
                have lo_r_48 := k_lo r_48
                have hi_r_48 := k_hi r_48
                refine lv_bipush (v := 37) hx hb dX11_product_25 (by decide) ?_
                refine b_icmp_ne hx hb rfl zl_37 (tgt := 85) dX11_product_27 (by decide) (fun c_53 => ?_) (fun c_53 => ?_)
                · refine lv_iload_n hx hb dX11_product_85 rfl (lv_at hl 0 rfl) ?_
                  exact hRet (f5_kd, f5_kf, f5_kg) [0, 1] ⟨(by first | omega | decide | assumption | rfl | (dsimp only; first | omega)), (by first | omega | decide | assumption | rfl | (dsimp only; first | omega)), (by first | omega | decide | assumption | rfl | (dsimp only; first | omega))⟩ hP hD (by decide) rfl hS rfl dX11_product_86
                · refine lv_aload_n hx hb dX11_product_30 rfl (lv_at hl 1 rfl) ?_
                  refine kJi (wr := []) (va_runV (As := []) (rest := []) ⟨hx, hb, hml, hown, hT⟩ (c_X11_nowG l D cI aK aV k k0 k1 k2 k4 k5 k6 k7 k8 ka kb kl ko H.size c3 c9 cc f5_kd ce f5_kf f5_kg ch ci cj ck cm cn c0 (by first | omega | decide | assumption | rfl) (by first | omega | decide | assumption | rfl) (by first | omega | decide | assumption | rfl) (by first | omega | decide | assumption | rfl) (by first | omega | decide | assumption | rfl)) (cwV 0 hT (gV_in mw_1339 mw_1336 mw_1338 mw_p4_9 mw_12) rfl rfl rfl (by decide +kernel) ⟨Nat.le_of_ble_eq_true rfl, Nat.le_of_ble_eq_true rfl⟩) (kRecvX (q0 := 0) (ci := 11) hK hP hD hN hXS hS hA rfl rfl [0, 1] rfl (by decide)) rfl rfl hl.1 rfl (lv_room (Nat.le_of_ble_eq_true rfl)) dX11_product_31 ⟨Nat.le_of_ble_eq_true rfl, Nat.le_of_ble_eq_true rfl⟩) hP hD hS hA [0, 1] [] rfl rfl (by decide) (by decide) ?_
                  clear hP hD hS
                  intro r_54 u_56 H locs w_55 hP hD hS
                  replace hP : va_P D vwCl [(k, .inr (11, [.ref k0, .ref k1, .ref k2, .int c3, .ref k4, .ref k5, .ref k6, .ref k7, .ref k8, .int c9, .ref ka, .ref kb, .int cc, .int f5_kd, .int ce, .int f5_kf, .int f5_kg, .int ch, .int ci, .int cj, .int ck, .ref kl, .int cm, .int cn, .ref ko])), (k0, .inl (cI, 1201, .inl c0))] H := hP
                  replace hD : va_D A [(k, .inr (11, [.ref k0, .ref k1, .ref k2, .int c3, .ref k4, .ref k5, .ref k6, .ref k7, .ref k8, .int c9, .ref ka, .ref kb, .int cc, .int f5_kd, .int ce, .int f5_kf, .int f5_kg, .int ch, .int ci, .int cj, .int ck, .ref kl, .int cm, .int cn, .ref ko])), (k0, .inl (cI, 1201, .inl c0))] := hD
                  rcases w_55 with h_57 | ⟨hr_54, h_58⟩
                  · have h_57 : f5_kd.toInt < ce.toInt := h_57
                    have lo_r_54 := k_lo r_54
                    have hi_r_54 := k_hi r_54
                    refine lv_bipush (v := 42) hx hb dX11_product_34 (by decide) ?_
                    refine b_icmp_ne hx hb rfl zl_42 (tgt := 43) dX11_product_36 (by decide) (fun c_59 => ?_) (fun c_59 => ?_)
                    · refine lv_iconst (v := 0) hx hb dX11_product_43 (by decide) ?_
                      refine lv_istore_n (lv' := [(2, .int 0), (1, .int l5_1), (0, .ref k)]) hx hb dX11_product_44 rfl hl (by decide) rfl ?_
                      clear hl
                      intro ls hl
                      refine lv_aload_n hx hb dX11_product_45 rfl (lv_at hl 2 rfl) ?_
                      refine lv_dup hx hb dX11_product_46 rfl ?_
                      refine va_get (D := D) (ci := 11) (v := .int f5_kd) (C := RX11) (T := TX11) (N := 25) hx hb hT giX11 hown hK hP 0 rfl rfl 13 (by decide) (hT (Cond.fieldLink RX11 138 "DesertWireModel" "here" "I") mw_1169) (fun _ h9 => h9) rfl dX11_product_47 ?_
                      refine lv_iconst (v := 1) hx hb dX11_product_50 (by decide) ?_
                      refine lv_iadd hx hb dX11_product_51 ?_
                      refine lv_topi (fun v_60 ev_60 => ?_)
                      have tv_60 : v_60.toInt = f5_kd.toInt + 1 := by rw [ev_60]; exact k_addv rfl zl_1 (by omega) (by omega)
                      refine va_put (D := D) (ci := 11) (v := .int v_60) (ty := .int) (C := RX11) (T := TX11) (N := 25) hx hb hT giX11 tyX11 tyX11_ok nmX11 hown hK hP hD hS 0 rfl rfl 13 (by decide) (hT (Cond.fieldLink RX11 138 "DesertWireModel" "here" "I") mw_1169) (fun _ h9 => h9) rfl (by decide +kernel) rfl rfl (Nat.le_of_ble_eq_true rfl) dX11_product_52 ?_
                      clear hP hD hS
                      intro H locs hP hD hS
                      replace hP : va_P D vwCl [(k, .inr (11, [.ref k0, .ref k1, .ref k2, .int c3, .ref k4, .ref k5, .ref k6, .ref k7, .ref k8, .int c9, .ref ka, .ref kb, .int cc, .int v_60, .int ce, .int f5_kf, .int f5_kg, .int ch, .int ci, .int cj, .int ck, .ref kl, .int cm, .int cn, .ref ko])), (k0, .inl (cI, 1201, .inl c0))] H := hP
                      replace hD : va_D A [(k, .inr (11, [.ref k0, .ref k1, .ref k2, .int c3, .ref k4, .ref k5, .ref k6, .ref k7, .ref k8, .int c9, .ref ka, .ref kb, .int cc, .int v_60, .int ce, .int f5_kf, .int f5_kg, .int ch, .int ci, .int cj, .int ck, .ref kl, .int cm, .int cn, .ref ko])), (k0, .inl (cI, 1201, .inl c0))] := hD
                      refine lv_aload_n hx hb dX11_product_55 rfl (lv_at hl 2 rfl) ?_
                      refine kJi (wr := []) (va_runV (As := []) (rest := []) ⟨hx, hb, hml, hown, hT⟩ (c_X11_oneG1 l D cI aK aV k k0 k1 k2 k4 k5 k6 k7 k8 ka kb kl ko H.size c3 c9 cc v_60 ce f5_kf f5_kg ch ci cj ck cm cn c0 (by first | omega | decide | assumption | rfl) (by first | omega | decide | assumption | rfl) (by first | omega | decide | assumption | rfl) (by first | omega | decide | assumption | rfl) (by first | omega | decide | assumption | rfl) (by first | omega | decide | assumption | rfl)) (cwV 0 hT (gV_in mw_1335 mw_1332 mw_1334 mw_p4_8 mw_12) rfl rfl rfl (by decide +kernel) ⟨Nat.le_of_ble_eq_true rfl, Nat.le_of_ble_eq_true rfl⟩) (kRecvX (q0 := 0) (ci := 11) hK hP hD hN hXS hS hA rfl rfl [0, 1] rfl (by decide)) rfl rfl hl.1 rfl (lv_room (Nat.le_of_ble_eq_true rfl)) dX11_product_56 ⟨Nat.le_of_ble_eq_true rfl, Nat.le_of_ble_eq_true rfl⟩) hP hD hS hA [0, 1] [] rfl rfl (by decide) (by decide) ?_
                      clear hP hD hS
                      intro r_61 u_66 H locs w_62 hP hD hS
                      obtain ⟨scd_63, scf_64, scg_65⟩ := u_66
                      replace hP : va_P D vwCl [(k, .inr (11, [.ref k0, .ref k1, .ref k2, .int c3, .ref k4, .ref k5, .ref k6, .ref k7, .ref k8, .int c9, .ref ka, .ref kb, .int cc, .int scd_63, .int ce, .int scf_64, .int scg_65, .int ch, .int ci, .int cj, .int ck, .ref kl, .int cm, .int cn, .ref ko])), (k0, .inl (cI, 1201, .inl c0))] H := hP
                      replace hD : va_D A [(k, .inr (11, [.ref k0, .ref k1, .ref k2, .int c3, .ref k4, .ref k5, .ref k6, .ref k7, .ref k8, .int c9, .ref ka, .ref kb, .int cc, .int scd_63, .int ce, .int scf_64, .int scg_65, .int ch, .int ci, .int cj, .int ck, .ref kl, .int cm, .int cn, .ref ko])), (k0, .inl (cI, 1201, .inl c0))] := hD
                      have lo_scd_63 := k_lo scd_63
                      have hi_scd_63 := k_hi scd_63
                      have lo_scg_65 := k_lo scg_65
                      have hi_scg_65 := k_hi scg_65
                      obtain ⟨h_67, h_68, h_69⟩ := w_62
                      have h_67 : v_60.toInt ≤ scd_63.toInt := h_67
                      have h_68 : scd_63.toInt ≤ ce.toInt := h_68
                      have h_69 : scg_65.toInt = 1 := h_69
                      have lo_r_61 := k_lo r_61
                      have hi_r_61 := k_hi r_61
                      refine lv_istore_n (lv' := [(3, .int r_61), (2, .int 0), (1, .int l5_1), (0, .ref k)]) hx hb dX11_product_59 rfl hl (by decide) rfl ?_
                      clear hl
                      intro ls hl
                      refine lv_iload_n hx hb dX11_product_60 rfl (lv_at hl 1 rfl) ?_
                      refine b_if_eq hx hb zl_0 (tgt := 70) dX11_product_61 (by decide) (fun c_70 => ?_) (fun c_70 => by exfalso; omega)
                      refine lv_iload_n hx hb dX11_product_70 rfl (lv_at hl 0 rfl) ?_
                      refine b_if_ne hx hb rfl (tgt := 78) dX11_product_71 (by decide) (fun c_71 => ?_) (fun c_71 => ?_)
                      · refine lv_iload_n hx hb dX11_product_78 rfl (lv_at hl 2 rfl) ?_
                        refine lv_iload_n hx hb dX11_product_79 rfl (lv_at hl 0 rfl) ?_
                        refine lv_irem hx hb dX11_product_80 (k_ne0 (by omega)) ?_
                        refine lv_topi (fun v_72 ev_72 => ?_)
                        have lo_v_72 := k_lo v_72
                        have hi_v_72 := k_hi v_72
                        refine lv_istore_n (lv' := [(1, .int v_72), (3, .int r_61), (2, .int 0), (0, .ref k)]) hx hb dX11_product_81 rfl hl (by decide) rfl ?_
                        clear hl
                        intro ls hl
                        refine lv_goto (tgt := 5) hx hb dX11_product_82 (by decide) ?_
                        exact ih5 v_72 scd_63 scf_64 scg_65 (by first | omega | decide | assumption | rfl) (by first | omega | decide | assumption | rfl) (by first | omega | decide | assumption | rfl) (by first | omega | decide | assumption | rfl) (by omega) ls _ _ (lv_sub hl [0, 3] rfl) (hP.sub [0, 1] rfl) (hD.sub [0, 1] (by decide) rfl) hS
                      · refine lv_iconst (v := 0) hx hb dX11_product_74 (by decide) ?_
                        refine lv_goto (tgt := 81) hx hb dX11_product_75 (by decide) ?_
                        refine lv_istore_n (lv' := [(1, .int 0), (3, .int r_61), (2, .int 0), (0, .ref k)]) hx hb dX11_product_81 rfl hl (by decide) rfl ?_
                        clear hl
                        intro ls hl
                        refine lv_goto (tgt := 5) hx hb dX11_product_82 (by decide) ?_
                        exact ih5 0 scd_63 scf_64 scg_65 (by first | omega | (simp only [zl_0] <;> omega) | decide | assumption | rfl) (by first | omega | (simp only [zl_0] <;> omega) | decide | assumption | rfl) (by first | omega | (simp only [zl_0] <;> omega) | decide | assumption | rfl) (by first | omega | (simp only [zl_0] <;> omega) | decide | assumption | rfl) (by omega) ls _ _ (lv_sub hl [0, 3] rfl) (hP.sub [0, 1] rfl) (hD.sub [0, 1] (by decide) rfl) hS
                    · refine lv_iconst (v := 1) hx hb dX11_product_39 (by decide) ?_
                      refine lv_goto (tgt := 44) hx hb dX11_product_40 (by decide) ?_
                      refine lv_istore_n (lv' := [(2, .int 1), (1, .int l5_1), (0, .ref k)]) hx hb dX11_product_44 rfl hl (by decide) rfl ?_
                      clear hl
                      intro ls hl
                      refine lv_aload_n hx hb dX11_product_45 rfl (lv_at hl 2 rfl) ?_
                      refine lv_dup hx hb dX11_product_46 rfl ?_
                      refine va_get (D := D) (ci := 11) (v := .int f5_kd) (C := RX11) (T := TX11) (N := 25) hx hb hT giX11 hown hK hP 0 rfl rfl 13 (by decide) (hT (Cond.fieldLink RX11 138 "DesertWireModel" "here" "I") mw_1169) (fun _ h9 => h9) rfl dX11_product_47 ?_
                      refine lv_iconst (v := 1) hx hb dX11_product_50 (by decide) ?_
                      refine lv_iadd hx hb dX11_product_51 ?_
                      refine lv_topi (fun v_73 ev_73 => ?_)
                      have tv_73 : v_73.toInt = f5_kd.toInt + 1 := by rw [ev_73]; exact k_addv rfl zl_1 (by omega) (by omega)
                      refine va_put (D := D) (ci := 11) (v := .int v_73) (ty := .int) (C := RX11) (T := TX11) (N := 25) hx hb hT giX11 tyX11 tyX11_ok nmX11 hown hK hP hD hS 0 rfl rfl 13 (by decide) (hT (Cond.fieldLink RX11 138 "DesertWireModel" "here" "I") mw_1169) (fun _ h9 => h9) rfl (by decide +kernel) rfl rfl (Nat.le_of_ble_eq_true rfl) dX11_product_52 ?_
                      clear hP hD hS
                      intro H locs hP hD hS
                      replace hP : va_P D vwCl [(k, .inr (11, [.ref k0, .ref k1, .ref k2, .int c3, .ref k4, .ref k5, .ref k6, .ref k7, .ref k8, .int c9, .ref ka, .ref kb, .int cc, .int v_73, .int ce, .int f5_kf, .int f5_kg, .int ch, .int ci, .int cj, .int ck, .ref kl, .int cm, .int cn, .ref ko])), (k0, .inl (cI, 1201, .inl c0))] H := hP
                      replace hD : va_D A [(k, .inr (11, [.ref k0, .ref k1, .ref k2, .int c3, .ref k4, .ref k5, .ref k6, .ref k7, .ref k8, .int c9, .ref ka, .ref kb, .int cc, .int v_73, .int ce, .int f5_kf, .int f5_kg, .int ch, .int ci, .int cj, .int ck, .ref kl, .int cm, .int cn, .ref ko])), (k0, .inl (cI, 1201, .inl c0))] := hD
                      refine lv_aload_n hx hb dX11_product_55 rfl (lv_at hl 2 rfl) ?_
                      refine kJi (wr := []) (va_runV (As := []) (rest := []) ⟨hx, hb, hml, hown, hT⟩ (c_X11_oneG1 l D cI aK aV k k0 k1 k2 k4 k5 k6 k7 k8 ka kb kl ko H.size c3 c9 cc v_73 ce f5_kf f5_kg ch ci cj ck cm cn c0 (by first | omega | decide | assumption | rfl) (by first | omega | decide | assumption | rfl) (by first | omega | decide | assumption | rfl) (by first | omega | decide | assumption | rfl) (by first | omega | decide | assumption | rfl) (by first | omega | decide | assumption | rfl)) (cwV 0 hT (gV_in mw_1335 mw_1332 mw_1334 mw_p4_8 mw_12) rfl rfl rfl (by decide +kernel) ⟨Nat.le_of_ble_eq_true rfl, Nat.le_of_ble_eq_true rfl⟩) (kRecvX (q0 := 0) (ci := 11) hK hP hD hN hXS hS hA rfl rfl [0, 1] rfl (by decide)) rfl rfl hl.1 rfl (lv_room (Nat.le_of_ble_eq_true rfl)) dX11_product_56 ⟨Nat.le_of_ble_eq_true rfl, Nat.le_of_ble_eq_true rfl⟩) hP hD hS hA [0, 1] [] rfl rfl (by decide) (by decide) ?_
                      clear hP hD hS
                      intro r_74 u_79 H locs w_75 hP hD hS
                      obtain ⟨scd_76, scf_77, scg_78⟩ := u_79
                      replace hP : va_P D vwCl [(k, .inr (11, [.ref k0, .ref k1, .ref k2, .int c3, .ref k4, .ref k5, .ref k6, .ref k7, .ref k8, .int c9, .ref ka, .ref kb, .int cc, .int scd_76, .int ce, .int scf_77, .int scg_78, .int ch, .int ci, .int cj, .int ck, .ref kl, .int cm, .int cn, .ref ko])), (k0, .inl (cI, 1201, .inl c0))] H := hP
                      replace hD : va_D A [(k, .inr (11, [.ref k0, .ref k1, .ref k2, .int c3, .ref k4, .ref k5, .ref k6, .ref k7, .ref k8, .int c9, .ref ka, .ref kb, .int cc, .int scd_76, .int ce, .int scf_77, .int scg_78, .int ch, .int ci, .int cj, .int ck, .ref kl, .int cm, .int cn, .ref ko])), (k0, .inl (cI, 1201, .inl c0))] := hD
                      have lo_scd_76 := k_lo scd_76
                      have hi_scd_76 := k_hi scd_76
                      have lo_scg_78 := k_lo scg_78
                      have hi_scg_78 := k_hi scg_78
                      obtain ⟨h_80, h_81, h_82⟩ := w_75
                      have h_80 : v_73.toInt ≤ scd_76.toInt := h_80
                      have h_81 : scd_76.toInt ≤ ce.toInt := h_81
                      have h_82 : scg_78.toInt = 1 := h_82
                      have lo_r_74 := k_lo r_74
                      have hi_r_74 := k_hi r_74
                      refine lv_istore_n (lv' := [(3, .int r_74), (2, .int 1), (1, .int l5_1), (0, .ref k)]) hx hb dX11_product_59 rfl hl (by decide) rfl ?_
                      clear hl
                      intro ls hl
                      refine lv_iload_n hx hb dX11_product_60 rfl (lv_at hl 1 rfl) ?_
                      refine b_if_eq hx hb zl_1 (tgt := 70) dX11_product_61 (by decide) (fun c_83 => by exfalso; omega) (fun c_83 => ?_)
                      refine lv_iload_n hx hb dX11_product_64 rfl (lv_at hl 2 rfl) ?_
                      refine lv_iload_n hx hb dX11_product_65 rfl (lv_at hl 0 rfl) ?_
                      refine lv_imul hx hb dX11_product_66 ?_
                      refine lv_topi (fun v_84 ev_84 => ?_)
                      have lo_v_84 := k_lo v_84
                      have hi_v_84 := k_hi v_84
                      refine lv_goto (tgt := 81) hx hb dX11_product_67 (by decide) ?_
                      refine lv_istore_n (lv' := [(1, .int v_84), (3, .int r_74), (2, .int 1), (0, .ref k)]) hx hb dX11_product_81 rfl hl (by decide) rfl ?_
                      clear hl
                      intro ls hl
                      refine lv_goto (tgt := 5) hx hb dX11_product_82 (by decide) ?_
                      exact ih5 v_84 scd_76 scf_77 scg_78 (by first | omega | decide | assumption | rfl) (by first | omega | decide | assumption | rfl) (by first | omega | decide | assumption | rfl) (by first | omega | decide | assumption | rfl) (by omega) ls _ _ (lv_sub hl [0, 3] rfl) (hP.sub [0, 1] rfl) (hD.sub [0, 1] (by decide) rfl) hS
                  · exfalso; omega
              · exfalso; omega
          · have h_15 : f5_kd.toInt = ce.toInt := h_15
            obtain rfl : r_11 = (-1) := hr_11.trans (by decide)
            refine lv_bipush (v := 42) hx hb dX11_product_16 (by decide) ?_
            refine b_icmp_eq hx hb zl_m1 zl_42 (tgt := 30) dX11_product_18 (by decide) (fun c_85 => by exfalso; omega) (fun c_85 => ?_)
            refine lv_aload_n hx hb dX11_product_21 rfl (lv_at hl 1 rfl) ?_
            refine kJi (wr := []) (va_runV (As := []) (rest := []) ⟨hx, hb, hml, hown, hT⟩ (c_X11_nowG l D cI aK aV k k0 k1 k2 k4 k5 k6 k7 k8 ka kb kl ko H.size c3 c9 cc f5_kd ce f5_kf f5_kg ch ci cj ck cm cn c0 (by first | omega | decide | assumption | rfl) (by first | omega | decide | assumption | rfl) (by first | omega | decide | assumption | rfl) (by first | omega | decide | assumption | rfl) (by first | omega | decide | assumption | rfl)) (cwV 0 hT (gV_in mw_1339 mw_1336 mw_1338 mw_p4_9 mw_12) rfl rfl rfl (by decide +kernel) ⟨Nat.le_of_ble_eq_true rfl, Nat.le_of_ble_eq_true rfl⟩) (kRecvX (q0 := 0) (ci := 11) hK hP hD hN hXS hS hA rfl rfl [0, 1] rfl (by decide)) rfl rfl hl.1 rfl (lv_room (Nat.le_of_ble_eq_true rfl)) dX11_product_22 ⟨Nat.le_of_ble_eq_true rfl, Nat.le_of_ble_eq_true rfl⟩) hP hD hS hA [0, 1] [] rfl rfl (by decide) (by decide) ?_
            clear hP hD hS
            intro r_86 u_88 H locs w_87 hP hD hS
            replace hP : va_P D vwCl [(k, .inr (11, [.ref k0, .ref k1, .ref k2, .int c3, .ref k4, .ref k5, .ref k6, .ref k7, .ref k8, .int c9, .ref ka, .ref kb, .int cc, .int f5_kd, .int ce, .int f5_kf, .int f5_kg, .int ch, .int ci, .int cj, .int ck, .ref kl, .int cm, .int cn, .ref ko])), (k0, .inl (cI, 1201, .inl c0))] H := hP
            replace hD : va_D A [(k, .inr (11, [.ref k0, .ref k1, .ref k2, .int c3, .ref k4, .ref k5, .ref k6, .ref k7, .ref k8, .int c9, .ref ka, .ref kb, .int cc, .int f5_kd, .int ce, .int f5_kf, .int f5_kg, .int ch, .int ci, .int cj, .int ck, .ref kl, .int cm, .int cn, .ref ko])), (k0, .inl (cI, 1201, .inl c0))] := hD
            rcases w_87 with h_89 | ⟨hr_86, h_90⟩
            · exfalso; omega
            · have h_90 : f5_kd.toInt = ce.toInt := h_90
              obtain rfl : r_86 = (-1) := hr_86.trans (by decide)
              refine lv_bipush (v := 37) hx hb dX11_product_25 (by decide) ?_
              refine b_icmp_ne hx hb zl_m1 zl_37 (tgt := 85) dX11_product_27 (by decide) (fun c_91 => ?_) (fun c_91 => by exfalso; omega)
              refine lv_iload_n hx hb dX11_product_85 rfl (lv_at hl 0 rfl) ?_
              exact hRet (f5_kd, f5_kf, f5_kg) [0, 1] ⟨(by first | omega | decide | assumption | rfl | (dsimp only; first | omega)), (by first | omega | decide | assumption | rfl | (dsimp only; first | omega)), (by first | omega | decide | assumption | rfl | (dsimp only; first | omega))⟩ hP hD (by decide) rfl hS rfl dX11_product_86
  exact hloop_5 _ r_1 scd_3 scf_4 scg_5 (by first | omega | decide | assumption | rfl) (by first | omega | decide | assumption | rfl) (by first | omega | decide | assumption | rfl) (by first | omega | decide | assumption | rfl) (Nat.lt_succ_self _) ls _ _ (lv_sub hl [0, 1] rfl) hP hD hS

set_option maxHeartbeats 4000000 in
set_option maxRecDepth 100000 in
theorem c_X11_sumG1 (l : Launch) (D : va_G) (cI : ClassId) (aK aV : Nat → Nat) (k k0 k1 k2 k4 k5 k6 k7 k8 ka kb kl ko : Nat) (sz : Nat) (c3 : Int32) (c9 : Int32) (cc : Int32) (cd : Int32) (ce : Int32) (cf : Int32) (cg : Int32) (ch : Int32) (ci : Int32) (cj : Int32) (ck : Int32) (cm : Int32) (cn : Int32) (c0 : Nat → Int32) (pre0 : 0 ≤ cc.toInt) (pre1 : cc.toInt ≤ 1151) (pre2 : 0 ≤ cd.toInt) (pre3 : cd.toInt ≤ ce.toInt) (pre4 : ce.toInt ≤ 50) (pre5 : cg.toInt = 1) : Met l yX11_sum (gW yX11_sum cX11_sum 4 (some .int)) ({ frames := 21, cells := 0, slots := 0, locals := 476 } : Room) (kPreX D cI aK aV [.ref k] [(k, .inr (11, [.ref k0, .ref k1, .ref k2, .int c3, .ref k4, .ref k5, .ref k6, .ref k7, .ref k8, .int c9, .ref ka, .ref kb, .int cc, .int cd, .int ce, .int cf, .int cg, .int ch, .int ci, .int cj, .int ck, .ref kl, .int cm, .int cn, .ref ko])), (k0, .inl (cI, 1201, .inl c0))] sz) (va_Qi (fun (r : Int32) (u : Int32 × Int32 × Int32) => cd.toInt ≤ u.1.toInt ∧ u.1.toInt ≤ ce.toInt ∧ u.2.2.toInt = 1) (fun u t => kWd D cI (va_A [(k, .inr (11, [.ref k0, .ref k1, .ref k2, .int c3, .ref k4, .ref k5, .ref k6, .ref k7, .ref k8, .int c9, .ref ka, .ref kb, .int cc, .int cd, .int ce, .int cf, .int cg, .int ch, .int ci, .int cj, .int ck, .ref kl, .int cm, .int cn, .ref ko])), (k0, .inl (cI, 1201, .inl c0))] sz) [(k, .inr (11, [.ref k0, .ref k1, .ref k2, .int c3, .ref k4, .ref k5, .ref k6, .ref k7, .ref k8, .int c9, .ref ka, .ref kb, .int cc, .int u.1, .int ce, .int u.2.1, .int u.2.2, .int ch, .int ci, .int cj, .int ck, .ref kl, .int cm, .int cn, .ref ko])), (k0, .inl (cI, 1201, .inl c0))] t) (va_A [(k, .inr (11, [.ref k0, .ref k1, .ref k2, .int c3, .ref k4, .ref k5, .ref k6, .ref k7, .ref k8, .int c9, .ref ka, .ref kb, .int cc, .int cd, .int ce, .int cf, .int cg, .int ch, .int ci, .int cj, .int ck, .ref kl, .int cm, .int cn, .ref ko])), (k0, .inl (cI, 1201, .inl c0))] sz)) 0 0 (va_A [(k, .inr (11, [.ref k0, .ref k1, .ref k2, .int c3, .ref k4, .ref k5, .ref k6, .ref k7, .ref k8, .int c9, .ref ka, .ref kb, .int cc, .int cd, .int ce, .int cf, .int cg, .int ch, .int ci, .int cj, .int ck, .ref kl, .int cm, .int cn, .ref ko])), (k0, .inl (cI, 1201, .inl c0))] sz) := by
  refine kMetIX (own := RX11) (by decide) rfl (Nat.le_of_ble_eq_true rfl) ?_
  intro p e s m args below meth c hx hb hT hown hname hml A Q hK hP hD hS hA hN hXS hRet ls hl
  have hl : lv_has ls 4 [(0, .ref k)] := hl
  have lo_cd := k_lo cd
  have hi_cd := k_hi cd
  have lo_ce := k_lo ce
  have hi_ce := k_hi ce
  have lo_ci := k_lo ci
  have hi_ci := k_hi ci
  refine lv_aload_n hx hb dX11_sum_0 rfl (lv_at hl 0 rfl) ?_
  refine kJi (wr := []) (va_runV (As := []) (rest := []) ⟨hx, hb, hml, hown, hT⟩ (c_X11_productG1 l D cI aK aV k k0 k1 k2 k4 k5 k6 k7 k8 ka kb kl ko s.heap.size c3 c9 cc cd ce cf cg ch ci cj ck cm cn c0 (by first | omega | decide | assumption | rfl) (by first | omega | decide | assumption | rfl) (by first | omega | decide | assumption | rfl) (by first | omega | decide | assumption | rfl) (by first | omega | decide | assumption | rfl) (by first | omega | decide | assumption | rfl)) (cwV 0 hT (gV_in mw_1331 mw_1328 mw_1330 mw_p4_7 mw_12) rfl rfl rfl (by decide +kernel) ⟨Nat.le_of_ble_eq_true rfl, Nat.le_of_ble_eq_true rfl⟩) (kRecvX (q0 := 0) (ci := 11) hK hP hD hN hXS hS hA rfl rfl [0, 1] rfl (by decide)) rfl rfl hl.1 rfl (lv_room (Nat.le_of_ble_eq_true rfl)) dX11_sum_1 ⟨Nat.le_of_ble_eq_true rfl, Nat.le_of_ble_eq_true rfl⟩) hP hD hS hA [0, 1] [] rfl rfl (by decide) (by decide) ?_
  clear hP hD hS
  intro r_1 u_6 H locs w_2 hP hD hS
  obtain ⟨scd_3, scf_4, scg_5⟩ := u_6
  replace hP : va_P D vwCl [(k, .inr (11, [.ref k0, .ref k1, .ref k2, .int c3, .ref k4, .ref k5, .ref k6, .ref k7, .ref k8, .int c9, .ref ka, .ref kb, .int cc, .int scd_3, .int ce, .int scf_4, .int scg_5, .int ch, .int ci, .int cj, .int ck, .ref kl, .int cm, .int cn, .ref ko])), (k0, .inl (cI, 1201, .inl c0))] H := hP
  replace hD : va_D A [(k, .inr (11, [.ref k0, .ref k1, .ref k2, .int c3, .ref k4, .ref k5, .ref k6, .ref k7, .ref k8, .int c9, .ref ka, .ref kb, .int cc, .int scd_3, .int ce, .int scf_4, .int scg_5, .int ch, .int ci, .int cj, .int ck, .ref kl, .int cm, .int cn, .ref ko])), (k0, .inl (cI, 1201, .inl c0))] := hD
  have lo_scd_3 := k_lo scd_3
  have hi_scd_3 := k_hi scd_3
  have lo_scg_5 := k_lo scg_5
  have hi_scg_5 := k_hi scg_5
  obtain ⟨h_7, h_8, h_9⟩ := w_2
  have h_7 : cd.toInt ≤ scd_3.toInt := h_7
  have h_8 : scd_3.toInt ≤ ce.toInt := h_8
  have h_9 : scg_5.toInt = 1 := h_9
  have lo_r_1 := k_lo r_1
  have hi_r_1 := k_hi r_1
  refine lv_istore_n (lv' := [(1, .int r_1), (0, .ref k)]) hx hb dX11_sum_4 rfl hl (by decide) rfl ?_
  clear hl
  intro ls hl
  have hloop_5 : ∀ (fu_ : Nat) (l5_1 : Int32) (f5_kd : Int32) (f5_kf : Int32) (f5_kg : Int32), scd_3.toInt ≤ f5_kd.toInt → scg_5.toInt ≤ f5_kg.toInt → f5_kg.toInt ≤ scg_5.toInt → f5_kd.toInt ≤ ce.toInt → (ce.toInt - f5_kd.toInt).toNat < fu_ → ∀ (ls : Array Slot) (H : Heap) (locs : List Loc), lv_has ls 4 [(1, .int l5_1), (0, .ref k)] → va_P D vwCl [(k, .inr (11, [.ref k0, .ref k1, .ref k2, .int c3, .ref k4, .ref k5, .ref k6, .ref k7, .ref k8, .int c9, .ref ka, .ref kb, .int cc, .int f5_kd, .int ce, .int f5_kf, .int f5_kg, .int ch, .int ci, .int cj, .int ck, .ref kl, .int cm, .int cn, .ref ko])), (k0, .inl (cI, 1201, .inl c0))] H → va_D A [(k, .inr (11, [.ref k0, .ref k1, .ref k2, .int c3, .ref k4, .ref k5, .ref k6, .ref k7, .ref k8, .int c9, .ref ka, .ref kb, .int cc, .int f5_kd, .int ce, .int f5_kf, .int f5_kg, .int ch, .int ci, .int cj, .int ck, .ref kl, .int cm, .int cn, .ref ko])), (k0, .inl (cI, 1201, .inl c0))] → va_S A s.heap H locs → W p l e ({ frames := 21, cells := 0, slots := 0, locals := 476 } : Room) s m args below meth c H locs 0 0 Q (F0 m 5 ls []) := by
    intro fu_; induction fu_ with
    | zero => intro l5_1 f5_kd f5_kf f5_kg i5_0 i5_1 i5_2 i5_3 hm; exact absurd hm (by omega)
    | succ fu_ ih5 =>
        intro l5_1 f5_kd f5_kf f5_kg i5_0 i5_1 i5_2 i5_3 hm ls H locs hl hP hD hS
        have lo_l5_1 := k_lo l5_1
        have hi_l5_1 := k_hi l5_1
        have lo_f5_kd := k_lo f5_kd
        have hi_f5_kd := k_hi f5_kd
        have lo_f5_kf := k_lo f5_kf
        have hi_f5_kf := k_hi f5_kf
        have lo_f5_kg := k_lo f5_kg
        have hi_f5_kg := k_hi f5_kg
        refine lv_aload_n hx hb dX11_sum_5 rfl (lv_at hl 1 rfl) ?_
        refine va_get (D := D) (ci := 11) (v := .int f5_kf) (C := RX11) (T := TX11) (N := 25) hx hb hT giX11 hown hK hP 0 rfl rfl 15 (by decide) (hT (Cond.fieldLink RX11 148 "DesertWireModel" "isWrong" "Z") mw_1171) (fun _ h9 => h9) rfl dX11_sum_6 ?_
        refine b_if_ne hx hb rfl (tgt := 77) dX11_sum_9 (by decide) (fun c_10 => ?_) (fun c_10 => ?_)
        · refine lv_iload_n hx hb dX11_sum_77 rfl (lv_at hl 0 rfl) ?_
          exact hRet (f5_kd, f5_kf, f5_kg) [0, 1] ⟨(by first | omega | decide | assumption | rfl | (dsimp only; first | omega)), (by first | omega | decide | assumption | rfl | (dsimp only; first | omega)), (by first | omega | decide | assumption | rfl | (dsimp only; first | omega))⟩ hP hD (by decide) rfl hS rfl dX11_sum_78
        · refine lv_aload_n hx hb dX11_sum_12 rfl (lv_at hl 1 rfl) ?_
          refine kJi (wr := []) (va_runV (As := []) (rest := []) ⟨hx, hb, hml, hown, hT⟩ (c_X11_nowG l D cI aK aV k k0 k1 k2 k4 k5 k6 k7 k8 ka kb kl ko H.size c3 c9 cc f5_kd ce f5_kf f5_kg ch ci cj ck cm cn c0 (by first | omega | decide | assumption | rfl) (by first | omega | decide | assumption | rfl) (by first | omega | decide | assumption | rfl) (by first | omega | decide | assumption | rfl) (by first | omega | decide | assumption | rfl)) (cwV 0 hT (gV_in mw_1339 mw_1336 mw_1338 mw_p4_9 mw_12) rfl rfl rfl (by decide +kernel) ⟨Nat.le_of_ble_eq_true rfl, Nat.le_of_ble_eq_true rfl⟩) (kRecvX (q0 := 0) (ci := 11) hK hP hD hN hXS hS hA rfl rfl [0, 1] rfl (by decide)) rfl rfl hl.1 rfl (lv_room (Nat.le_of_ble_eq_true rfl)) dX11_sum_13 ⟨Nat.le_of_ble_eq_true rfl, Nat.le_of_ble_eq_true rfl⟩) hP hD hS hA [0, 1] [] rfl rfl (by decide) (by decide) ?_
          clear hP hD hS
          intro r_11 u_13 H locs w_12 hP hD hS
          replace hP : va_P D vwCl [(k, .inr (11, [.ref k0, .ref k1, .ref k2, .int c3, .ref k4, .ref k5, .ref k6, .ref k7, .ref k8, .int c9, .ref ka, .ref kb, .int cc, .int f5_kd, .int ce, .int f5_kf, .int f5_kg, .int ch, .int ci, .int cj, .int ck, .ref kl, .int cm, .int cn, .ref ko])), (k0, .inl (cI, 1201, .inl c0))] H := hP
          replace hD : va_D A [(k, .inr (11, [.ref k0, .ref k1, .ref k2, .int c3, .ref k4, .ref k5, .ref k6, .ref k7, .ref k8, .int c9, .ref ka, .ref kb, .int cc, .int f5_kd, .int ce, .int f5_kf, .int f5_kg, .int ch, .int ci, .int cj, .int ck, .ref kl, .int cm, .int cn, .ref ko])), (k0, .inl (cI, 1201, .inl c0))] := hD
          rcases w_12 with h_14 | ⟨hr_11, h_15⟩
          · have h_14 : f5_kd.toInt < ce.toInt := h_14
            have lo_r_11 := k_lo r_11
            have hi_r_11 := k_hi r_11
            refine lv_bipush (v := 43) hx hb dX11_sum_16 (by decide) ?_
            refine b_icmp_eq hx hb rfl zl_43 (tgt := 30) dX11_sum_18 (by decide) (fun c_16 => ?_) (fun c_16 => ?_)
            · refine lv_aload_n hx hb dX11_sum_30 rfl (lv_at hl 1 rfl) ?_
              refine kJi (wr := []) (va_runV (As := []) (rest := []) ⟨hx, hb, hml, hown, hT⟩ (c_X11_nowG l D cI aK aV k k0 k1 k2 k4 k5 k6 k7 k8 ka kb kl ko H.size c3 c9 cc f5_kd ce f5_kf f5_kg ch ci cj ck cm cn c0 (by first | omega | decide | assumption | rfl) (by first | omega | decide | assumption | rfl) (by first | omega | decide | assumption | rfl) (by first | omega | decide | assumption | rfl) (by first | omega | decide | assumption | rfl)) (cwV 0 hT (gV_in mw_1339 mw_1336 mw_1338 mw_p4_9 mw_12) rfl rfl rfl (by decide +kernel) ⟨Nat.le_of_ble_eq_true rfl, Nat.le_of_ble_eq_true rfl⟩) (kRecvX (q0 := 0) (ci := 11) hK hP hD hN hXS hS hA rfl rfl [0, 1] rfl (by decide)) rfl rfl hl.1 rfl (lv_room (Nat.le_of_ble_eq_true rfl)) dX11_sum_31 ⟨Nat.le_of_ble_eq_true rfl, Nat.le_of_ble_eq_true rfl⟩) hP hD hS hA [0, 1] [] rfl rfl (by decide) (by decide) ?_
              clear hP hD hS
              intro r_17 u_19 H locs w_18 hP hD hS
              replace hP : va_P D vwCl [(k, .inr (11, [.ref k0, .ref k1, .ref k2, .int c3, .ref k4, .ref k5, .ref k6, .ref k7, .ref k8, .int c9, .ref ka, .ref kb, .int cc, .int f5_kd, .int ce, .int f5_kf, .int f5_kg, .int ch, .int ci, .int cj, .int ck, .ref kl, .int cm, .int cn, .ref ko])), (k0, .inl (cI, 1201, .inl c0))] H := hP
              replace hD : va_D A [(k, .inr (11, [.ref k0, .ref k1, .ref k2, .int c3, .ref k4, .ref k5, .ref k6, .ref k7, .ref k8, .int c9, .ref ka, .ref kb, .int cc, .int f5_kd, .int ce, .int f5_kf, .int f5_kg, .int ch, .int ci, .int cj, .int ck, .ref kl, .int cm, .int cn, .ref ko])), (k0, .inl (cI, 1201, .inl c0))] := hD
              rcases w_18 with h_20 | ⟨hr_17, h_21⟩
              · have h_20 : f5_kd.toInt < ce.toInt := h_20
                have lo_r_17 := k_lo r_17
                have hi_r_17 := k_hi r_17
                refine lv_bipush (v := 43) hx hb dX11_sum_34 (by decide) ?_
                refine b_icmp_ne hx hb rfl zl_43 (tgt := 43) dX11_sum_36 (by decide) (fun c_22 => ?_) (fun c_22 => ?_)
                · refine lv_iconst (v := 0) hx hb dX11_sum_43 (by decide) ?_
                  refine lv_istore_n (lv' := [(2, .int 0), (1, .int l5_1), (0, .ref k)]) hx hb dX11_sum_44 rfl hl (by decide) rfl ?_
                  clear hl
                  intro ls hl
                  refine lv_aload_n hx hb dX11_sum_45 rfl (lv_at hl 2 rfl) ?_
                  refine lv_dup hx hb dX11_sum_46 rfl ?_
                  refine va_get (D := D) (ci := 11) (v := .int f5_kd) (C := RX11) (T := TX11) (N := 25) hx hb hT giX11 hown hK hP 0 rfl rfl 13 (by decide) (hT (Cond.fieldLink RX11 138 "DesertWireModel" "here" "I") mw_1169) (fun _ h9 => h9) rfl dX11_sum_47 ?_
                  refine lv_iconst (v := 1) hx hb dX11_sum_50 (by decide) ?_
                  refine lv_iadd hx hb dX11_sum_51 ?_
                  refine lv_topi (fun v_23 ev_23 => ?_)
                  have tv_23 : v_23.toInt = f5_kd.toInt + 1 := by rw [ev_23]; exact k_addv rfl zl_1 (by omega) (by omega)
                  refine va_put (D := D) (ci := 11) (v := .int v_23) (ty := .int) (C := RX11) (T := TX11) (N := 25) hx hb hT giX11 tyX11 tyX11_ok nmX11 hown hK hP hD hS 0 rfl rfl 13 (by decide) (hT (Cond.fieldLink RX11 138 "DesertWireModel" "here" "I") mw_1169) (fun _ h9 => h9) rfl (by decide +kernel) rfl rfl (Nat.le_of_ble_eq_true rfl) dX11_sum_52 ?_
                  clear hP hD hS
                  intro H locs hP hD hS
                  replace hP : va_P D vwCl [(k, .inr (11, [.ref k0, .ref k1, .ref k2, .int c3, .ref k4, .ref k5, .ref k6, .ref k7, .ref k8, .int c9, .ref ka, .ref kb, .int cc, .int v_23, .int ce, .int f5_kf, .int f5_kg, .int ch, .int ci, .int cj, .int ck, .ref kl, .int cm, .int cn, .ref ko])), (k0, .inl (cI, 1201, .inl c0))] H := hP
                  replace hD : va_D A [(k, .inr (11, [.ref k0, .ref k1, .ref k2, .int c3, .ref k4, .ref k5, .ref k6, .ref k7, .ref k8, .int c9, .ref ka, .ref kb, .int cc, .int v_23, .int ce, .int f5_kf, .int f5_kg, .int ch, .int ci, .int cj, .int ck, .ref kl, .int cm, .int cn, .ref ko])), (k0, .inl (cI, 1201, .inl c0))] := hD
                  refine lv_aload_n hx hb dX11_sum_55 rfl (lv_at hl 2 rfl) ?_
                  refine kJi (wr := []) (va_runV (As := []) (rest := []) ⟨hx, hb, hml, hown, hT⟩ (c_X11_productG1 l D cI aK aV k k0 k1 k2 k4 k5 k6 k7 k8 ka kb kl ko H.size c3 c9 cc v_23 ce f5_kf f5_kg ch ci cj ck cm cn c0 (by first | omega | decide | assumption | rfl) (by first | omega | decide | assumption | rfl) (by first | omega | decide | assumption | rfl) (by first | omega | decide | assumption | rfl) (by first | omega | decide | assumption | rfl) (by first | omega | decide | assumption | rfl)) (cwV 0 hT (gV_in mw_1331 mw_1328 mw_1330 mw_p4_7 mw_12) rfl rfl rfl (by decide +kernel) ⟨Nat.le_of_ble_eq_true rfl, Nat.le_of_ble_eq_true rfl⟩) (kRecvX (q0 := 0) (ci := 11) hK hP hD hN hXS hS hA rfl rfl [0, 1] rfl (by decide)) rfl rfl hl.1 rfl (lv_room (Nat.le_of_ble_eq_true rfl)) dX11_sum_56 ⟨Nat.le_of_ble_eq_true rfl, Nat.le_of_ble_eq_true rfl⟩) hP hD hS hA [0, 1] [] rfl rfl (by decide) (by decide) ?_
                  clear hP hD hS
                  intro r_24 u_29 H locs w_25 hP hD hS
                  obtain ⟨scd_26, scf_27, scg_28⟩ := u_29
                  replace hP : va_P D vwCl [(k, .inr (11, [.ref k0, .ref k1, .ref k2, .int c3, .ref k4, .ref k5, .ref k6, .ref k7, .ref k8, .int c9, .ref ka, .ref kb, .int cc, .int scd_26, .int ce, .int scf_27, .int scg_28, .int ch, .int ci, .int cj, .int ck, .ref kl, .int cm, .int cn, .ref ko])), (k0, .inl (cI, 1201, .inl c0))] H := hP
                  replace hD : va_D A [(k, .inr (11, [.ref k0, .ref k1, .ref k2, .int c3, .ref k4, .ref k5, .ref k6, .ref k7, .ref k8, .int c9, .ref ka, .ref kb, .int cc, .int scd_26, .int ce, .int scf_27, .int scg_28, .int ch, .int ci, .int cj, .int ck, .ref kl, .int cm, .int cn, .ref ko])), (k0, .inl (cI, 1201, .inl c0))] := hD
                  have lo_scd_26 := k_lo scd_26
                  have hi_scd_26 := k_hi scd_26
                  have lo_scg_28 := k_lo scg_28
                  have hi_scg_28 := k_hi scg_28
                  obtain ⟨h_30, h_31, h_32⟩ := w_25
                  have h_30 : v_23.toInt ≤ scd_26.toInt := h_30
                  have h_31 : scd_26.toInt ≤ ce.toInt := h_31
                  have h_32 : scg_28.toInt = 1 := h_32
                  have lo_r_24 := k_lo r_24
                  have hi_r_24 := k_hi r_24
                  refine lv_istore_n (lv' := [(3, .int r_24), (2, .int 0), (1, .int l5_1), (0, .ref k)]) hx hb dX11_sum_59 rfl hl (by decide) rfl ?_
                  clear hl
                  intro ls hl
                  refine lv_iload_n hx hb dX11_sum_60 rfl (lv_at hl 1 rfl) ?_
                  refine b_if_eq hx hb zl_0 (tgt := 70) dX11_sum_61 (by decide) (fun c_33 => ?_) (fun c_33 => by exfalso; omega)
                  refine lv_iload_n hx hb dX11_sum_70 rfl (lv_at hl 2 rfl) ?_
                  refine lv_iload_n hx hb dX11_sum_71 rfl (lv_at hl 0 rfl) ?_
                  refine lv_isub hx hb dX11_sum_72 ?_
                  refine lv_topi (fun v_34 ev_34 => ?_)
                  have lo_v_34 := k_lo v_34
                  have hi_v_34 := k_hi v_34
                  refine lv_istore_n (lv' := [(1, .int v_34), (3, .int r_24), (2, .int 0), (0, .ref k)]) hx hb dX11_sum_73 rfl hl (by decide) rfl ?_
                  clear hl
                  intro ls hl
                  refine lv_goto (tgt := 5) hx hb dX11_sum_74 (by decide) ?_
                  exact ih5 v_34 scd_26 scf_27 scg_28 (by first | omega | decide | assumption | rfl) (by first | omega | decide | assumption | rfl) (by first | omega | decide | assumption | rfl) (by first | omega | decide | assumption | rfl) (by omega) ls _ _ (lv_sub hl [0, 3] rfl) (hP.sub [0, 1] rfl) (hD.sub [0, 1] (by decide) rfl) hS
                · refine lv_iconst (v := 1) hx hb dX11_sum_39 (by decide) ?_
                  refine lv_goto (tgt := 44) hx hb dX11_sum_40 (by decide) ?_
                  refine lv_istore_n (lv' := [(2, .int 1), (1, .int l5_1), (0, .ref k)]) hx hb dX11_sum_44 rfl hl (by decide) rfl ?_
                  clear hl
                  intro ls hl
                  refine lv_aload_n hx hb dX11_sum_45 rfl (lv_at hl 2 rfl) ?_
                  refine lv_dup hx hb dX11_sum_46 rfl ?_
                  refine va_get (D := D) (ci := 11) (v := .int f5_kd) (C := RX11) (T := TX11) (N := 25) hx hb hT giX11 hown hK hP 0 rfl rfl 13 (by decide) (hT (Cond.fieldLink RX11 138 "DesertWireModel" "here" "I") mw_1169) (fun _ h9 => h9) rfl dX11_sum_47 ?_
                  refine lv_iconst (v := 1) hx hb dX11_sum_50 (by decide) ?_
                  refine lv_iadd hx hb dX11_sum_51 ?_
                  refine lv_topi (fun v_35 ev_35 => ?_)
                  have tv_35 : v_35.toInt = f5_kd.toInt + 1 := by rw [ev_35]; exact k_addv rfl zl_1 (by omega) (by omega)
                  refine va_put (D := D) (ci := 11) (v := .int v_35) (ty := .int) (C := RX11) (T := TX11) (N := 25) hx hb hT giX11 tyX11 tyX11_ok nmX11 hown hK hP hD hS 0 rfl rfl 13 (by decide) (hT (Cond.fieldLink RX11 138 "DesertWireModel" "here" "I") mw_1169) (fun _ h9 => h9) rfl (by decide +kernel) rfl rfl (Nat.le_of_ble_eq_true rfl) dX11_sum_52 ?_
                  clear hP hD hS
                  intro H locs hP hD hS
                  replace hP : va_P D vwCl [(k, .inr (11, [.ref k0, .ref k1, .ref k2, .int c3, .ref k4, .ref k5, .ref k6, .ref k7, .ref k8, .int c9, .ref ka, .ref kb, .int cc, .int v_35, .int ce, .int f5_kf, .int f5_kg, .int ch, .int ci, .int cj, .int ck, .ref kl, .int cm, .int cn, .ref ko])), (k0, .inl (cI, 1201, .inl c0))] H := hP
                  replace hD : va_D A [(k, .inr (11, [.ref k0, .ref k1, .ref k2, .int c3, .ref k4, .ref k5, .ref k6, .ref k7, .ref k8, .int c9, .ref ka, .ref kb, .int cc, .int v_35, .int ce, .int f5_kf, .int f5_kg, .int ch, .int ci, .int cj, .int ck, .ref kl, .int cm, .int cn, .ref ko])), (k0, .inl (cI, 1201, .inl c0))] := hD
                  refine lv_aload_n hx hb dX11_sum_55 rfl (lv_at hl 2 rfl) ?_
                  refine kJi (wr := []) (va_runV (As := []) (rest := []) ⟨hx, hb, hml, hown, hT⟩ (c_X11_productG1 l D cI aK aV k k0 k1 k2 k4 k5 k6 k7 k8 ka kb kl ko H.size c3 c9 cc v_35 ce f5_kf f5_kg ch ci cj ck cm cn c0 (by first | omega | decide | assumption | rfl) (by first | omega | decide | assumption | rfl) (by first | omega | decide | assumption | rfl) (by first | omega | decide | assumption | rfl) (by first | omega | decide | assumption | rfl) (by first | omega | decide | assumption | rfl)) (cwV 0 hT (gV_in mw_1331 mw_1328 mw_1330 mw_p4_7 mw_12) rfl rfl rfl (by decide +kernel) ⟨Nat.le_of_ble_eq_true rfl, Nat.le_of_ble_eq_true rfl⟩) (kRecvX (q0 := 0) (ci := 11) hK hP hD hN hXS hS hA rfl rfl [0, 1] rfl (by decide)) rfl rfl hl.1 rfl (lv_room (Nat.le_of_ble_eq_true rfl)) dX11_sum_56 ⟨Nat.le_of_ble_eq_true rfl, Nat.le_of_ble_eq_true rfl⟩) hP hD hS hA [0, 1] [] rfl rfl (by decide) (by decide) ?_
                  clear hP hD hS
                  intro r_36 u_41 H locs w_37 hP hD hS
                  obtain ⟨scd_38, scf_39, scg_40⟩ := u_41
                  replace hP : va_P D vwCl [(k, .inr (11, [.ref k0, .ref k1, .ref k2, .int c3, .ref k4, .ref k5, .ref k6, .ref k7, .ref k8, .int c9, .ref ka, .ref kb, .int cc, .int scd_38, .int ce, .int scf_39, .int scg_40, .int ch, .int ci, .int cj, .int ck, .ref kl, .int cm, .int cn, .ref ko])), (k0, .inl (cI, 1201, .inl c0))] H := hP
                  replace hD : va_D A [(k, .inr (11, [.ref k0, .ref k1, .ref k2, .int c3, .ref k4, .ref k5, .ref k6, .ref k7, .ref k8, .int c9, .ref ka, .ref kb, .int cc, .int scd_38, .int ce, .int scf_39, .int scg_40, .int ch, .int ci, .int cj, .int ck, .ref kl, .int cm, .int cn, .ref ko])), (k0, .inl (cI, 1201, .inl c0))] := hD
                  have lo_scd_38 := k_lo scd_38
                  have hi_scd_38 := k_hi scd_38
                  have lo_scg_40 := k_lo scg_40
                  have hi_scg_40 := k_hi scg_40
                  obtain ⟨h_42, h_43, h_44⟩ := w_37
                  have h_42 : v_35.toInt ≤ scd_38.toInt := h_42
                  have h_43 : scd_38.toInt ≤ ce.toInt := h_43
                  have h_44 : scg_40.toInt = 1 := h_44
                  have lo_r_36 := k_lo r_36
                  have hi_r_36 := k_hi r_36
                  refine lv_istore_n (lv' := [(3, .int r_36), (2, .int 1), (1, .int l5_1), (0, .ref k)]) hx hb dX11_sum_59 rfl hl (by decide) rfl ?_
                  clear hl
                  intro ls hl
                  refine lv_iload_n hx hb dX11_sum_60 rfl (lv_at hl 1 rfl) ?_
                  refine b_if_eq hx hb zl_1 (tgt := 70) dX11_sum_61 (by decide) (fun c_45 => by exfalso; omega) (fun c_45 => ?_)
                  refine lv_iload_n hx hb dX11_sum_64 rfl (lv_at hl 2 rfl) ?_
                  refine lv_iload_n hx hb dX11_sum_65 rfl (lv_at hl 0 rfl) ?_
                  refine lv_iadd hx hb dX11_sum_66 ?_
                  refine lv_topi (fun v_46 ev_46 => ?_)
                  have lo_v_46 := k_lo v_46
                  have hi_v_46 := k_hi v_46
                  refine lv_goto (tgt := 73) hx hb dX11_sum_67 (by decide) ?_
                  refine lv_istore_n (lv' := [(1, .int v_46), (3, .int r_36), (2, .int 1), (0, .ref k)]) hx hb dX11_sum_73 rfl hl (by decide) rfl ?_
                  clear hl
                  intro ls hl
                  refine lv_goto (tgt := 5) hx hb dX11_sum_74 (by decide) ?_
                  exact ih5 v_46 scd_38 scf_39 scg_40 (by first | omega | decide | assumption | rfl) (by first | omega | decide | assumption | rfl) (by first | omega | decide | assumption | rfl) (by first | omega | decide | assumption | rfl) (by omega) ls _ _ (lv_sub hl [0, 3] rfl) (hP.sub [0, 1] rfl) (hD.sub [0, 1] (by decide) rfl) hS
              · exfalso; omega
            · refine lv_aload_n hx hb dX11_sum_21 rfl (lv_at hl 1 rfl) ?_
              refine kJi (wr := []) (va_runV (As := []) (rest := []) ⟨hx, hb, hml, hown, hT⟩ (c_X11_nowG l D cI aK aV k k0 k1 k2 k4 k5 k6 k7 k8 ka kb kl ko H.size c3 c9 cc f5_kd ce f5_kf f5_kg ch ci cj ck cm cn c0 (by first | omega | decide | assumption | rfl) (by first | omega | decide | assumption | rfl) (by first | omega | decide | assumption | rfl) (by first | omega | decide | assumption | rfl) (by first | omega | decide | assumption | rfl)) (cwV 0 hT (gV_in mw_1339 mw_1336 mw_1338 mw_p4_9 mw_12) rfl rfl rfl (by decide +kernel) ⟨Nat.le_of_ble_eq_true rfl, Nat.le_of_ble_eq_true rfl⟩) (kRecvX (q0 := 0) (ci := 11) hK hP hD hN hXS hS hA rfl rfl [0, 1] rfl (by decide)) rfl rfl hl.1 rfl (lv_room (Nat.le_of_ble_eq_true rfl)) dX11_sum_22 ⟨Nat.le_of_ble_eq_true rfl, Nat.le_of_ble_eq_true rfl⟩) hP hD hS hA [0, 1] [] rfl rfl (by decide) (by decide) ?_
              clear hP hD hS
              intro r_47 u_49 H locs w_48 hP hD hS
              replace hP : va_P D vwCl [(k, .inr (11, [.ref k0, .ref k1, .ref k2, .int c3, .ref k4, .ref k5, .ref k6, .ref k7, .ref k8, .int c9, .ref ka, .ref kb, .int cc, .int f5_kd, .int ce, .int f5_kf, .int f5_kg, .int ch, .int ci, .int cj, .int ck, .ref kl, .int cm, .int cn, .ref ko])), (k0, .inl (cI, 1201, .inl c0))] H := hP
              replace hD : va_D A [(k, .inr (11, [.ref k0, .ref k1, .ref k2, .int c3, .ref k4, .ref k5, .ref k6, .ref k7, .ref k8, .int c9, .ref ka, .ref kb, .int cc, .int f5_kd, .int ce, .int f5_kf, .int f5_kg, .int ch, .int ci, .int cj, .int ck, .ref kl, .int cm, .int cn, .ref ko])), (k0, .inl (cI, 1201, .inl c0))] := hD
              rcases w_48 with h_50 | ⟨hr_47, h_51⟩
              · have h_50 : f5_kd.toInt < ce.toInt := h_50
                have lo_r_47 := k_lo r_47
                have hi_r_47 := k_hi r_47
                refine lv_bipush (v := 45) hx hb dX11_sum_25 (by decide) ?_
                refine b_icmp_ne hx hb rfl zl_45 (tgt := 77) dX11_sum_27 (by decide) (fun c_52 => ?_) (fun c_52 => ?_)
                · refine lv_iload_n hx hb dX11_sum_77 rfl (lv_at hl 0 rfl) ?_
                  exact hRet (f5_kd, f5_kf, f5_kg) [0, 1] ⟨(by first | omega | decide | assumption | rfl | (dsimp only; first | omega)), (by first | omega | decide | assumption | rfl | (dsimp only; first | omega)), (by first | omega | decide | assumption | rfl | (dsimp only; first | omega))⟩ hP hD (by decide) rfl hS rfl dX11_sum_78
                · refine lv_aload_n hx hb dX11_sum_30 rfl (lv_at hl 1 rfl) ?_
                  refine kJi (wr := []) (va_runV (As := []) (rest := []) ⟨hx, hb, hml, hown, hT⟩ (c_X11_nowG l D cI aK aV k k0 k1 k2 k4 k5 k6 k7 k8 ka kb kl ko H.size c3 c9 cc f5_kd ce f5_kf f5_kg ch ci cj ck cm cn c0 (by first | omega | decide | assumption | rfl) (by first | omega | decide | assumption | rfl) (by first | omega | decide | assumption | rfl) (by first | omega | decide | assumption | rfl) (by first | omega | decide | assumption | rfl)) (cwV 0 hT (gV_in mw_1339 mw_1336 mw_1338 mw_p4_9 mw_12) rfl rfl rfl (by decide +kernel) ⟨Nat.le_of_ble_eq_true rfl, Nat.le_of_ble_eq_true rfl⟩) (kRecvX (q0 := 0) (ci := 11) hK hP hD hN hXS hS hA rfl rfl [0, 1] rfl (by decide)) rfl rfl hl.1 rfl (lv_room (Nat.le_of_ble_eq_true rfl)) dX11_sum_31 ⟨Nat.le_of_ble_eq_true rfl, Nat.le_of_ble_eq_true rfl⟩) hP hD hS hA [0, 1] [] rfl rfl (by decide) (by decide) ?_
                  clear hP hD hS
                  intro r_53 u_55 H locs w_54 hP hD hS
                  replace hP : va_P D vwCl [(k, .inr (11, [.ref k0, .ref k1, .ref k2, .int c3, .ref k4, .ref k5, .ref k6, .ref k7, .ref k8, .int c9, .ref ka, .ref kb, .int cc, .int f5_kd, .int ce, .int f5_kf, .int f5_kg, .int ch, .int ci, .int cj, .int ck, .ref kl, .int cm, .int cn, .ref ko])), (k0, .inl (cI, 1201, .inl c0))] H := hP
                  replace hD : va_D A [(k, .inr (11, [.ref k0, .ref k1, .ref k2, .int c3, .ref k4, .ref k5, .ref k6, .ref k7, .ref k8, .int c9, .ref ka, .ref kb, .int cc, .int f5_kd, .int ce, .int f5_kf, .int f5_kg, .int ch, .int ci, .int cj, .int ck, .ref kl, .int cm, .int cn, .ref ko])), (k0, .inl (cI, 1201, .inl c0))] := hD
                  rcases w_54 with h_56 | ⟨hr_53, h_57⟩
                  · have h_56 : f5_kd.toInt < ce.toInt := h_56
                    have lo_r_53 := k_lo r_53
                    have hi_r_53 := k_hi r_53
                    refine lv_bipush (v := 43) hx hb dX11_sum_34 (by decide) ?_
                    refine b_icmp_ne hx hb rfl zl_43 (tgt := 43) dX11_sum_36 (by decide) (fun c_58 => ?_) (fun c_58 => ?_)
                    · refine lv_iconst (v := 0) hx hb dX11_sum_43 (by decide) ?_
                      refine lv_istore_n (lv' := [(2, .int 0), (1, .int l5_1), (0, .ref k)]) hx hb dX11_sum_44 rfl hl (by decide) rfl ?_
                      clear hl
                      intro ls hl
                      refine lv_aload_n hx hb dX11_sum_45 rfl (lv_at hl 2 rfl) ?_
                      refine lv_dup hx hb dX11_sum_46 rfl ?_
                      refine va_get (D := D) (ci := 11) (v := .int f5_kd) (C := RX11) (T := TX11) (N := 25) hx hb hT giX11 hown hK hP 0 rfl rfl 13 (by decide) (hT (Cond.fieldLink RX11 138 "DesertWireModel" "here" "I") mw_1169) (fun _ h9 => h9) rfl dX11_sum_47 ?_
                      refine lv_iconst (v := 1) hx hb dX11_sum_50 (by decide) ?_
                      refine lv_iadd hx hb dX11_sum_51 ?_
                      refine lv_topi (fun v_59 ev_59 => ?_)
                      have tv_59 : v_59.toInt = f5_kd.toInt + 1 := by rw [ev_59]; exact k_addv rfl zl_1 (by omega) (by omega)
                      refine va_put (D := D) (ci := 11) (v := .int v_59) (ty := .int) (C := RX11) (T := TX11) (N := 25) hx hb hT giX11 tyX11 tyX11_ok nmX11 hown hK hP hD hS 0 rfl rfl 13 (by decide) (hT (Cond.fieldLink RX11 138 "DesertWireModel" "here" "I") mw_1169) (fun _ h9 => h9) rfl (by decide +kernel) rfl rfl (Nat.le_of_ble_eq_true rfl) dX11_sum_52 ?_
                      clear hP hD hS
                      intro H locs hP hD hS
                      replace hP : va_P D vwCl [(k, .inr (11, [.ref k0, .ref k1, .ref k2, .int c3, .ref k4, .ref k5, .ref k6, .ref k7, .ref k8, .int c9, .ref ka, .ref kb, .int cc, .int v_59, .int ce, .int f5_kf, .int f5_kg, .int ch, .int ci, .int cj, .int ck, .ref kl, .int cm, .int cn, .ref ko])), (k0, .inl (cI, 1201, .inl c0))] H := hP
                      replace hD : va_D A [(k, .inr (11, [.ref k0, .ref k1, .ref k2, .int c3, .ref k4, .ref k5, .ref k6, .ref k7, .ref k8, .int c9, .ref ka, .ref kb, .int cc, .int v_59, .int ce, .int f5_kf, .int f5_kg, .int ch, .int ci, .int cj, .int ck, .ref kl, .int cm, .int cn, .ref ko])), (k0, .inl (cI, 1201, .inl c0))] := hD
                      refine lv_aload_n hx hb dX11_sum_55 rfl (lv_at hl 2 rfl) ?_
                      refine kJi (wr := []) (va_runV (As := []) (rest := []) ⟨hx, hb, hml, hown, hT⟩ (c_X11_productG1 l D cI aK aV k k0 k1 k2 k4 k5 k6 k7 k8 ka kb kl ko H.size c3 c9 cc v_59 ce f5_kf f5_kg ch ci cj ck cm cn c0 (by first | omega | decide | assumption | rfl) (by first | omega | decide | assumption | rfl) (by first | omega | decide | assumption | rfl) (by first | omega | decide | assumption | rfl) (by first | omega | decide | assumption | rfl) (by first | omega | decide | assumption | rfl)) (cwV 0 hT (gV_in mw_1331 mw_1328 mw_1330 mw_p4_7 mw_12) rfl rfl rfl (by decide +kernel) ⟨Nat.le_of_ble_eq_true rfl, Nat.le_of_ble_eq_true rfl⟩) (kRecvX (q0 := 0) (ci := 11) hK hP hD hN hXS hS hA rfl rfl [0, 1] rfl (by decide)) rfl rfl hl.1 rfl (lv_room (Nat.le_of_ble_eq_true rfl)) dX11_sum_56 ⟨Nat.le_of_ble_eq_true rfl, Nat.le_of_ble_eq_true rfl⟩) hP hD hS hA [0, 1] [] rfl rfl (by decide) (by decide) ?_
                      clear hP hD hS
                      intro r_60 u_65 H locs w_61 hP hD hS
                      obtain ⟨scd_62, scf_63, scg_64⟩ := u_65
                      replace hP : va_P D vwCl [(k, .inr (11, [.ref k0, .ref k1, .ref k2, .int c3, .ref k4, .ref k5, .ref k6, .ref k7, .ref k8, .int c9, .ref ka, .ref kb, .int cc, .int scd_62, .int ce, .int scf_63, .int scg_64, .int ch, .int ci, .int cj, .int ck, .ref kl, .int cm, .int cn, .ref ko])), (k0, .inl (cI, 1201, .inl c0))] H := hP
                      replace hD : va_D A [(k, .inr (11, [.ref k0, .ref k1, .ref k2, .int c3, .ref k4, .ref k5, .ref k6, .ref k7, .ref k8, .int c9, .ref ka, .ref kb, .int cc, .int scd_62, .int ce, .int scf_63, .int scg_64, .int ch, .int ci, .int cj, .int ck, .ref kl, .int cm, .int cn, .ref ko])), (k0, .inl (cI, 1201, .inl c0))] := hD
                      have lo_scd_62 := k_lo scd_62
                      have hi_scd_62 := k_hi scd_62
                      have lo_scg_64 := k_lo scg_64
                      have hi_scg_64 := k_hi scg_64
                      obtain ⟨h_66, h_67, h_68⟩ := w_61
                      have h_66 : v_59.toInt ≤ scd_62.toInt := h_66
                      have h_67 : scd_62.toInt ≤ ce.toInt := h_67
                      have h_68 : scg_64.toInt = 1 := h_68
                      have lo_r_60 := k_lo r_60
                      have hi_r_60 := k_hi r_60
                      refine lv_istore_n (lv' := [(3, .int r_60), (2, .int 0), (1, .int l5_1), (0, .ref k)]) hx hb dX11_sum_59 rfl hl (by decide) rfl ?_
                      clear hl
                      intro ls hl
                      refine lv_iload_n hx hb dX11_sum_60 rfl (lv_at hl 1 rfl) ?_
                      refine b_if_eq hx hb zl_0 (tgt := 70) dX11_sum_61 (by decide) (fun c_69 => ?_) (fun c_69 => by exfalso; omega)
                      refine lv_iload_n hx hb dX11_sum_70 rfl (lv_at hl 2 rfl) ?_
                      refine lv_iload_n hx hb dX11_sum_71 rfl (lv_at hl 0 rfl) ?_
                      refine lv_isub hx hb dX11_sum_72 ?_
                      refine lv_topi (fun v_70 ev_70 => ?_)
                      have lo_v_70 := k_lo v_70
                      have hi_v_70 := k_hi v_70
                      refine lv_istore_n (lv' := [(1, .int v_70), (3, .int r_60), (2, .int 0), (0, .ref k)]) hx hb dX11_sum_73 rfl hl (by decide) rfl ?_
                      clear hl
                      intro ls hl
                      refine lv_goto (tgt := 5) hx hb dX11_sum_74 (by decide) ?_
                      exact ih5 v_70 scd_62 scf_63 scg_64 (by first | omega | decide | assumption | rfl) (by first | omega | decide | assumption | rfl) (by first | omega | decide | assumption | rfl) (by first | omega | decide | assumption | rfl) (by omega) ls _ _ (lv_sub hl [0, 3] rfl) (hP.sub [0, 1] rfl) (hD.sub [0, 1] (by decide) rfl) hS
                    · refine lv_iconst (v := 1) hx hb dX11_sum_39 (by decide) ?_
                      refine lv_goto (tgt := 44) hx hb dX11_sum_40 (by decide) ?_
                      refine lv_istore_n (lv' := [(2, .int 1), (1, .int l5_1), (0, .ref k)]) hx hb dX11_sum_44 rfl hl (by decide) rfl ?_
                      clear hl
                      intro ls hl
                      refine lv_aload_n hx hb dX11_sum_45 rfl (lv_at hl 2 rfl) ?_
                      refine lv_dup hx hb dX11_sum_46 rfl ?_
                      refine va_get (D := D) (ci := 11) (v := .int f5_kd) (C := RX11) (T := TX11) (N := 25) hx hb hT giX11 hown hK hP 0 rfl rfl 13 (by decide) (hT (Cond.fieldLink RX11 138 "DesertWireModel" "here" "I") mw_1169) (fun _ h9 => h9) rfl dX11_sum_47 ?_
                      refine lv_iconst (v := 1) hx hb dX11_sum_50 (by decide) ?_
                      refine lv_iadd hx hb dX11_sum_51 ?_
                      refine lv_topi (fun v_71 ev_71 => ?_)
                      have tv_71 : v_71.toInt = f5_kd.toInt + 1 := by rw [ev_71]; exact k_addv rfl zl_1 (by omega) (by omega)
                      refine va_put (D := D) (ci := 11) (v := .int v_71) (ty := .int) (C := RX11) (T := TX11) (N := 25) hx hb hT giX11 tyX11 tyX11_ok nmX11 hown hK hP hD hS 0 rfl rfl 13 (by decide) (hT (Cond.fieldLink RX11 138 "DesertWireModel" "here" "I") mw_1169) (fun _ h9 => h9) rfl (by decide +kernel) rfl rfl (Nat.le_of_ble_eq_true rfl) dX11_sum_52 ?_
                      clear hP hD hS
                      intro H locs hP hD hS
                      replace hP : va_P D vwCl [(k, .inr (11, [.ref k0, .ref k1, .ref k2, .int c3, .ref k4, .ref k5, .ref k6, .ref k7, .ref k8, .int c9, .ref ka, .ref kb, .int cc, .int v_71, .int ce, .int f5_kf, .int f5_kg, .int ch, .int ci, .int cj, .int ck, .ref kl, .int cm, .int cn, .ref ko])), (k0, .inl (cI, 1201, .inl c0))] H := hP
                      replace hD : va_D A [(k, .inr (11, [.ref k0, .ref k1, .ref k2, .int c3, .ref k4, .ref k5, .ref k6, .ref k7, .ref k8, .int c9, .ref ka, .ref kb, .int cc, .int v_71, .int ce, .int f5_kf, .int f5_kg, .int ch, .int ci, .int cj, .int ck, .ref kl, .int cm, .int cn, .ref ko])), (k0, .inl (cI, 1201, .inl c0))] := hD
                      refine lv_aload_n hx hb dX11_sum_55 rfl (lv_at hl 2 rfl) ?_
                      refine kJi (wr := []) (va_runV (As := []) (rest := []) ⟨hx, hb, hml, hown, hT⟩ (c_X11_productG1 l D cI aK aV k k0 k1 k2 k4 k5 k6 k7 k8 ka kb kl ko H.size c3 c9 cc v_71 ce f5_kf f5_kg ch ci cj ck cm cn c0 (by first | omega | decide | assumption | rfl) (by first | omega | decide | assumption | rfl) (by first | omega | decide | assumption | rfl) (by first | omega | decide | assumption | rfl) (by first | omega | decide | assumption | rfl) (by first | omega | decide | assumption | rfl)) (cwV 0 hT (gV_in mw_1331 mw_1328 mw_1330 mw_p4_7 mw_12) rfl rfl rfl (by decide +kernel) ⟨Nat.le_of_ble_eq_true rfl, Nat.le_of_ble_eq_true rfl⟩) (kRecvX (q0 := 0) (ci := 11) hK hP hD hN hXS hS hA rfl rfl [0, 1] rfl (by decide)) rfl rfl hl.1 rfl (lv_room (Nat.le_of_ble_eq_true rfl)) dX11_sum_56 ⟨Nat.le_of_ble_eq_true rfl, Nat.le_of_ble_eq_true rfl⟩) hP hD hS hA [0, 1] [] rfl rfl (by decide) (by decide) ?_
                      clear hP hD hS
                      intro r_72 u_77 H locs w_73 hP hD hS
                      obtain ⟨scd_74, scf_75, scg_76⟩ := u_77
                      replace hP : va_P D vwCl [(k, .inr (11, [.ref k0, .ref k1, .ref k2, .int c3, .ref k4, .ref k5, .ref k6, .ref k7, .ref k8, .int c9, .ref ka, .ref kb, .int cc, .int scd_74, .int ce, .int scf_75, .int scg_76, .int ch, .int ci, .int cj, .int ck, .ref kl, .int cm, .int cn, .ref ko])), (k0, .inl (cI, 1201, .inl c0))] H := hP
                      replace hD : va_D A [(k, .inr (11, [.ref k0, .ref k1, .ref k2, .int c3, .ref k4, .ref k5, .ref k6, .ref k7, .ref k8, .int c9, .ref ka, .ref kb, .int cc, .int scd_74, .int ce, .int scf_75, .int scg_76, .int ch, .int ci, .int cj, .int ck, .ref kl, .int cm, .int cn, .ref ko])), (k0, .inl (cI, 1201, .inl c0))] := hD
                      have lo_scd_74 := k_lo scd_74
                      have hi_scd_74 := k_hi scd_74
                      have lo_scg_76 := k_lo scg_76
                      have hi_scg_76 := k_hi scg_76
                      obtain ⟨h_78, h_79, h_80⟩ := w_73
                      have h_78 : v_71.toInt ≤ scd_74.toInt := h_78
                      have h_79 : scd_74.toInt ≤ ce.toInt := h_79
                      have h_80 : scg_76.toInt = 1 := h_80
                      have lo_r_72 := k_lo r_72
                      have hi_r_72 := k_hi r_72
                      refine lv_istore_n (lv' := [(3, .int r_72), (2, .int 1), (1, .int l5_1), (0, .ref k)]) hx hb dX11_sum_59 rfl hl (by decide) rfl ?_
                      clear hl
                      intro ls hl
                      refine lv_iload_n hx hb dX11_sum_60 rfl (lv_at hl 1 rfl) ?_
                      refine b_if_eq hx hb zl_1 (tgt := 70) dX11_sum_61 (by decide) (fun c_81 => by exfalso; omega) (fun c_81 => ?_)
                      refine lv_iload_n hx hb dX11_sum_64 rfl (lv_at hl 2 rfl) ?_
                      refine lv_iload_n hx hb dX11_sum_65 rfl (lv_at hl 0 rfl) ?_
                      refine lv_iadd hx hb dX11_sum_66 ?_
                      refine lv_topi (fun v_82 ev_82 => ?_)
                      have lo_v_82 := k_lo v_82
                      have hi_v_82 := k_hi v_82
                      refine lv_goto (tgt := 73) hx hb dX11_sum_67 (by decide) ?_
                      refine lv_istore_n (lv' := [(1, .int v_82), (3, .int r_72), (2, .int 1), (0, .ref k)]) hx hb dX11_sum_73 rfl hl (by decide) rfl ?_
                      clear hl
                      intro ls hl
                      refine lv_goto (tgt := 5) hx hb dX11_sum_74 (by decide) ?_
                      exact ih5 v_82 scd_74 scf_75 scg_76 (by first | omega | decide | assumption | rfl) (by first | omega | decide | assumption | rfl) (by first | omega | decide | assumption | rfl) (by first | omega | decide | assumption | rfl) (by omega) ls _ _ (lv_sub hl [0, 3] rfl) (hP.sub [0, 1] rfl) (hD.sub [0, 1] (by decide) rfl) hS
                  · exfalso; omega
              · exfalso; omega
          · have h_15 : f5_kd.toInt = ce.toInt := h_15
            obtain rfl : r_11 = (-1) := hr_11.trans (by decide)
            refine lv_bipush (v := 43) hx hb dX11_sum_16 (by decide) ?_
            refine b_icmp_eq hx hb zl_m1 zl_43 (tgt := 30) dX11_sum_18 (by decide) (fun c_83 => by exfalso; omega) (fun c_83 => ?_)
            refine lv_aload_n hx hb dX11_sum_21 rfl (lv_at hl 1 rfl) ?_
            refine kJi (wr := []) (va_runV (As := []) (rest := []) ⟨hx, hb, hml, hown, hT⟩ (c_X11_nowG l D cI aK aV k k0 k1 k2 k4 k5 k6 k7 k8 ka kb kl ko H.size c3 c9 cc f5_kd ce f5_kf f5_kg ch ci cj ck cm cn c0 (by first | omega | decide | assumption | rfl) (by first | omega | decide | assumption | rfl) (by first | omega | decide | assumption | rfl) (by first | omega | decide | assumption | rfl) (by first | omega | decide | assumption | rfl)) (cwV 0 hT (gV_in mw_1339 mw_1336 mw_1338 mw_p4_9 mw_12) rfl rfl rfl (by decide +kernel) ⟨Nat.le_of_ble_eq_true rfl, Nat.le_of_ble_eq_true rfl⟩) (kRecvX (q0 := 0) (ci := 11) hK hP hD hN hXS hS hA rfl rfl [0, 1] rfl (by decide)) rfl rfl hl.1 rfl (lv_room (Nat.le_of_ble_eq_true rfl)) dX11_sum_22 ⟨Nat.le_of_ble_eq_true rfl, Nat.le_of_ble_eq_true rfl⟩) hP hD hS hA [0, 1] [] rfl rfl (by decide) (by decide) ?_
            clear hP hD hS
            intro r_84 u_86 H locs w_85 hP hD hS
            replace hP : va_P D vwCl [(k, .inr (11, [.ref k0, .ref k1, .ref k2, .int c3, .ref k4, .ref k5, .ref k6, .ref k7, .ref k8, .int c9, .ref ka, .ref kb, .int cc, .int f5_kd, .int ce, .int f5_kf, .int f5_kg, .int ch, .int ci, .int cj, .int ck, .ref kl, .int cm, .int cn, .ref ko])), (k0, .inl (cI, 1201, .inl c0))] H := hP
            replace hD : va_D A [(k, .inr (11, [.ref k0, .ref k1, .ref k2, .int c3, .ref k4, .ref k5, .ref k6, .ref k7, .ref k8, .int c9, .ref ka, .ref kb, .int cc, .int f5_kd, .int ce, .int f5_kf, .int f5_kg, .int ch, .int ci, .int cj, .int ck, .ref kl, .int cm, .int cn, .ref ko])), (k0, .inl (cI, 1201, .inl c0))] := hD
            rcases w_85 with h_87 | ⟨hr_84, h_88⟩
            · exfalso; omega
            · have h_88 : f5_kd.toInt = ce.toInt := h_88
              obtain rfl : r_84 = (-1) := hr_84.trans (by decide)
              refine lv_bipush (v := 45) hx hb dX11_sum_25 (by decide) ?_
              refine b_icmp_ne hx hb zl_m1 zl_45 (tgt := 77) dX11_sum_27 (by decide) (fun c_89 => ?_) (fun c_89 => by exfalso; omega)
              refine lv_iload_n hx hb dX11_sum_77 rfl (lv_at hl 0 rfl) ?_
              exact hRet (f5_kd, f5_kf, f5_kg) [0, 1] ⟨(by first | omega | decide | assumption | rfl | (dsimp only; first | omega)), (by first | omega | decide | assumption | rfl | (dsimp only; first | omega)), (by first | omega | decide | assumption | rfl | (dsimp only; first | omega))⟩ hP hD (by decide) rfl hS rfl dX11_sum_78
  exact hloop_5 _ r_1 scd_3 scf_4 scg_5 (by first | omega | decide | assumption | rfl) (by first | omega | decide | assumption | rfl) (by first | omega | decide | assumption | rfl) (by first | omega | decide | assumption | rfl) (Nat.lt_succ_self _) ls _ _ (lv_sub hl [0, 1] rfl) hP hD hS

set_option maxHeartbeats 4000000 in
set_option maxRecDepth 100000 in
theorem c_X11_testG1 (l : Launch) (D : va_G) (cI : ClassId) (aK aV : Nat → Nat) (k k0 k1 k2 k4 k5 k6 k7 k8 ka kb kl ko : Nat) (sz : Nat) (c3 : Int32) (c9 : Int32) (cc : Int32) (cd : Int32) (ce : Int32) (cf : Int32) (cg : Int32) (ch : Int32) (ci : Int32) (cj : Int32) (ck : Int32) (cm : Int32) (cn : Int32) (c0 : Nat → Int32) (pre0 : 0 ≤ cc.toInt) (pre1 : cc.toInt ≤ 1151) (pre2 : 0 ≤ cd.toInt) (pre3 : cd.toInt ≤ ce.toInt) (pre4 : ce.toInt ≤ 50) (pre5 : cg.toInt = 1) : Met l yX11_test (gW yX11_test cX11_test 4 (some .int)) ({ frames := 22, cells := 0, slots := 0, locals := 499 } : Room) (kPreX D cI aK aV [.ref k] [(k, .inr (11, [.ref k0, .ref k1, .ref k2, .int c3, .ref k4, .ref k5, .ref k6, .ref k7, .ref k8, .int c9, .ref ka, .ref kb, .int cc, .int cd, .int ce, .int cf, .int cg, .int ch, .int ci, .int cj, .int ck, .ref kl, .int cm, .int cn, .ref ko])), (k0, .inl (cI, 1201, .inl c0))] sz) (va_Qi (fun (r : Int32) (u : Int32 × Int32 × Int32) => cd.toInt ≤ u.1.toInt ∧ u.1.toInt ≤ ce.toInt ∧ u.2.2.toInt = 1) (fun u t => kWd D cI (va_A [(k, .inr (11, [.ref k0, .ref k1, .ref k2, .int c3, .ref k4, .ref k5, .ref k6, .ref k7, .ref k8, .int c9, .ref ka, .ref kb, .int cc, .int cd, .int ce, .int cf, .int cg, .int ch, .int ci, .int cj, .int ck, .ref kl, .int cm, .int cn, .ref ko])), (k0, .inl (cI, 1201, .inl c0))] sz) [(k, .inr (11, [.ref k0, .ref k1, .ref k2, .int c3, .ref k4, .ref k5, .ref k6, .ref k7, .ref k8, .int c9, .ref ka, .ref kb, .int cc, .int u.1, .int ce, .int u.2.1, .int u.2.2, .int ch, .int ci, .int cj, .int ck, .ref kl, .int cm, .int cn, .ref ko])), (k0, .inl (cI, 1201, .inl c0))] t) (va_A [(k, .inr (11, [.ref k0, .ref k1, .ref k2, .int c3, .ref k4, .ref k5, .ref k6, .ref k7, .ref k8, .int c9, .ref ka, .ref kb, .int cc, .int cd, .int ce, .int cf, .int cg, .int ch, .int ci, .int cj, .int ck, .ref kl, .int cm, .int cn, .ref ko])), (k0, .inl (cI, 1201, .inl c0))] sz)) 0 0 (va_A [(k, .inr (11, [.ref k0, .ref k1, .ref k2, .int c3, .ref k4, .ref k5, .ref k6, .ref k7, .ref k8, .int c9, .ref ka, .ref kb, .int cc, .int cd, .int ce, .int cf, .int cg, .int ch, .int ci, .int cj, .int ck, .ref kl, .int cm, .int cn, .ref ko])), (k0, .inl (cI, 1201, .inl c0))] sz) := by
  refine kMetIX (own := RX11) (by decide) rfl (Nat.le_of_ble_eq_true rfl) ?_
  intro p e s m args below meth c hx hb hT hown hname hml A Q hK hP hD hS hA hN hXS hRet ls hl
  have hl : lv_has ls 4 [(0, .ref k)] := hl
  have lo_cd := k_lo cd
  have hi_cd := k_hi cd
  have lo_ce := k_lo ce
  have hi_ce := k_hi ce
  have lo_ci := k_lo ci
  have hi_ci := k_hi ci
  refine lv_aload_n hx hb dX11_test_0 rfl (lv_at hl 0 rfl) ?_
  refine kJi (wr := []) (va_runV (As := []) (rest := []) ⟨hx, hb, hml, hown, hT⟩ (c_X11_sumG1 l D cI aK aV k k0 k1 k2 k4 k5 k6 k7 k8 ka kb kl ko s.heap.size c3 c9 cc cd ce cf cg ch ci cj ck cm cn c0 (by first | omega | decide | assumption | rfl) (by first | omega | decide | assumption | rfl) (by first | omega | decide | assumption | rfl) (by first | omega | decide | assumption | rfl) (by first | omega | decide | assumption | rfl) (by first | omega | decide | assumption | rfl)) (cwV 0 hT (gV_in mw_1327 mw_1324 mw_1326 mw_p4_6 mw_12) rfl rfl rfl (by decide +kernel) ⟨Nat.le_of_ble_eq_true rfl, Nat.le_of_ble_eq_true rfl⟩) (kRecvX (q0 := 0) (ci := 11) hK hP hD hN hXS hS hA rfl rfl [0, 1] rfl (by decide)) rfl rfl hl.1 rfl (lv_room (Nat.le_of_ble_eq_true rfl)) dX11_test_1 ⟨Nat.le_of_ble_eq_true rfl, Nat.le_of_ble_eq_true rfl⟩) hP hD hS hA [0, 1] [] rfl rfl (by decide) (by decide) ?_
  clear hP hD hS
  intro r_1 u_6 H locs w_2 hP hD hS
  obtain ⟨scd_3, scf_4, scg_5⟩ := u_6
  replace hP : va_P D vwCl [(k, .inr (11, [.ref k0, .ref k1, .ref k2, .int c3, .ref k4, .ref k5, .ref k6, .ref k7, .ref k8, .int c9, .ref ka, .ref kb, .int cc, .int scd_3, .int ce, .int scf_4, .int scg_5, .int ch, .int ci, .int cj, .int ck, .ref kl, .int cm, .int cn, .ref ko])), (k0, .inl (cI, 1201, .inl c0))] H := hP
  replace hD : va_D A [(k, .inr (11, [.ref k0, .ref k1, .ref k2, .int c3, .ref k4, .ref k5, .ref k6, .ref k7, .ref k8, .int c9, .ref ka, .ref kb, .int cc, .int scd_3, .int ce, .int scf_4, .int scg_5, .int ch, .int ci, .int cj, .int ck, .ref kl, .int cm, .int cn, .ref ko])), (k0, .inl (cI, 1201, .inl c0))] := hD
  have lo_scd_3 := k_lo scd_3
  have hi_scd_3 := k_hi scd_3
  have lo_scf_4 := k_lo scf_4
  have hi_scf_4 := k_hi scf_4
  have lo_scg_5 := k_lo scg_5
  have hi_scg_5 := k_hi scg_5
  obtain ⟨h_7, h_8, h_9⟩ := w_2
  have h_7 : cd.toInt ≤ scd_3.toInt := h_7
  have h_8 : scd_3.toInt ≤ ce.toInt := h_8
  have h_9 : scg_5.toInt = 1 := h_9
  have lo_r_1 := k_lo r_1
  have hi_r_1 := k_hi r_1
  refine lv_istore_n (lv' := [(1, .int r_1), (0, .ref k)]) hx hb dX11_test_4 rfl hl (by decide) rfl ?_
  clear hl
  intro ls hl
  refine lv_aload_n hx hb dX11_test_5 rfl (lv_at hl 1 rfl) ?_
  refine kJi (wr := []) (va_runV (As := []) (rest := []) ⟨hx, hb, hml, hown, hT⟩ (c_X11_nowG l D cI aK aV k k0 k1 k2 k4 k5 k6 k7 k8 ka kb kl ko H.size c3 c9 cc scd_3 ce scf_4 scg_5 ch ci cj ck cm cn c0 (by first | omega | decide | assumption | rfl) (by first | omega | decide | assumption | rfl) (by first | omega | decide | assumption | rfl) (by first | omega | decide | assumption | rfl) (by first | omega | decide | assumption | rfl)) (cwV 0 hT (gV_in mw_1339 mw_1336 mw_1338 mw_p4_9 mw_12) rfl rfl rfl (by decide +kernel) ⟨Nat.le_of_ble_eq_true rfl, Nat.le_of_ble_eq_true rfl⟩) (kRecvX (q0 := 0) (ci := 11) hK hP hD hN hXS hS hA rfl rfl [0, 1] rfl (by decide)) rfl rfl hl.1 rfl (lv_room (Nat.le_of_ble_eq_true rfl)) dX11_test_6 ⟨Nat.le_of_ble_eq_true rfl, Nat.le_of_ble_eq_true rfl⟩) hP hD hS hA [0, 1] [] rfl rfl (by decide) (by decide) ?_
  clear hP hD hS
  intro r_10 u_12 H locs w_11 hP hD hS
  replace hP : va_P D vwCl [(k, .inr (11, [.ref k0, .ref k1, .ref k2, .int c3, .ref k4, .ref k5, .ref k6, .ref k7, .ref k8, .int c9, .ref ka, .ref kb, .int cc, .int scd_3, .int ce, .int scf_4, .int scg_5, .int ch, .int ci, .int cj, .int ck, .ref kl, .int cm, .int cn, .ref ko])), (k0, .inl (cI, 1201, .inl c0))] H := hP
  replace hD : va_D A [(k, .inr (11, [.ref k0, .ref k1, .ref k2, .int c3, .ref k4, .ref k5, .ref k6, .ref k7, .ref k8, .int c9, .ref ka, .ref kb, .int cc, .int scd_3, .int ce, .int scf_4, .int scg_5, .int ch, .int ci, .int cj, .int ck, .ref kl, .int cm, .int cn, .ref ko])), (k0, .inl (cI, 1201, .inl c0))] := hD
  rcases w_11 with h_13 | ⟨hr_10, h_14⟩
  · have h_13 : scd_3.toInt < ce.toInt := h_13
    have lo_r_10 := k_lo r_10
    have hi_r_10 := k_hi r_10
    refine lv_istore_n (lv' := [(2, .int r_10), (1, .int r_1), (0, .ref k)]) hx hb dX11_test_9 rfl hl (by decide) rfl ?_
    clear hl
    intro ls hl
    refine lv_aload_n hx hb dX11_test_10 rfl (lv_at hl 2 rfl) ?_
    refine va_get (D := D) (ci := 11) (v := .int scf_4) (C := RX11) (T := TX11) (N := 25) hx hb hT giX11 hown hK hP 0 rfl rfl 15 (by decide) (hT (Cond.fieldLink RX11 148 "DesertWireModel" "isWrong" "Z") mw_1171) (fun _ h9 => h9) rfl dX11_test_11 ?_
    refine b_if_ne hx hb rfl (tgt := 35) dX11_test_14 (by decide) (fun c_15 => ?_) (fun c_15 => ?_)
    · refine lv_iload_n hx hb dX11_test_35 rfl (lv_at hl 1 rfl) ?_
      exact hRet (scd_3, scf_4, scg_5) [0, 1] ⟨(by first | omega | decide | assumption | rfl | (dsimp only; first | omega)), (by first | omega | decide | assumption | rfl | (dsimp only; first | omega)), (by first | omega | decide | assumption | rfl | (dsimp only; first | omega))⟩ hP hD (by decide) rfl hS rfl dX11_test_36
    · refine lv_iload_n hx hb dX11_test_17 rfl (lv_at hl 0 rfl) ?_
      refine lv_bipush (v := 60) hx hb dX11_test_18 (by decide) ?_
      refine b_icmp_eq hx hb rfl zl_60 (tgt := 37) dX11_test_20 (by decide) (fun c_16 => ?_) (fun c_16 => ?_)
      · refine lv_aload_n hx hb dX11_test_37 rfl (lv_at hl 2 rfl) ?_
        refine lv_dup hx hb dX11_test_38 rfl ?_
        refine va_get (D := D) (ci := 11) (v := .int scd_3) (C := RX11) (T := TX11) (N := 25) hx hb hT giX11 hown hK hP 0 rfl rfl 13 (by decide) (hT (Cond.fieldLink RX11 138 "DesertWireModel" "here" "I") mw_1169) (fun _ h9 => h9) rfl dX11_test_39 ?_
        refine lv_iconst (v := 1) hx hb dX11_test_42 (by decide) ?_
        refine lv_iadd hx hb dX11_test_43 ?_
        refine lv_topi (fun v_17 ev_17 => ?_)
        have tv_17 : v_17.toInt = scd_3.toInt + 1 := by rw [ev_17]; exact k_addv rfl zl_1 (by omega) (by omega)
        refine va_put (D := D) (ci := 11) (v := .int v_17) (ty := .int) (C := RX11) (T := TX11) (N := 25) hx hb hT giX11 tyX11 tyX11_ok nmX11 hown hK hP hD hS 0 rfl rfl 13 (by decide) (hT (Cond.fieldLink RX11 138 "DesertWireModel" "here" "I") mw_1169) (fun _ h9 => h9) rfl (by decide +kernel) rfl rfl (Nat.le_of_ble_eq_true rfl) dX11_test_44 ?_
        clear hP hD hS
        intro H locs hP hD hS
        replace hP : va_P D vwCl [(k, .inr (11, [.ref k0, .ref k1, .ref k2, .int c3, .ref k4, .ref k5, .ref k6, .ref k7, .ref k8, .int c9, .ref ka, .ref kb, .int cc, .int v_17, .int ce, .int scf_4, .int scg_5, .int ch, .int ci, .int cj, .int ck, .ref kl, .int cm, .int cn, .ref ko])), (k0, .inl (cI, 1201, .inl c0))] H := hP
        replace hD : va_D A [(k, .inr (11, [.ref k0, .ref k1, .ref k2, .int c3, .ref k4, .ref k5, .ref k6, .ref k7, .ref k8, .int c9, .ref ka, .ref kb, .int cc, .int v_17, .int ce, .int scf_4, .int scg_5, .int ch, .int ci, .int cj, .int ck, .ref kl, .int cm, .int cn, .ref ko])), (k0, .inl (cI, 1201, .inl c0))] := hD
        refine lv_aload_n hx hb dX11_test_47 rfl (lv_at hl 2 rfl) ?_
        refine kJi (wr := []) (va_runV (As := []) (rest := []) ⟨hx, hb, hml, hown, hT⟩ (c_X11_sumG1 l D cI aK aV k k0 k1 k2 k4 k5 k6 k7 k8 ka kb kl ko H.size c3 c9 cc v_17 ce scf_4 scg_5 ch ci cj ck cm cn c0 (by first | omega | decide | assumption | rfl) (by first | omega | decide | assumption | rfl) (by first | omega | decide | assumption | rfl) (by first | omega | decide | assumption | rfl) (by first | omega | decide | assumption | rfl) (by first | omega | decide | assumption | rfl)) (cwV 0 hT (gV_in mw_1327 mw_1324 mw_1326 mw_p4_6 mw_12) rfl rfl rfl (by decide +kernel) ⟨Nat.le_of_ble_eq_true rfl, Nat.le_of_ble_eq_true rfl⟩) (kRecvX (q0 := 0) (ci := 11) hK hP hD hN hXS hS hA rfl rfl [0, 1] rfl (by decide)) rfl rfl hl.1 rfl (lv_room (Nat.le_of_ble_eq_true rfl)) dX11_test_48 ⟨Nat.le_of_ble_eq_true rfl, Nat.le_of_ble_eq_true rfl⟩) hP hD hS hA [0, 1] [] rfl rfl (by decide) (by decide) ?_
        clear hP hD hS
        intro r_18 u_23 H locs w_19 hP hD hS
        obtain ⟨scd_20, scf_21, scg_22⟩ := u_23
        replace hP : va_P D vwCl [(k, .inr (11, [.ref k0, .ref k1, .ref k2, .int c3, .ref k4, .ref k5, .ref k6, .ref k7, .ref k8, .int c9, .ref ka, .ref kb, .int cc, .int scd_20, .int ce, .int scf_21, .int scg_22, .int ch, .int ci, .int cj, .int ck, .ref kl, .int cm, .int cn, .ref ko])), (k0, .inl (cI, 1201, .inl c0))] H := hP
        replace hD : va_D A [(k, .inr (11, [.ref k0, .ref k1, .ref k2, .int c3, .ref k4, .ref k5, .ref k6, .ref k7, .ref k8, .int c9, .ref ka, .ref kb, .int cc, .int scd_20, .int ce, .int scf_21, .int scg_22, .int ch, .int ci, .int cj, .int ck, .ref kl, .int cm, .int cn, .ref ko])), (k0, .inl (cI, 1201, .inl c0))] := hD
        have lo_scd_20 := k_lo scd_20
        have hi_scd_20 := k_hi scd_20
        have lo_scg_22 := k_lo scg_22
        have hi_scg_22 := k_hi scg_22
        obtain ⟨h_24, h_25, h_26⟩ := w_19
        have h_24 : v_17.toInt ≤ scd_20.toInt := h_24
        have h_25 : scd_20.toInt ≤ ce.toInt := h_25
        have h_26 : scg_22.toInt = 1 := h_26
        have lo_r_18 := k_lo r_18
        have hi_r_18 := k_hi r_18
        refine lv_istore_n (lv' := [(3, .int r_18), (2, .int r_10), (1, .int r_1), (0, .ref k)]) hx hb dX11_test_51 rfl hl (by decide) rfl ?_
        clear hl
        intro ls hl
        refine lv_iload_n hx hb dX11_test_52 rfl (lv_at hl 1 rfl) ?_
        refine lv_bipush (v := 60) hx hb dX11_test_53 (by decide) ?_
        refine b_icmp_ne hx hb rfl zl_60 (tgt := 66) dX11_test_55 (by decide) (fun c_27 => by exfalso; omega) (fun c_27 => ?_)
        refine lv_iload_n hx hb dX11_test_58 rfl (lv_at hl 2 rfl) ?_
        refine lv_iload_n hx hb dX11_test_59 rfl (lv_at hl 0 rfl) ?_
        refine b_icmp_ge hx hb rfl rfl (tgt := 89) dX11_test_60 (by decide) (fun c_28 => ?_) (fun c_28 => ?_)
        · refine lv_iconst (v := 0) hx hb dX11_test_89 (by decide) ?_
          exact hRet (scd_20, scf_21, scg_22) [0, 1] ⟨(by first | omega | (simp only [zl_0] <;> omega) | decide | assumption | rfl | (dsimp only; first | omega | (simp only [zl_0] <;> omega))), (by first | omega | (simp only [zl_0] <;> omega) | decide | assumption | rfl | (dsimp only; first | omega | (simp only [zl_0] <;> omega))), (by first | omega | (simp only [zl_0] <;> omega) | decide | assumption | rfl | (dsimp only; first | omega | (simp only [zl_0] <;> omega)))⟩ hP hD (by decide) rfl hS rfl dX11_test_90
        · refine lv_goto (tgt := 85) hx hb dX11_test_63 (by decide) ?_
          refine lv_iconst (v := 1) hx hb dX11_test_85 (by decide) ?_
          refine lv_goto (tgt := 90) hx hb dX11_test_86 (by decide) ?_
          exact hRet (scd_20, scf_21, scg_22) [0, 1] ⟨(by first | omega | (simp only [zl_1] <;> omega) | decide | assumption | rfl | (dsimp only; first | omega | (simp only [zl_1] <;> omega))), (by first | omega | (simp only [zl_1] <;> omega) | decide | assumption | rfl | (dsimp only; first | omega | (simp only [zl_1] <;> omega))), (by first | omega | (simp only [zl_1] <;> omega) | decide | assumption | rfl | (dsimp only; first | omega | (simp only [zl_1] <;> omega)))⟩ hP hD (by decide) rfl hS rfl dX11_test_90
      · refine lv_iload_n hx hb dX11_test_23 rfl (lv_at hl 0 rfl) ?_
        refine lv_bipush (v := 61) hx hb dX11_test_24 (by decide) ?_
        refine b_icmp_eq hx hb rfl zl_61 (tgt := 37) dX11_test_26 (by decide) (fun c_29 => ?_) (fun c_29 => ?_)
        · refine lv_aload_n hx hb dX11_test_37 rfl (lv_at hl 2 rfl) ?_
          refine lv_dup hx hb dX11_test_38 rfl ?_
          refine va_get (D := D) (ci := 11) (v := .int scd_3) (C := RX11) (T := TX11) (N := 25) hx hb hT giX11 hown hK hP 0 rfl rfl 13 (by decide) (hT (Cond.fieldLink RX11 138 "DesertWireModel" "here" "I") mw_1169) (fun _ h9 => h9) rfl dX11_test_39 ?_
          refine lv_iconst (v := 1) hx hb dX11_test_42 (by decide) ?_
          refine lv_iadd hx hb dX11_test_43 ?_
          refine lv_topi (fun v_30 ev_30 => ?_)
          have tv_30 : v_30.toInt = scd_3.toInt + 1 := by rw [ev_30]; exact k_addv rfl zl_1 (by omega) (by omega)
          refine va_put (D := D) (ci := 11) (v := .int v_30) (ty := .int) (C := RX11) (T := TX11) (N := 25) hx hb hT giX11 tyX11 tyX11_ok nmX11 hown hK hP hD hS 0 rfl rfl 13 (by decide) (hT (Cond.fieldLink RX11 138 "DesertWireModel" "here" "I") mw_1169) (fun _ h9 => h9) rfl (by decide +kernel) rfl rfl (Nat.le_of_ble_eq_true rfl) dX11_test_44 ?_
          clear hP hD hS
          intro H locs hP hD hS
          replace hP : va_P D vwCl [(k, .inr (11, [.ref k0, .ref k1, .ref k2, .int c3, .ref k4, .ref k5, .ref k6, .ref k7, .ref k8, .int c9, .ref ka, .ref kb, .int cc, .int v_30, .int ce, .int scf_4, .int scg_5, .int ch, .int ci, .int cj, .int ck, .ref kl, .int cm, .int cn, .ref ko])), (k0, .inl (cI, 1201, .inl c0))] H := hP
          replace hD : va_D A [(k, .inr (11, [.ref k0, .ref k1, .ref k2, .int c3, .ref k4, .ref k5, .ref k6, .ref k7, .ref k8, .int c9, .ref ka, .ref kb, .int cc, .int v_30, .int ce, .int scf_4, .int scg_5, .int ch, .int ci, .int cj, .int ck, .ref kl, .int cm, .int cn, .ref ko])), (k0, .inl (cI, 1201, .inl c0))] := hD
          refine lv_aload_n hx hb dX11_test_47 rfl (lv_at hl 2 rfl) ?_
          refine kJi (wr := []) (va_runV (As := []) (rest := []) ⟨hx, hb, hml, hown, hT⟩ (c_X11_sumG1 l D cI aK aV k k0 k1 k2 k4 k5 k6 k7 k8 ka kb kl ko H.size c3 c9 cc v_30 ce scf_4 scg_5 ch ci cj ck cm cn c0 (by first | omega | decide | assumption | rfl) (by first | omega | decide | assumption | rfl) (by first | omega | decide | assumption | rfl) (by first | omega | decide | assumption | rfl) (by first | omega | decide | assumption | rfl) (by first | omega | decide | assumption | rfl)) (cwV 0 hT (gV_in mw_1327 mw_1324 mw_1326 mw_p4_6 mw_12) rfl rfl rfl (by decide +kernel) ⟨Nat.le_of_ble_eq_true rfl, Nat.le_of_ble_eq_true rfl⟩) (kRecvX (q0 := 0) (ci := 11) hK hP hD hN hXS hS hA rfl rfl [0, 1] rfl (by decide)) rfl rfl hl.1 rfl (lv_room (Nat.le_of_ble_eq_true rfl)) dX11_test_48 ⟨Nat.le_of_ble_eq_true rfl, Nat.le_of_ble_eq_true rfl⟩) hP hD hS hA [0, 1] [] rfl rfl (by decide) (by decide) ?_
          clear hP hD hS
          intro r_31 u_36 H locs w_32 hP hD hS
          obtain ⟨scd_33, scf_34, scg_35⟩ := u_36
          replace hP : va_P D vwCl [(k, .inr (11, [.ref k0, .ref k1, .ref k2, .int c3, .ref k4, .ref k5, .ref k6, .ref k7, .ref k8, .int c9, .ref ka, .ref kb, .int cc, .int scd_33, .int ce, .int scf_34, .int scg_35, .int ch, .int ci, .int cj, .int ck, .ref kl, .int cm, .int cn, .ref ko])), (k0, .inl (cI, 1201, .inl c0))] H := hP
          replace hD : va_D A [(k, .inr (11, [.ref k0, .ref k1, .ref k2, .int c3, .ref k4, .ref k5, .ref k6, .ref k7, .ref k8, .int c9, .ref ka, .ref kb, .int cc, .int scd_33, .int ce, .int scf_34, .int scg_35, .int ch, .int ci, .int cj, .int ck, .ref kl, .int cm, .int cn, .ref ko])), (k0, .inl (cI, 1201, .inl c0))] := hD
          have lo_scd_33 := k_lo scd_33
          have hi_scd_33 := k_hi scd_33
          have lo_scg_35 := k_lo scg_35
          have hi_scg_35 := k_hi scg_35
          obtain ⟨h_37, h_38, h_39⟩ := w_32
          have h_37 : v_30.toInt ≤ scd_33.toInt := h_37
          have h_38 : scd_33.toInt ≤ ce.toInt := h_38
          have h_39 : scg_35.toInt = 1 := h_39
          have lo_r_31 := k_lo r_31
          have hi_r_31 := k_hi r_31
          refine lv_istore_n (lv' := [(3, .int r_31), (2, .int r_10), (1, .int r_1), (0, .ref k)]) hx hb dX11_test_51 rfl hl (by decide) rfl ?_
          clear hl
          intro ls hl
          refine lv_iload_n hx hb dX11_test_52 rfl (lv_at hl 1 rfl) ?_
          refine lv_bipush (v := 60) hx hb dX11_test_53 (by decide) ?_
          refine b_icmp_ne hx hb rfl zl_60 (tgt := 66) dX11_test_55 (by decide) (fun c_40 => ?_) (fun c_40 => by exfalso; omega)
          refine lv_iload_n hx hb dX11_test_66 rfl (lv_at hl 1 rfl) ?_
          refine lv_bipush (v := 62) hx hb dX11_test_67 (by decide) ?_
          refine b_icmp_ne hx hb rfl zl_62 (tgt := 80) dX11_test_69 (by decide) (fun c_41 => ?_) (fun c_41 => by exfalso; omega)
          refine lv_iload_n hx hb dX11_test_80 rfl (lv_at hl 2 rfl) ?_
          refine lv_iload_n hx hb dX11_test_81 rfl (lv_at hl 0 rfl) ?_
          refine b_icmp_ne hx hb rfl rfl (tgt := 89) dX11_test_82 (by decide) (fun c_42 => ?_) (fun c_42 => ?_)
          · refine lv_iconst (v := 0) hx hb dX11_test_89 (by decide) ?_
            exact hRet (scd_33, scf_34, scg_35) [0, 1] ⟨(by first | omega | (simp only [zl_0] <;> omega) | decide | assumption | rfl | (dsimp only; first | omega | (simp only [zl_0] <;> omega))), (by first | omega | (simp only [zl_0] <;> omega) | decide | assumption | rfl | (dsimp only; first | omega | (simp only [zl_0] <;> omega))), (by first | omega | (simp only [zl_0] <;> omega) | decide | assumption | rfl | (dsimp only; first | omega | (simp only [zl_0] <;> omega)))⟩ hP hD (by decide) rfl hS rfl dX11_test_90
          · refine lv_iconst (v := 1) hx hb dX11_test_85 (by decide) ?_
            refine lv_goto (tgt := 90) hx hb dX11_test_86 (by decide) ?_
            exact hRet (scd_33, scf_34, scg_35) [0, 1] ⟨(by first | omega | (simp only [zl_1] <;> omega) | decide | assumption | rfl | (dsimp only; first | omega | (simp only [zl_1] <;> omega))), (by first | omega | (simp only [zl_1] <;> omega) | decide | assumption | rfl | (dsimp only; first | omega | (simp only [zl_1] <;> omega))), (by first | omega | (simp only [zl_1] <;> omega) | decide | assumption | rfl | (dsimp only; first | omega | (simp only [zl_1] <;> omega)))⟩ hP hD (by decide) rfl hS rfl dX11_test_90
        · refine lv_iload_n hx hb dX11_test_29 rfl (lv_at hl 0 rfl) ?_
          refine lv_bipush (v := 62) hx hb dX11_test_30 (by decide) ?_
          refine b_icmp_eq hx hb rfl zl_62 (tgt := 37) dX11_test_32 (by decide) (fun c_43 => ?_) (fun c_43 => ?_)
          · refine lv_aload_n hx hb dX11_test_37 rfl (lv_at hl 2 rfl) ?_
            refine lv_dup hx hb dX11_test_38 rfl ?_
            refine va_get (D := D) (ci := 11) (v := .int scd_3) (C := RX11) (T := TX11) (N := 25) hx hb hT giX11 hown hK hP 0 rfl rfl 13 (by decide) (hT (Cond.fieldLink RX11 138 "DesertWireModel" "here" "I") mw_1169) (fun _ h9 => h9) rfl dX11_test_39 ?_
            refine lv_iconst (v := 1) hx hb dX11_test_42 (by decide) ?_
            refine lv_iadd hx hb dX11_test_43 ?_
            refine lv_topi (fun v_44 ev_44 => ?_)
            have tv_44 : v_44.toInt = scd_3.toInt + 1 := by rw [ev_44]; exact k_addv rfl zl_1 (by omega) (by omega)
            refine va_put (D := D) (ci := 11) (v := .int v_44) (ty := .int) (C := RX11) (T := TX11) (N := 25) hx hb hT giX11 tyX11 tyX11_ok nmX11 hown hK hP hD hS 0 rfl rfl 13 (by decide) (hT (Cond.fieldLink RX11 138 "DesertWireModel" "here" "I") mw_1169) (fun _ h9 => h9) rfl (by decide +kernel) rfl rfl (Nat.le_of_ble_eq_true rfl) dX11_test_44 ?_
            clear hP hD hS
            intro H locs hP hD hS
            replace hP : va_P D vwCl [(k, .inr (11, [.ref k0, .ref k1, .ref k2, .int c3, .ref k4, .ref k5, .ref k6, .ref k7, .ref k8, .int c9, .ref ka, .ref kb, .int cc, .int v_44, .int ce, .int scf_4, .int scg_5, .int ch, .int ci, .int cj, .int ck, .ref kl, .int cm, .int cn, .ref ko])), (k0, .inl (cI, 1201, .inl c0))] H := hP
            replace hD : va_D A [(k, .inr (11, [.ref k0, .ref k1, .ref k2, .int c3, .ref k4, .ref k5, .ref k6, .ref k7, .ref k8, .int c9, .ref ka, .ref kb, .int cc, .int v_44, .int ce, .int scf_4, .int scg_5, .int ch, .int ci, .int cj, .int ck, .ref kl, .int cm, .int cn, .ref ko])), (k0, .inl (cI, 1201, .inl c0))] := hD
            refine lv_aload_n hx hb dX11_test_47 rfl (lv_at hl 2 rfl) ?_
            refine kJi (wr := []) (va_runV (As := []) (rest := []) ⟨hx, hb, hml, hown, hT⟩ (c_X11_sumG1 l D cI aK aV k k0 k1 k2 k4 k5 k6 k7 k8 ka kb kl ko H.size c3 c9 cc v_44 ce scf_4 scg_5 ch ci cj ck cm cn c0 (by first | omega | decide | assumption | rfl) (by first | omega | decide | assumption | rfl) (by first | omega | decide | assumption | rfl) (by first | omega | decide | assumption | rfl) (by first | omega | decide | assumption | rfl) (by first | omega | decide | assumption | rfl)) (cwV 0 hT (gV_in mw_1327 mw_1324 mw_1326 mw_p4_6 mw_12) rfl rfl rfl (by decide +kernel) ⟨Nat.le_of_ble_eq_true rfl, Nat.le_of_ble_eq_true rfl⟩) (kRecvX (q0 := 0) (ci := 11) hK hP hD hN hXS hS hA rfl rfl [0, 1] rfl (by decide)) rfl rfl hl.1 rfl (lv_room (Nat.le_of_ble_eq_true rfl)) dX11_test_48 ⟨Nat.le_of_ble_eq_true rfl, Nat.le_of_ble_eq_true rfl⟩) hP hD hS hA [0, 1] [] rfl rfl (by decide) (by decide) ?_
            clear hP hD hS
            intro r_45 u_50 H locs w_46 hP hD hS
            obtain ⟨scd_47, scf_48, scg_49⟩ := u_50
            replace hP : va_P D vwCl [(k, .inr (11, [.ref k0, .ref k1, .ref k2, .int c3, .ref k4, .ref k5, .ref k6, .ref k7, .ref k8, .int c9, .ref ka, .ref kb, .int cc, .int scd_47, .int ce, .int scf_48, .int scg_49, .int ch, .int ci, .int cj, .int ck, .ref kl, .int cm, .int cn, .ref ko])), (k0, .inl (cI, 1201, .inl c0))] H := hP
            replace hD : va_D A [(k, .inr (11, [.ref k0, .ref k1, .ref k2, .int c3, .ref k4, .ref k5, .ref k6, .ref k7, .ref k8, .int c9, .ref ka, .ref kb, .int cc, .int scd_47, .int ce, .int scf_48, .int scg_49, .int ch, .int ci, .int cj, .int ck, .ref kl, .int cm, .int cn, .ref ko])), (k0, .inl (cI, 1201, .inl c0))] := hD
            have lo_scd_47 := k_lo scd_47
            have hi_scd_47 := k_hi scd_47
            have lo_scg_49 := k_lo scg_49
            have hi_scg_49 := k_hi scg_49
            obtain ⟨h_51, h_52, h_53⟩ := w_46
            have h_51 : v_44.toInt ≤ scd_47.toInt := h_51
            have h_52 : scd_47.toInt ≤ ce.toInt := h_52
            have h_53 : scg_49.toInt = 1 := h_53
            have lo_r_45 := k_lo r_45
            have hi_r_45 := k_hi r_45
            refine lv_istore_n (lv' := [(3, .int r_45), (2, .int r_10), (1, .int r_1), (0, .ref k)]) hx hb dX11_test_51 rfl hl (by decide) rfl ?_
            clear hl
            intro ls hl
            refine lv_iload_n hx hb dX11_test_52 rfl (lv_at hl 1 rfl) ?_
            refine lv_bipush (v := 60) hx hb dX11_test_53 (by decide) ?_
            refine b_icmp_ne hx hb rfl zl_60 (tgt := 66) dX11_test_55 (by decide) (fun c_54 => ?_) (fun c_54 => by exfalso; omega)
            refine lv_iload_n hx hb dX11_test_66 rfl (lv_at hl 1 rfl) ?_
            refine lv_bipush (v := 62) hx hb dX11_test_67 (by decide) ?_
            refine b_icmp_ne hx hb rfl zl_62 (tgt := 80) dX11_test_69 (by decide) (fun c_55 => by exfalso; omega) (fun c_55 => ?_)
            refine lv_iload_n hx hb dX11_test_72 rfl (lv_at hl 2 rfl) ?_
            refine lv_iload_n hx hb dX11_test_73 rfl (lv_at hl 0 rfl) ?_
            refine b_icmp_le hx hb rfl rfl (tgt := 89) dX11_test_74 (by decide) (fun c_56 => ?_) (fun c_56 => ?_)
            · refine lv_iconst (v := 0) hx hb dX11_test_89 (by decide) ?_
              exact hRet (scd_47, scf_48, scg_49) [0, 1] ⟨(by first | omega | (simp only [zl_0] <;> omega) | decide | assumption | rfl | (dsimp only; first | omega | (simp only [zl_0] <;> omega))), (by first | omega | (simp only [zl_0] <;> omega) | decide | assumption | rfl | (dsimp only; first | omega | (simp only [zl_0] <;> omega))), (by first | omega | (simp only [zl_0] <;> omega) | decide | assumption | rfl | (dsimp only; first | omega | (simp only [zl_0] <;> omega)))⟩ hP hD (by decide) rfl hS rfl dX11_test_90
            · refine lv_goto (tgt := 85) hx hb dX11_test_77 (by decide) ?_
              refine lv_iconst (v := 1) hx hb dX11_test_85 (by decide) ?_
              refine lv_goto (tgt := 90) hx hb dX11_test_86 (by decide) ?_
              exact hRet (scd_47, scf_48, scg_49) [0, 1] ⟨(by first | omega | (simp only [zl_1] <;> omega) | decide | assumption | rfl | (dsimp only; first | omega | (simp only [zl_1] <;> omega))), (by first | omega | (simp only [zl_1] <;> omega) | decide | assumption | rfl | (dsimp only; first | omega | (simp only [zl_1] <;> omega))), (by first | omega | (simp only [zl_1] <;> omega) | decide | assumption | rfl | (dsimp only; first | omega | (simp only [zl_1] <;> omega)))⟩ hP hD (by decide) rfl hS rfl dX11_test_90
          · refine lv_iload_n hx hb dX11_test_35 rfl (lv_at hl 1 rfl) ?_
            exact hRet (scd_3, scf_4, scg_5) [0, 1] ⟨(by first | omega | decide | assumption | rfl | (dsimp only; first | omega)), (by first | omega | decide | assumption | rfl | (dsimp only; first | omega)), (by first | omega | decide | assumption | rfl | (dsimp only; first | omega))⟩ hP hD (by decide) rfl hS rfl dX11_test_36
  · have h_14 : scd_3.toInt = ce.toInt := h_14
    obtain rfl : r_10 = (-1) := hr_10.trans (by decide)
    refine lv_istore_n (lv' := [(2, .int (-1)), (1, .int r_1), (0, .ref k)]) hx hb dX11_test_9 rfl hl (by decide) rfl ?_
    clear hl
    intro ls hl
    refine lv_aload_n hx hb dX11_test_10 rfl (lv_at hl 2 rfl) ?_
    refine va_get (D := D) (ci := 11) (v := .int scf_4) (C := RX11) (T := TX11) (N := 25) hx hb hT giX11 hown hK hP 0 rfl rfl 15 (by decide) (hT (Cond.fieldLink RX11 148 "DesertWireModel" "isWrong" "Z") mw_1171) (fun _ h9 => h9) rfl dX11_test_11 ?_
    refine b_if_ne hx hb rfl (tgt := 35) dX11_test_14 (by decide) (fun c_57 => ?_) (fun c_57 => ?_)
    · refine lv_iload_n hx hb dX11_test_35 rfl (lv_at hl 1 rfl) ?_
      exact hRet (scd_3, scf_4, scg_5) [0, 1] ⟨(by first | omega | decide | assumption | rfl | (dsimp only; first | omega)), (by first | omega | decide | assumption | rfl | (dsimp only; first | omega)), (by first | omega | decide | assumption | rfl | (dsimp only; first | omega))⟩ hP hD (by decide) rfl hS rfl dX11_test_36
    · refine lv_iload_n hx hb dX11_test_17 rfl (lv_at hl 0 rfl) ?_
      refine lv_bipush (v := 60) hx hb dX11_test_18 (by decide) ?_
      refine b_icmp_eq hx hb zl_m1 zl_60 (tgt := 37) dX11_test_20 (by decide) (fun c_58 => by exfalso; omega) (fun c_58 => ?_)
      refine lv_iload_n hx hb dX11_test_23 rfl (lv_at hl 0 rfl) ?_
      refine lv_bipush (v := 61) hx hb dX11_test_24 (by decide) ?_
      refine b_icmp_eq hx hb zl_m1 zl_61 (tgt := 37) dX11_test_26 (by decide) (fun c_59 => by exfalso; omega) (fun c_59 => ?_)
      refine lv_iload_n hx hb dX11_test_29 rfl (lv_at hl 0 rfl) ?_
      refine lv_bipush (v := 62) hx hb dX11_test_30 (by decide) ?_
      refine b_icmp_eq hx hb zl_m1 zl_62 (tgt := 37) dX11_test_32 (by decide) (fun c_60 => by exfalso; omega) (fun c_60 => ?_)
      refine lv_iload_n hx hb dX11_test_35 rfl (lv_at hl 1 rfl) ?_
      exact hRet (scd_3, scf_4, scg_5) [0, 1] ⟨(by first | omega | decide | assumption | rfl | (dsimp only; first | omega)), (by first | omega | decide | assumption | rfl | (dsimp only; first | omega)), (by first | omega | decide | assumption | rfl | (dsimp only; first | omega))⟩ hP hD (by decide) rfl hS rfl dX11_test_36

set_option maxHeartbeats 4000000 in
set_option maxRecDepth 100000 in
theorem c_X11_bothG1 (l : Launch) (D : va_G) (cI : ClassId) (aK aV : Nat → Nat) (k k0 k1 k2 k4 k5 k6 k7 k8 ka kb kl ko : Nat) (sz : Nat) (c3 : Int32) (c9 : Int32) (cc : Int32) (cd : Int32) (ce : Int32) (cf : Int32) (cg : Int32) (ch : Int32) (ci : Int32) (cj : Int32) (ck : Int32) (cm : Int32) (cn : Int32) (c0 : Nat → Int32) (pre0 : 0 ≤ cc.toInt) (pre1 : cc.toInt ≤ 1151) (pre2 : 0 ≤ cd.toInt) (pre3 : cd.toInt ≤ ce.toInt) (pre4 : ce.toInt ≤ 50) (pre5 : cg.toInt = 1) : Met l yX11_both (gW yX11_both cX11_both 3 (some .int)) ({ frames := 23, cells := 0, slots := 0, locals := 522 } : Room) (kPreX D cI aK aV [.ref k] [(k, .inr (11, [.ref k0, .ref k1, .ref k2, .int c3, .ref k4, .ref k5, .ref k6, .ref k7, .ref k8, .int c9, .ref ka, .ref kb, .int cc, .int cd, .int ce, .int cf, .int cg, .int ch, .int ci, .int cj, .int ck, .ref kl, .int cm, .int cn, .ref ko])), (k0, .inl (cI, 1201, .inl c0))] sz) (va_Qi (fun (r : Int32) (u : Int32 × Int32 × Int32) => cd.toInt ≤ u.1.toInt ∧ u.1.toInt ≤ ce.toInt ∧ u.2.2.toInt = 1) (fun u t => kWd D cI (va_A [(k, .inr (11, [.ref k0, .ref k1, .ref k2, .int c3, .ref k4, .ref k5, .ref k6, .ref k7, .ref k8, .int c9, .ref ka, .ref kb, .int cc, .int cd, .int ce, .int cf, .int cg, .int ch, .int ci, .int cj, .int ck, .ref kl, .int cm, .int cn, .ref ko])), (k0, .inl (cI, 1201, .inl c0))] sz) [(k, .inr (11, [.ref k0, .ref k1, .ref k2, .int c3, .ref k4, .ref k5, .ref k6, .ref k7, .ref k8, .int c9, .ref ka, .ref kb, .int cc, .int u.1, .int ce, .int u.2.1, .int u.2.2, .int ch, .int ci, .int cj, .int ck, .ref kl, .int cm, .int cn, .ref ko])), (k0, .inl (cI, 1201, .inl c0))] t) (va_A [(k, .inr (11, [.ref k0, .ref k1, .ref k2, .int c3, .ref k4, .ref k5, .ref k6, .ref k7, .ref k8, .int c9, .ref ka, .ref kb, .int cc, .int cd, .int ce, .int cf, .int cg, .int ch, .int ci, .int cj, .int ck, .ref kl, .int cm, .int cn, .ref ko])), (k0, .inl (cI, 1201, .inl c0))] sz)) 0 0 (va_A [(k, .inr (11, [.ref k0, .ref k1, .ref k2, .int c3, .ref k4, .ref k5, .ref k6, .ref k7, .ref k8, .int c9, .ref ka, .ref kb, .int cc, .int cd, .int ce, .int cf, .int cg, .int ch, .int ci, .int cj, .int ck, .ref kl, .int cm, .int cn, .ref ko])), (k0, .inl (cI, 1201, .inl c0))] sz) := by
  refine kMetIX (own := RX11) (by decide) rfl (Nat.le_of_ble_eq_true rfl) ?_
  intro p e s m args below meth c hx hb hT hown hname hml A Q hK hP hD hS hA hN hXS hRet ls hl
  have hl : lv_has ls 3 [(0, .ref k)] := hl
  have lo_cd := k_lo cd
  have hi_cd := k_hi cd
  have lo_ce := k_lo ce
  have hi_ce := k_hi ce
  have lo_ci := k_lo ci
  have hi_ci := k_hi ci
  refine lv_aload_n hx hb dX11_both_0 rfl (lv_at hl 0 rfl) ?_
  refine kJi (wr := []) (va_runV (As := []) (rest := []) ⟨hx, hb, hml, hown, hT⟩ (c_X11_testG1 l D cI aK aV k k0 k1 k2 k4 k5 k6 k7 k8 ka kb kl ko s.heap.size c3 c9 cc cd ce cf cg ch ci cj ck cm cn c0 (by first | omega | decide | assumption | rfl) (by first | omega | decide | assumption | rfl) (by first | omega | decide | assumption | rfl) (by first | omega | decide | assumption | rfl) (by first | omega | decide | assumption | rfl) (by first | omega | decide | assumption | rfl)) (cwV 0 hT (gV_in mw_1323 mw_1320 mw_1322 mw_p4_5 mw_12) rfl rfl rfl (by decide +kernel) ⟨Nat.le_of_ble_eq_true rfl, Nat.le_of_ble_eq_true rfl⟩) (kRecvX (q0 := 0) (ci := 11) hK hP hD hN hXS hS hA rfl rfl [0, 1] rfl (by decide)) rfl rfl hl.1 rfl (lv_room (Nat.le_of_ble_eq_true rfl)) dX11_both_1 ⟨Nat.le_of_ble_eq_true rfl, Nat.le_of_ble_eq_true rfl⟩) hP hD hS hA [0, 1] [] rfl rfl (by decide) (by decide) ?_
  clear hP hD hS
  intro r_1 u_6 H locs w_2 hP hD hS
  obtain ⟨scd_3, scf_4, scg_5⟩ := u_6
  replace hP : va_P D vwCl [(k, .inr (11, [.ref k0, .ref k1, .ref k2, .int c3, .ref k4, .ref k5, .ref k6, .ref k7, .ref k8, .int c9, .ref ka, .ref kb, .int cc, .int scd_3, .int ce, .int scf_4, .int scg_5, .int ch, .int ci, .int cj, .int ck, .ref kl, .int cm, .int cn, .ref ko])), (k0, .inl (cI, 1201, .inl c0))] H := hP
  replace hD : va_D A [(k, .inr (11, [.ref k0, .ref k1, .ref k2, .int c3, .ref k4, .ref k5, .ref k6, .ref k7, .ref k8, .int c9, .ref ka, .ref kb, .int cc, .int scd_3, .int ce, .int scf_4, .int scg_5, .int ch, .int ci, .int cj, .int ck, .ref kl, .int cm, .int cn, .ref ko])), (k0, .inl (cI, 1201, .inl c0))] := hD
  have lo_scd_3 := k_lo scd_3
  have hi_scd_3 := k_hi scd_3
  have lo_scg_5 := k_lo scg_5
  have hi_scg_5 := k_hi scg_5
  obtain ⟨h_7, h_8, h_9⟩ := w_2
  have h_7 : cd.toInt ≤ scd_3.toInt := h_7
  have h_8 : scd_3.toInt ≤ ce.toInt := h_8
  have h_9 : scg_5.toInt = 1 := h_9
  have lo_r_1 := k_lo r_1
  have hi_r_1 := k_hi r_1
  refine lv_istore_n (lv' := [(1, .int r_1), (0, .ref k)]) hx hb dX11_both_4 rfl hl (by decide) rfl ?_
  clear hl
  intro ls hl
  have hloop_5 : ∀ (fu_ : Nat) (l5_1 : Int32) (f5_kd : Int32) (f5_kf : Int32) (f5_kg : Int32), scd_3.toInt ≤ f5_kd.toInt → scg_5.toInt ≤ f5_kg.toInt → f5_kg.toInt ≤ scg_5.toInt → f5_kd.toInt ≤ ce.toInt → (ce.toInt - f5_kd.toInt).toNat < fu_ → ∀ (ls : Array Slot) (H : Heap) (locs : List Loc), lv_has ls 3 [(1, .int l5_1), (0, .ref k)] → va_P D vwCl [(k, .inr (11, [.ref k0, .ref k1, .ref k2, .int c3, .ref k4, .ref k5, .ref k6, .ref k7, .ref k8, .int c9, .ref ka, .ref kb, .int cc, .int f5_kd, .int ce, .int f5_kf, .int f5_kg, .int ch, .int ci, .int cj, .int ck, .ref kl, .int cm, .int cn, .ref ko])), (k0, .inl (cI, 1201, .inl c0))] H → va_D A [(k, .inr (11, [.ref k0, .ref k1, .ref k2, .int c3, .ref k4, .ref k5, .ref k6, .ref k7, .ref k8, .int c9, .ref ka, .ref kb, .int cc, .int f5_kd, .int ce, .int f5_kf, .int f5_kg, .int ch, .int ci, .int cj, .int ck, .ref kl, .int cm, .int cn, .ref ko])), (k0, .inl (cI, 1201, .inl c0))] → va_S A s.heap H locs → W p l e ({ frames := 23, cells := 0, slots := 0, locals := 522 } : Room) s m args below meth c H locs 0 0 Q (F0 m 5 ls []) := by
    intro fu_; induction fu_ with
    | zero => intro l5_1 f5_kd f5_kf f5_kg i5_0 i5_1 i5_2 i5_3 hm; exact absurd hm (by omega)
    | succ fu_ ih5 =>
        intro l5_1 f5_kd f5_kf f5_kg i5_0 i5_1 i5_2 i5_3 hm ls H locs hl hP hD hS
        have lo_l5_1 := k_lo l5_1
        have hi_l5_1 := k_hi l5_1
        have lo_f5_kd := k_lo f5_kd
        have hi_f5_kd := k_hi f5_kd
        have lo_f5_kf := k_lo f5_kf
        have hi_f5_kf := k_hi f5_kf
        have lo_f5_kg := k_lo f5_kg
        have hi_f5_kg := k_hi f5_kg
        refine lv_aload_n hx hb dX11_both_5 rfl (lv_at hl 1 rfl) ?_
        refine lv_bipush (v := 38) hx hb dX11_both_6 (by decide) ?_
        refine kJi (wr := []) (va_runV (As := [.int 38]) (rest := []) ⟨hx, hb, hml, hown, hT⟩ (c_X11_takesG l D cI aK aV k k0 k1 k2 k4 k5 k6 k7 k8 ka kb kl ko H.size c3 c9 cc f5_kd ce f5_kf f5_kg ch ci cj ck cm cn c0 38 (by first | omega | (simp only [zl_38] <;> omega) | decide | assumption | rfl) (by first | omega | (simp only [zl_38] <;> omega) | decide | assumption | rfl) (by first | omega | (simp only [zl_38] <;> omega) | decide | assumption | rfl) (by first | omega | (simp only [zl_38] <;> omega) | decide | assumption | rfl) (by first | omega | (simp only [zl_38] <;> omega) | decide | assumption | rfl) (by first | omega | (simp only [zl_38] <;> omega) | decide | assumption | rfl)) (cwV 1 hT (gV_in mw_1351 mw_1348 mw_1350 mw_p4_12 mw_12) rfl rfl rfl (by decide +kernel) ⟨Nat.le_of_ble_eq_true rfl, Nat.le_of_ble_eq_true rfl⟩) (kRecvX (q0 := 0) (ci := 11) hK hP hD hN hXS hS hA rfl rfl [0, 1] rfl (by decide)) rfl rfl hl.1 rfl (lv_room (Nat.le_of_ble_eq_true rfl)) dX11_both_8 ⟨Nat.le_of_ble_eq_true rfl, Nat.le_of_ble_eq_true rfl⟩) hP hD hS hA [0, 1] [] rfl rfl (by decide) (by decide) ?_
        clear hP hD hS
        intro r_10 scd_12 H locs w_11 hP hD hS
        replace hP : va_P D vwCl [(k, .inr (11, [.ref k0, .ref k1, .ref k2, .int c3, .ref k4, .ref k5, .ref k6, .ref k7, .ref k8, .int c9, .ref ka, .ref kb, .int cc, .int scd_12, .int ce, .int f5_kf, .int f5_kg, .int ch, .int ci, .int cj, .int ck, .ref kl, .int cm, .int cn, .ref ko])), (k0, .inl (cI, 1201, .inl c0))] H := hP
        replace hD : va_D A [(k, .inr (11, [.ref k0, .ref k1, .ref k2, .int c3, .ref k4, .ref k5, .ref k6, .ref k7, .ref k8, .int c9, .ref ka, .ref kb, .int cc, .int scd_12, .int ce, .int f5_kf, .int f5_kg, .int ch, .int ci, .int cj, .int ck, .ref kl, .int cm, .int cn, .ref ko])), (k0, .inl (cI, 1201, .inl c0))] := hD
        have lo_scd_12 := k_lo scd_12
        have hi_scd_12 := k_hi scd_12
        rcases w_11 with ⟨hr_10, h_13, h_14⟩ | ⟨hr_10, h_15⟩
        · try simp only [zl_38] at h_13
          have h_13 : scd_12.toInt = f5_kd.toInt + 1 := h_13
          try simp only [zl_38] at h_14
          have h_14 : scd_12.toInt ≤ ce.toInt := h_14
          obtain rfl : r_10 = 1 := hr_10.trans (by decide)
          refine b_if_eq hx hb zl_1 (tgt := 36) dX11_both_11 (by decide) (fun c_16 => by exfalso; omega) (fun c_16 => ?_)
          refine lv_aload_n hx hb dX11_both_14 rfl (lv_at hl 1 rfl) ?_
          refine kJi (wr := []) (va_runV (As := []) (rest := []) ⟨hx, hb, hml, hown, hT⟩ (c_X11_testG1 l D cI aK aV k k0 k1 k2 k4 k5 k6 k7 k8 ka kb kl ko H.size c3 c9 cc scd_12 ce f5_kf f5_kg ch ci cj ck cm cn c0 (by first | omega | decide | assumption | rfl) (by first | omega | decide | assumption | rfl) (by first | omega | decide | assumption | rfl) (by first | omega | decide | assumption | rfl) (by first | omega | decide | assumption | rfl) (by first | omega | decide | assumption | rfl)) (cwV 0 hT (gV_in mw_1323 mw_1320 mw_1322 mw_p4_5 mw_12) rfl rfl rfl (by decide +kernel) ⟨Nat.le_of_ble_eq_true rfl, Nat.le_of_ble_eq_true rfl⟩) (kRecvX (q0 := 0) (ci := 11) hK hP hD hN hXS hS hA rfl rfl [0, 1] rfl (by decide)) rfl rfl hl.1 rfl (lv_room (Nat.le_of_ble_eq_true rfl)) dX11_both_15 ⟨Nat.le_of_ble_eq_true rfl, Nat.le_of_ble_eq_true rfl⟩) hP hD hS hA [0, 1] [] rfl rfl (by decide) (by decide) ?_
          clear hP hD hS
          intro r_17 u_22 H locs w_18 hP hD hS
          obtain ⟨scd_19, scf_20, scg_21⟩ := u_22
          replace hP : va_P D vwCl [(k, .inr (11, [.ref k0, .ref k1, .ref k2, .int c3, .ref k4, .ref k5, .ref k6, .ref k7, .ref k8, .int c9, .ref ka, .ref kb, .int cc, .int scd_19, .int ce, .int scf_20, .int scg_21, .int ch, .int ci, .int cj, .int ck, .ref kl, .int cm, .int cn, .ref ko])), (k0, .inl (cI, 1201, .inl c0))] H := hP
          replace hD : va_D A [(k, .inr (11, [.ref k0, .ref k1, .ref k2, .int c3, .ref k4, .ref k5, .ref k6, .ref k7, .ref k8, .int c9, .ref ka, .ref kb, .int cc, .int scd_19, .int ce, .int scf_20, .int scg_21, .int ch, .int ci, .int cj, .int ck, .ref kl, .int cm, .int cn, .ref ko])), (k0, .inl (cI, 1201, .inl c0))] := hD
          have lo_scd_19 := k_lo scd_19
          have hi_scd_19 := k_hi scd_19
          have lo_scg_21 := k_lo scg_21
          have hi_scg_21 := k_hi scg_21
          obtain ⟨h_23, h_24, h_25⟩ := w_18
          have h_23 : scd_12.toInt ≤ scd_19.toInt := h_23
          have h_24 : scd_19.toInt ≤ ce.toInt := h_24
          have h_25 : scg_21.toInt = 1 := h_25
          have lo_r_17 := k_lo r_17
          have hi_r_17 := k_hi r_17
          refine lv_istore_n (lv' := [(2, .int r_17), (1, .int l5_1), (0, .ref k)]) hx hb dX11_both_18 rfl hl (by decide) rfl ?_
          clear hl
          intro ls hl
          refine lv_iload_n hx hb dX11_both_19 rfl (lv_at hl 1 rfl) ?_
          refine b_if_eq hx hb rfl (tgt := 31) dX11_both_20 (by decide) (fun c_26 => ?_) (fun c_26 => ?_)
          · refine lv_iconst (v := 0) hx hb dX11_both_31 (by decide) ?_
            refine lv_istore_n (lv' := [(1, .int 0), (2, .int r_17), (0, .ref k)]) hx hb dX11_both_32 rfl hl (by decide) rfl ?_
            clear hl
            intro ls hl
            refine lv_goto (tgt := 5) hx hb dX11_both_33 (by decide) ?_
            exact ih5 0 scd_19 scf_20 scg_21 (by first | omega | (simp only [zl_0] <;> omega) | decide | assumption | rfl) (by first | omega | (simp only [zl_0] <;> omega) | decide | assumption | rfl) (by first | omega | (simp only [zl_0] <;> omega) | decide | assumption | rfl) (by first | omega | (simp only [zl_0] <;> omega) | decide | assumption | rfl) (by omega) ls _ _ (lv_sub hl [0, 2] rfl) (hP.sub [0, 1] rfl) (hD.sub [0, 1] (by decide) rfl) hS
          · refine lv_iload_n hx hb dX11_both_23 rfl (lv_at hl 0 rfl) ?_
            refine b_if_eq hx hb rfl (tgt := 31) dX11_both_24 (by decide) (fun c_27 => ?_) (fun c_27 => ?_)
            · refine lv_iconst (v := 0) hx hb dX11_both_31 (by decide) ?_
              refine lv_istore_n (lv' := [(1, .int 0), (2, .int r_17), (0, .ref k)]) hx hb dX11_both_32 rfl hl (by decide) rfl ?_
              clear hl
              intro ls hl
              refine lv_goto (tgt := 5) hx hb dX11_both_33 (by decide) ?_
              exact ih5 0 scd_19 scf_20 scg_21 (by first | omega | (simp only [zl_0] <;> omega) | decide | assumption | rfl) (by first | omega | (simp only [zl_0] <;> omega) | decide | assumption | rfl) (by first | omega | (simp only [zl_0] <;> omega) | decide | assumption | rfl) (by first | omega | (simp only [zl_0] <;> omega) | decide | assumption | rfl) (by omega) ls _ _ (lv_sub hl [0, 2] rfl) (hP.sub [0, 1] rfl) (hD.sub [0, 1] (by decide) rfl) hS
            · refine lv_iconst (v := 1) hx hb dX11_both_27 (by decide) ?_
              refine lv_goto (tgt := 32) hx hb dX11_both_28 (by decide) ?_
              refine lv_istore_n (lv' := [(1, .int 1), (2, .int r_17), (0, .ref k)]) hx hb dX11_both_32 rfl hl (by decide) rfl ?_
              clear hl
              intro ls hl
              refine lv_goto (tgt := 5) hx hb dX11_both_33 (by decide) ?_
              exact ih5 1 scd_19 scf_20 scg_21 (by first | omega | (simp only [zl_1] <;> omega) | decide | assumption | rfl) (by first | omega | (simp only [zl_1] <;> omega) | decide | assumption | rfl) (by first | omega | (simp only [zl_1] <;> omega) | decide | assumption | rfl) (by first | omega | (simp only [zl_1] <;> omega) | decide | assumption | rfl) (by omega) ls _ _ (lv_sub hl [0, 2] rfl) (hP.sub [0, 1] rfl) (hD.sub [0, 1] (by decide) rfl) hS
        · try simp only [zl_38] at h_15
          have h_15 : scd_12.toInt = f5_kd.toInt := h_15
          obtain rfl : r_10 = 0 := hr_10.trans (by decide)
          refine b_if_eq hx hb zl_0 (tgt := 36) dX11_both_11 (by decide) (fun c_28 => ?_) (fun c_28 => by exfalso; omega)
          refine lv_iload_n hx hb dX11_both_36 rfl (lv_at hl 0 rfl) ?_
          exact hRet (scd_12, f5_kf, f5_kg) [0, 1] ⟨(by first | omega | decide | assumption | rfl | (dsimp only; first | omega)), (by first | omega | decide | assumption | rfl | (dsimp only; first | omega)), (by first | omega | decide | assumption | rfl | (dsimp only; first | omega))⟩ hP hD (by decide) rfl hS rfl dX11_both_37
  exact hloop_5 _ r_1 scd_3 scf_4 scg_5 (by first | omega | decide | assumption | rfl) (by first | omega | decide | assumption | rfl) (by first | omega | decide | assumption | rfl) (by first | omega | decide | assumption | rfl) (Nat.lt_succ_self _) ls _ _ (lv_sub hl [0, 1] rfl) hP hD hS

set_option maxHeartbeats 4000000 in
set_option maxRecDepth 100000 in
theorem c_X11_wholeG1 (l : Launch) (D : va_G) (cI : ClassId) (aK aV : Nat → Nat) (k k0 k1 k2 k4 k5 k6 k7 k8 ka kb kl ko : Nat) (sz : Nat) (c3 : Int32) (c9 : Int32) (cc : Int32) (cd : Int32) (ce : Int32) (cf : Int32) (cg : Int32) (ch : Int32) (ci : Int32) (cj : Int32) (ck : Int32) (cm : Int32) (cn : Int32) (c0 : Nat → Int32) (pre0 : 0 ≤ cc.toInt) (pre1 : cc.toInt ≤ 1151) (pre2 : 0 ≤ cd.toInt) (pre3 : cd.toInt ≤ ce.toInt) (pre4 : ce.toInt ≤ 50) (pre5 : cg.toInt = 1) : Met l yX11_whole (gW yX11_whole cX11_whole 3 (some .int)) ({ frames := 24, cells := 0, slots := 0, locals := 544 } : Room) (kPreX D cI aK aV [.ref k] [(k, .inr (11, [.ref k0, .ref k1, .ref k2, .int c3, .ref k4, .ref k5, .ref k6, .ref k7, .ref k8, .int c9, .ref ka, .ref kb, .int cc, .int cd, .int ce, .int cf, .int cg, .int ch, .int ci, .int cj, .int ck, .ref kl, .int cm, .int cn, .ref ko])), (k0, .inl (cI, 1201, .inl c0))] sz) (va_Qi (fun (r : Int32) (u : Int32 × Int32 × Int32) => cd.toInt ≤ u.1.toInt ∧ u.1.toInt ≤ ce.toInt ∧ u.2.2.toInt = 1) (fun u t => kWd D cI (va_A [(k, .inr (11, [.ref k0, .ref k1, .ref k2, .int c3, .ref k4, .ref k5, .ref k6, .ref k7, .ref k8, .int c9, .ref ka, .ref kb, .int cc, .int cd, .int ce, .int cf, .int cg, .int ch, .int ci, .int cj, .int ck, .ref kl, .int cm, .int cn, .ref ko])), (k0, .inl (cI, 1201, .inl c0))] sz) [(k, .inr (11, [.ref k0, .ref k1, .ref k2, .int c3, .ref k4, .ref k5, .ref k6, .ref k7, .ref k8, .int c9, .ref ka, .ref kb, .int cc, .int u.1, .int ce, .int u.2.1, .int u.2.2, .int ch, .int ci, .int cj, .int ck, .ref kl, .int cm, .int cn, .ref ko])), (k0, .inl (cI, 1201, .inl c0))] t) (va_A [(k, .inr (11, [.ref k0, .ref k1, .ref k2, .int c3, .ref k4, .ref k5, .ref k6, .ref k7, .ref k8, .int c9, .ref ka, .ref kb, .int cc, .int cd, .int ce, .int cf, .int cg, .int ch, .int ci, .int cj, .int ck, .ref kl, .int cm, .int cn, .ref ko])), (k0, .inl (cI, 1201, .inl c0))] sz)) 0 0 (va_A [(k, .inr (11, [.ref k0, .ref k1, .ref k2, .int c3, .ref k4, .ref k5, .ref k6, .ref k7, .ref k8, .int c9, .ref ka, .ref kb, .int cc, .int cd, .int ce, .int cf, .int cg, .int ch, .int ci, .int cj, .int ck, .ref kl, .int cm, .int cn, .ref ko])), (k0, .inl (cI, 1201, .inl c0))] sz) := by
  refine kMetIX (own := RX11) (by decide) rfl (Nat.le_of_ble_eq_true rfl) ?_
  intro p e s m args below meth c hx hb hT hown hname hml A Q hK hP hD hS hA hN hXS hRet ls hl
  have hl : lv_has ls 3 [(0, .ref k)] := hl
  have lo_cd := k_lo cd
  have hi_cd := k_hi cd
  have lo_ce := k_lo ce
  have hi_ce := k_hi ce
  have lo_ci := k_lo ci
  have hi_ci := k_hi ci
  refine lv_aload_n hx hb dX11_whole_0 rfl (lv_at hl 0 rfl) ?_
  refine kJi (wr := []) (va_runV (As := []) (rest := []) ⟨hx, hb, hml, hown, hT⟩ (c_X11_bothG1 l D cI aK aV k k0 k1 k2 k4 k5 k6 k7 k8 ka kb kl ko s.heap.size c3 c9 cc cd ce cf cg ch ci cj ck cm cn c0 (by first | omega | decide | assumption | rfl) (by first | omega | decide | assumption | rfl) (by first | omega | decide | assumption | rfl) (by first | omega | decide | assumption | rfl) (by first | omega | decide | assumption | rfl) (by first | omega | decide | assumption | rfl)) (cwV 0 hT (gV_in mw_1319 mw_1316 mw_1318 mw_p4_4 mw_12) rfl rfl rfl (by decide +kernel) ⟨Nat.le_of_ble_eq_true rfl, Nat.le_of_ble_eq_true rfl⟩) (kRecvX (q0 := 0) (ci := 11) hK hP hD hN hXS hS hA rfl rfl [0, 1] rfl (by decide)) rfl rfl hl.1 rfl (lv_room (Nat.le_of_ble_eq_true rfl)) dX11_whole_1 ⟨Nat.le_of_ble_eq_true rfl, Nat.le_of_ble_eq_true rfl⟩) hP hD hS hA [0, 1] [] rfl rfl (by decide) (by decide) ?_
  clear hP hD hS
  intro r_1 u_6 H locs w_2 hP hD hS
  obtain ⟨scd_3, scf_4, scg_5⟩ := u_6
  replace hP : va_P D vwCl [(k, .inr (11, [.ref k0, .ref k1, .ref k2, .int c3, .ref k4, .ref k5, .ref k6, .ref k7, .ref k8, .int c9, .ref ka, .ref kb, .int cc, .int scd_3, .int ce, .int scf_4, .int scg_5, .int ch, .int ci, .int cj, .int ck, .ref kl, .int cm, .int cn, .ref ko])), (k0, .inl (cI, 1201, .inl c0))] H := hP
  replace hD : va_D A [(k, .inr (11, [.ref k0, .ref k1, .ref k2, .int c3, .ref k4, .ref k5, .ref k6, .ref k7, .ref k8, .int c9, .ref ka, .ref kb, .int cc, .int scd_3, .int ce, .int scf_4, .int scg_5, .int ch, .int ci, .int cj, .int ck, .ref kl, .int cm, .int cn, .ref ko])), (k0, .inl (cI, 1201, .inl c0))] := hD
  have lo_scd_3 := k_lo scd_3
  have hi_scd_3 := k_hi scd_3
  have lo_scg_5 := k_lo scg_5
  have hi_scg_5 := k_hi scg_5
  obtain ⟨h_7, h_8, h_9⟩ := w_2
  have h_7 : cd.toInt ≤ scd_3.toInt := h_7
  have h_8 : scd_3.toInt ≤ ce.toInt := h_8
  have h_9 : scg_5.toInt = 1 := h_9
  have lo_r_1 := k_lo r_1
  have hi_r_1 := k_hi r_1
  refine lv_istore_n (lv' := [(1, .int r_1), (0, .ref k)]) hx hb dX11_whole_4 rfl hl (by decide) rfl ?_
  clear hl
  intro ls hl
  have hloop_5 : ∀ (fu_ : Nat) (l5_1 : Int32) (f5_kd : Int32) (f5_kf : Int32) (f5_kg : Int32), scd_3.toInt ≤ f5_kd.toInt → scg_5.toInt ≤ f5_kg.toInt → f5_kg.toInt ≤ scg_5.toInt → f5_kd.toInt ≤ ce.toInt → (ce.toInt - f5_kd.toInt).toNat < fu_ → ∀ (ls : Array Slot) (H : Heap) (locs : List Loc), lv_has ls 3 [(1, .int l5_1), (0, .ref k)] → va_P D vwCl [(k, .inr (11, [.ref k0, .ref k1, .ref k2, .int c3, .ref k4, .ref k5, .ref k6, .ref k7, .ref k8, .int c9, .ref ka, .ref kb, .int cc, .int f5_kd, .int ce, .int f5_kf, .int f5_kg, .int ch, .int ci, .int cj, .int ck, .ref kl, .int cm, .int cn, .ref ko])), (k0, .inl (cI, 1201, .inl c0))] H → va_D A [(k, .inr (11, [.ref k0, .ref k1, .ref k2, .int c3, .ref k4, .ref k5, .ref k6, .ref k7, .ref k8, .int c9, .ref ka, .ref kb, .int cc, .int f5_kd, .int ce, .int f5_kf, .int f5_kg, .int ch, .int ci, .int cj, .int ck, .ref kl, .int cm, .int cn, .ref ko])), (k0, .inl (cI, 1201, .inl c0))] → va_S A s.heap H locs → W p l e ({ frames := 24, cells := 0, slots := 0, locals := 544 } : Room) s m args below meth c H locs 0 0 Q (F0 m 5 ls []) := by
    intro fu_; induction fu_ with
    | zero => intro l5_1 f5_kd f5_kf f5_kg i5_0 i5_1 i5_2 i5_3 hm; exact absurd hm (by omega)
    | succ fu_ ih5 =>
        intro l5_1 f5_kd f5_kf f5_kg i5_0 i5_1 i5_2 i5_3 hm ls H locs hl hP hD hS
        have lo_l5_1 := k_lo l5_1
        have hi_l5_1 := k_hi l5_1
        have lo_f5_kd := k_lo f5_kd
        have hi_f5_kd := k_hi f5_kd
        have lo_f5_kf := k_lo f5_kf
        have hi_f5_kf := k_hi f5_kf
        have lo_f5_kg := k_lo f5_kg
        have hi_f5_kg := k_hi f5_kg
        refine lv_aload_n hx hb dX11_whole_5 rfl (lv_at hl 1 rfl) ?_
        refine lv_bipush (v := 124) hx hb dX11_whole_6 (by decide) ?_
        refine kJi (wr := []) (va_runV (As := [.int 124]) (rest := []) ⟨hx, hb, hml, hown, hT⟩ (c_X11_takesG l D cI aK aV k k0 k1 k2 k4 k5 k6 k7 k8 ka kb kl ko H.size c3 c9 cc f5_kd ce f5_kf f5_kg ch ci cj ck cm cn c0 124 (by first | omega | (simp only [zl_124] <;> omega) | decide | assumption | rfl) (by first | omega | (simp only [zl_124] <;> omega) | decide | assumption | rfl) (by first | omega | (simp only [zl_124] <;> omega) | decide | assumption | rfl) (by first | omega | (simp only [zl_124] <;> omega) | decide | assumption | rfl) (by first | omega | (simp only [zl_124] <;> omega) | decide | assumption | rfl) (by first | omega | (simp only [zl_124] <;> omega) | decide | assumption | rfl)) (cwV 1 hT (gV_in mw_1351 mw_1348 mw_1350 mw_p4_12 mw_12) rfl rfl rfl (by decide +kernel) ⟨Nat.le_of_ble_eq_true rfl, Nat.le_of_ble_eq_true rfl⟩) (kRecvX (q0 := 0) (ci := 11) hK hP hD hN hXS hS hA rfl rfl [0, 1] rfl (by decide)) rfl rfl hl.1 rfl (lv_room (Nat.le_of_ble_eq_true rfl)) dX11_whole_8 ⟨Nat.le_of_ble_eq_true rfl, Nat.le_of_ble_eq_true rfl⟩) hP hD hS hA [0, 1] [] rfl rfl (by decide) (by decide) ?_
        clear hP hD hS
        intro r_10 scd_12 H locs w_11 hP hD hS
        replace hP : va_P D vwCl [(k, .inr (11, [.ref k0, .ref k1, .ref k2, .int c3, .ref k4, .ref k5, .ref k6, .ref k7, .ref k8, .int c9, .ref ka, .ref kb, .int cc, .int scd_12, .int ce, .int f5_kf, .int f5_kg, .int ch, .int ci, .int cj, .int ck, .ref kl, .int cm, .int cn, .ref ko])), (k0, .inl (cI, 1201, .inl c0))] H := hP
        replace hD : va_D A [(k, .inr (11, [.ref k0, .ref k1, .ref k2, .int c3, .ref k4, .ref k5, .ref k6, .ref k7, .ref k8, .int c9, .ref ka, .ref kb, .int cc, .int scd_12, .int ce, .int f5_kf, .int f5_kg, .int ch, .int ci, .int cj, .int ck, .ref kl, .int cm, .int cn, .ref ko])), (k0, .inl (cI, 1201, .inl c0))] := hD
        have lo_scd_12 := k_lo scd_12
        have hi_scd_12 := k_hi scd_12
        rcases w_11 with ⟨hr_10, h_13, h_14⟩ | ⟨hr_10, h_15⟩
        · try simp only [zl_124] at h_13
          have h_13 : scd_12.toInt = f5_kd.toInt + 1 := h_13
          try simp only [zl_124] at h_14
          have h_14 : scd_12.toInt ≤ ce.toInt := h_14
          obtain rfl : r_10 = 1 := hr_10.trans (by decide)
          refine b_if_eq hx hb zl_1 (tgt := 36) dX11_whole_11 (by decide) (fun c_16 => by exfalso; omega) (fun c_16 => ?_)
          refine lv_aload_n hx hb dX11_whole_14 rfl (lv_at hl 1 rfl) ?_
          refine kJi (wr := []) (va_runV (As := []) (rest := []) ⟨hx, hb, hml, hown, hT⟩ (c_X11_bothG1 l D cI aK aV k k0 k1 k2 k4 k5 k6 k7 k8 ka kb kl ko H.size c3 c9 cc scd_12 ce f5_kf f5_kg ch ci cj ck cm cn c0 (by first | omega | decide | assumption | rfl) (by first | omega | decide | assumption | rfl) (by first | omega | decide | assumption | rfl) (by first | omega | decide | assumption | rfl) (by first | omega | decide | assumption | rfl) (by first | omega | decide | assumption | rfl)) (cwV 0 hT (gV_in mw_1319 mw_1316 mw_1318 mw_p4_4 mw_12) rfl rfl rfl (by decide +kernel) ⟨Nat.le_of_ble_eq_true rfl, Nat.le_of_ble_eq_true rfl⟩) (kRecvX (q0 := 0) (ci := 11) hK hP hD hN hXS hS hA rfl rfl [0, 1] rfl (by decide)) rfl rfl hl.1 rfl (lv_room (Nat.le_of_ble_eq_true rfl)) dX11_whole_15 ⟨Nat.le_of_ble_eq_true rfl, Nat.le_of_ble_eq_true rfl⟩) hP hD hS hA [0, 1] [] rfl rfl (by decide) (by decide) ?_
          clear hP hD hS
          intro r_17 u_22 H locs w_18 hP hD hS
          obtain ⟨scd_19, scf_20, scg_21⟩ := u_22
          replace hP : va_P D vwCl [(k, .inr (11, [.ref k0, .ref k1, .ref k2, .int c3, .ref k4, .ref k5, .ref k6, .ref k7, .ref k8, .int c9, .ref ka, .ref kb, .int cc, .int scd_19, .int ce, .int scf_20, .int scg_21, .int ch, .int ci, .int cj, .int ck, .ref kl, .int cm, .int cn, .ref ko])), (k0, .inl (cI, 1201, .inl c0))] H := hP
          replace hD : va_D A [(k, .inr (11, [.ref k0, .ref k1, .ref k2, .int c3, .ref k4, .ref k5, .ref k6, .ref k7, .ref k8, .int c9, .ref ka, .ref kb, .int cc, .int scd_19, .int ce, .int scf_20, .int scg_21, .int ch, .int ci, .int cj, .int ck, .ref kl, .int cm, .int cn, .ref ko])), (k0, .inl (cI, 1201, .inl c0))] := hD
          have lo_scd_19 := k_lo scd_19
          have hi_scd_19 := k_hi scd_19
          have lo_scg_21 := k_lo scg_21
          have hi_scg_21 := k_hi scg_21
          obtain ⟨h_23, h_24, h_25⟩ := w_18
          have h_23 : scd_12.toInt ≤ scd_19.toInt := h_23
          have h_24 : scd_19.toInt ≤ ce.toInt := h_24
          have h_25 : scg_21.toInt = 1 := h_25
          have lo_r_17 := k_lo r_17
          have hi_r_17 := k_hi r_17
          refine lv_istore_n (lv' := [(2, .int r_17), (1, .int l5_1), (0, .ref k)]) hx hb dX11_whole_18 rfl hl (by decide) rfl ?_
          clear hl
          intro ls hl
          refine lv_iload_n hx hb dX11_whole_19 rfl (lv_at hl 1 rfl) ?_
          refine b_if_ne hx hb rfl (tgt := 27) dX11_whole_20 (by decide) (fun c_26 => ?_) (fun c_26 => ?_)
          · refine lv_iconst (v := 1) hx hb dX11_whole_27 (by decide) ?_
            refine lv_goto (tgt := 32) hx hb dX11_whole_28 (by decide) ?_
            refine lv_istore_n (lv' := [(1, .int 1), (2, .int r_17), (0, .ref k)]) hx hb dX11_whole_32 rfl hl (by decide) rfl ?_
            clear hl
            intro ls hl
            refine lv_goto (tgt := 5) hx hb dX11_whole_33 (by decide) ?_
            exact ih5 1 scd_19 scf_20 scg_21 (by first | omega | (simp only [zl_1] <;> omega) | decide | assumption | rfl) (by first | omega | (simp only [zl_1] <;> omega) | decide | assumption | rfl) (by first | omega | (simp only [zl_1] <;> omega) | decide | assumption | rfl) (by first | omega | (simp only [zl_1] <;> omega) | decide | assumption | rfl) (by omega) ls _ _ (lv_sub hl [0, 2] rfl) (hP.sub [0, 1] rfl) (hD.sub [0, 1] (by decide) rfl) hS
          · refine lv_iload_n hx hb dX11_whole_23 rfl (lv_at hl 0 rfl) ?_
            refine b_if_eq hx hb rfl (tgt := 31) dX11_whole_24 (by decide) (fun c_27 => ?_) (fun c_27 => ?_)
            · refine lv_iconst (v := 0) hx hb dX11_whole_31 (by decide) ?_
              refine lv_istore_n (lv' := [(1, .int 0), (2, .int r_17), (0, .ref k)]) hx hb dX11_whole_32 rfl hl (by decide) rfl ?_
              clear hl
              intro ls hl
              refine lv_goto (tgt := 5) hx hb dX11_whole_33 (by decide) ?_
              exact ih5 0 scd_19 scf_20 scg_21 (by first | omega | (simp only [zl_0] <;> omega) | decide | assumption | rfl) (by first | omega | (simp only [zl_0] <;> omega) | decide | assumption | rfl) (by first | omega | (simp only [zl_0] <;> omega) | decide | assumption | rfl) (by first | omega | (simp only [zl_0] <;> omega) | decide | assumption | rfl) (by omega) ls _ _ (lv_sub hl [0, 2] rfl) (hP.sub [0, 1] rfl) (hD.sub [0, 1] (by decide) rfl) hS
            · refine lv_iconst (v := 1) hx hb dX11_whole_27 (by decide) ?_
              refine lv_goto (tgt := 32) hx hb dX11_whole_28 (by decide) ?_
              refine lv_istore_n (lv' := [(1, .int 1), (2, .int r_17), (0, .ref k)]) hx hb dX11_whole_32 rfl hl (by decide) rfl ?_
              clear hl
              intro ls hl
              refine lv_goto (tgt := 5) hx hb dX11_whole_33 (by decide) ?_
              exact ih5 1 scd_19 scf_20 scg_21 (by first | omega | (simp only [zl_1] <;> omega) | decide | assumption | rfl) (by first | omega | (simp only [zl_1] <;> omega) | decide | assumption | rfl) (by first | omega | (simp only [zl_1] <;> omega) | decide | assumption | rfl) (by first | omega | (simp only [zl_1] <;> omega) | decide | assumption | rfl) (by omega) ls _ _ (lv_sub hl [0, 2] rfl) (hP.sub [0, 1] rfl) (hD.sub [0, 1] (by decide) rfl) hS
        · try simp only [zl_124] at h_15
          have h_15 : scd_12.toInt = f5_kd.toInt := h_15
          obtain rfl : r_10 = 0 := hr_10.trans (by decide)
          refine b_if_eq hx hb zl_0 (tgt := 36) dX11_whole_11 (by decide) (fun c_28 => ?_) (fun c_28 => by exfalso; omega)
          refine lv_iload_n hx hb dX11_whole_36 rfl (lv_at hl 0 rfl) ?_
          exact hRet (scd_12, f5_kf, f5_kg) [0, 1] ⟨(by first | omega | decide | assumption | rfl | (dsimp only; first | omega)), (by first | omega | decide | assumption | rfl | (dsimp only; first | omega)), (by first | omega | decide | assumption | rfl | (dsimp only; first | omega))⟩ hP hD (by decide) rfl hS rfl dX11_whole_37
  exact hloop_5 _ r_1 scd_3 scf_4 scg_5 (by first | omega | decide | assumption | rfl) (by first | omega | decide | assumption | rfl) (by first | omega | decide | assumption | rfl) (by first | omega | decide | assumption | rfl) (Nat.lt_succ_self _) ls _ _ (lv_sub hl [0, 1] rfl) hP hD hS

set_option maxHeartbeats 4000000 in
set_option maxRecDepth 100000 in
theorem c_X11_oneG0 (l : Launch) (D : va_G) (cI : ClassId) (aK aV : Nat → Nat) (k k0 k1 k2 k4 k5 k6 k7 k8 ka kb kl ko : Nat) (sz : Nat) (c3 : Int32) (c9 : Int32) (cc : Int32) (cd : Int32) (ce : Int32) (cf : Int32) (cg : Int32) (ch : Int32) (ci : Int32) (cj : Int32) (ck : Int32) (cm : Int32) (cn : Int32) (c0 : Nat → Int32) (pre0 : 0 ≤ cc.toInt) (pre1 : cc.toInt ≤ 1151) (pre2 : 0 ≤ cd.toInt) (pre3 : cd.toInt ≤ ce.toInt) (pre4 : ce.toInt ≤ 50) (pre5 : cg.toInt = 0) : Met l yX11_one (gW yX11_one cX11_one 4 (some .int)) ({ frames := 25, cells := 0, slots := 0, locals := 566 } : Room) (kPreX D cI aK aV [.ref k] [(k, .inr (11, [.ref k0, .ref k1, .ref k2, .int c3, .ref k4, .ref k5, .ref k6, .ref k7, .ref k8, .int c9, .ref ka, .ref kb, .int cc, .int cd, .int ce, .int cf, .int cg, .int ch, .int ci, .int cj, .int ck, .ref kl, .int cm, .int cn, .ref ko])), (k0, .inl (cI, 1201, .inl c0))] sz) (va_Qi (fun (r : Int32) (u : Int32 × Int32 × Int32) => cd.toInt ≤ u.1.toInt ∧ u.1.toInt ≤ ce.toInt ∧ u.2.2.toInt = 0) (fun u t => kWd D cI (va_A [(k, .inr (11, [.ref k0, .ref k1, .ref k2, .int c3, .ref k4, .ref k5, .ref k6, .ref k7, .ref k8, .int c9, .ref ka, .ref kb, .int cc, .int cd, .int ce, .int cf, .int cg, .int ch, .int ci, .int cj, .int ck, .ref kl, .int cm, .int cn, .ref ko])), (k0, .inl (cI, 1201, .inl c0))] sz) [(k, .inr (11, [.ref k0, .ref k1, .ref k2, .int c3, .ref k4, .ref k5, .ref k6, .ref k7, .ref k8, .int c9, .ref ka, .ref kb, .int cc, .int u.1, .int ce, .int u.2.1, .int u.2.2, .int ch, .int ci, .int cj, .int ck, .ref kl, .int cm, .int cn, .ref ko])), (k0, .inl (cI, 1201, .inl c0))] t) (va_A [(k, .inr (11, [.ref k0, .ref k1, .ref k2, .int c3, .ref k4, .ref k5, .ref k6, .ref k7, .ref k8, .int c9, .ref ka, .ref kb, .int cc, .int cd, .int ce, .int cf, .int cg, .int ch, .int ci, .int cj, .int ck, .ref kl, .int cm, .int cn, .ref ko])), (k0, .inl (cI, 1201, .inl c0))] sz)) 0 0 (va_A [(k, .inr (11, [.ref k0, .ref k1, .ref k2, .int c3, .ref k4, .ref k5, .ref k6, .ref k7, .ref k8, .int c9, .ref ka, .ref kb, .int cc, .int cd, .int ce, .int cf, .int cg, .int ch, .int ci, .int cj, .int ck, .ref kl, .int cm, .int cn, .ref ko])), (k0, .inl (cI, 1201, .inl c0))] sz) := by
  refine kMetIX (own := RX11) (by decide) rfl (Nat.le_of_ble_eq_true rfl) ?_
  intro p e s m args below meth c hx hb hT hown hname hml A Q hK hP hD hS hA hN hXS hRet ls hl
  have hl : lv_has ls 4 [(0, .ref k)] := hl
  have lo_cd := k_lo cd
  have hi_cd := k_hi cd
  have lo_ce := k_lo ce
  have hi_ce := k_hi ce
  have lo_cf := k_lo cf
  have hi_cf := k_hi cf
  have lo_cg := k_lo cg
  have hi_cg := k_hi cg
  have lo_ci := k_lo ci
  have hi_ci := k_hi ci
  have lo_cj := k_lo cj
  have hi_cj := k_hi cj
  have lo_ck := k_lo ck
  have hi_ck := k_hi ck
  refine lv_aload_n hx hb dX11_one_0 rfl (lv_at hl 0 rfl) ?_
  refine kJi (wr := []) (va_runV (As := []) (rest := []) ⟨hx, hb, hml, hown, hT⟩ (c_X11_nowG l D cI aK aV k k0 k1 k2 k4 k5 k6 k7 k8 ka kb kl ko s.heap.size c3 c9 cc cd ce cf cg ch ci cj ck cm cn c0 (by first | omega | decide | assumption | rfl) (by first | omega | decide | assumption | rfl) (by first | omega | decide | assumption | rfl) (by first | omega | decide | assumption | rfl) (by first | omega | decide | assumption | rfl)) (cwV 0 hT (gV_in mw_1339 mw_1336 mw_1338 mw_p4_9 mw_12) rfl rfl rfl (by decide +kernel) ⟨Nat.le_of_ble_eq_true rfl, Nat.le_of_ble_eq_true rfl⟩) (kRecvX (q0 := 0) (ci := 11) hK hP hD hN hXS hS hA rfl rfl [0, 1] rfl (by decide)) rfl rfl hl.1 rfl (lv_room (Nat.le_of_ble_eq_true rfl)) dX11_one_1 ⟨Nat.le_of_ble_eq_true rfl, Nat.le_of_ble_eq_true rfl⟩) hP hD hS hA [0, 1] [] rfl rfl (by decide) (by decide) ?_
  clear hP hD hS
  intro r_1 u_3 H locs w_2 hP hD hS
  replace hP : va_P D vwCl [(k, .inr (11, [.ref k0, .ref k1, .ref k2, .int c3, .ref k4, .ref k5, .ref k6, .ref k7, .ref k8, .int c9, .ref ka, .ref kb, .int cc, .int cd, .int ce, .int cf, .int cg, .int ch, .int ci, .int cj, .int ck, .ref kl, .int cm, .int cn, .ref ko])), (k0, .inl (cI, 1201, .inl c0))] H := hP
  replace hD : va_D A [(k, .inr (11, [.ref k0, .ref k1, .ref k2, .int c3, .ref k4, .ref k5, .ref k6, .ref k7, .ref k8, .int c9, .ref ka, .ref kb, .int cc, .int cd, .int ce, .int cf, .int cg, .int ch, .int ci, .int cj, .int ck, .ref kl, .int cm, .int cn, .ref ko])), (k0, .inl (cI, 1201, .inl c0))] := hD
  rcases w_2 with h_4 | ⟨hr_1, h_5⟩
  · have h_4 : cd.toInt < ce.toInt := h_4
    have lo_r_1 := k_lo r_1
    have hi_r_1 := k_hi r_1
    refine lv_istore_n (lv' := [(1, .int r_1), (0, .ref k)]) hx hb dX11_one_4 rfl hl (by decide) rfl ?_
    clear hl
    intro ls hl
    refine lv_aload_n hx hb dX11_one_5 rfl (lv_at hl 1 rfl) ?_
    refine va_get (D := D) (ci := 11) (v := .int cf) (C := RX11) (T := TX11) (N := 25) hx hb hT giX11 hown hK hP 0 rfl rfl 15 (by decide) (hT (Cond.fieldLink RX11 148 "DesertWireModel" "isWrong" "Z") mw_1171) (fun _ h9 => h9) rfl dX11_one_6 ?_
    refine b_if_eq hx hb rfl (tgt := 14) dX11_one_9 (by decide) (fun c_6 => ?_) (fun c_6 => ?_)
    · refine lv_iload_n hx hb dX11_one_14 rfl (lv_at hl 0 rfl) ?_
      refine lv_bipush (v := 48) hx hb dX11_one_15 (by decide) ?_
      refine lv_bipush (v := 57) hx hb dX11_one_17 (by decide) ?_
      refine kJi (wr := [(k, .inr (11, [.ref k0, .ref k1, .ref k2, .int c3, .ref k4, .ref k5, .ref k6, .ref k7, .ref k8, .int c9, .ref ka, .ref kb, .int cc, .int cd, .int ce, .int cf, .int cg, .int ch, .int ci, .int cj, .int ck, .ref kl, .int cm, .int cn, .ref ko])), (k0, .inl (cI, 1201, .inl c0))]) (va_runS (As := [.int r_1, .int 48, .int 57]) (rest := []) ⟨hx, hb, hml, hown, hT⟩ (c_X11_inG l D cI aK aV H.size r_1 48 57) (cwS 3 hT (gS_in mw_1238 mw_1236 mw_1237 mw_12) rfl rfl rfl (by decide +kernel) ⟨Nat.le_of_ble_eq_true rfl, Nat.le_of_ble_eq_true rfl⟩) (kStatX hK hP hD hN hXS hS hA [] rfl (by decide)) rfl rfl hl.1 rfl (lv_room (Nat.le_of_ble_eq_true rfl)) dX11_one_19 ⟨Nat.le_of_ble_eq_true rfl, Nat.le_of_ble_eq_true rfl⟩) hP hD hS hA [] [0, 1] rfl rfl (by decide) (by decide) ?_
      clear hP hD hS
      intro r_7 u_9 H locs w_8 hP hD hS
      replace hP : va_P D vwCl [(k, .inr (11, [.ref k0, .ref k1, .ref k2, .int c3, .ref k4, .ref k5, .ref k6, .ref k7, .ref k8, .int c9, .ref ka, .ref kb, .int cc, .int cd, .int ce, .int cf, .int cg, .int ch, .int ci, .int cj, .int ck, .ref kl, .int cm, .int cn, .ref ko])), (k0, .inl (cI, 1201, .inl c0))] H := hP
      replace hD : va_D A [(k, .inr (11, [.ref k0, .ref k1, .ref k2, .int c3, .ref k4, .ref k5, .ref k6, .ref k7, .ref k8, .int c9, .ref ka, .ref kb, .int cc, .int cd, .int ce, .int cf, .int cg, .int ch, .int ci, .int cj, .int ck, .ref kl, .int cm, .int cn, .ref ko])), (k0, .inl (cI, 1201, .inl c0))] := hD
      rcases w_8 with ⟨hr_7, h_10, h_11⟩ | ⟨hr_7, h_12⟩
      · try simp only [zl_48, zl_57] at h_10
        have h_10 : 48 ≤ r_1.toInt := h_10
        try simp only [zl_48, zl_57] at h_11
        have h_11 : r_1.toInt ≤ 57 := h_11
        obtain rfl : r_7 = 1 := hr_7.trans (by decide)
        refine b_if_eq hx hb zl_1 (tgt := 79) dX11_one_22 (by decide) (fun c_13 => by exfalso; omega) (fun c_13 => ?_)
        refine lv_iconst (v := 0) hx hb dX11_one_25 (by decide) ?_
        refine lv_istore_n (lv' := [(2, .int 0), (1, .int r_1), (0, .ref k)]) hx hb dX11_one_26 rfl hl (by decide) rfl ?_
        clear hl
        intro ls hl
        refine lv_iconst (v := 0) hx hb dX11_one_27 (by decide) ?_
        refine lv_istore_n (lv' := [(3, .int 0), (2, .int 0), (1, .int r_1), (0, .ref k)]) hx hb dX11_one_28 rfl hl (by decide) rfl ?_
        clear hl
        intro ls hl
        have hloop_29 : ∀ (fu_ : Nat) (l29_2 : Int32) (l29_3 : Int32) (f29_kd : Int32), 0 ≤ l29_3.toInt → cd.toInt ≤ f29_kd.toInt → f29_kd.toInt ≤ ce.toInt → (4 - l29_3.toInt).toNat < fu_ → ∀ (ls : Array Slot) (H : Heap) (locs : List Loc), lv_has ls 4 [(3, .int l29_3), (2, .int l29_2), (1, .int r_1), (0, .ref k)] → va_P D vwCl [(k, .inr (11, [.ref k0, .ref k1, .ref k2, .int c3, .ref k4, .ref k5, .ref k6, .ref k7, .ref k8, .int c9, .ref ka, .ref kb, .int cc, .int f29_kd, .int ce, .int cf, .int cg, .int ch, .int ci, .int cj, .int ck, .ref kl, .int cm, .int cn, .ref ko])), (k0, .inl (cI, 1201, .inl c0))] H → va_D A [(k, .inr (11, [.ref k0, .ref k1, .ref k2, .int c3, .ref k4, .ref k5, .ref k6, .ref k7, .ref k8, .int c9, .ref ka, .ref kb, .int cc, .int f29_kd, .int ce, .int cf, .int cg, .int ch, .int ci, .int cj, .int ck, .ref kl, .int cm, .int cn, .ref ko])), (k0, .inl (cI, 1201, .inl c0))] → va_S A s.heap H locs → W p l e ({ frames := 25, cells := 0, slots := 0, locals := 566 } : Room) s m args below meth c H locs 0 0 Q (F0 m 29 ls []) := by
          intro fu_; induction fu_ with
          | zero => intro l29_2 l29_3 f29_kd i29_0 i29_1 i29_2 hm; exact absurd hm (by omega)
          | succ fu_ ih29 =>
              intro l29_2 l29_3 f29_kd i29_0 i29_1 i29_2 hm ls H locs hl hP hD hS
              have lo_l29_2 := k_lo l29_2
              have hi_l29_2 := k_hi l29_2
              have lo_l29_3 := k_lo l29_3
              have hi_l29_3 := k_hi l29_3
              have lo_f29_kd := k_lo f29_kd
              have hi_f29_kd := k_hi f29_kd
              refine lv_iload_n hx hb dX11_one_29 rfl (lv_at hl 0 rfl) ?_
              refine lv_iconst (v := 4) hx hb dX11_one_30 (by decide) ?_
              refine b_icmp_ge hx hb rfl zl_4 (tgt := 77) dX11_one_31 (by decide) (fun c_14 => ?_) (fun c_14 => ?_)
              · refine lv_iload_n hx hb dX11_one_77 rfl (lv_at hl 1 rfl) ?_
                exact hRet (f29_kd, cf, cg) [0, 1] ⟨(by first | omega | decide | assumption | rfl | (dsimp only; first | omega)), (by first | omega | decide | assumption | rfl | (dsimp only; first | omega)), (by first | omega | decide | assumption | rfl | (dsimp only; first | omega))⟩ hP hD (by decide) rfl hS rfl dX11_one_78
              · refine lv_aload_n hx hb dX11_one_34 rfl (lv_at hl 3 rfl) ?_
                refine kJi (wr := []) (va_runV (As := []) (rest := []) ⟨hx, hb, hml, hown, hT⟩ (c_X11_nowG l D cI aK aV k k0 k1 k2 k4 k5 k6 k7 k8 ka kb kl ko H.size c3 c9 cc f29_kd ce cf cg ch ci cj ck cm cn c0 (by first | omega | decide | assumption | rfl) (by first | omega | decide | assumption | rfl) (by first | omega | decide | assumption | rfl) (by first | omega | decide | assumption | rfl) (by first | omega | decide | assumption | rfl)) (cwV 0 hT (gV_in mw_1339 mw_1336 mw_1338 mw_p4_9 mw_12) rfl rfl rfl (by decide +kernel) ⟨Nat.le_of_ble_eq_true rfl, Nat.le_of_ble_eq_true rfl⟩) (kRecvX (q0 := 0) (ci := 11) hK hP hD hN hXS hS hA rfl rfl [0, 1] rfl (by decide)) rfl rfl hl.1 rfl (lv_room (Nat.le_of_ble_eq_true rfl)) dX11_one_35 ⟨Nat.le_of_ble_eq_true rfl, Nat.le_of_ble_eq_true rfl⟩) hP hD hS hA [0, 1] [] rfl rfl (by decide) (by decide) ?_
                clear hP hD hS
                intro r_15 u_17 H locs w_16 hP hD hS
                replace hP : va_P D vwCl [(k, .inr (11, [.ref k0, .ref k1, .ref k2, .int c3, .ref k4, .ref k5, .ref k6, .ref k7, .ref k8, .int c9, .ref ka, .ref kb, .int cc, .int f29_kd, .int ce, .int cf, .int cg, .int ch, .int ci, .int cj, .int ck, .ref kl, .int cm, .int cn, .ref ko])), (k0, .inl (cI, 1201, .inl c0))] H := hP
                replace hD : va_D A [(k, .inr (11, [.ref k0, .ref k1, .ref k2, .int c3, .ref k4, .ref k5, .ref k6, .ref k7, .ref k8, .int c9, .ref ka, .ref kb, .int cc, .int f29_kd, .int ce, .int cf, .int cg, .int ch, .int ci, .int cj, .int ck, .ref kl, .int cm, .int cn, .ref ko])), (k0, .inl (cI, 1201, .inl c0))] := hD
                rcases w_16 with h_18 | ⟨hr_15, h_19⟩
                · have h_18 : f29_kd.toInt < ce.toInt := h_18
                  have lo_r_15 := k_lo r_15
                  have hi_r_15 := k_hi r_15
                  refine lv_bipush (v := 48) hx hb dX11_one_38 (by decide) ?_
                  refine lv_bipush (v := 57) hx hb dX11_one_40 (by decide) ?_
                  refine kJi (wr := [(k, .inr (11, [.ref k0, .ref k1, .ref k2, .int c3, .ref k4, .ref k5, .ref k6, .ref k7, .ref k8, .int c9, .ref ka, .ref kb, .int cc, .int f29_kd, .int ce, .int cf, .int cg, .int ch, .int ci, .int cj, .int ck, .ref kl, .int cm, .int cn, .ref ko])), (k0, .inl (cI, 1201, .inl c0))]) (va_runS (As := [.int r_15, .int 48, .int 57]) (rest := []) ⟨hx, hb, hml, hown, hT⟩ (c_X11_inG l D cI aK aV H.size r_15 48 57) (cwS 3 hT (gS_in mw_1238 mw_1236 mw_1237 mw_12) rfl rfl rfl (by decide +kernel) ⟨Nat.le_of_ble_eq_true rfl, Nat.le_of_ble_eq_true rfl⟩) (kStatX hK hP hD hN hXS hS hA [] rfl (by decide)) rfl rfl hl.1 rfl (lv_room (Nat.le_of_ble_eq_true rfl)) dX11_one_42 ⟨Nat.le_of_ble_eq_true rfl, Nat.le_of_ble_eq_true rfl⟩) hP hD hS hA [] [0, 1] rfl rfl (by decide) (by decide) ?_
                  clear hP hD hS
                  intro r_20 u_22 H locs w_21 hP hD hS
                  replace hP : va_P D vwCl [(k, .inr (11, [.ref k0, .ref k1, .ref k2, .int c3, .ref k4, .ref k5, .ref k6, .ref k7, .ref k8, .int c9, .ref ka, .ref kb, .int cc, .int f29_kd, .int ce, .int cf, .int cg, .int ch, .int ci, .int cj, .int ck, .ref kl, .int cm, .int cn, .ref ko])), (k0, .inl (cI, 1201, .inl c0))] H := hP
                  replace hD : va_D A [(k, .inr (11, [.ref k0, .ref k1, .ref k2, .int c3, .ref k4, .ref k5, .ref k6, .ref k7, .ref k8, .int c9, .ref ka, .ref kb, .int cc, .int f29_kd, .int ce, .int cf, .int cg, .int ch, .int ci, .int cj, .int ck, .ref kl, .int cm, .int cn, .ref ko])), (k0, .inl (cI, 1201, .inl c0))] := hD
                  rcases w_21 with ⟨hr_20, h_23, h_24⟩ | ⟨hr_20, h_25⟩
                  · try simp only [zl_48, zl_57] at h_23
                    have h_23 : 48 ≤ r_15.toInt := h_23
                    try simp only [zl_48, zl_57] at h_24
                    have h_24 : r_15.toInt ≤ 57 := h_24
                    obtain rfl : r_20 = 1 := hr_20.trans (by decide)
                    refine b_if_eq hx hb zl_1 (tgt := 77) dX11_one_45 (by decide) (fun c_26 => by exfalso; omega) (fun c_26 => ?_)
                    refine lv_bipush (v := 10) hx hb dX11_one_48 (by decide) ?_
                    refine lv_iload_n hx hb dX11_one_50 rfl (lv_at hl 1 rfl) ?_
                    refine lv_imul hx hb dX11_one_51 ?_
                    refine lv_topi (fun v_27 ev_27 => ?_)
                    have lo_v_27 := k_lo v_27
                    have hi_v_27 := k_hi v_27
                    refine lv_aload_n hx hb dX11_one_52 rfl (lv_at hl 3 rfl) ?_
                    refine kJi (wr := []) (va_runV (As := []) (rest := [.int v_27]) ⟨hx, hb, hml, hown, hT⟩ (c_X11_nowG l D cI aK aV k k0 k1 k2 k4 k5 k6 k7 k8 ka kb kl ko H.size c3 c9 cc f29_kd ce cf cg ch ci cj ck cm cn c0 (by first | omega | decide | assumption | rfl) (by first | omega | decide | assumption | rfl) (by first | omega | decide | assumption | rfl) (by first | omega | decide | assumption | rfl) (by first | omega | decide | assumption | rfl)) (cwV 0 hT (gV_in mw_1339 mw_1336 mw_1338 mw_p4_9 mw_12) rfl rfl rfl (by decide +kernel) ⟨Nat.le_of_ble_eq_true rfl, Nat.le_of_ble_eq_true rfl⟩) (kRecvX (q0 := 0) (ci := 11) hK hP hD hN hXS hS hA rfl rfl [0, 1] rfl (by decide)) rfl rfl hl.1 rfl (lv_room (Nat.le_of_ble_eq_true rfl)) dX11_one_53 ⟨Nat.le_of_ble_eq_true rfl, Nat.le_of_ble_eq_true rfl⟩) hP hD hS hA [0, 1] [] rfl rfl (by decide) (by decide) ?_
                    clear hP hD hS
                    intro r_28 u_30 H locs w_29 hP hD hS
                    replace hP : va_P D vwCl [(k, .inr (11, [.ref k0, .ref k1, .ref k2, .int c3, .ref k4, .ref k5, .ref k6, .ref k7, .ref k8, .int c9, .ref ka, .ref kb, .int cc, .int f29_kd, .int ce, .int cf, .int cg, .int ch, .int ci, .int cj, .int ck, .ref kl, .int cm, .int cn, .ref ko])), (k0, .inl (cI, 1201, .inl c0))] H := hP
                    replace hD : va_D A [(k, .inr (11, [.ref k0, .ref k1, .ref k2, .int c3, .ref k4, .ref k5, .ref k6, .ref k7, .ref k8, .int c9, .ref ka, .ref kb, .int cc, .int f29_kd, .int ce, .int cf, .int cg, .int ch, .int ci, .int cj, .int ck, .ref kl, .int cm, .int cn, .ref ko])), (k0, .inl (cI, 1201, .inl c0))] := hD
                    rcases w_29 with h_31 | ⟨hr_28, h_32⟩
                    · have h_31 : f29_kd.toInt < ce.toInt := h_31
                      have lo_r_28 := k_lo r_28
                      have hi_r_28 := k_hi r_28
                      refine lv_iadd hx hb dX11_one_56 ?_
                      refine lv_topi (fun v_33 ev_33 => ?_)
                      have lo_v_33 := k_lo v_33
                      have hi_v_33 := k_hi v_33
                      refine lv_bipush (v := 48) hx hb dX11_one_57 (by decide) ?_
                      refine lv_isub hx hb dX11_one_59 ?_
                      refine lv_topi (fun v_34 ev_34 => ?_)
                      have lo_v_34 := k_lo v_34
                      have hi_v_34 := k_hi v_34
                      refine lv_istore_n (lv' := [(2, .int v_34), (3, .int l29_3), (1, .int r_1), (0, .ref k)]) hx hb dX11_one_60 rfl hl (by decide) rfl ?_
                      clear hl
                      intro ls hl
                      refine lv_aload_n hx hb dX11_one_61 rfl (lv_at hl 3 rfl) ?_
                      refine lv_dup hx hb dX11_one_62 rfl ?_
                      refine va_get (D := D) (ci := 11) (v := .int f29_kd) (C := RX11) (T := TX11) (N := 25) hx hb hT giX11 hown hK hP 0 rfl rfl 13 (by decide) (hT (Cond.fieldLink RX11 138 "DesertWireModel" "here" "I") mw_1169) (fun _ h9 => h9) rfl dX11_one_63 ?_
                      refine lv_iconst (v := 1) hx hb dX11_one_66 (by decide) ?_
                      refine lv_iadd hx hb dX11_one_67 ?_
                      refine lv_topi (fun v_35 ev_35 => ?_)
                      have tv_35 : v_35.toInt = f29_kd.toInt + 1 := by rw [ev_35]; exact k_addv rfl zl_1 (by omega) (by omega)
                      refine va_put (D := D) (ci := 11) (v := .int v_35) (ty := .int) (C := RX11) (T := TX11) (N := 25) hx hb hT giX11 tyX11 tyX11_ok nmX11 hown hK hP hD hS 0 rfl rfl 13 (by decide) (hT (Cond.fieldLink RX11 138 "DesertWireModel" "here" "I") mw_1169) (fun _ h9 => h9) rfl (by decide +kernel) rfl rfl (Nat.le_of_ble_eq_true rfl) dX11_one_68 ?_
                      clear hP hD hS
                      intro H locs hP hD hS
                      replace hP : va_P D vwCl [(k, .inr (11, [.ref k0, .ref k1, .ref k2, .int c3, .ref k4, .ref k5, .ref k6, .ref k7, .ref k8, .int c9, .ref ka, .ref kb, .int cc, .int v_35, .int ce, .int cf, .int cg, .int ch, .int ci, .int cj, .int ck, .ref kl, .int cm, .int cn, .ref ko])), (k0, .inl (cI, 1201, .inl c0))] H := hP
                      replace hD : va_D A [(k, .inr (11, [.ref k0, .ref k1, .ref k2, .int c3, .ref k4, .ref k5, .ref k6, .ref k7, .ref k8, .int c9, .ref ka, .ref kb, .int cc, .int v_35, .int ce, .int cf, .int cg, .int ch, .int ci, .int cj, .int ck, .ref kl, .int cm, .int cn, .ref ko])), (k0, .inl (cI, 1201, .inl c0))] := hD
                      obtain ⟨v_36, ev_36⟩ : ∃ y : Int32, y = l29_3 + 1 := ⟨_, rfl⟩
                      have tv_36 : v_36.toInt = l29_3.toInt + 1 := by rw [ev_36]; exact k_addv rfl zl_1 (by omega) (by omega)
                      refine lv_iinc (v := v_36) (lv' := [(3, .int v_36), (2, .int v_34), (1, .int r_1), (0, .ref k)]) hx hb dX11_one_71 hl (k := 1) rfl (by rw [ev_36]; rfl) (by decide) rfl ?_
                      clear hl
                      intro ls hl
                      refine lv_goto (tgt := 29) hx hb dX11_one_74 (by decide) ?_
                      exact ih29 v_34 v_36 v_35 (by first | omega | decide | assumption | rfl) (by first | omega | decide | assumption | rfl) (by first | omega | decide | assumption | rfl) (by omega) ls _ _ (lv_sub hl [0, 1, 2, 3] rfl) (hP.sub [0, 1] rfl) (hD.sub [0, 1] (by decide) rfl) hS
                    · exfalso; omega
                  · try simp only [zl_48, zl_57] at h_25
                    have h_25 : r_15.toInt < 48 ∨ 57 < r_15.toInt := h_25
                    obtain rfl : r_20 = 0 := hr_20.trans (by decide)
                    refine b_if_eq hx hb zl_0 (tgt := 77) dX11_one_45 (by decide) (fun c_37 => ?_) (fun c_37 => by exfalso; omega)
                    refine lv_iload_n hx hb dX11_one_77 rfl (lv_at hl 1 rfl) ?_
                    exact hRet (f29_kd, cf, cg) [0, 1] ⟨(by first | omega | decide | assumption | rfl | (dsimp only; first | omega)), (by first | omega | decide | assumption | rfl | (dsimp only; first | omega)), (by first | omega | decide | assumption | rfl | (dsimp only; first | omega))⟩ hP hD (by decide) rfl hS rfl dX11_one_78
                · have h_19 : f29_kd.toInt = ce.toInt := h_19
                  obtain rfl : r_15 = (-1) := hr_15.trans (by decide)
                  refine lv_bipush (v := 48) hx hb dX11_one_38 (by decide) ?_
                  refine lv_bipush (v := 57) hx hb dX11_one_40 (by decide) ?_
                  refine kJi (wr := [(k, .inr (11, [.ref k0, .ref k1, .ref k2, .int c3, .ref k4, .ref k5, .ref k6, .ref k7, .ref k8, .int c9, .ref ka, .ref kb, .int cc, .int f29_kd, .int ce, .int cf, .int cg, .int ch, .int ci, .int cj, .int ck, .ref kl, .int cm, .int cn, .ref ko])), (k0, .inl (cI, 1201, .inl c0))]) (va_runS (As := [.int (-1), .int 48, .int 57]) (rest := []) ⟨hx, hb, hml, hown, hT⟩ (c_X11_inG l D cI aK aV H.size (-1) 48 57) (cwS 3 hT (gS_in mw_1238 mw_1236 mw_1237 mw_12) rfl rfl rfl (by decide +kernel) ⟨Nat.le_of_ble_eq_true rfl, Nat.le_of_ble_eq_true rfl⟩) (kStatX hK hP hD hN hXS hS hA [] rfl (by decide)) rfl rfl hl.1 rfl (lv_room (Nat.le_of_ble_eq_true rfl)) dX11_one_42 ⟨Nat.le_of_ble_eq_true rfl, Nat.le_of_ble_eq_true rfl⟩) hP hD hS hA [] [0, 1] rfl rfl (by decide) (by decide) ?_
                  clear hP hD hS
                  intro r_38 u_40 H locs w_39 hP hD hS
                  replace hP : va_P D vwCl [(k, .inr (11, [.ref k0, .ref k1, .ref k2, .int c3, .ref k4, .ref k5, .ref k6, .ref k7, .ref k8, .int c9, .ref ka, .ref kb, .int cc, .int f29_kd, .int ce, .int cf, .int cg, .int ch, .int ci, .int cj, .int ck, .ref kl, .int cm, .int cn, .ref ko])), (k0, .inl (cI, 1201, .inl c0))] H := hP
                  replace hD : va_D A [(k, .inr (11, [.ref k0, .ref k1, .ref k2, .int c3, .ref k4, .ref k5, .ref k6, .ref k7, .ref k8, .int c9, .ref ka, .ref kb, .int cc, .int f29_kd, .int ce, .int cf, .int cg, .int ch, .int ci, .int cj, .int ck, .ref kl, .int cm, .int cn, .ref ko])), (k0, .inl (cI, 1201, .inl c0))] := hD
                  rcases w_39 with ⟨hr_38, h_41, h_42⟩ | ⟨hr_38, h_43⟩
                  · (try simp only [zl_m1, zl_48, zl_57] at h_41 h_42); exfalso; omega
                  · try simp only [zl_m1, zl_48, zl_57] at h_43
                    obtain rfl : r_38 = 0 := hr_38.trans (by decide)
                    refine b_if_eq hx hb zl_0 (tgt := 77) dX11_one_45 (by decide) (fun c_44 => ?_) (fun c_44 => by exfalso; omega)
                    refine lv_iload_n hx hb dX11_one_77 rfl (lv_at hl 1 rfl) ?_
                    exact hRet (f29_kd, cf, cg) [0, 1] ⟨(by first | omega | decide | assumption | rfl | (dsimp only; first | omega)), (by first | omega | decide | assumption | rfl | (dsimp only; first | omega)), (by first | omega | decide | assumption | rfl | (dsimp only; first | omega))⟩ hP hD (by decide) rfl hS rfl dX11_one_78
        exact hloop_29 _ 0 0 cd (by first | omega | (simp only [zl_0] <;> omega) | decide | assumption | rfl) (by first | omega | (simp only [zl_0] <;> omega) | decide | assumption | rfl) (by first | omega | (simp only [zl_0] <;> omega) | decide | assumption | rfl) (Nat.lt_succ_self _) ls _ _ (lv_sub hl [0, 1, 2, 3] rfl) hP hD hS
      · try simp only [zl_48, zl_57] at h_12
        have h_12 : r_1.toInt < 48 ∨ 57 < r_1.toInt := h_12
        obtain rfl : r_7 = 0 := hr_7.trans (by decide)
        refine b_if_eq hx hb zl_0 (tgt := 79) dX11_one_22 (by decide) (fun c_45 => ?_) (fun c_45 => by exfalso; omega)
        refine lv_aload_n hx hb dX11_one_79 rfl (lv_at hl 1 rfl) ?_
        refine lv_iload_n hx hb dX11_one_80 rfl (lv_at hl 0 rfl) ?_
        refine kJi (wr := [(k0, .inl (cI, 1201, .inl c0))]) (va_runV (As := [.int r_1]) (rest := []) ⟨hx, hb, hml, hown, hT⟩ (c_X11_nameAtG l D cI aK aV k k0 k1 k2 k4 k5 k6 k7 k8 ka kb kl ko H.size c3 c9 cc cd ce cf cg ch ci cj ck cm cn r_1) (cwV 1 hT (gV_in mw_1343 mw_1340 mw_1342 mw_p4_10 mw_12) rfl rfl rfl (by decide +kernel) ⟨Nat.le_of_ble_eq_true rfl, Nat.le_of_ble_eq_true rfl⟩) (kRecvX (q0 := 0) (ci := 11) hK hP hD hN hXS hS hA rfl rfl [0] rfl (by decide)) rfl rfl hl.1 rfl (lv_room (Nat.le_of_ble_eq_true rfl)) dX11_one_81 ⟨Nat.le_of_ble_eq_true rfl, Nat.le_of_ble_eq_true rfl⟩) hP hD hS hA [0] [1] rfl rfl (by decide) (by decide) ?_
        clear hP hD hS
        intro r_46 u_48 H locs w_47 hP hD hS
        replace hP : va_P D vwCl [(k0, .inl (cI, 1201, .inl c0)), (k, .inr (11, [.ref k0, .ref k1, .ref k2, .int c3, .ref k4, .ref k5, .ref k6, .ref k7, .ref k8, .int c9, .ref ka, .ref kb, .int cc, .int cd, .int ce, .int cf, .int cg, .int ch, .int ci, .int cj, .int ck, .ref kl, .int cm, .int cn, .ref ko]))] H := hP
        replace hD : va_D A [(k0, .inl (cI, 1201, .inl c0)), (k, .inr (11, [.ref k0, .ref k1, .ref k2, .int c3, .ref k4, .ref k5, .ref k6, .ref k7, .ref k8, .int c9, .ref ka, .ref kb, .int cc, .int cd, .int ce, .int cf, .int cg, .int ch, .int ci, .int cj, .int ck, .ref kl, .int cm, .int cn, .ref ko]))] := hD
        rcases w_47 with h_49 | hr_46
        · have h_49 : 97 ≤ r_1.toInt := h_49
          have lo_r_46 := k_lo r_46
          have hi_r_46 := k_hi r_46
          refine lv_istore_n (lv' := [(2, .int r_46), (1, .int r_1), (0, .ref k)]) hx hb dX11_one_84 rfl hl (by decide) rfl ?_
          clear hl
          intro ls hl
          refine lv_iload_n hx hb dX11_one_85 rfl (lv_at hl 0 rfl) ?_
          refine b_if_lt hx hb rfl (tgt := 127) dX11_one_86 (by decide) (fun c_50 => ?_) (fun c_50 => ?_)
          · refine lv_aload_n hx hb dX11_one_127 rfl (lv_at hl 2 rfl) ?_
            refine lv_iload_n hx hb dX11_one_128 rfl (lv_at hl 1 rfl) ?_
            refine lv_bipush (v := 45) hx hb dX11_one_129 (by decide) ?_
            refine b_icmp_eq hx hb rfl zl_45 (tgt := 146) dX11_one_131 (by decide) (fun c_51 => by exfalso; omega) (fun c_51 => ?_)
            refine lv_iload_n hx hb dX11_one_134 rfl (lv_at hl 1 rfl) ?_
            refine lv_bipush (v := 33) hx hb dX11_one_135 (by decide) ?_
            refine b_icmp_eq hx hb rfl zl_33 (tgt := 146) dX11_one_137 (by decide) (fun c_52 => by exfalso; omega) (fun c_52 => ?_)
            refine lv_iload_n hx hb dX11_one_140 rfl (lv_at hl 1 rfl) ?_
            refine lv_bipush (v := 40) hx hb dX11_one_141 (by decide) ?_
            refine b_icmp_ne hx hb rfl zl_40 (tgt := 158) dX11_one_143 (by decide) (fun c_53 => ?_) (fun c_53 => by exfalso; omega)
            refine lv_iconst (v := 0) hx hb dX11_one_158 (by decide) ?_
            refine kJv (wr := [(k0, .inl (cI, 1201, .inl c0))]) (va_runV (As := [.int 0]) (rest := []) ⟨hx, hb, hml, hown, hT⟩ (c_X11_needsG l D cI aK aV k k0 k1 k2 k4 k5 k6 k7 k8 ka kb kl ko H.size c3 c9 cc cd ce cf cg ch ci cj ck cm cn 0) (cwV 1 hT (gV_in mw_1347 mw_1344 mw_1346 mw_p4_11 mw_12) rfl rfl rfl (by decide +kernel) ⟨Nat.le_of_ble_eq_true rfl, Nat.le_of_ble_eq_true rfl⟩) (kRecvX (q0 := 1) (ci := 11) hK hP hD hN hXS hS hA rfl rfl [1] rfl (by decide)) rfl rfl hl.1 rfl (lv_room (Nat.le_of_ble_eq_true rfl)) dX11_one_159 ⟨Nat.le_of_ble_eq_true rfl, Nat.le_of_ble_eq_true rfl⟩) hP hD hS hA [1] [0] rfl rfl (by decide) (by decide) ?_
            clear hP hD hS
            intro scf_56 H locs w_55 hP hD hS
            replace hP : va_P D vwCl [(k0, .inl (cI, 1201, .inl c0)), (k, .inr (11, [.ref k0, .ref k1, .ref k2, .int c3, .ref k4, .ref k5, .ref k6, .ref k7, .ref k8, .int c9, .ref ka, .ref kb, .int cc, .int cd, .int ce, .int scf_56, .int cg, .int ch, .int ci, .int cj, .int ck, .ref kl, .int cm, .int cn, .ref ko]))] H := hP
            replace hD : va_D A [(k0, .inl (cI, 1201, .inl c0)), (k, .inr (11, [.ref k0, .ref k1, .ref k2, .int c3, .ref k4, .ref k5, .ref k6, .ref k7, .ref k8, .int c9, .ref ka, .ref kb, .int cc, .int cd, .int ce, .int scf_56, .int cg, .int ch, .int ci, .int cj, .int ck, .ref kl, .int cm, .int cn, .ref ko]))] := hD
            have lo_scf_56 := k_lo scf_56
            have hi_scf_56 := k_hi scf_56
            rcases w_55 with ⟨h_57, h_58, h_59⟩ | h_60
            · (try simp only [zl_0] at h_57 h_58 h_59); exfalso; omega
            · try simp only [zl_0] at h_60
              have h_60 : scf_56.toInt = 1 := h_60
              refine lv_aload_n hx hb dX11_one_162 rfl (lv_at hl 2 rfl) ?_
              refine va_get (D := D) (ci := 11) (v := .int scf_56) (C := RX11) (T := TX11) (N := 25) hx hb hT giX11 hown hK hP 1 rfl rfl 15 (by decide) (hT (Cond.fieldLink RX11 148 "DesertWireModel" "isWrong" "Z") mw_1171) (fun _ h9 => h9) rfl dX11_one_163 ?_
              refine b_if_eq hx hb rfl (tgt := 171) dX11_one_166 (by decide) (fun c_61 => by exfalso; omega) (fun c_61 => ?_)
              refine lv_iconst (v := 0) hx hb dX11_one_169 (by decide) ?_
              exact hRet (cd, scf_56, cg) [1, 0] ⟨(by first | omega | (simp only [zl_0] <;> omega) | decide | assumption | rfl | (dsimp only; first | omega | (simp only [zl_0] <;> omega))), (by first | omega | (simp only [zl_0] <;> omega) | decide | assumption | rfl | (dsimp only; first | omega | (simp only [zl_0] <;> omega))), (by first | omega | (simp only [zl_0] <;> omega) | decide | assumption | rfl | (dsimp only; first | omega | (simp only [zl_0] <;> omega)))⟩ hP hD (by decide) rfl hS rfl dX11_one_170
          · refine lv_aload_n hx hb dX11_one_89 rfl (lv_at hl 2 rfl) ?_
            refine lv_dup hx hb dX11_one_90 rfl ?_
            refine va_get (D := D) (ci := 11) (v := .int cd) (C := RX11) (T := TX11) (N := 25) hx hb hT giX11 hown hK hP 1 rfl rfl 13 (by decide) (hT (Cond.fieldLink RX11 138 "DesertWireModel" "here" "I") mw_1169) (fun _ h9 => h9) rfl dX11_one_91 ?_
            refine lv_iconst (v := 1) hx hb dX11_one_94 (by decide) ?_
            refine lv_iadd hx hb dX11_one_95 ?_
            refine lv_topi (fun v_62 ev_62 => ?_)
            have tv_62 : v_62.toInt = cd.toInt + 1 := by rw [ev_62]; exact k_addv rfl zl_1 (by omega) (by omega)
            refine va_put (D := D) (ci := 11) (v := .int v_62) (ty := .int) (C := RX11) (T := TX11) (N := 25) hx hb hT giX11 tyX11 tyX11_ok nmX11 hown hK hP hD hS 1 rfl rfl 13 (by decide) (hT (Cond.fieldLink RX11 138 "DesertWireModel" "here" "I") mw_1169) (fun _ h9 => h9) rfl (by decide +kernel) rfl rfl (Nat.le_of_ble_eq_true rfl) dX11_one_96 ?_
            clear hP hD hS
            intro H locs hP hD hS
            replace hP : va_P D vwCl [(k0, .inl (cI, 1201, .inl c0)), (k, .inr (11, [.ref k0, .ref k1, .ref k2, .int c3, .ref k4, .ref k5, .ref k6, .ref k7, .ref k8, .int c9, .ref ka, .ref kb, .int cc, .int v_62, .int ce, .int cf, .int cg, .int ch, .int ci, .int cj, .int ck, .ref kl, .int cm, .int cn, .ref ko]))] H := hP
            replace hD : va_D A [(k0, .inl (cI, 1201, .inl c0)), (k, .inr (11, [.ref k0, .ref k1, .ref k2, .int c3, .ref k4, .ref k5, .ref k6, .ref k7, .ref k8, .int c9, .ref ka, .ref kb, .int cc, .int v_62, .int ce, .int cf, .int cg, .int ch, .int ci, .int cj, .int ck, .ref kl, .int cm, .int cn, .ref ko]))] := hD
            refine lv_iload_n hx hb dX11_one_99 rfl (lv_at hl 0 rfl) ?_
            refine b_if_ne hx hb rfl (tgt := 110) dX11_one_100 (by decide) (fun c_63 => ?_) (fun c_63 => ?_)
            · refine lv_iload_n hx hb dX11_one_110 rfl (lv_at hl 0 rfl) ?_
              refine lv_iconst (v := 1) hx hb dX11_one_111 (by decide) ?_
              refine b_icmp_ne hx hb rfl zl_1 (tgt := 122) dX11_one_112 (by decide) (fun c_64 => ?_) (fun c_64 => ?_)
              · refine lv_aload_n hx hb dX11_one_122 rfl (lv_at hl 2 rfl) ?_
                refine va_get (D := D) (ci := 11) (v := .int ck) (C := RX11) (T := TX11) (N := 25) hx hb hT giX11 hown hK hP 1 rfl rfl 20 (by decide) (hT (Cond.fieldLink RX11 167 "DesertWireModel" "nameC" "I") mw_1176) (fun _ h9 => h9) rfl dX11_one_123 ?_
                exact hRet (v_62, cf, cg) [1, 0] ⟨(by first | omega | decide | assumption | rfl | (dsimp only; first | omega)), (by first | omega | decide | assumption | rfl | (dsimp only; first | omega)), (by first | omega | decide | assumption | rfl | (dsimp only; first | omega))⟩ hP hD (by decide) rfl hS rfl dX11_one_126
              · refine lv_aload_n hx hb dX11_one_115 rfl (lv_at hl 2 rfl) ?_
                refine va_get (D := D) (ci := 11) (v := .int cj) (C := RX11) (T := TX11) (N := 25) hx hb hT giX11 hown hK hP 1 rfl rfl 19 (by decide) (hT (Cond.fieldLink RX11 164 "DesertWireModel" "nameB" "I") mw_1175) (fun _ h9 => h9) rfl dX11_one_116 ?_
                refine lv_goto (tgt := 126) hx hb dX11_one_119 (by decide) ?_
                exact hRet (v_62, cf, cg) [1, 0] ⟨(by first | omega | decide | assumption | rfl | (dsimp only; first | omega)), (by first | omega | decide | assumption | rfl | (dsimp only; first | omega)), (by first | omega | decide | assumption | rfl | (dsimp only; first | omega))⟩ hP hD (by decide) rfl hS rfl dX11_one_126
            · refine lv_aload_n hx hb dX11_one_103 rfl (lv_at hl 2 rfl) ?_
              refine va_get (D := D) (ci := 11) (v := .int ci) (C := RX11) (T := TX11) (N := 25) hx hb hT giX11 hown hK hP 1 rfl rfl 18 (by decide) (hT (Cond.fieldLink RX11 161 "DesertWireModel" "nameA" "I") mw_1174) (fun _ h9 => h9) rfl dX11_one_104 ?_
              refine lv_goto (tgt := 126) hx hb dX11_one_107 (by decide) ?_
              exact hRet (v_62, cf, cg) [1, 0] ⟨(by first | omega | decide | assumption | rfl | (dsimp only; first | omega)), (by first | omega | decide | assumption | rfl | (dsimp only; first | omega)), (by first | omega | decide | assumption | rfl | (dsimp only; first | omega))⟩ hP hD (by decide) rfl hS rfl dX11_one_126
        · obtain rfl : r_46 = (-1) := hr_46.trans (by decide)
          refine lv_istore_n (lv' := [(2, .int (-1)), (1, .int r_1), (0, .ref k)]) hx hb dX11_one_84 rfl hl (by decide) rfl ?_
          clear hl
          intro ls hl
          refine lv_iload_n hx hb dX11_one_85 rfl (lv_at hl 0 rfl) ?_
          refine b_if_lt hx hb zl_m1 (tgt := 127) dX11_one_86 (by decide) (fun c_65 => ?_) (fun c_65 => by exfalso; omega)
          refine lv_aload_n hx hb dX11_one_127 rfl (lv_at hl 2 rfl) ?_
          refine lv_iload_n hx hb dX11_one_128 rfl (lv_at hl 1 rfl) ?_
          refine lv_bipush (v := 45) hx hb dX11_one_129 (by decide) ?_
          refine b_icmp_eq hx hb rfl zl_45 (tgt := 146) dX11_one_131 (by decide) (fun c_66 => ?_) (fun c_66 => ?_)
          · refine lv_aload_n hx hb dX11_one_146 rfl (lv_at hl 2 rfl) ?_
            refine va_get (D := D) (ci := 11) (v := .int cg) (C := RX11) (T := TX11) (N := 25) hx hb hT giX11 hown hK hP 1 rfl rfl 16 (by decide) (hT (Cond.fieldLink RX11 170 "DesertWireModel" "open" "I") mw_1172) (fun _ h9 => h9) rfl dX11_one_147 ?_
            refine lv_iconst (v := 4) hx hb dX11_one_150 (by decide) ?_
            refine b_icmp_ge hx hb rfl zl_4 (tgt := 158) dX11_one_151 (by decide) (fun c_67 => by exfalso; omega) (fun c_67 => ?_)
            refine lv_iconst (v := 1) hx hb dX11_one_154 (by decide) ?_
            refine lv_goto (tgt := 159) hx hb dX11_one_155 (by decide) ?_
            refine kJv (wr := [(k0, .inl (cI, 1201, .inl c0))]) (va_runV (As := [.int 1]) (rest := []) ⟨hx, hb, hml, hown, hT⟩ (c_X11_needsG l D cI aK aV k k0 k1 k2 k4 k5 k6 k7 k8 ka kb kl ko H.size c3 c9 cc cd ce cf cg ch ci cj ck cm cn 1) (cwV 1 hT (gV_in mw_1347 mw_1344 mw_1346 mw_p4_11 mw_12) rfl rfl rfl (by decide +kernel) ⟨Nat.le_of_ble_eq_true rfl, Nat.le_of_ble_eq_true rfl⟩) (kRecvX (q0 := 1) (ci := 11) hK hP hD hN hXS hS hA rfl rfl [1] rfl (by decide)) rfl rfl hl.1 rfl (lv_room (Nat.le_of_ble_eq_true rfl)) dX11_one_159 ⟨Nat.le_of_ble_eq_true rfl, Nat.le_of_ble_eq_true rfl⟩) hP hD hS hA [1] [0] rfl rfl (by decide) (by decide) ?_
            clear hP hD hS
            intro scf_70 H locs w_69 hP hD hS
            replace hP : va_P D vwCl [(k0, .inl (cI, 1201, .inl c0)), (k, .inr (11, [.ref k0, .ref k1, .ref k2, .int c3, .ref k4, .ref k5, .ref k6, .ref k7, .ref k8, .int c9, .ref ka, .ref kb, .int cc, .int cd, .int ce, .int scf_70, .int cg, .int ch, .int ci, .int cj, .int ck, .ref kl, .int cm, .int cn, .ref ko]))] H := hP
            replace hD : va_D A [(k0, .inl (cI, 1201, .inl c0)), (k, .inr (11, [.ref k0, .ref k1, .ref k2, .int c3, .ref k4, .ref k5, .ref k6, .ref k7, .ref k8, .int c9, .ref ka, .ref kb, .int cc, .int cd, .int ce, .int scf_70, .int cg, .int ch, .int ci, .int cj, .int ck, .ref kl, .int cm, .int cn, .ref ko]))] := hD
            have lo_scf_70 := k_lo scf_70
            have hi_scf_70 := k_hi scf_70
            rcases w_69 with ⟨h_71, h_72, h_73⟩ | h_74
            · try simp only [zl_1] at h_71
              try simp only [zl_1] at h_72
              have h_72 : cf.toInt = 0 := h_72
              try simp only [zl_1] at h_73
              have h_73 : scf_70.toInt = 0 := h_73
              refine lv_aload_n hx hb dX11_one_162 rfl (lv_at hl 2 rfl) ?_
              refine va_get (D := D) (ci := 11) (v := .int scf_70) (C := RX11) (T := TX11) (N := 25) hx hb hT giX11 hown hK hP 1 rfl rfl 15 (by decide) (hT (Cond.fieldLink RX11 148 "DesertWireModel" "isWrong" "Z") mw_1171) (fun _ h9 => h9) rfl dX11_one_163 ?_
              refine b_if_eq hx hb rfl (tgt := 171) dX11_one_166 (by decide) (fun c_75 => ?_) (fun c_75 => by exfalso; omega)
              refine lv_aload_n hx hb dX11_one_171 rfl (lv_at hl 2 rfl) ?_
              refine lv_dup hx hb dX11_one_172 rfl ?_
              refine va_get (D := D) (ci := 11) (v := .int cd) (C := RX11) (T := TX11) (N := 25) hx hb hT giX11 hown hK hP 1 rfl rfl 13 (by decide) (hT (Cond.fieldLink RX11 138 "DesertWireModel" "here" "I") mw_1169) (fun _ h9 => h9) rfl dX11_one_173 ?_
              refine lv_iconst (v := 1) hx hb dX11_one_176 (by decide) ?_
              refine lv_iadd hx hb dX11_one_177 ?_
              refine lv_topi (fun v_76 ev_76 => ?_)
              have tv_76 : v_76.toInt = cd.toInt + 1 := by rw [ev_76]; exact k_addv rfl zl_1 (by omega) (by omega)
              refine va_put (D := D) (ci := 11) (v := .int v_76) (ty := .int) (C := RX11) (T := TX11) (N := 25) hx hb hT giX11 tyX11 tyX11_ok nmX11 hown hK hP hD hS 1 rfl rfl 13 (by decide) (hT (Cond.fieldLink RX11 138 "DesertWireModel" "here" "I") mw_1169) (fun _ h9 => h9) rfl (by decide +kernel) rfl rfl (Nat.le_of_ble_eq_true rfl) dX11_one_178 ?_
              clear hP hD hS
              intro H locs hP hD hS
              replace hP : va_P D vwCl [(k0, .inl (cI, 1201, .inl c0)), (k, .inr (11, [.ref k0, .ref k1, .ref k2, .int c3, .ref k4, .ref k5, .ref k6, .ref k7, .ref k8, .int c9, .ref ka, .ref kb, .int cc, .int v_76, .int ce, .int scf_70, .int cg, .int ch, .int ci, .int cj, .int ck, .ref kl, .int cm, .int cn, .ref ko]))] H := hP
              replace hD : va_D A [(k0, .inl (cI, 1201, .inl c0)), (k, .inr (11, [.ref k0, .ref k1, .ref k2, .int c3, .ref k4, .ref k5, .ref k6, .ref k7, .ref k8, .int c9, .ref ka, .ref kb, .int cc, .int v_76, .int ce, .int scf_70, .int cg, .int ch, .int ci, .int cj, .int ck, .ref kl, .int cm, .int cn, .ref ko]))] := hD
              refine lv_aload_n hx hb dX11_one_181 rfl (lv_at hl 2 rfl) ?_
              refine lv_dup hx hb dX11_one_182 rfl ?_
              refine va_get (D := D) (ci := 11) (v := .int cg) (C := RX11) (T := TX11) (N := 25) hx hb hT giX11 hown hK hP 1 rfl rfl 16 (by decide) (hT (Cond.fieldLink RX11 170 "DesertWireModel" "open" "I") mw_1172) (fun _ h9 => h9) rfl dX11_one_183 ?_
              refine lv_iconst (v := 1) hx hb dX11_one_186 (by decide) ?_
              refine lv_iadd hx hb dX11_one_187 ?_
              refine lv_topi (fun v_77 ev_77 => ?_)
              have tv_77 : v_77.toInt = cg.toInt + 1 := by rw [ev_77]; exact k_addv rfl zl_1 (by omega) (by omega)
              refine va_put (D := D) (ci := 11) (v := .int v_77) (ty := .int) (C := RX11) (T := TX11) (N := 25) hx hb hT giX11 tyX11 tyX11_ok nmX11 hown hK hP hD hS 1 rfl rfl 16 (by decide) (hT (Cond.fieldLink RX11 170 "DesertWireModel" "open" "I") mw_1172) (fun _ h9 => h9) rfl (by decide +kernel) rfl rfl (Nat.le_of_ble_eq_true rfl) dX11_one_188 ?_
              clear hP hD hS
              intro H locs hP hD hS
              replace hP : va_P D vwCl [(k0, .inl (cI, 1201, .inl c0)), (k, .inr (11, [.ref k0, .ref k1, .ref k2, .int c3, .ref k4, .ref k5, .ref k6, .ref k7, .ref k8, .int c9, .ref ka, .ref kb, .int cc, .int v_76, .int ce, .int scf_70, .int v_77, .int ch, .int ci, .int cj, .int ck, .ref kl, .int cm, .int cn, .ref ko]))] H := hP
              replace hD : va_D A [(k0, .inl (cI, 1201, .inl c0)), (k, .inr (11, [.ref k0, .ref k1, .ref k2, .int c3, .ref k4, .ref k5, .ref k6, .ref k7, .ref k8, .int c9, .ref ka, .ref kb, .int cc, .int v_76, .int ce, .int scf_70, .int v_77, .int ch, .int ci, .int cj, .int ck, .ref kl, .int cm, .int cn, .ref ko]))] := hD
              refine lv_iload_n hx hb dX11_one_191 rfl (lv_at hl 1 rfl) ?_
              refine lv_bipush (v := 40) hx hb dX11_one_192 (by decide) ?_
              refine b_icmp_ne hx hb rfl zl_40 (tgt := 204) dX11_one_194 (by decide) (fun c_78 => ?_) (fun c_78 => by exfalso; omega)
              refine lv_aload_n hx hb dX11_one_204 rfl (lv_at hl 2 rfl) ?_
              refine kJi (wr := []) (va_runV (As := []) (rest := []) ⟨hx, hb, hml, hown, hT⟩ (c_X11_oneG1 l D cI aK aV k k0 k1 k2 k4 k5 k6 k7 k8 ka kb kl ko H.size c3 c9 cc v_76 ce scf_70 v_77 ch ci cj ck cm cn c0 (by first | omega | decide | assumption | rfl) (by first | omega | decide | assumption | rfl) (by first | omega | decide | assumption | rfl) (by first | omega | decide | assumption | rfl) (by first | omega | decide | assumption | rfl) (by first | omega | decide | assumption | rfl)) (cwV 0 hT (gV_in mw_1335 mw_1332 mw_1334 mw_p4_8 mw_12) rfl rfl rfl (by decide +kernel) ⟨Nat.le_of_ble_eq_true rfl, Nat.le_of_ble_eq_true rfl⟩) (kRecvX (q0 := 1) (ci := 11) hK hP hD hN hXS hS hA rfl rfl [1, 0] rfl (by decide)) rfl rfl hl.1 rfl (lv_room (Nat.le_of_ble_eq_true rfl)) dX11_one_205 ⟨Nat.le_of_ble_eq_true rfl, Nat.le_of_ble_eq_true rfl⟩) hP hD hS hA [1, 0] [] rfl rfl (by decide) (by decide) ?_
              clear hP hD hS
              intro r_79 u_84 H locs w_80 hP hD hS
              obtain ⟨scd_81, scf_82, scg_83⟩ := u_84
              replace hP : va_P D vwCl [(k, .inr (11, [.ref k0, .ref k1, .ref k2, .int c3, .ref k4, .ref k5, .ref k6, .ref k7, .ref k8, .int c9, .ref ka, .ref kb, .int cc, .int scd_81, .int ce, .int scf_82, .int scg_83, .int ch, .int ci, .int cj, .int ck, .ref kl, .int cm, .int cn, .ref ko])), (k0, .inl (cI, 1201, .inl c0))] H := hP
              replace hD : va_D A [(k, .inr (11, [.ref k0, .ref k1, .ref k2, .int c3, .ref k4, .ref k5, .ref k6, .ref k7, .ref k8, .int c9, .ref ka, .ref kb, .int cc, .int scd_81, .int ce, .int scf_82, .int scg_83, .int ch, .int ci, .int cj, .int ck, .ref kl, .int cm, .int cn, .ref ko])), (k0, .inl (cI, 1201, .inl c0))] := hD
              have lo_scd_81 := k_lo scd_81
              have hi_scd_81 := k_hi scd_81
              have lo_scf_82 := k_lo scf_82
              have hi_scf_82 := k_hi scf_82
              have lo_scg_83 := k_lo scg_83
              have hi_scg_83 := k_hi scg_83
              obtain ⟨h_85, h_86, h_87⟩ := w_80
              have h_85 : v_76.toInt ≤ scd_81.toInt := h_85
              have h_86 : scd_81.toInt ≤ ce.toInt := h_86
              have h_87 : scg_83.toInt = 1 := h_87
              have lo_r_79 := k_lo r_79
              have hi_r_79 := k_hi r_79
              refine lv_istore_n (lv' := [(3, .int r_79), (2, .int (-1)), (1, .int r_1), (0, .ref k)]) hx hb dX11_one_208 rfl hl (by decide) rfl ?_
              clear hl
              intro ls hl
              refine lv_aload_n hx hb dX11_one_209 rfl (lv_at hl 3 rfl) ?_
              refine lv_iload_n hx hb dX11_one_210 rfl (lv_at hl 2 rfl) ?_
              refine lv_bipush (v := 40) hx hb dX11_one_211 (by decide) ?_
              refine b_icmp_ne hx hb rfl zl_40 (tgt := 225) dX11_one_213 (by decide) (fun c_88 => ?_) (fun c_88 => by exfalso; omega)
              refine lv_iconst (v := 1) hx hb dX11_one_225 (by decide) ?_
              refine lv_goto (tgt := 230) hx hb dX11_one_226 (by decide) ?_
              refine kJv (wr := [(k0, .inl (cI, 1201, .inl c0))]) (va_runV (As := [.int 1]) (rest := []) ⟨hx, hb, hml, hown, hT⟩ (c_X11_needsG l D cI aK aV k k0 k1 k2 k4 k5 k6 k7 k8 ka kb kl ko H.size c3 c9 cc scd_81 ce scf_82 scg_83 ch ci cj ck cm cn 1) (cwV 1 hT (gV_in mw_1347 mw_1344 mw_1346 mw_p4_11 mw_12) rfl rfl rfl (by decide +kernel) ⟨Nat.le_of_ble_eq_true rfl, Nat.le_of_ble_eq_true rfl⟩) (kRecvX (q0 := 0) (ci := 11) hK hP hD hN hXS hS hA rfl rfl [0] rfl (by decide)) rfl rfl hl.1 rfl (lv_room (Nat.le_of_ble_eq_true rfl)) dX11_one_230 ⟨Nat.le_of_ble_eq_true rfl, Nat.le_of_ble_eq_true rfl⟩) hP hD hS hA [0] [1] rfl rfl (by decide) (by decide) ?_
              clear hP hD hS
              intro scf_91 H locs w_90 hP hD hS
              replace hP : va_P D vwCl [(k0, .inl (cI, 1201, .inl c0)), (k, .inr (11, [.ref k0, .ref k1, .ref k2, .int c3, .ref k4, .ref k5, .ref k6, .ref k7, .ref k8, .int c9, .ref ka, .ref kb, .int cc, .int scd_81, .int ce, .int scf_91, .int scg_83, .int ch, .int ci, .int cj, .int ck, .ref kl, .int cm, .int cn, .ref ko]))] H := hP
              replace hD : va_D A [(k0, .inl (cI, 1201, .inl c0)), (k, .inr (11, [.ref k0, .ref k1, .ref k2, .int c3, .ref k4, .ref k5, .ref k6, .ref k7, .ref k8, .int c9, .ref ka, .ref kb, .int cc, .int scd_81, .int ce, .int scf_91, .int scg_83, .int ch, .int ci, .int cj, .int ck, .ref kl, .int cm, .int cn, .ref ko]))] := hD
              have lo_scf_91 := k_lo scf_91
              have hi_scf_91 := k_hi scf_91
              rcases w_90 with ⟨h_92, h_93, h_94⟩ | h_95
              · try simp only [zl_1] at h_92
                try simp only [zl_1] at h_93
                have h_93 : scf_82.toInt = 0 := h_93
                try simp only [zl_1] at h_94
                have h_94 : scf_91.toInt = 0 := h_94
                refine lv_aload_n hx hb dX11_one_233 rfl (lv_at hl 3 rfl) ?_
                refine lv_dup hx hb dX11_one_234 rfl ?_
                refine va_get (D := D) (ci := 11) (v := .int scg_83) (C := RX11) (T := TX11) (N := 25) hx hb hT giX11 hown hK hP 1 rfl rfl 16 (by decide) (hT (Cond.fieldLink RX11 170 "DesertWireModel" "open" "I") mw_1172) (fun _ h9 => h9) rfl dX11_one_235 ?_
                refine lv_iconst (v := 1) hx hb dX11_one_238 (by decide) ?_
                refine lv_isub hx hb dX11_one_239 ?_
                refine lv_topi (fun v_96 ev_96 => ?_)
                have tv_96 : v_96.toInt = scg_83.toInt - 1 := by rw [ev_96]; exact k_subv rfl zl_1 (by omega) (by omega)
                refine va_put (D := D) (ci := 11) (v := .int v_96) (ty := .int) (C := RX11) (T := TX11) (N := 25) hx hb hT giX11 tyX11 tyX11_ok nmX11 hown hK hP hD hS 1 rfl rfl 16 (by decide) (hT (Cond.fieldLink RX11 170 "DesertWireModel" "open" "I") mw_1172) (fun _ h9 => h9) rfl (by decide +kernel) rfl rfl (Nat.le_of_ble_eq_true rfl) dX11_one_240 ?_
                clear hP hD hS
                intro H locs hP hD hS
                replace hP : va_P D vwCl [(k0, .inl (cI, 1201, .inl c0)), (k, .inr (11, [.ref k0, .ref k1, .ref k2, .int c3, .ref k4, .ref k5, .ref k6, .ref k7, .ref k8, .int c9, .ref ka, .ref kb, .int cc, .int scd_81, .int ce, .int scf_91, .int v_96, .int ch, .int ci, .int cj, .int ck, .ref kl, .int cm, .int cn, .ref ko]))] H := hP
                replace hD : va_D A [(k0, .inl (cI, 1201, .inl c0)), (k, .inr (11, [.ref k0, .ref k1, .ref k2, .int c3, .ref k4, .ref k5, .ref k6, .ref k7, .ref k8, .int c9, .ref ka, .ref kb, .int cc, .int scd_81, .int ce, .int scf_91, .int v_96, .int ch, .int ci, .int cj, .int ck, .ref kl, .int cm, .int cn, .ref ko]))] := hD
                refine lv_iload_n hx hb dX11_one_243 rfl (lv_at hl 2 rfl) ?_
                refine lv_bipush (v := 45) hx hb dX11_one_244 (by decide) ?_
                refine b_icmp_ne hx hb rfl zl_45 (tgt := 254) dX11_one_246 (by decide) (fun c_97 => by exfalso; omega) (fun c_97 => ?_)
                refine lv_iload_n hx hb dX11_one_249 rfl (lv_at hl 0 rfl) ?_
                refine lv_ineg hx hb dX11_one_250 ?_
                refine lv_topi (fun v_98 ev_98 => ?_)
                have lo_v_98 := k_lo v_98
                have hi_v_98 := k_hi v_98
                refine lv_goto (tgt := 273) hx hb dX11_one_251 (by decide) ?_
                exact hRet (scd_81, scf_91, v_96) [1, 0] ⟨(by first | omega | decide | assumption | rfl | (dsimp only; first | omega)), (by first | omega | decide | assumption | rfl | (dsimp only; first | omega)), (by first | omega | decide | assumption | rfl | (dsimp only; first | omega))⟩ hP hD (by decide) rfl hS rfl dX11_one_273
              · try simp only [zl_1] at h_95
                have h_95 : scf_91.toInt = 1 := h_95
                refine lv_aload_n hx hb dX11_one_233 rfl (lv_at hl 3 rfl) ?_
                refine lv_dup hx hb dX11_one_234 rfl ?_
                refine va_get (D := D) (ci := 11) (v := .int scg_83) (C := RX11) (T := TX11) (N := 25) hx hb hT giX11 hown hK hP 1 rfl rfl 16 (by decide) (hT (Cond.fieldLink RX11 170 "DesertWireModel" "open" "I") mw_1172) (fun _ h9 => h9) rfl dX11_one_235 ?_
                refine lv_iconst (v := 1) hx hb dX11_one_238 (by decide) ?_
                refine lv_isub hx hb dX11_one_239 ?_
                refine lv_topi (fun v_99 ev_99 => ?_)
                have tv_99 : v_99.toInt = scg_83.toInt - 1 := by rw [ev_99]; exact k_subv rfl zl_1 (by omega) (by omega)
                refine va_put (D := D) (ci := 11) (v := .int v_99) (ty := .int) (C := RX11) (T := TX11) (N := 25) hx hb hT giX11 tyX11 tyX11_ok nmX11 hown hK hP hD hS 1 rfl rfl 16 (by decide) (hT (Cond.fieldLink RX11 170 "DesertWireModel" "open" "I") mw_1172) (fun _ h9 => h9) rfl (by decide +kernel) rfl rfl (Nat.le_of_ble_eq_true rfl) dX11_one_240 ?_
                clear hP hD hS
                intro H locs hP hD hS
                replace hP : va_P D vwCl [(k0, .inl (cI, 1201, .inl c0)), (k, .inr (11, [.ref k0, .ref k1, .ref k2, .int c3, .ref k4, .ref k5, .ref k6, .ref k7, .ref k8, .int c9, .ref ka, .ref kb, .int cc, .int scd_81, .int ce, .int scf_91, .int v_99, .int ch, .int ci, .int cj, .int ck, .ref kl, .int cm, .int cn, .ref ko]))] H := hP
                replace hD : va_D A [(k0, .inl (cI, 1201, .inl c0)), (k, .inr (11, [.ref k0, .ref k1, .ref k2, .int c3, .ref k4, .ref k5, .ref k6, .ref k7, .ref k8, .int c9, .ref ka, .ref kb, .int cc, .int scd_81, .int ce, .int scf_91, .int v_99, .int ch, .int ci, .int cj, .int ck, .ref kl, .int cm, .int cn, .ref ko]))] := hD
                refine lv_iload_n hx hb dX11_one_243 rfl (lv_at hl 2 rfl) ?_
                refine lv_bipush (v := 45) hx hb dX11_one_244 (by decide) ?_
                refine b_icmp_ne hx hb rfl zl_45 (tgt := 254) dX11_one_246 (by decide) (fun c_100 => by exfalso; omega) (fun c_100 => ?_)
                refine lv_iload_n hx hb dX11_one_249 rfl (lv_at hl 0 rfl) ?_
                refine lv_ineg hx hb dX11_one_250 ?_
                refine lv_topi (fun v_101 ev_101 => ?_)
                have lo_v_101 := k_lo v_101
                have hi_v_101 := k_hi v_101
                refine lv_goto (tgt := 273) hx hb dX11_one_251 (by decide) ?_
                exact hRet (scd_81, scf_91, v_99) [1, 0] ⟨(by first | omega | decide | assumption | rfl | (dsimp only; first | omega)), (by first | omega | decide | assumption | rfl | (dsimp only; first | omega)), (by first | omega | decide | assumption | rfl | (dsimp only; first | omega))⟩ hP hD (by decide) rfl hS rfl dX11_one_273
            · try simp only [zl_1] at h_74
              have h_74 : scf_70.toInt = 1 := h_74
              refine lv_aload_n hx hb dX11_one_162 rfl (lv_at hl 2 rfl) ?_
              refine va_get (D := D) (ci := 11) (v := .int scf_70) (C := RX11) (T := TX11) (N := 25) hx hb hT giX11 hown hK hP 1 rfl rfl 15 (by decide) (hT (Cond.fieldLink RX11 148 "DesertWireModel" "isWrong" "Z") mw_1171) (fun _ h9 => h9) rfl dX11_one_163 ?_
              refine b_if_eq hx hb rfl (tgt := 171) dX11_one_166 (by decide) (fun c_102 => by exfalso; omega) (fun c_102 => ?_)
              refine lv_iconst (v := 0) hx hb dX11_one_169 (by decide) ?_
              exact hRet (cd, scf_70, cg) [1, 0] ⟨(by first | omega | (simp only [zl_0] <;> omega) | decide | assumption | rfl | (dsimp only; first | omega | (simp only [zl_0] <;> omega))), (by first | omega | (simp only [zl_0] <;> omega) | decide | assumption | rfl | (dsimp only; first | omega | (simp only [zl_0] <;> omega))), (by first | omega | (simp only [zl_0] <;> omega) | decide | assumption | rfl | (dsimp only; first | omega | (simp only [zl_0] <;> omega)))⟩ hP hD (by decide) rfl hS rfl dX11_one_170
          · refine lv_iload_n hx hb dX11_one_134 rfl (lv_at hl 1 rfl) ?_
            refine lv_bipush (v := 33) hx hb dX11_one_135 (by decide) ?_
            refine b_icmp_eq hx hb rfl zl_33 (tgt := 146) dX11_one_137 (by decide) (fun c_103 => ?_) (fun c_103 => ?_)
            · refine lv_aload_n hx hb dX11_one_146 rfl (lv_at hl 2 rfl) ?_
              refine va_get (D := D) (ci := 11) (v := .int cg) (C := RX11) (T := TX11) (N := 25) hx hb hT giX11 hown hK hP 1 rfl rfl 16 (by decide) (hT (Cond.fieldLink RX11 170 "DesertWireModel" "open" "I") mw_1172) (fun _ h9 => h9) rfl dX11_one_147 ?_
              refine lv_iconst (v := 4) hx hb dX11_one_150 (by decide) ?_
              refine b_icmp_ge hx hb rfl zl_4 (tgt := 158) dX11_one_151 (by decide) (fun c_104 => by exfalso; omega) (fun c_104 => ?_)
              refine lv_iconst (v := 1) hx hb dX11_one_154 (by decide) ?_
              refine lv_goto (tgt := 159) hx hb dX11_one_155 (by decide) ?_
              refine kJv (wr := [(k0, .inl (cI, 1201, .inl c0))]) (va_runV (As := [.int 1]) (rest := []) ⟨hx, hb, hml, hown, hT⟩ (c_X11_needsG l D cI aK aV k k0 k1 k2 k4 k5 k6 k7 k8 ka kb kl ko H.size c3 c9 cc cd ce cf cg ch ci cj ck cm cn 1) (cwV 1 hT (gV_in mw_1347 mw_1344 mw_1346 mw_p4_11 mw_12) rfl rfl rfl (by decide +kernel) ⟨Nat.le_of_ble_eq_true rfl, Nat.le_of_ble_eq_true rfl⟩) (kRecvX (q0 := 1) (ci := 11) hK hP hD hN hXS hS hA rfl rfl [1] rfl (by decide)) rfl rfl hl.1 rfl (lv_room (Nat.le_of_ble_eq_true rfl)) dX11_one_159 ⟨Nat.le_of_ble_eq_true rfl, Nat.le_of_ble_eq_true rfl⟩) hP hD hS hA [1] [0] rfl rfl (by decide) (by decide) ?_
              clear hP hD hS
              intro scf_107 H locs w_106 hP hD hS
              replace hP : va_P D vwCl [(k0, .inl (cI, 1201, .inl c0)), (k, .inr (11, [.ref k0, .ref k1, .ref k2, .int c3, .ref k4, .ref k5, .ref k6, .ref k7, .ref k8, .int c9, .ref ka, .ref kb, .int cc, .int cd, .int ce, .int scf_107, .int cg, .int ch, .int ci, .int cj, .int ck, .ref kl, .int cm, .int cn, .ref ko]))] H := hP
              replace hD : va_D A [(k0, .inl (cI, 1201, .inl c0)), (k, .inr (11, [.ref k0, .ref k1, .ref k2, .int c3, .ref k4, .ref k5, .ref k6, .ref k7, .ref k8, .int c9, .ref ka, .ref kb, .int cc, .int cd, .int ce, .int scf_107, .int cg, .int ch, .int ci, .int cj, .int ck, .ref kl, .int cm, .int cn, .ref ko]))] := hD
              have lo_scf_107 := k_lo scf_107
              have hi_scf_107 := k_hi scf_107
              rcases w_106 with ⟨h_108, h_109, h_110⟩ | h_111
              · try simp only [zl_1] at h_108
                try simp only [zl_1] at h_109
                have h_109 : cf.toInt = 0 := h_109
                try simp only [zl_1] at h_110
                have h_110 : scf_107.toInt = 0 := h_110
                refine lv_aload_n hx hb dX11_one_162 rfl (lv_at hl 2 rfl) ?_
                refine va_get (D := D) (ci := 11) (v := .int scf_107) (C := RX11) (T := TX11) (N := 25) hx hb hT giX11 hown hK hP 1 rfl rfl 15 (by decide) (hT (Cond.fieldLink RX11 148 "DesertWireModel" "isWrong" "Z") mw_1171) (fun _ h9 => h9) rfl dX11_one_163 ?_
                refine b_if_eq hx hb rfl (tgt := 171) dX11_one_166 (by decide) (fun c_112 => ?_) (fun c_112 => by exfalso; omega)
                refine lv_aload_n hx hb dX11_one_171 rfl (lv_at hl 2 rfl) ?_
                refine lv_dup hx hb dX11_one_172 rfl ?_
                refine va_get (D := D) (ci := 11) (v := .int cd) (C := RX11) (T := TX11) (N := 25) hx hb hT giX11 hown hK hP 1 rfl rfl 13 (by decide) (hT (Cond.fieldLink RX11 138 "DesertWireModel" "here" "I") mw_1169) (fun _ h9 => h9) rfl dX11_one_173 ?_
                refine lv_iconst (v := 1) hx hb dX11_one_176 (by decide) ?_
                refine lv_iadd hx hb dX11_one_177 ?_
                refine lv_topi (fun v_113 ev_113 => ?_)
                have tv_113 : v_113.toInt = cd.toInt + 1 := by rw [ev_113]; exact k_addv rfl zl_1 (by omega) (by omega)
                refine va_put (D := D) (ci := 11) (v := .int v_113) (ty := .int) (C := RX11) (T := TX11) (N := 25) hx hb hT giX11 tyX11 tyX11_ok nmX11 hown hK hP hD hS 1 rfl rfl 13 (by decide) (hT (Cond.fieldLink RX11 138 "DesertWireModel" "here" "I") mw_1169) (fun _ h9 => h9) rfl (by decide +kernel) rfl rfl (Nat.le_of_ble_eq_true rfl) dX11_one_178 ?_
                clear hP hD hS
                intro H locs hP hD hS
                replace hP : va_P D vwCl [(k0, .inl (cI, 1201, .inl c0)), (k, .inr (11, [.ref k0, .ref k1, .ref k2, .int c3, .ref k4, .ref k5, .ref k6, .ref k7, .ref k8, .int c9, .ref ka, .ref kb, .int cc, .int v_113, .int ce, .int scf_107, .int cg, .int ch, .int ci, .int cj, .int ck, .ref kl, .int cm, .int cn, .ref ko]))] H := hP
                replace hD : va_D A [(k0, .inl (cI, 1201, .inl c0)), (k, .inr (11, [.ref k0, .ref k1, .ref k2, .int c3, .ref k4, .ref k5, .ref k6, .ref k7, .ref k8, .int c9, .ref ka, .ref kb, .int cc, .int v_113, .int ce, .int scf_107, .int cg, .int ch, .int ci, .int cj, .int ck, .ref kl, .int cm, .int cn, .ref ko]))] := hD
                refine lv_aload_n hx hb dX11_one_181 rfl (lv_at hl 2 rfl) ?_
                refine lv_dup hx hb dX11_one_182 rfl ?_
                refine va_get (D := D) (ci := 11) (v := .int cg) (C := RX11) (T := TX11) (N := 25) hx hb hT giX11 hown hK hP 1 rfl rfl 16 (by decide) (hT (Cond.fieldLink RX11 170 "DesertWireModel" "open" "I") mw_1172) (fun _ h9 => h9) rfl dX11_one_183 ?_
                refine lv_iconst (v := 1) hx hb dX11_one_186 (by decide) ?_
                refine lv_iadd hx hb dX11_one_187 ?_
                refine lv_topi (fun v_114 ev_114 => ?_)
                have tv_114 : v_114.toInt = cg.toInt + 1 := by rw [ev_114]; exact k_addv rfl zl_1 (by omega) (by omega)
                refine va_put (D := D) (ci := 11) (v := .int v_114) (ty := .int) (C := RX11) (T := TX11) (N := 25) hx hb hT giX11 tyX11 tyX11_ok nmX11 hown hK hP hD hS 1 rfl rfl 16 (by decide) (hT (Cond.fieldLink RX11 170 "DesertWireModel" "open" "I") mw_1172) (fun _ h9 => h9) rfl (by decide +kernel) rfl rfl (Nat.le_of_ble_eq_true rfl) dX11_one_188 ?_
                clear hP hD hS
                intro H locs hP hD hS
                replace hP : va_P D vwCl [(k0, .inl (cI, 1201, .inl c0)), (k, .inr (11, [.ref k0, .ref k1, .ref k2, .int c3, .ref k4, .ref k5, .ref k6, .ref k7, .ref k8, .int c9, .ref ka, .ref kb, .int cc, .int v_113, .int ce, .int scf_107, .int v_114, .int ch, .int ci, .int cj, .int ck, .ref kl, .int cm, .int cn, .ref ko]))] H := hP
                replace hD : va_D A [(k0, .inl (cI, 1201, .inl c0)), (k, .inr (11, [.ref k0, .ref k1, .ref k2, .int c3, .ref k4, .ref k5, .ref k6, .ref k7, .ref k8, .int c9, .ref ka, .ref kb, .int cc, .int v_113, .int ce, .int scf_107, .int v_114, .int ch, .int ci, .int cj, .int ck, .ref kl, .int cm, .int cn, .ref ko]))] := hD
                refine lv_iload_n hx hb dX11_one_191 rfl (lv_at hl 1 rfl) ?_
                refine lv_bipush (v := 40) hx hb dX11_one_192 (by decide) ?_
                refine b_icmp_ne hx hb rfl zl_40 (tgt := 204) dX11_one_194 (by decide) (fun c_115 => ?_) (fun c_115 => by exfalso; omega)
                refine lv_aload_n hx hb dX11_one_204 rfl (lv_at hl 2 rfl) ?_
                refine kJi (wr := []) (va_runV (As := []) (rest := []) ⟨hx, hb, hml, hown, hT⟩ (c_X11_oneG1 l D cI aK aV k k0 k1 k2 k4 k5 k6 k7 k8 ka kb kl ko H.size c3 c9 cc v_113 ce scf_107 v_114 ch ci cj ck cm cn c0 (by first | omega | decide | assumption | rfl) (by first | omega | decide | assumption | rfl) (by first | omega | decide | assumption | rfl) (by first | omega | decide | assumption | rfl) (by first | omega | decide | assumption | rfl) (by first | omega | decide | assumption | rfl)) (cwV 0 hT (gV_in mw_1335 mw_1332 mw_1334 mw_p4_8 mw_12) rfl rfl rfl (by decide +kernel) ⟨Nat.le_of_ble_eq_true rfl, Nat.le_of_ble_eq_true rfl⟩) (kRecvX (q0 := 1) (ci := 11) hK hP hD hN hXS hS hA rfl rfl [1, 0] rfl (by decide)) rfl rfl hl.1 rfl (lv_room (Nat.le_of_ble_eq_true rfl)) dX11_one_205 ⟨Nat.le_of_ble_eq_true rfl, Nat.le_of_ble_eq_true rfl⟩) hP hD hS hA [1, 0] [] rfl rfl (by decide) (by decide) ?_
                clear hP hD hS
                intro r_116 u_121 H locs w_117 hP hD hS
                obtain ⟨scd_118, scf_119, scg_120⟩ := u_121
                replace hP : va_P D vwCl [(k, .inr (11, [.ref k0, .ref k1, .ref k2, .int c3, .ref k4, .ref k5, .ref k6, .ref k7, .ref k8, .int c9, .ref ka, .ref kb, .int cc, .int scd_118, .int ce, .int scf_119, .int scg_120, .int ch, .int ci, .int cj, .int ck, .ref kl, .int cm, .int cn, .ref ko])), (k0, .inl (cI, 1201, .inl c0))] H := hP
                replace hD : va_D A [(k, .inr (11, [.ref k0, .ref k1, .ref k2, .int c3, .ref k4, .ref k5, .ref k6, .ref k7, .ref k8, .int c9, .ref ka, .ref kb, .int cc, .int scd_118, .int ce, .int scf_119, .int scg_120, .int ch, .int ci, .int cj, .int ck, .ref kl, .int cm, .int cn, .ref ko])), (k0, .inl (cI, 1201, .inl c0))] := hD
                have lo_scd_118 := k_lo scd_118
                have hi_scd_118 := k_hi scd_118
                have lo_scf_119 := k_lo scf_119
                have hi_scf_119 := k_hi scf_119
                have lo_scg_120 := k_lo scg_120
                have hi_scg_120 := k_hi scg_120
                obtain ⟨h_122, h_123, h_124⟩ := w_117
                have h_122 : v_113.toInt ≤ scd_118.toInt := h_122
                have h_123 : scd_118.toInt ≤ ce.toInt := h_123
                have h_124 : scg_120.toInt = 1 := h_124
                have lo_r_116 := k_lo r_116
                have hi_r_116 := k_hi r_116
                refine lv_istore_n (lv' := [(3, .int r_116), (2, .int (-1)), (1, .int r_1), (0, .ref k)]) hx hb dX11_one_208 rfl hl (by decide) rfl ?_
                clear hl
                intro ls hl
                refine lv_aload_n hx hb dX11_one_209 rfl (lv_at hl 3 rfl) ?_
                refine lv_iload_n hx hb dX11_one_210 rfl (lv_at hl 2 rfl) ?_
                refine lv_bipush (v := 40) hx hb dX11_one_211 (by decide) ?_
                refine b_icmp_ne hx hb rfl zl_40 (tgt := 225) dX11_one_213 (by decide) (fun c_125 => ?_) (fun c_125 => by exfalso; omega)
                refine lv_iconst (v := 1) hx hb dX11_one_225 (by decide) ?_
                refine lv_goto (tgt := 230) hx hb dX11_one_226 (by decide) ?_
                refine kJv (wr := [(k0, .inl (cI, 1201, .inl c0))]) (va_runV (As := [.int 1]) (rest := []) ⟨hx, hb, hml, hown, hT⟩ (c_X11_needsG l D cI aK aV k k0 k1 k2 k4 k5 k6 k7 k8 ka kb kl ko H.size c3 c9 cc scd_118 ce scf_119 scg_120 ch ci cj ck cm cn 1) (cwV 1 hT (gV_in mw_1347 mw_1344 mw_1346 mw_p4_11 mw_12) rfl rfl rfl (by decide +kernel) ⟨Nat.le_of_ble_eq_true rfl, Nat.le_of_ble_eq_true rfl⟩) (kRecvX (q0 := 0) (ci := 11) hK hP hD hN hXS hS hA rfl rfl [0] rfl (by decide)) rfl rfl hl.1 rfl (lv_room (Nat.le_of_ble_eq_true rfl)) dX11_one_230 ⟨Nat.le_of_ble_eq_true rfl, Nat.le_of_ble_eq_true rfl⟩) hP hD hS hA [0] [1] rfl rfl (by decide) (by decide) ?_
                clear hP hD hS
                intro scf_128 H locs w_127 hP hD hS
                replace hP : va_P D vwCl [(k0, .inl (cI, 1201, .inl c0)), (k, .inr (11, [.ref k0, .ref k1, .ref k2, .int c3, .ref k4, .ref k5, .ref k6, .ref k7, .ref k8, .int c9, .ref ka, .ref kb, .int cc, .int scd_118, .int ce, .int scf_128, .int scg_120, .int ch, .int ci, .int cj, .int ck, .ref kl, .int cm, .int cn, .ref ko]))] H := hP
                replace hD : va_D A [(k0, .inl (cI, 1201, .inl c0)), (k, .inr (11, [.ref k0, .ref k1, .ref k2, .int c3, .ref k4, .ref k5, .ref k6, .ref k7, .ref k8, .int c9, .ref ka, .ref kb, .int cc, .int scd_118, .int ce, .int scf_128, .int scg_120, .int ch, .int ci, .int cj, .int ck, .ref kl, .int cm, .int cn, .ref ko]))] := hD
                have lo_scf_128 := k_lo scf_128
                have hi_scf_128 := k_hi scf_128
                rcases w_127 with ⟨h_129, h_130, h_131⟩ | h_132
                · try simp only [zl_1] at h_129
                  try simp only [zl_1] at h_130
                  have h_130 : scf_119.toInt = 0 := h_130
                  try simp only [zl_1] at h_131
                  have h_131 : scf_128.toInt = 0 := h_131
                  refine lv_aload_n hx hb dX11_one_233 rfl (lv_at hl 3 rfl) ?_
                  refine lv_dup hx hb dX11_one_234 rfl ?_
                  refine va_get (D := D) (ci := 11) (v := .int scg_120) (C := RX11) (T := TX11) (N := 25) hx hb hT giX11 hown hK hP 1 rfl rfl 16 (by decide) (hT (Cond.fieldLink RX11 170 "DesertWireModel" "open" "I") mw_1172) (fun _ h9 => h9) rfl dX11_one_235 ?_
                  refine lv_iconst (v := 1) hx hb dX11_one_238 (by decide) ?_
                  refine lv_isub hx hb dX11_one_239 ?_
                  refine lv_topi (fun v_133 ev_133 => ?_)
                  have tv_133 : v_133.toInt = scg_120.toInt - 1 := by rw [ev_133]; exact k_subv rfl zl_1 (by omega) (by omega)
                  refine va_put (D := D) (ci := 11) (v := .int v_133) (ty := .int) (C := RX11) (T := TX11) (N := 25) hx hb hT giX11 tyX11 tyX11_ok nmX11 hown hK hP hD hS 1 rfl rfl 16 (by decide) (hT (Cond.fieldLink RX11 170 "DesertWireModel" "open" "I") mw_1172) (fun _ h9 => h9) rfl (by decide +kernel) rfl rfl (Nat.le_of_ble_eq_true rfl) dX11_one_240 ?_
                  clear hP hD hS
                  intro H locs hP hD hS
                  replace hP : va_P D vwCl [(k0, .inl (cI, 1201, .inl c0)), (k, .inr (11, [.ref k0, .ref k1, .ref k2, .int c3, .ref k4, .ref k5, .ref k6, .ref k7, .ref k8, .int c9, .ref ka, .ref kb, .int cc, .int scd_118, .int ce, .int scf_128, .int v_133, .int ch, .int ci, .int cj, .int ck, .ref kl, .int cm, .int cn, .ref ko]))] H := hP
                  replace hD : va_D A [(k0, .inl (cI, 1201, .inl c0)), (k, .inr (11, [.ref k0, .ref k1, .ref k2, .int c3, .ref k4, .ref k5, .ref k6, .ref k7, .ref k8, .int c9, .ref ka, .ref kb, .int cc, .int scd_118, .int ce, .int scf_128, .int v_133, .int ch, .int ci, .int cj, .int ck, .ref kl, .int cm, .int cn, .ref ko]))] := hD
                  refine lv_iload_n hx hb dX11_one_243 rfl (lv_at hl 2 rfl) ?_
                  refine lv_bipush (v := 45) hx hb dX11_one_244 (by decide) ?_
                  refine b_icmp_ne hx hb rfl zl_45 (tgt := 254) dX11_one_246 (by decide) (fun c_134 => ?_) (fun c_134 => by exfalso; omega)
                  refine lv_iload_n hx hb dX11_one_254 rfl (lv_at hl 2 rfl) ?_
                  refine lv_bipush (v := 33) hx hb dX11_one_255 (by decide) ?_
                  refine b_icmp_ne hx hb rfl zl_33 (tgt := 272) dX11_one_257 (by decide) (fun c_135 => by exfalso; omega) (fun c_135 => ?_)
                  refine lv_iload_n hx hb dX11_one_260 rfl (lv_at hl 0 rfl) ?_
                  refine b_if_ne hx hb rfl (tgt := 268) dX11_one_261 (by decide) (fun c_136 => ?_) (fun c_136 => ?_)
                  · refine lv_iconst (v := 0) hx hb dX11_one_268 (by decide) ?_
                    refine lv_goto (tgt := 273) hx hb dX11_one_269 (by decide) ?_
                    exact hRet (scd_118, scf_128, v_133) [1, 0] ⟨(by first | omega | (simp only [zl_0] <;> omega) | decide | assumption | rfl | (dsimp only; first | omega | (simp only [zl_0] <;> omega))), (by first | omega | (simp only [zl_0] <;> omega) | decide | assumption | rfl | (dsimp only; first | omega | (simp only [zl_0] <;> omega))), (by first | omega | (simp only [zl_0] <;> omega) | decide | assumption | rfl | (dsimp only; first | omega | (simp only [zl_0] <;> omega)))⟩ hP hD (by decide) rfl hS rfl dX11_one_273
                  · refine lv_iconst (v := 1) hx hb dX11_one_264 (by decide) ?_
                    refine lv_goto (tgt := 273) hx hb dX11_one_265 (by decide) ?_
                    exact hRet (scd_118, scf_128, v_133) [1, 0] ⟨(by first | omega | (simp only [zl_1] <;> omega) | decide | assumption | rfl | (dsimp only; first | omega | (simp only [zl_1] <;> omega))), (by first | omega | (simp only [zl_1] <;> omega) | decide | assumption | rfl | (dsimp only; first | omega | (simp only [zl_1] <;> omega))), (by first | omega | (simp only [zl_1] <;> omega) | decide | assumption | rfl | (dsimp only; first | omega | (simp only [zl_1] <;> omega)))⟩ hP hD (by decide) rfl hS rfl dX11_one_273
                · try simp only [zl_1] at h_132
                  have h_132 : scf_128.toInt = 1 := h_132
                  refine lv_aload_n hx hb dX11_one_233 rfl (lv_at hl 3 rfl) ?_
                  refine lv_dup hx hb dX11_one_234 rfl ?_
                  refine va_get (D := D) (ci := 11) (v := .int scg_120) (C := RX11) (T := TX11) (N := 25) hx hb hT giX11 hown hK hP 1 rfl rfl 16 (by decide) (hT (Cond.fieldLink RX11 170 "DesertWireModel" "open" "I") mw_1172) (fun _ h9 => h9) rfl dX11_one_235 ?_
                  refine lv_iconst (v := 1) hx hb dX11_one_238 (by decide) ?_
                  refine lv_isub hx hb dX11_one_239 ?_
                  refine lv_topi (fun v_137 ev_137 => ?_)
                  have tv_137 : v_137.toInt = scg_120.toInt - 1 := by rw [ev_137]; exact k_subv rfl zl_1 (by omega) (by omega)
                  refine va_put (D := D) (ci := 11) (v := .int v_137) (ty := .int) (C := RX11) (T := TX11) (N := 25) hx hb hT giX11 tyX11 tyX11_ok nmX11 hown hK hP hD hS 1 rfl rfl 16 (by decide) (hT (Cond.fieldLink RX11 170 "DesertWireModel" "open" "I") mw_1172) (fun _ h9 => h9) rfl (by decide +kernel) rfl rfl (Nat.le_of_ble_eq_true rfl) dX11_one_240 ?_
                  clear hP hD hS
                  intro H locs hP hD hS
                  replace hP : va_P D vwCl [(k0, .inl (cI, 1201, .inl c0)), (k, .inr (11, [.ref k0, .ref k1, .ref k2, .int c3, .ref k4, .ref k5, .ref k6, .ref k7, .ref k8, .int c9, .ref ka, .ref kb, .int cc, .int scd_118, .int ce, .int scf_128, .int v_137, .int ch, .int ci, .int cj, .int ck, .ref kl, .int cm, .int cn, .ref ko]))] H := hP
                  replace hD : va_D A [(k0, .inl (cI, 1201, .inl c0)), (k, .inr (11, [.ref k0, .ref k1, .ref k2, .int c3, .ref k4, .ref k5, .ref k6, .ref k7, .ref k8, .int c9, .ref ka, .ref kb, .int cc, .int scd_118, .int ce, .int scf_128, .int v_137, .int ch, .int ci, .int cj, .int ck, .ref kl, .int cm, .int cn, .ref ko]))] := hD
                  refine lv_iload_n hx hb dX11_one_243 rfl (lv_at hl 2 rfl) ?_
                  refine lv_bipush (v := 45) hx hb dX11_one_244 (by decide) ?_
                  refine b_icmp_ne hx hb rfl zl_45 (tgt := 254) dX11_one_246 (by decide) (fun c_138 => ?_) (fun c_138 => by exfalso; omega)
                  refine lv_iload_n hx hb dX11_one_254 rfl (lv_at hl 2 rfl) ?_
                  refine lv_bipush (v := 33) hx hb dX11_one_255 (by decide) ?_
                  refine b_icmp_ne hx hb rfl zl_33 (tgt := 272) dX11_one_257 (by decide) (fun c_139 => by exfalso; omega) (fun c_139 => ?_)
                  refine lv_iload_n hx hb dX11_one_260 rfl (lv_at hl 0 rfl) ?_
                  refine b_if_ne hx hb rfl (tgt := 268) dX11_one_261 (by decide) (fun c_140 => ?_) (fun c_140 => ?_)
                  · refine lv_iconst (v := 0) hx hb dX11_one_268 (by decide) ?_
                    refine lv_goto (tgt := 273) hx hb dX11_one_269 (by decide) ?_
                    exact hRet (scd_118, scf_128, v_137) [1, 0] ⟨(by first | omega | (simp only [zl_0] <;> omega) | decide | assumption | rfl | (dsimp only; first | omega | (simp only [zl_0] <;> omega))), (by first | omega | (simp only [zl_0] <;> omega) | decide | assumption | rfl | (dsimp only; first | omega | (simp only [zl_0] <;> omega))), (by first | omega | (simp only [zl_0] <;> omega) | decide | assumption | rfl | (dsimp only; first | omega | (simp only [zl_0] <;> omega)))⟩ hP hD (by decide) rfl hS rfl dX11_one_273
                  · refine lv_iconst (v := 1) hx hb dX11_one_264 (by decide) ?_
                    refine lv_goto (tgt := 273) hx hb dX11_one_265 (by decide) ?_
                    exact hRet (scd_118, scf_128, v_137) [1, 0] ⟨(by first | omega | (simp only [zl_1] <;> omega) | decide | assumption | rfl | (dsimp only; first | omega | (simp only [zl_1] <;> omega))), (by first | omega | (simp only [zl_1] <;> omega) | decide | assumption | rfl | (dsimp only; first | omega | (simp only [zl_1] <;> omega))), (by first | omega | (simp only [zl_1] <;> omega) | decide | assumption | rfl | (dsimp only; first | omega | (simp only [zl_1] <;> omega)))⟩ hP hD (by decide) rfl hS rfl dX11_one_273
              · try simp only [zl_1] at h_111
                have h_111 : scf_107.toInt = 1 := h_111
                refine lv_aload_n hx hb dX11_one_162 rfl (lv_at hl 2 rfl) ?_
                refine va_get (D := D) (ci := 11) (v := .int scf_107) (C := RX11) (T := TX11) (N := 25) hx hb hT giX11 hown hK hP 1 rfl rfl 15 (by decide) (hT (Cond.fieldLink RX11 148 "DesertWireModel" "isWrong" "Z") mw_1171) (fun _ h9 => h9) rfl dX11_one_163 ?_
                refine b_if_eq hx hb rfl (tgt := 171) dX11_one_166 (by decide) (fun c_141 => by exfalso; omega) (fun c_141 => ?_)
                refine lv_iconst (v := 0) hx hb dX11_one_169 (by decide) ?_
                exact hRet (cd, scf_107, cg) [1, 0] ⟨(by first | omega | (simp only [zl_0] <;> omega) | decide | assumption | rfl | (dsimp only; first | omega | (simp only [zl_0] <;> omega))), (by first | omega | (simp only [zl_0] <;> omega) | decide | assumption | rfl | (dsimp only; first | omega | (simp only [zl_0] <;> omega))), (by first | omega | (simp only [zl_0] <;> omega) | decide | assumption | rfl | (dsimp only; first | omega | (simp only [zl_0] <;> omega)))⟩ hP hD (by decide) rfl hS rfl dX11_one_170
            · refine lv_iload_n hx hb dX11_one_140 rfl (lv_at hl 1 rfl) ?_
              refine lv_bipush (v := 40) hx hb dX11_one_141 (by decide) ?_
              refine b_icmp_ne hx hb rfl zl_40 (tgt := 158) dX11_one_143 (by decide) (fun c_142 => ?_) (fun c_142 => ?_)
              · refine lv_iconst (v := 0) hx hb dX11_one_158 (by decide) ?_
                refine kJv (wr := [(k0, .inl (cI, 1201, .inl c0))]) (va_runV (As := [.int 0]) (rest := []) ⟨hx, hb, hml, hown, hT⟩ (c_X11_needsG l D cI aK aV k k0 k1 k2 k4 k5 k6 k7 k8 ka kb kl ko H.size c3 c9 cc cd ce cf cg ch ci cj ck cm cn 0) (cwV 1 hT (gV_in mw_1347 mw_1344 mw_1346 mw_p4_11 mw_12) rfl rfl rfl (by decide +kernel) ⟨Nat.le_of_ble_eq_true rfl, Nat.le_of_ble_eq_true rfl⟩) (kRecvX (q0 := 1) (ci := 11) hK hP hD hN hXS hS hA rfl rfl [1] rfl (by decide)) rfl rfl hl.1 rfl (lv_room (Nat.le_of_ble_eq_true rfl)) dX11_one_159 ⟨Nat.le_of_ble_eq_true rfl, Nat.le_of_ble_eq_true rfl⟩) hP hD hS hA [1] [0] rfl rfl (by decide) (by decide) ?_
                clear hP hD hS
                intro scf_145 H locs w_144 hP hD hS
                replace hP : va_P D vwCl [(k0, .inl (cI, 1201, .inl c0)), (k, .inr (11, [.ref k0, .ref k1, .ref k2, .int c3, .ref k4, .ref k5, .ref k6, .ref k7, .ref k8, .int c9, .ref ka, .ref kb, .int cc, .int cd, .int ce, .int scf_145, .int cg, .int ch, .int ci, .int cj, .int ck, .ref kl, .int cm, .int cn, .ref ko]))] H := hP
                replace hD : va_D A [(k0, .inl (cI, 1201, .inl c0)), (k, .inr (11, [.ref k0, .ref k1, .ref k2, .int c3, .ref k4, .ref k5, .ref k6, .ref k7, .ref k8, .int c9, .ref ka, .ref kb, .int cc, .int cd, .int ce, .int scf_145, .int cg, .int ch, .int ci, .int cj, .int ck, .ref kl, .int cm, .int cn, .ref ko]))] := hD
                have lo_scf_145 := k_lo scf_145
                have hi_scf_145 := k_hi scf_145
                rcases w_144 with ⟨h_146, h_147, h_148⟩ | h_149
                · (try simp only [zl_0] at h_146 h_147 h_148); exfalso; omega
                · try simp only [zl_0] at h_149
                  have h_149 : scf_145.toInt = 1 := h_149
                  refine lv_aload_n hx hb dX11_one_162 rfl (lv_at hl 2 rfl) ?_
                  refine va_get (D := D) (ci := 11) (v := .int scf_145) (C := RX11) (T := TX11) (N := 25) hx hb hT giX11 hown hK hP 1 rfl rfl 15 (by decide) (hT (Cond.fieldLink RX11 148 "DesertWireModel" "isWrong" "Z") mw_1171) (fun _ h9 => h9) rfl dX11_one_163 ?_
                  refine b_if_eq hx hb rfl (tgt := 171) dX11_one_166 (by decide) (fun c_150 => by exfalso; omega) (fun c_150 => ?_)
                  refine lv_iconst (v := 0) hx hb dX11_one_169 (by decide) ?_
                  exact hRet (cd, scf_145, cg) [1, 0] ⟨(by first | omega | (simp only [zl_0] <;> omega) | decide | assumption | rfl | (dsimp only; first | omega | (simp only [zl_0] <;> omega))), (by first | omega | (simp only [zl_0] <;> omega) | decide | assumption | rfl | (dsimp only; first | omega | (simp only [zl_0] <;> omega))), (by first | omega | (simp only [zl_0] <;> omega) | decide | assumption | rfl | (dsimp only; first | omega | (simp only [zl_0] <;> omega)))⟩ hP hD (by decide) rfl hS rfl dX11_one_170
              · refine lv_aload_n hx hb dX11_one_146 rfl (lv_at hl 2 rfl) ?_
                refine va_get (D := D) (ci := 11) (v := .int cg) (C := RX11) (T := TX11) (N := 25) hx hb hT giX11 hown hK hP 1 rfl rfl 16 (by decide) (hT (Cond.fieldLink RX11 170 "DesertWireModel" "open" "I") mw_1172) (fun _ h9 => h9) rfl dX11_one_147 ?_
                refine lv_iconst (v := 4) hx hb dX11_one_150 (by decide) ?_
                refine b_icmp_ge hx hb rfl zl_4 (tgt := 158) dX11_one_151 (by decide) (fun c_151 => by exfalso; omega) (fun c_151 => ?_)
                refine lv_iconst (v := 1) hx hb dX11_one_154 (by decide) ?_
                refine lv_goto (tgt := 159) hx hb dX11_one_155 (by decide) ?_
                refine kJv (wr := [(k0, .inl (cI, 1201, .inl c0))]) (va_runV (As := [.int 1]) (rest := []) ⟨hx, hb, hml, hown, hT⟩ (c_X11_needsG l D cI aK aV k k0 k1 k2 k4 k5 k6 k7 k8 ka kb kl ko H.size c3 c9 cc cd ce cf cg ch ci cj ck cm cn 1) (cwV 1 hT (gV_in mw_1347 mw_1344 mw_1346 mw_p4_11 mw_12) rfl rfl rfl (by decide +kernel) ⟨Nat.le_of_ble_eq_true rfl, Nat.le_of_ble_eq_true rfl⟩) (kRecvX (q0 := 1) (ci := 11) hK hP hD hN hXS hS hA rfl rfl [1] rfl (by decide)) rfl rfl hl.1 rfl (lv_room (Nat.le_of_ble_eq_true rfl)) dX11_one_159 ⟨Nat.le_of_ble_eq_true rfl, Nat.le_of_ble_eq_true rfl⟩) hP hD hS hA [1] [0] rfl rfl (by decide) (by decide) ?_
                clear hP hD hS
                intro scf_154 H locs w_153 hP hD hS
                replace hP : va_P D vwCl [(k0, .inl (cI, 1201, .inl c0)), (k, .inr (11, [.ref k0, .ref k1, .ref k2, .int c3, .ref k4, .ref k5, .ref k6, .ref k7, .ref k8, .int c9, .ref ka, .ref kb, .int cc, .int cd, .int ce, .int scf_154, .int cg, .int ch, .int ci, .int cj, .int ck, .ref kl, .int cm, .int cn, .ref ko]))] H := hP
                replace hD : va_D A [(k0, .inl (cI, 1201, .inl c0)), (k, .inr (11, [.ref k0, .ref k1, .ref k2, .int c3, .ref k4, .ref k5, .ref k6, .ref k7, .ref k8, .int c9, .ref ka, .ref kb, .int cc, .int cd, .int ce, .int scf_154, .int cg, .int ch, .int ci, .int cj, .int ck, .ref kl, .int cm, .int cn, .ref ko]))] := hD
                have lo_scf_154 := k_lo scf_154
                have hi_scf_154 := k_hi scf_154
                rcases w_153 with ⟨h_155, h_156, h_157⟩ | h_158
                · try simp only [zl_1] at h_155
                  try simp only [zl_1] at h_156
                  have h_156 : cf.toInt = 0 := h_156
                  try simp only [zl_1] at h_157
                  have h_157 : scf_154.toInt = 0 := h_157
                  refine lv_aload_n hx hb dX11_one_162 rfl (lv_at hl 2 rfl) ?_
                  refine va_get (D := D) (ci := 11) (v := .int scf_154) (C := RX11) (T := TX11) (N := 25) hx hb hT giX11 hown hK hP 1 rfl rfl 15 (by decide) (hT (Cond.fieldLink RX11 148 "DesertWireModel" "isWrong" "Z") mw_1171) (fun _ h9 => h9) rfl dX11_one_163 ?_
                  refine b_if_eq hx hb rfl (tgt := 171) dX11_one_166 (by decide) (fun c_159 => ?_) (fun c_159 => by exfalso; omega)
                  refine lv_aload_n hx hb dX11_one_171 rfl (lv_at hl 2 rfl) ?_
                  refine lv_dup hx hb dX11_one_172 rfl ?_
                  refine va_get (D := D) (ci := 11) (v := .int cd) (C := RX11) (T := TX11) (N := 25) hx hb hT giX11 hown hK hP 1 rfl rfl 13 (by decide) (hT (Cond.fieldLink RX11 138 "DesertWireModel" "here" "I") mw_1169) (fun _ h9 => h9) rfl dX11_one_173 ?_
                  refine lv_iconst (v := 1) hx hb dX11_one_176 (by decide) ?_
                  refine lv_iadd hx hb dX11_one_177 ?_
                  refine lv_topi (fun v_160 ev_160 => ?_)
                  have tv_160 : v_160.toInt = cd.toInt + 1 := by rw [ev_160]; exact k_addv rfl zl_1 (by omega) (by omega)
                  refine va_put (D := D) (ci := 11) (v := .int v_160) (ty := .int) (C := RX11) (T := TX11) (N := 25) hx hb hT giX11 tyX11 tyX11_ok nmX11 hown hK hP hD hS 1 rfl rfl 13 (by decide) (hT (Cond.fieldLink RX11 138 "DesertWireModel" "here" "I") mw_1169) (fun _ h9 => h9) rfl (by decide +kernel) rfl rfl (Nat.le_of_ble_eq_true rfl) dX11_one_178 ?_
                  clear hP hD hS
                  intro H locs hP hD hS
                  replace hP : va_P D vwCl [(k0, .inl (cI, 1201, .inl c0)), (k, .inr (11, [.ref k0, .ref k1, .ref k2, .int c3, .ref k4, .ref k5, .ref k6, .ref k7, .ref k8, .int c9, .ref ka, .ref kb, .int cc, .int v_160, .int ce, .int scf_154, .int cg, .int ch, .int ci, .int cj, .int ck, .ref kl, .int cm, .int cn, .ref ko]))] H := hP
                  replace hD : va_D A [(k0, .inl (cI, 1201, .inl c0)), (k, .inr (11, [.ref k0, .ref k1, .ref k2, .int c3, .ref k4, .ref k5, .ref k6, .ref k7, .ref k8, .int c9, .ref ka, .ref kb, .int cc, .int v_160, .int ce, .int scf_154, .int cg, .int ch, .int ci, .int cj, .int ck, .ref kl, .int cm, .int cn, .ref ko]))] := hD
                  refine lv_aload_n hx hb dX11_one_181 rfl (lv_at hl 2 rfl) ?_
                  refine lv_dup hx hb dX11_one_182 rfl ?_
                  refine va_get (D := D) (ci := 11) (v := .int cg) (C := RX11) (T := TX11) (N := 25) hx hb hT giX11 hown hK hP 1 rfl rfl 16 (by decide) (hT (Cond.fieldLink RX11 170 "DesertWireModel" "open" "I") mw_1172) (fun _ h9 => h9) rfl dX11_one_183 ?_
                  refine lv_iconst (v := 1) hx hb dX11_one_186 (by decide) ?_
                  refine lv_iadd hx hb dX11_one_187 ?_
                  refine lv_topi (fun v_161 ev_161 => ?_)
                  have tv_161 : v_161.toInt = cg.toInt + 1 := by rw [ev_161]; exact k_addv rfl zl_1 (by omega) (by omega)
                  refine va_put (D := D) (ci := 11) (v := .int v_161) (ty := .int) (C := RX11) (T := TX11) (N := 25) hx hb hT giX11 tyX11 tyX11_ok nmX11 hown hK hP hD hS 1 rfl rfl 16 (by decide) (hT (Cond.fieldLink RX11 170 "DesertWireModel" "open" "I") mw_1172) (fun _ h9 => h9) rfl (by decide +kernel) rfl rfl (Nat.le_of_ble_eq_true rfl) dX11_one_188 ?_
                  clear hP hD hS
                  intro H locs hP hD hS
                  replace hP : va_P D vwCl [(k0, .inl (cI, 1201, .inl c0)), (k, .inr (11, [.ref k0, .ref k1, .ref k2, .int c3, .ref k4, .ref k5, .ref k6, .ref k7, .ref k8, .int c9, .ref ka, .ref kb, .int cc, .int v_160, .int ce, .int scf_154, .int v_161, .int ch, .int ci, .int cj, .int ck, .ref kl, .int cm, .int cn, .ref ko]))] H := hP
                  replace hD : va_D A [(k0, .inl (cI, 1201, .inl c0)), (k, .inr (11, [.ref k0, .ref k1, .ref k2, .int c3, .ref k4, .ref k5, .ref k6, .ref k7, .ref k8, .int c9, .ref ka, .ref kb, .int cc, .int v_160, .int ce, .int scf_154, .int v_161, .int ch, .int ci, .int cj, .int ck, .ref kl, .int cm, .int cn, .ref ko]))] := hD
                  refine lv_iload_n hx hb dX11_one_191 rfl (lv_at hl 1 rfl) ?_
                  refine lv_bipush (v := 40) hx hb dX11_one_192 (by decide) ?_
                  refine b_icmp_ne hx hb rfl zl_40 (tgt := 204) dX11_one_194 (by decide) (fun c_162 => by exfalso; omega) (fun c_162 => ?_)
                  refine lv_aload_n hx hb dX11_one_197 rfl (lv_at hl 2 rfl) ?_
                  refine kJi (wr := []) (va_runV (As := []) (rest := []) ⟨hx, hb, hml, hown, hT⟩ (c_X11_wholeG1 l D cI aK aV k k0 k1 k2 k4 k5 k6 k7 k8 ka kb kl ko H.size c3 c9 cc v_160 ce scf_154 v_161 ch ci cj ck cm cn c0 (by first | omega | decide | assumption | rfl) (by first | omega | decide | assumption | rfl) (by first | omega | decide | assumption | rfl) (by first | omega | decide | assumption | rfl) (by first | omega | decide | assumption | rfl) (by first | omega | decide | assumption | rfl)) (cwV 0 hT (gV_in mw_1315 mw_1312 mw_1314 mw_p4_3 mw_12) rfl rfl rfl (by decide +kernel) ⟨Nat.le_of_ble_eq_true rfl, Nat.le_of_ble_eq_true rfl⟩) (kRecvX (q0 := 1) (ci := 11) hK hP hD hN hXS hS hA rfl rfl [1, 0] rfl (by decide)) rfl rfl hl.1 rfl (lv_room (Nat.le_of_ble_eq_true rfl)) dX11_one_198 ⟨Nat.le_of_ble_eq_true rfl, Nat.le_of_ble_eq_true rfl⟩) hP hD hS hA [1, 0] [] rfl rfl (by decide) (by decide) ?_
                  clear hP hD hS
                  intro r_163 u_168 H locs w_164 hP hD hS
                  obtain ⟨scd_165, scf_166, scg_167⟩ := u_168
                  replace hP : va_P D vwCl [(k, .inr (11, [.ref k0, .ref k1, .ref k2, .int c3, .ref k4, .ref k5, .ref k6, .ref k7, .ref k8, .int c9, .ref ka, .ref kb, .int cc, .int scd_165, .int ce, .int scf_166, .int scg_167, .int ch, .int ci, .int cj, .int ck, .ref kl, .int cm, .int cn, .ref ko])), (k0, .inl (cI, 1201, .inl c0))] H := hP
                  replace hD : va_D A [(k, .inr (11, [.ref k0, .ref k1, .ref k2, .int c3, .ref k4, .ref k5, .ref k6, .ref k7, .ref k8, .int c9, .ref ka, .ref kb, .int cc, .int scd_165, .int ce, .int scf_166, .int scg_167, .int ch, .int ci, .int cj, .int ck, .ref kl, .int cm, .int cn, .ref ko])), (k0, .inl (cI, 1201, .inl c0))] := hD
                  have lo_scd_165 := k_lo scd_165
                  have hi_scd_165 := k_hi scd_165
                  have lo_scf_166 := k_lo scf_166
                  have hi_scf_166 := k_hi scf_166
                  have lo_scg_167 := k_lo scg_167
                  have hi_scg_167 := k_hi scg_167
                  obtain ⟨h_169, h_170, h_171⟩ := w_164
                  have h_169 : v_160.toInt ≤ scd_165.toInt := h_169
                  have h_170 : scd_165.toInt ≤ ce.toInt := h_170
                  have h_171 : scg_167.toInt = 1 := h_171
                  have lo_r_163 := k_lo r_163
                  have hi_r_163 := k_hi r_163
                  refine lv_goto (tgt := 208) hx hb dX11_one_201 (by decide) ?_
                  refine lv_istore_n (lv' := [(3, .int r_163), (2, .int (-1)), (1, .int r_1), (0, .ref k)]) hx hb dX11_one_208 rfl hl (by decide) rfl ?_
                  clear hl
                  intro ls hl
                  refine lv_aload_n hx hb dX11_one_209 rfl (lv_at hl 3 rfl) ?_
                  refine lv_iload_n hx hb dX11_one_210 rfl (lv_at hl 2 rfl) ?_
                  refine lv_bipush (v := 40) hx hb dX11_one_211 (by decide) ?_
                  refine b_icmp_ne hx hb rfl zl_40 (tgt := 225) dX11_one_213 (by decide) (fun c_172 => by exfalso; omega) (fun c_172 => ?_)
                  refine lv_aload_n hx hb dX11_one_216 rfl (lv_at hl 3 rfl) ?_
                  refine lv_bipush (v := 41) hx hb dX11_one_217 (by decide) ?_
                  refine kJi (wr := []) (va_runV (As := [.int 41]) (rest := [.ref k]) ⟨hx, hb, hml, hown, hT⟩ (c_X11_takesG l D cI aK aV k k0 k1 k2 k4 k5 k6 k7 k8 ka kb kl ko H.size c3 c9 cc scd_165 ce scf_166 scg_167 ch ci cj ck cm cn c0 41 (by first | omega | (simp only [zl_41] <;> omega) | decide | assumption | rfl) (by first | omega | (simp only [zl_41] <;> omega) | decide | assumption | rfl) (by first | omega | (simp only [zl_41] <;> omega) | decide | assumption | rfl) (by first | omega | (simp only [zl_41] <;> omega) | decide | assumption | rfl) (by first | omega | (simp only [zl_41] <;> omega) | decide | assumption | rfl) (by first | omega | (simp only [zl_41] <;> omega) | decide | assumption | rfl)) (cwV 1 hT (gV_in mw_1351 mw_1348 mw_1350 mw_p4_12 mw_12) rfl rfl rfl (by decide +kernel) ⟨Nat.le_of_ble_eq_true rfl, Nat.le_of_ble_eq_true rfl⟩) (kRecvX (q0 := 0) (ci := 11) hK hP hD hN hXS hS hA rfl rfl [0, 1] rfl (by decide)) rfl rfl hl.1 rfl (lv_room (Nat.le_of_ble_eq_true rfl)) dX11_one_219 ⟨Nat.le_of_ble_eq_true rfl, Nat.le_of_ble_eq_true rfl⟩) hP hD hS hA [0, 1] [] rfl rfl (by decide) (by decide) ?_
                  clear hP hD hS
                  intro r_173 scd_175 H locs w_174 hP hD hS
                  replace hP : va_P D vwCl [(k, .inr (11, [.ref k0, .ref k1, .ref k2, .int c3, .ref k4, .ref k5, .ref k6, .ref k7, .ref k8, .int c9, .ref ka, .ref kb, .int cc, .int scd_175, .int ce, .int scf_166, .int scg_167, .int ch, .int ci, .int cj, .int ck, .ref kl, .int cm, .int cn, .ref ko])), (k0, .inl (cI, 1201, .inl c0))] H := hP
                  replace hD : va_D A [(k, .inr (11, [.ref k0, .ref k1, .ref k2, .int c3, .ref k4, .ref k5, .ref k6, .ref k7, .ref k8, .int c9, .ref ka, .ref kb, .int cc, .int scd_175, .int ce, .int scf_166, .int scg_167, .int ch, .int ci, .int cj, .int ck, .ref kl, .int cm, .int cn, .ref ko])), (k0, .inl (cI, 1201, .inl c0))] := hD
                  have lo_scd_175 := k_lo scd_175
                  have hi_scd_175 := k_hi scd_175
                  rcases w_174 with ⟨hr_173, h_176, h_177⟩ | ⟨hr_173, h_178⟩
                  · try simp only [zl_41] at h_176
                    have h_176 : scd_175.toInt = scd_165.toInt + 1 := h_176
                    try simp only [zl_41] at h_177
                    have h_177 : scd_175.toInt ≤ ce.toInt := h_177
                    obtain rfl : r_173 = 1 := hr_173.trans (by decide)
                    refine b_if_eq hx hb zl_1 (tgt := 229) dX11_one_222 (by decide) (fun c_179 => by exfalso; omega) (fun c_179 => ?_)
                    refine lv_iconst (v := 1) hx hb dX11_one_225 (by decide) ?_
                    refine lv_goto (tgt := 230) hx hb dX11_one_226 (by decide) ?_
                    refine kJv (wr := [(k0, .inl (cI, 1201, .inl c0))]) (va_runV (As := [.int 1]) (rest := []) ⟨hx, hb, hml, hown, hT⟩ (c_X11_needsG l D cI aK aV k k0 k1 k2 k4 k5 k6 k7 k8 ka kb kl ko H.size c3 c9 cc scd_175 ce scf_166 scg_167 ch ci cj ck cm cn 1) (cwV 1 hT (gV_in mw_1347 mw_1344 mw_1346 mw_p4_11 mw_12) rfl rfl rfl (by decide +kernel) ⟨Nat.le_of_ble_eq_true rfl, Nat.le_of_ble_eq_true rfl⟩) (kRecvX (q0 := 0) (ci := 11) hK hP hD hN hXS hS hA rfl rfl [0] rfl (by decide)) rfl rfl hl.1 rfl (lv_room (Nat.le_of_ble_eq_true rfl)) dX11_one_230 ⟨Nat.le_of_ble_eq_true rfl, Nat.le_of_ble_eq_true rfl⟩) hP hD hS hA [0] [1] rfl rfl (by decide) (by decide) ?_
                    clear hP hD hS
                    intro scf_182 H locs w_181 hP hD hS
                    replace hP : va_P D vwCl [(k0, .inl (cI, 1201, .inl c0)), (k, .inr (11, [.ref k0, .ref k1, .ref k2, .int c3, .ref k4, .ref k5, .ref k6, .ref k7, .ref k8, .int c9, .ref ka, .ref kb, .int cc, .int scd_175, .int ce, .int scf_182, .int scg_167, .int ch, .int ci, .int cj, .int ck, .ref kl, .int cm, .int cn, .ref ko]))] H := hP
                    replace hD : va_D A [(k0, .inl (cI, 1201, .inl c0)), (k, .inr (11, [.ref k0, .ref k1, .ref k2, .int c3, .ref k4, .ref k5, .ref k6, .ref k7, .ref k8, .int c9, .ref ka, .ref kb, .int cc, .int scd_175, .int ce, .int scf_182, .int scg_167, .int ch, .int ci, .int cj, .int ck, .ref kl, .int cm, .int cn, .ref ko]))] := hD
                    have lo_scf_182 := k_lo scf_182
                    have hi_scf_182 := k_hi scf_182
                    rcases w_181 with ⟨h_183, h_184, h_185⟩ | h_186
                    · try simp only [zl_1] at h_183
                      try simp only [zl_1] at h_184
                      have h_184 : scf_166.toInt = 0 := h_184
                      try simp only [zl_1] at h_185
                      have h_185 : scf_182.toInt = 0 := h_185
                      refine lv_aload_n hx hb dX11_one_233 rfl (lv_at hl 3 rfl) ?_
                      refine lv_dup hx hb dX11_one_234 rfl ?_
                      refine va_get (D := D) (ci := 11) (v := .int scg_167) (C := RX11) (T := TX11) (N := 25) hx hb hT giX11 hown hK hP 1 rfl rfl 16 (by decide) (hT (Cond.fieldLink RX11 170 "DesertWireModel" "open" "I") mw_1172) (fun _ h9 => h9) rfl dX11_one_235 ?_
                      refine lv_iconst (v := 1) hx hb dX11_one_238 (by decide) ?_
                      refine lv_isub hx hb dX11_one_239 ?_
                      refine lv_topi (fun v_187 ev_187 => ?_)
                      have tv_187 : v_187.toInt = scg_167.toInt - 1 := by rw [ev_187]; exact k_subv rfl zl_1 (by omega) (by omega)
                      refine va_put (D := D) (ci := 11) (v := .int v_187) (ty := .int) (C := RX11) (T := TX11) (N := 25) hx hb hT giX11 tyX11 tyX11_ok nmX11 hown hK hP hD hS 1 rfl rfl 16 (by decide) (hT (Cond.fieldLink RX11 170 "DesertWireModel" "open" "I") mw_1172) (fun _ h9 => h9) rfl (by decide +kernel) rfl rfl (Nat.le_of_ble_eq_true rfl) dX11_one_240 ?_
                      clear hP hD hS
                      intro H locs hP hD hS
                      replace hP : va_P D vwCl [(k0, .inl (cI, 1201, .inl c0)), (k, .inr (11, [.ref k0, .ref k1, .ref k2, .int c3, .ref k4, .ref k5, .ref k6, .ref k7, .ref k8, .int c9, .ref ka, .ref kb, .int cc, .int scd_175, .int ce, .int scf_182, .int v_187, .int ch, .int ci, .int cj, .int ck, .ref kl, .int cm, .int cn, .ref ko]))] H := hP
                      replace hD : va_D A [(k0, .inl (cI, 1201, .inl c0)), (k, .inr (11, [.ref k0, .ref k1, .ref k2, .int c3, .ref k4, .ref k5, .ref k6, .ref k7, .ref k8, .int c9, .ref ka, .ref kb, .int cc, .int scd_175, .int ce, .int scf_182, .int v_187, .int ch, .int ci, .int cj, .int ck, .ref kl, .int cm, .int cn, .ref ko]))] := hD
                      refine lv_iload_n hx hb dX11_one_243 rfl (lv_at hl 2 rfl) ?_
                      refine lv_bipush (v := 45) hx hb dX11_one_244 (by decide) ?_
                      refine b_icmp_ne hx hb rfl zl_45 (tgt := 254) dX11_one_246 (by decide) (fun c_188 => ?_) (fun c_188 => by exfalso; omega)
                      refine lv_iload_n hx hb dX11_one_254 rfl (lv_at hl 2 rfl) ?_
                      refine lv_bipush (v := 33) hx hb dX11_one_255 (by decide) ?_
                      refine b_icmp_ne hx hb rfl zl_33 (tgt := 272) dX11_one_257 (by decide) (fun c_189 => ?_) (fun c_189 => by exfalso; omega)
                      refine lv_iload_n hx hb dX11_one_272 rfl (lv_at hl 0 rfl) ?_
                      exact hRet (scd_175, scf_182, v_187) [1, 0] ⟨(by first | omega | decide | assumption | rfl | (dsimp only; first | omega)), (by first | omega | decide | assumption | rfl | (dsimp only; first | omega)), (by first | omega | decide | assumption | rfl | (dsimp only; first | omega))⟩ hP hD (by decide) rfl hS rfl dX11_one_273
                    · try simp only [zl_1] at h_186
                      have h_186 : scf_182.toInt = 1 := h_186
                      refine lv_aload_n hx hb dX11_one_233 rfl (lv_at hl 3 rfl) ?_
                      refine lv_dup hx hb dX11_one_234 rfl ?_
                      refine va_get (D := D) (ci := 11) (v := .int scg_167) (C := RX11) (T := TX11) (N := 25) hx hb hT giX11 hown hK hP 1 rfl rfl 16 (by decide) (hT (Cond.fieldLink RX11 170 "DesertWireModel" "open" "I") mw_1172) (fun _ h9 => h9) rfl dX11_one_235 ?_
                      refine lv_iconst (v := 1) hx hb dX11_one_238 (by decide) ?_
                      refine lv_isub hx hb dX11_one_239 ?_
                      refine lv_topi (fun v_190 ev_190 => ?_)
                      have tv_190 : v_190.toInt = scg_167.toInt - 1 := by rw [ev_190]; exact k_subv rfl zl_1 (by omega) (by omega)
                      refine va_put (D := D) (ci := 11) (v := .int v_190) (ty := .int) (C := RX11) (T := TX11) (N := 25) hx hb hT giX11 tyX11 tyX11_ok nmX11 hown hK hP hD hS 1 rfl rfl 16 (by decide) (hT (Cond.fieldLink RX11 170 "DesertWireModel" "open" "I") mw_1172) (fun _ h9 => h9) rfl (by decide +kernel) rfl rfl (Nat.le_of_ble_eq_true rfl) dX11_one_240 ?_
                      clear hP hD hS
                      intro H locs hP hD hS
                      replace hP : va_P D vwCl [(k0, .inl (cI, 1201, .inl c0)), (k, .inr (11, [.ref k0, .ref k1, .ref k2, .int c3, .ref k4, .ref k5, .ref k6, .ref k7, .ref k8, .int c9, .ref ka, .ref kb, .int cc, .int scd_175, .int ce, .int scf_182, .int v_190, .int ch, .int ci, .int cj, .int ck, .ref kl, .int cm, .int cn, .ref ko]))] H := hP
                      replace hD : va_D A [(k0, .inl (cI, 1201, .inl c0)), (k, .inr (11, [.ref k0, .ref k1, .ref k2, .int c3, .ref k4, .ref k5, .ref k6, .ref k7, .ref k8, .int c9, .ref ka, .ref kb, .int cc, .int scd_175, .int ce, .int scf_182, .int v_190, .int ch, .int ci, .int cj, .int ck, .ref kl, .int cm, .int cn, .ref ko]))] := hD
                      refine lv_iload_n hx hb dX11_one_243 rfl (lv_at hl 2 rfl) ?_
                      refine lv_bipush (v := 45) hx hb dX11_one_244 (by decide) ?_
                      refine b_icmp_ne hx hb rfl zl_45 (tgt := 254) dX11_one_246 (by decide) (fun c_191 => ?_) (fun c_191 => by exfalso; omega)
                      refine lv_iload_n hx hb dX11_one_254 rfl (lv_at hl 2 rfl) ?_
                      refine lv_bipush (v := 33) hx hb dX11_one_255 (by decide) ?_
                      refine b_icmp_ne hx hb rfl zl_33 (tgt := 272) dX11_one_257 (by decide) (fun c_192 => ?_) (fun c_192 => by exfalso; omega)
                      refine lv_iload_n hx hb dX11_one_272 rfl (lv_at hl 0 rfl) ?_
                      exact hRet (scd_175, scf_182, v_190) [1, 0] ⟨(by first | omega | decide | assumption | rfl | (dsimp only; first | omega)), (by first | omega | decide | assumption | rfl | (dsimp only; first | omega)), (by first | omega | decide | assumption | rfl | (dsimp only; first | omega))⟩ hP hD (by decide) rfl hS rfl dX11_one_273
                  · try simp only [zl_41] at h_178
                    have h_178 : scd_175.toInt = scd_165.toInt := h_178
                    obtain rfl : r_173 = 0 := hr_173.trans (by decide)
                    refine b_if_eq hx hb zl_0 (tgt := 229) dX11_one_222 (by decide) (fun c_193 => ?_) (fun c_193 => by exfalso; omega)
                    refine lv_iconst (v := 0) hx hb dX11_one_229 (by decide) ?_
                    refine kJv (wr := [(k0, .inl (cI, 1201, .inl c0))]) (va_runV (As := [.int 0]) (rest := []) ⟨hx, hb, hml, hown, hT⟩ (c_X11_needsG l D cI aK aV k k0 k1 k2 k4 k5 k6 k7 k8 ka kb kl ko H.size c3 c9 cc scd_175 ce scf_166 scg_167 ch ci cj ck cm cn 0) (cwV 1 hT (gV_in mw_1347 mw_1344 mw_1346 mw_p4_11 mw_12) rfl rfl rfl (by decide +kernel) ⟨Nat.le_of_ble_eq_true rfl, Nat.le_of_ble_eq_true rfl⟩) (kRecvX (q0 := 0) (ci := 11) hK hP hD hN hXS hS hA rfl rfl [0] rfl (by decide)) rfl rfl hl.1 rfl (lv_room (Nat.le_of_ble_eq_true rfl)) dX11_one_230 ⟨Nat.le_of_ble_eq_true rfl, Nat.le_of_ble_eq_true rfl⟩) hP hD hS hA [0] [1] rfl rfl (by decide) (by decide) ?_
                    clear hP hD hS
                    intro scf_196 H locs w_195 hP hD hS
                    replace hP : va_P D vwCl [(k0, .inl (cI, 1201, .inl c0)), (k, .inr (11, [.ref k0, .ref k1, .ref k2, .int c3, .ref k4, .ref k5, .ref k6, .ref k7, .ref k8, .int c9, .ref ka, .ref kb, .int cc, .int scd_175, .int ce, .int scf_196, .int scg_167, .int ch, .int ci, .int cj, .int ck, .ref kl, .int cm, .int cn, .ref ko]))] H := hP
                    replace hD : va_D A [(k0, .inl (cI, 1201, .inl c0)), (k, .inr (11, [.ref k0, .ref k1, .ref k2, .int c3, .ref k4, .ref k5, .ref k6, .ref k7, .ref k8, .int c9, .ref ka, .ref kb, .int cc, .int scd_175, .int ce, .int scf_196, .int scg_167, .int ch, .int ci, .int cj, .int ck, .ref kl, .int cm, .int cn, .ref ko]))] := hD
                    have lo_scf_196 := k_lo scf_196
                    have hi_scf_196 := k_hi scf_196
                    rcases w_195 with ⟨h_197, h_198, h_199⟩ | h_200
                    · (try simp only [zl_0] at h_197 h_198 h_199); exfalso; omega
                    · try simp only [zl_0] at h_200
                      have h_200 : scf_196.toInt = 1 := h_200
                      refine lv_aload_n hx hb dX11_one_233 rfl (lv_at hl 3 rfl) ?_
                      refine lv_dup hx hb dX11_one_234 rfl ?_
                      refine va_get (D := D) (ci := 11) (v := .int scg_167) (C := RX11) (T := TX11) (N := 25) hx hb hT giX11 hown hK hP 1 rfl rfl 16 (by decide) (hT (Cond.fieldLink RX11 170 "DesertWireModel" "open" "I") mw_1172) (fun _ h9 => h9) rfl dX11_one_235 ?_
                      refine lv_iconst (v := 1) hx hb dX11_one_238 (by decide) ?_
                      refine lv_isub hx hb dX11_one_239 ?_
                      refine lv_topi (fun v_201 ev_201 => ?_)
                      have tv_201 : v_201.toInt = scg_167.toInt - 1 := by rw [ev_201]; exact k_subv rfl zl_1 (by omega) (by omega)
                      refine va_put (D := D) (ci := 11) (v := .int v_201) (ty := .int) (C := RX11) (T := TX11) (N := 25) hx hb hT giX11 tyX11 tyX11_ok nmX11 hown hK hP hD hS 1 rfl rfl 16 (by decide) (hT (Cond.fieldLink RX11 170 "DesertWireModel" "open" "I") mw_1172) (fun _ h9 => h9) rfl (by decide +kernel) rfl rfl (Nat.le_of_ble_eq_true rfl) dX11_one_240 ?_
                      clear hP hD hS
                      intro H locs hP hD hS
                      replace hP : va_P D vwCl [(k0, .inl (cI, 1201, .inl c0)), (k, .inr (11, [.ref k0, .ref k1, .ref k2, .int c3, .ref k4, .ref k5, .ref k6, .ref k7, .ref k8, .int c9, .ref ka, .ref kb, .int cc, .int scd_175, .int ce, .int scf_196, .int v_201, .int ch, .int ci, .int cj, .int ck, .ref kl, .int cm, .int cn, .ref ko]))] H := hP
                      replace hD : va_D A [(k0, .inl (cI, 1201, .inl c0)), (k, .inr (11, [.ref k0, .ref k1, .ref k2, .int c3, .ref k4, .ref k5, .ref k6, .ref k7, .ref k8, .int c9, .ref ka, .ref kb, .int cc, .int scd_175, .int ce, .int scf_196, .int v_201, .int ch, .int ci, .int cj, .int ck, .ref kl, .int cm, .int cn, .ref ko]))] := hD
                      refine lv_iload_n hx hb dX11_one_243 rfl (lv_at hl 2 rfl) ?_
                      refine lv_bipush (v := 45) hx hb dX11_one_244 (by decide) ?_
                      refine b_icmp_ne hx hb rfl zl_45 (tgt := 254) dX11_one_246 (by decide) (fun c_202 => ?_) (fun c_202 => by exfalso; omega)
                      refine lv_iload_n hx hb dX11_one_254 rfl (lv_at hl 2 rfl) ?_
                      refine lv_bipush (v := 33) hx hb dX11_one_255 (by decide) ?_
                      refine b_icmp_ne hx hb rfl zl_33 (tgt := 272) dX11_one_257 (by decide) (fun c_203 => ?_) (fun c_203 => by exfalso; omega)
                      refine lv_iload_n hx hb dX11_one_272 rfl (lv_at hl 0 rfl) ?_
                      exact hRet (scd_175, scf_196, v_201) [1, 0] ⟨(by first | omega | decide | assumption | rfl | (dsimp only; first | omega)), (by first | omega | decide | assumption | rfl | (dsimp only; first | omega)), (by first | omega | decide | assumption | rfl | (dsimp only; first | omega))⟩ hP hD (by decide) rfl hS rfl dX11_one_273
                · try simp only [zl_1] at h_158
                  have h_158 : scf_154.toInt = 1 := h_158
                  refine lv_aload_n hx hb dX11_one_162 rfl (lv_at hl 2 rfl) ?_
                  refine va_get (D := D) (ci := 11) (v := .int scf_154) (C := RX11) (T := TX11) (N := 25) hx hb hT giX11 hown hK hP 1 rfl rfl 15 (by decide) (hT (Cond.fieldLink RX11 148 "DesertWireModel" "isWrong" "Z") mw_1171) (fun _ h9 => h9) rfl dX11_one_163 ?_
                  refine b_if_eq hx hb rfl (tgt := 171) dX11_one_166 (by decide) (fun c_204 => by exfalso; omega) (fun c_204 => ?_)
                  refine lv_iconst (v := 0) hx hb dX11_one_169 (by decide) ?_
                  exact hRet (cd, scf_154, cg) [1, 0] ⟨(by first | omega | (simp only [zl_0] <;> omega) | decide | assumption | rfl | (dsimp only; first | omega | (simp only [zl_0] <;> omega))), (by first | omega | (simp only [zl_0] <;> omega) | decide | assumption | rfl | (dsimp only; first | omega | (simp only [zl_0] <;> omega))), (by first | omega | (simp only [zl_0] <;> omega) | decide | assumption | rfl | (dsimp only; first | omega | (simp only [zl_0] <;> omega)))⟩ hP hD (by decide) rfl hS rfl dX11_one_170
    · refine lv_iconst (v := 0) hx hb dX11_one_12 (by decide) ?_
      exact hRet (cd, cf, cg) [0, 1] ⟨(by first | omega | (simp only [zl_0] <;> omega) | decide | assumption | rfl | (dsimp only; first | omega | (simp only [zl_0] <;> omega))), (by first | omega | (simp only [zl_0] <;> omega) | decide | assumption | rfl | (dsimp only; first | omega | (simp only [zl_0] <;> omega))), (by first | omega | (simp only [zl_0] <;> omega) | decide | assumption | rfl | (dsimp only; first | omega | (simp only [zl_0] <;> omega)))⟩ hP hD (by decide) rfl hS rfl dX11_one_13
  · have h_5 : cd.toInt = ce.toInt := h_5
    obtain rfl : r_1 = (-1) := hr_1.trans (by decide)
    refine lv_istore_n (lv' := [(1, .int (-1)), (0, .ref k)]) hx hb dX11_one_4 rfl hl (by decide) rfl ?_
    clear hl
    intro ls hl
    refine lv_aload_n hx hb dX11_one_5 rfl (lv_at hl 1 rfl) ?_
    refine va_get (D := D) (ci := 11) (v := .int cf) (C := RX11) (T := TX11) (N := 25) hx hb hT giX11 hown hK hP 0 rfl rfl 15 (by decide) (hT (Cond.fieldLink RX11 148 "DesertWireModel" "isWrong" "Z") mw_1171) (fun _ h9 => h9) rfl dX11_one_6 ?_
    refine b_if_eq hx hb rfl (tgt := 14) dX11_one_9 (by decide) (fun c_205 => ?_) (fun c_205 => ?_)
    · refine lv_iload_n hx hb dX11_one_14 rfl (lv_at hl 0 rfl) ?_
      refine lv_bipush (v := 48) hx hb dX11_one_15 (by decide) ?_
      refine lv_bipush (v := 57) hx hb dX11_one_17 (by decide) ?_
      refine kJi (wr := [(k, .inr (11, [.ref k0, .ref k1, .ref k2, .int c3, .ref k4, .ref k5, .ref k6, .ref k7, .ref k8, .int c9, .ref ka, .ref kb, .int cc, .int cd, .int ce, .int cf, .int cg, .int ch, .int ci, .int cj, .int ck, .ref kl, .int cm, .int cn, .ref ko])), (k0, .inl (cI, 1201, .inl c0))]) (va_runS (As := [.int (-1), .int 48, .int 57]) (rest := []) ⟨hx, hb, hml, hown, hT⟩ (c_X11_inG l D cI aK aV H.size (-1) 48 57) (cwS 3 hT (gS_in mw_1238 mw_1236 mw_1237 mw_12) rfl rfl rfl (by decide +kernel) ⟨Nat.le_of_ble_eq_true rfl, Nat.le_of_ble_eq_true rfl⟩) (kStatX hK hP hD hN hXS hS hA [] rfl (by decide)) rfl rfl hl.1 rfl (lv_room (Nat.le_of_ble_eq_true rfl)) dX11_one_19 ⟨Nat.le_of_ble_eq_true rfl, Nat.le_of_ble_eq_true rfl⟩) hP hD hS hA [] [0, 1] rfl rfl (by decide) (by decide) ?_
      clear hP hD hS
      intro r_206 u_208 H locs w_207 hP hD hS
      replace hP : va_P D vwCl [(k, .inr (11, [.ref k0, .ref k1, .ref k2, .int c3, .ref k4, .ref k5, .ref k6, .ref k7, .ref k8, .int c9, .ref ka, .ref kb, .int cc, .int cd, .int ce, .int cf, .int cg, .int ch, .int ci, .int cj, .int ck, .ref kl, .int cm, .int cn, .ref ko])), (k0, .inl (cI, 1201, .inl c0))] H := hP
      replace hD : va_D A [(k, .inr (11, [.ref k0, .ref k1, .ref k2, .int c3, .ref k4, .ref k5, .ref k6, .ref k7, .ref k8, .int c9, .ref ka, .ref kb, .int cc, .int cd, .int ce, .int cf, .int cg, .int ch, .int ci, .int cj, .int ck, .ref kl, .int cm, .int cn, .ref ko])), (k0, .inl (cI, 1201, .inl c0))] := hD
      rcases w_207 with ⟨hr_206, h_209, h_210⟩ | ⟨hr_206, h_211⟩
      · (try simp only [zl_m1, zl_48, zl_57] at h_209 h_210); exfalso; omega
      · try simp only [zl_m1, zl_48, zl_57] at h_211
        obtain rfl : r_206 = 0 := hr_206.trans (by decide)
        refine b_if_eq hx hb zl_0 (tgt := 79) dX11_one_22 (by decide) (fun c_212 => ?_) (fun c_212 => by exfalso; omega)
        refine lv_aload_n hx hb dX11_one_79 rfl (lv_at hl 1 rfl) ?_
        refine lv_iload_n hx hb dX11_one_80 rfl (lv_at hl 0 rfl) ?_
        refine kJi (wr := [(k0, .inl (cI, 1201, .inl c0))]) (va_runV (As := [.int (-1)]) (rest := []) ⟨hx, hb, hml, hown, hT⟩ (c_X11_nameAtG l D cI aK aV k k0 k1 k2 k4 k5 k6 k7 k8 ka kb kl ko H.size c3 c9 cc cd ce cf cg ch ci cj ck cm cn (-1)) (cwV 1 hT (gV_in mw_1343 mw_1340 mw_1342 mw_p4_10 mw_12) rfl rfl rfl (by decide +kernel) ⟨Nat.le_of_ble_eq_true rfl, Nat.le_of_ble_eq_true rfl⟩) (kRecvX (q0 := 0) (ci := 11) hK hP hD hN hXS hS hA rfl rfl [0] rfl (by decide)) rfl rfl hl.1 rfl (lv_room (Nat.le_of_ble_eq_true rfl)) dX11_one_81 ⟨Nat.le_of_ble_eq_true rfl, Nat.le_of_ble_eq_true rfl⟩) hP hD hS hA [0] [1] rfl rfl (by decide) (by decide) ?_
        clear hP hD hS
        intro r_213 u_215 H locs w_214 hP hD hS
        replace hP : va_P D vwCl [(k0, .inl (cI, 1201, .inl c0)), (k, .inr (11, [.ref k0, .ref k1, .ref k2, .int c3, .ref k4, .ref k5, .ref k6, .ref k7, .ref k8, .int c9, .ref ka, .ref kb, .int cc, .int cd, .int ce, .int cf, .int cg, .int ch, .int ci, .int cj, .int ck, .ref kl, .int cm, .int cn, .ref ko]))] H := hP
        replace hD : va_D A [(k0, .inl (cI, 1201, .inl c0)), (k, .inr (11, [.ref k0, .ref k1, .ref k2, .int c3, .ref k4, .ref k5, .ref k6, .ref k7, .ref k8, .int c9, .ref ka, .ref kb, .int cc, .int cd, .int ce, .int cf, .int cg, .int ch, .int ci, .int cj, .int ck, .ref kl, .int cm, .int cn, .ref ko]))] := hD
        rcases w_214 with h_216 | hr_213
        · (try simp only [zl_m1] at h_216); exfalso; omega
        · obtain rfl : r_213 = (-1) := hr_213.trans (by decide)
          refine lv_istore_n (lv' := [(2, .int (-1)), (1, .int (-1)), (0, .ref k)]) hx hb dX11_one_84 rfl hl (by decide) rfl ?_
          clear hl
          intro ls hl
          refine lv_iload_n hx hb dX11_one_85 rfl (lv_at hl 0 rfl) ?_
          refine b_if_lt hx hb zl_m1 (tgt := 127) dX11_one_86 (by decide) (fun c_217 => ?_) (fun c_217 => by exfalso; omega)
          refine lv_aload_n hx hb dX11_one_127 rfl (lv_at hl 2 rfl) ?_
          refine lv_iload_n hx hb dX11_one_128 rfl (lv_at hl 1 rfl) ?_
          refine lv_bipush (v := 45) hx hb dX11_one_129 (by decide) ?_
          refine b_icmp_eq hx hb zl_m1 zl_45 (tgt := 146) dX11_one_131 (by decide) (fun c_218 => by exfalso; omega) (fun c_218 => ?_)
          refine lv_iload_n hx hb dX11_one_134 rfl (lv_at hl 1 rfl) ?_
          refine lv_bipush (v := 33) hx hb dX11_one_135 (by decide) ?_
          refine b_icmp_eq hx hb zl_m1 zl_33 (tgt := 146) dX11_one_137 (by decide) (fun c_219 => by exfalso; omega) (fun c_219 => ?_)
          refine lv_iload_n hx hb dX11_one_140 rfl (lv_at hl 1 rfl) ?_
          refine lv_bipush (v := 40) hx hb dX11_one_141 (by decide) ?_
          refine b_icmp_ne hx hb zl_m1 zl_40 (tgt := 158) dX11_one_143 (by decide) (fun c_220 => ?_) (fun c_220 => by exfalso; omega)
          refine lv_iconst (v := 0) hx hb dX11_one_158 (by decide) ?_
          refine kJv (wr := [(k0, .inl (cI, 1201, .inl c0))]) (va_runV (As := [.int 0]) (rest := []) ⟨hx, hb, hml, hown, hT⟩ (c_X11_needsG l D cI aK aV k k0 k1 k2 k4 k5 k6 k7 k8 ka kb kl ko H.size c3 c9 cc cd ce cf cg ch ci cj ck cm cn 0) (cwV 1 hT (gV_in mw_1347 mw_1344 mw_1346 mw_p4_11 mw_12) rfl rfl rfl (by decide +kernel) ⟨Nat.le_of_ble_eq_true rfl, Nat.le_of_ble_eq_true rfl⟩) (kRecvX (q0 := 1) (ci := 11) hK hP hD hN hXS hS hA rfl rfl [1] rfl (by decide)) rfl rfl hl.1 rfl (lv_room (Nat.le_of_ble_eq_true rfl)) dX11_one_159 ⟨Nat.le_of_ble_eq_true rfl, Nat.le_of_ble_eq_true rfl⟩) hP hD hS hA [1] [0] rfl rfl (by decide) (by decide) ?_
          clear hP hD hS
          intro scf_223 H locs w_222 hP hD hS
          replace hP : va_P D vwCl [(k0, .inl (cI, 1201, .inl c0)), (k, .inr (11, [.ref k0, .ref k1, .ref k2, .int c3, .ref k4, .ref k5, .ref k6, .ref k7, .ref k8, .int c9, .ref ka, .ref kb, .int cc, .int cd, .int ce, .int scf_223, .int cg, .int ch, .int ci, .int cj, .int ck, .ref kl, .int cm, .int cn, .ref ko]))] H := hP
          replace hD : va_D A [(k0, .inl (cI, 1201, .inl c0)), (k, .inr (11, [.ref k0, .ref k1, .ref k2, .int c3, .ref k4, .ref k5, .ref k6, .ref k7, .ref k8, .int c9, .ref ka, .ref kb, .int cc, .int cd, .int ce, .int scf_223, .int cg, .int ch, .int ci, .int cj, .int ck, .ref kl, .int cm, .int cn, .ref ko]))] := hD
          have lo_scf_223 := k_lo scf_223
          have hi_scf_223 := k_hi scf_223
          rcases w_222 with ⟨h_224, h_225, h_226⟩ | h_227
          · (try simp only [zl_0] at h_224 h_225 h_226); exfalso; omega
          · try simp only [zl_0] at h_227
            have h_227 : scf_223.toInt = 1 := h_227
            refine lv_aload_n hx hb dX11_one_162 rfl (lv_at hl 2 rfl) ?_
            refine va_get (D := D) (ci := 11) (v := .int scf_223) (C := RX11) (T := TX11) (N := 25) hx hb hT giX11 hown hK hP 1 rfl rfl 15 (by decide) (hT (Cond.fieldLink RX11 148 "DesertWireModel" "isWrong" "Z") mw_1171) (fun _ h9 => h9) rfl dX11_one_163 ?_
            refine b_if_eq hx hb rfl (tgt := 171) dX11_one_166 (by decide) (fun c_228 => by exfalso; omega) (fun c_228 => ?_)
            refine lv_iconst (v := 0) hx hb dX11_one_169 (by decide) ?_
            exact hRet (cd, scf_223, cg) [1, 0] ⟨(by first | omega | (simp only [zl_0] <;> omega) | decide | assumption | rfl | (dsimp only; first | omega | (simp only [zl_0] <;> omega))), (by first | omega | (simp only [zl_0] <;> omega) | decide | assumption | rfl | (dsimp only; first | omega | (simp only [zl_0] <;> omega))), (by first | omega | (simp only [zl_0] <;> omega) | decide | assumption | rfl | (dsimp only; first | omega | (simp only [zl_0] <;> omega)))⟩ hP hD (by decide) rfl hS rfl dX11_one_170
    · refine lv_iconst (v := 0) hx hb dX11_one_12 (by decide) ?_
      exact hRet (cd, cf, cg) [0, 1] ⟨(by first | omega | (simp only [zl_0] <;> omega) | decide | assumption | rfl | (dsimp only; first | omega | (simp only [zl_0] <;> omega))), (by first | omega | (simp only [zl_0] <;> omega) | decide | assumption | rfl | (dsimp only; first | omega | (simp only [zl_0] <;> omega))), (by first | omega | (simp only [zl_0] <;> omega) | decide | assumption | rfl | (dsimp only; first | omega | (simp only [zl_0] <;> omega)))⟩ hP hD (by decide) rfl hS rfl dX11_one_13

set_option maxHeartbeats 4000000 in
set_option maxRecDepth 100000 in
theorem c_X11_productG0 (l : Launch) (D : va_G) (cI : ClassId) (aK aV : Nat → Nat) (k k0 k1 k2 k4 k5 k6 k7 k8 ka kb kl ko : Nat) (sz : Nat) (c3 : Int32) (c9 : Int32) (cc : Int32) (cd : Int32) (ce : Int32) (cf : Int32) (cg : Int32) (ch : Int32) (ci : Int32) (cj : Int32) (ck : Int32) (cm : Int32) (cn : Int32) (c0 : Nat → Int32) (pre0 : 0 ≤ cc.toInt) (pre1 : cc.toInt ≤ 1151) (pre2 : 0 ≤ cd.toInt) (pre3 : cd.toInt ≤ ce.toInt) (pre4 : ce.toInt ≤ 50) (pre5 : cg.toInt = 0) : Met l yX11_product (gW yX11_product cX11_product 4 (some .int)) ({ frames := 26, cells := 0, slots := 0, locals := 589 } : Room) (kPreX D cI aK aV [.ref k] [(k, .inr (11, [.ref k0, .ref k1, .ref k2, .int c3, .ref k4, .ref k5, .ref k6, .ref k7, .ref k8, .int c9, .ref ka, .ref kb, .int cc, .int cd, .int ce, .int cf, .int cg, .int ch, .int ci, .int cj, .int ck, .ref kl, .int cm, .int cn, .ref ko])), (k0, .inl (cI, 1201, .inl c0))] sz) (va_Qi (fun (r : Int32) (u : Int32 × Int32 × Int32) => cd.toInt ≤ u.1.toInt ∧ u.1.toInt ≤ ce.toInt ∧ u.2.2.toInt = 0) (fun u t => kWd D cI (va_A [(k, .inr (11, [.ref k0, .ref k1, .ref k2, .int c3, .ref k4, .ref k5, .ref k6, .ref k7, .ref k8, .int c9, .ref ka, .ref kb, .int cc, .int cd, .int ce, .int cf, .int cg, .int ch, .int ci, .int cj, .int ck, .ref kl, .int cm, .int cn, .ref ko])), (k0, .inl (cI, 1201, .inl c0))] sz) [(k, .inr (11, [.ref k0, .ref k1, .ref k2, .int c3, .ref k4, .ref k5, .ref k6, .ref k7, .ref k8, .int c9, .ref ka, .ref kb, .int cc, .int u.1, .int ce, .int u.2.1, .int u.2.2, .int ch, .int ci, .int cj, .int ck, .ref kl, .int cm, .int cn, .ref ko])), (k0, .inl (cI, 1201, .inl c0))] t) (va_A [(k, .inr (11, [.ref k0, .ref k1, .ref k2, .int c3, .ref k4, .ref k5, .ref k6, .ref k7, .ref k8, .int c9, .ref ka, .ref kb, .int cc, .int cd, .int ce, .int cf, .int cg, .int ch, .int ci, .int cj, .int ck, .ref kl, .int cm, .int cn, .ref ko])), (k0, .inl (cI, 1201, .inl c0))] sz)) 0 0 (va_A [(k, .inr (11, [.ref k0, .ref k1, .ref k2, .int c3, .ref k4, .ref k5, .ref k6, .ref k7, .ref k8, .int c9, .ref ka, .ref kb, .int cc, .int cd, .int ce, .int cf, .int cg, .int ch, .int ci, .int cj, .int ck, .ref kl, .int cm, .int cn, .ref ko])), (k0, .inl (cI, 1201, .inl c0))] sz) := by
  refine kMetIX (own := RX11) (by decide) rfl (Nat.le_of_ble_eq_true rfl) ?_
  intro p e s m args below meth c hx hb hT hown hname hml A Q hK hP hD hS hA hN hXS hRet ls hl
  have hl : lv_has ls 4 [(0, .ref k)] := hl
  have lo_cd := k_lo cd
  have hi_cd := k_hi cd
  have lo_ce := k_lo ce
  have hi_ce := k_hi ce
  have lo_ci := k_lo ci
  have hi_ci := k_hi ci
  refine lv_aload_n hx hb dX11_product_0 rfl (lv_at hl 0 rfl) ?_
  refine kJi (wr := []) (va_runV (As := []) (rest := []) ⟨hx, hb, hml, hown, hT⟩ (c_X11_oneG0 l D cI aK aV k k0 k1 k2 k4 k5 k6 k7 k8 ka kb kl ko s.heap.size c3 c9 cc cd ce cf cg ch ci cj ck cm cn c0 (by first | omega | decide | assumption | rfl) (by first | omega | decide | assumption | rfl) (by first | omega | decide | assumption | rfl) (by first | omega | decide | assumption | rfl) (by first | omega | decide | assumption | rfl) (by first | omega | decide | assumption | rfl)) (cwV 0 hT (gV_in mw_1335 mw_1332 mw_1334 mw_p4_8 mw_12) rfl rfl rfl (by decide +kernel) ⟨Nat.le_of_ble_eq_true rfl, Nat.le_of_ble_eq_true rfl⟩) (kRecvX (q0 := 0) (ci := 11) hK hP hD hN hXS hS hA rfl rfl [0, 1] rfl (by decide)) rfl rfl hl.1 rfl (lv_room (Nat.le_of_ble_eq_true rfl)) dX11_product_1 ⟨Nat.le_of_ble_eq_true rfl, Nat.le_of_ble_eq_true rfl⟩) hP hD hS hA [0, 1] [] rfl rfl (by decide) (by decide) ?_
  clear hP hD hS
  intro r_1 u_6 H locs w_2 hP hD hS
  obtain ⟨scd_3, scf_4, scg_5⟩ := u_6
  replace hP : va_P D vwCl [(k, .inr (11, [.ref k0, .ref k1, .ref k2, .int c3, .ref k4, .ref k5, .ref k6, .ref k7, .ref k8, .int c9, .ref ka, .ref kb, .int cc, .int scd_3, .int ce, .int scf_4, .int scg_5, .int ch, .int ci, .int cj, .int ck, .ref kl, .int cm, .int cn, .ref ko])), (k0, .inl (cI, 1201, .inl c0))] H := hP
  replace hD : va_D A [(k, .inr (11, [.ref k0, .ref k1, .ref k2, .int c3, .ref k4, .ref k5, .ref k6, .ref k7, .ref k8, .int c9, .ref ka, .ref kb, .int cc, .int scd_3, .int ce, .int scf_4, .int scg_5, .int ch, .int ci, .int cj, .int ck, .ref kl, .int cm, .int cn, .ref ko])), (k0, .inl (cI, 1201, .inl c0))] := hD
  have lo_scd_3 := k_lo scd_3
  have hi_scd_3 := k_hi scd_3
  have lo_scg_5 := k_lo scg_5
  have hi_scg_5 := k_hi scg_5
  obtain ⟨h_7, h_8, h_9⟩ := w_2
  have h_7 : cd.toInt ≤ scd_3.toInt := h_7
  have h_8 : scd_3.toInt ≤ ce.toInt := h_8
  have h_9 : scg_5.toInt = 0 := h_9
  have lo_r_1 := k_lo r_1
  have hi_r_1 := k_hi r_1
  refine lv_istore_n (lv' := [(1, .int r_1), (0, .ref k)]) hx hb dX11_product_4 rfl hl (by decide) rfl ?_
  clear hl
  intro ls hl
  have hloop_5 : ∀ (fu_ : Nat) (l5_1 : Int32) (f5_kd : Int32) (f5_kf : Int32) (f5_kg : Int32), scd_3.toInt ≤ f5_kd.toInt → scg_5.toInt ≤ f5_kg.toInt → f5_kg.toInt ≤ scg_5.toInt → f5_kd.toInt ≤ ce.toInt → (ce.toInt - f5_kd.toInt).toNat < fu_ → ∀ (ls : Array Slot) (H : Heap) (locs : List Loc), lv_has ls 4 [(1, .int l5_1), (0, .ref k)] → va_P D vwCl [(k, .inr (11, [.ref k0, .ref k1, .ref k2, .int c3, .ref k4, .ref k5, .ref k6, .ref k7, .ref k8, .int c9, .ref ka, .ref kb, .int cc, .int f5_kd, .int ce, .int f5_kf, .int f5_kg, .int ch, .int ci, .int cj, .int ck, .ref kl, .int cm, .int cn, .ref ko])), (k0, .inl (cI, 1201, .inl c0))] H → va_D A [(k, .inr (11, [.ref k0, .ref k1, .ref k2, .int c3, .ref k4, .ref k5, .ref k6, .ref k7, .ref k8, .int c9, .ref ka, .ref kb, .int cc, .int f5_kd, .int ce, .int f5_kf, .int f5_kg, .int ch, .int ci, .int cj, .int ck, .ref kl, .int cm, .int cn, .ref ko])), (k0, .inl (cI, 1201, .inl c0))] → va_S A s.heap H locs → W p l e ({ frames := 26, cells := 0, slots := 0, locals := 589 } : Room) s m args below meth c H locs 0 0 Q (F0 m 5 ls []) := by
    intro fu_; induction fu_ with
    | zero => intro l5_1 f5_kd f5_kf f5_kg i5_0 i5_1 i5_2 i5_3 hm; exact absurd hm (by omega)
    | succ fu_ ih5 =>
        intro l5_1 f5_kd f5_kf f5_kg i5_0 i5_1 i5_2 i5_3 hm ls H locs hl hP hD hS
        have lo_l5_1 := k_lo l5_1
        have hi_l5_1 := k_hi l5_1
        have lo_f5_kd := k_lo f5_kd
        have hi_f5_kd := k_hi f5_kd
        have lo_f5_kf := k_lo f5_kf
        have hi_f5_kf := k_hi f5_kf
        have lo_f5_kg := k_lo f5_kg
        have hi_f5_kg := k_hi f5_kg
        refine lv_aload_n hx hb dX11_product_5 rfl (lv_at hl 1 rfl) ?_
        refine va_get (D := D) (ci := 11) (v := .int f5_kf) (C := RX11) (T := TX11) (N := 25) hx hb hT giX11 hown hK hP 0 rfl rfl 15 (by decide) (hT (Cond.fieldLink RX11 148 "DesertWireModel" "isWrong" "Z") mw_1171) (fun _ h9 => h9) rfl dX11_product_6 ?_
        refine b_if_ne hx hb rfl (tgt := 85) dX11_product_9 (by decide) (fun c_10 => ?_) (fun c_10 => ?_)
        · refine lv_iload_n hx hb dX11_product_85 rfl (lv_at hl 0 rfl) ?_
          exact hRet (f5_kd, f5_kf, f5_kg) [0, 1] ⟨(by first | omega | decide | assumption | rfl | (dsimp only; first | omega)), (by first | omega | decide | assumption | rfl | (dsimp only; first | omega)), (by first | omega | decide | assumption | rfl | (dsimp only; first | omega))⟩ hP hD (by decide) rfl hS rfl dX11_product_86
        · refine lv_aload_n hx hb dX11_product_12 rfl (lv_at hl 1 rfl) ?_
          refine kJi (wr := []) (va_runV (As := []) (rest := []) ⟨hx, hb, hml, hown, hT⟩ (c_X11_nowG l D cI aK aV k k0 k1 k2 k4 k5 k6 k7 k8 ka kb kl ko H.size c3 c9 cc f5_kd ce f5_kf f5_kg ch ci cj ck cm cn c0 (by first | omega | decide | assumption | rfl) (by first | omega | decide | assumption | rfl) (by first | omega | decide | assumption | rfl) (by first | omega | decide | assumption | rfl) (by first | omega | decide | assumption | rfl)) (cwV 0 hT (gV_in mw_1339 mw_1336 mw_1338 mw_p4_9 mw_12) rfl rfl rfl (by decide +kernel) ⟨Nat.le_of_ble_eq_true rfl, Nat.le_of_ble_eq_true rfl⟩) (kRecvX (q0 := 0) (ci := 11) hK hP hD hN hXS hS hA rfl rfl [0, 1] rfl (by decide)) rfl rfl hl.1 rfl (lv_room (Nat.le_of_ble_eq_true rfl)) dX11_product_13 ⟨Nat.le_of_ble_eq_true rfl, Nat.le_of_ble_eq_true rfl⟩) hP hD hS hA [0, 1] [] rfl rfl (by decide) (by decide) ?_
          clear hP hD hS
          intro r_11 u_13 H locs w_12 hP hD hS
          replace hP : va_P D vwCl [(k, .inr (11, [.ref k0, .ref k1, .ref k2, .int c3, .ref k4, .ref k5, .ref k6, .ref k7, .ref k8, .int c9, .ref ka, .ref kb, .int cc, .int f5_kd, .int ce, .int f5_kf, .int f5_kg, .int ch, .int ci, .int cj, .int ck, .ref kl, .int cm, .int cn, .ref ko])), (k0, .inl (cI, 1201, .inl c0))] H := hP
          replace hD : va_D A [(k, .inr (11, [.ref k0, .ref k1, .ref k2, .int c3, .ref k4, .ref k5, .ref k6, .ref k7, .ref k8, .int c9, .ref ka, .ref kb, .int cc, .int f5_kd, .int ce, .int f5_kf, .int f5_kg, .int ch, .int ci, .int cj, .int ck, .ref kl, .int cm, .int cn, .ref ko])), (k0, .inl (cI, 1201, .inl c0))] := hD
          rcases w_12 with h_14 | ⟨hr_11, h_15⟩
          · have h_14 : f5_kd.toInt < ce.toInt := h_14
            have lo_r_11 := k_lo r_11
            have hi_r_11 := k_hi r_11
            refine lv_bipush (v := 42) hx hb dX11_product_16 (by decide) ?_
            refine b_icmp_eq hx hb rfl zl_42 (tgt := 30) dX11_product_18 (by decide) (fun c_16 => ?_) (fun c_16 => ?_)
            · refine lv_aload_n hx hb dX11_product_30 rfl (lv_at hl 1 rfl) ?_
              refine kJi (wr := []) (va_runV (As := []) (rest := []) ⟨hx, hb, hml, hown, hT⟩ (c_X11_nowG l D cI aK aV k k0 k1 k2 k4 k5 k6 k7 k8 ka kb kl ko H.size c3 c9 cc f5_kd ce f5_kf f5_kg ch ci cj ck cm cn c0 (by first | omega | decide | assumption | rfl) (by first | omega | decide | assumption | rfl) (by first | omega | decide | assumption | rfl) (by first | omega | decide | assumption | rfl) (by first | omega | decide | assumption | rfl)) (cwV 0 hT (gV_in mw_1339 mw_1336 mw_1338 mw_p4_9 mw_12) rfl rfl rfl (by decide +kernel) ⟨Nat.le_of_ble_eq_true rfl, Nat.le_of_ble_eq_true rfl⟩) (kRecvX (q0 := 0) (ci := 11) hK hP hD hN hXS hS hA rfl rfl [0, 1] rfl (by decide)) rfl rfl hl.1 rfl (lv_room (Nat.le_of_ble_eq_true rfl)) dX11_product_31 ⟨Nat.le_of_ble_eq_true rfl, Nat.le_of_ble_eq_true rfl⟩) hP hD hS hA [0, 1] [] rfl rfl (by decide) (by decide) ?_
              clear hP hD hS
              intro r_17 u_19 H locs w_18 hP hD hS
              replace hP : va_P D vwCl [(k, .inr (11, [.ref k0, .ref k1, .ref k2, .int c3, .ref k4, .ref k5, .ref k6, .ref k7, .ref k8, .int c9, .ref ka, .ref kb, .int cc, .int f5_kd, .int ce, .int f5_kf, .int f5_kg, .int ch, .int ci, .int cj, .int ck, .ref kl, .int cm, .int cn, .ref ko])), (k0, .inl (cI, 1201, .inl c0))] H := hP
              replace hD : va_D A [(k, .inr (11, [.ref k0, .ref k1, .ref k2, .int c3, .ref k4, .ref k5, .ref k6, .ref k7, .ref k8, .int c9, .ref ka, .ref kb, .int cc, .int f5_kd, .int ce, .int f5_kf, .int f5_kg, .int ch, .int ci, .int cj, .int ck, .ref kl, .int cm, .int cn, .ref ko])), (k0, .inl (cI, 1201, .inl c0))] := hD
              rcases w_18 with h_20 | ⟨hr_17, h_21⟩
              · have h_20 : f5_kd.toInt < ce.toInt := h_20
                have lo_r_17 := k_lo r_17
                have hi_r_17 := k_hi r_17
                refine lv_bipush (v := 42) hx hb dX11_product_34 (by decide) ?_
                refine b_icmp_ne hx hb rfl zl_42 (tgt := 43) dX11_product_36 (by decide) (fun c_22 => ?_) (fun c_22 => ?_)
                · refine lv_iconst (v := 0) hx hb dX11_product_43 (by decide) ?_
                  refine lv_istore_n (lv' := [(2, .int 0), (1, .int l5_1), (0, .ref k)]) hx hb dX11_product_44 rfl hl (by decide) rfl ?_
                  clear hl
                  intro ls hl
                  refine lv_aload_n hx hb dX11_product_45 rfl (lv_at hl 2 rfl) ?_
                  refine lv_dup hx hb dX11_product_46 rfl ?_
                  refine va_get (D := D) (ci := 11) (v := .int f5_kd) (C := RX11) (T := TX11) (N := 25) hx hb hT giX11 hown hK hP 0 rfl rfl 13 (by decide) (hT (Cond.fieldLink RX11 138 "DesertWireModel" "here" "I") mw_1169) (fun _ h9 => h9) rfl dX11_product_47 ?_
                  refine lv_iconst (v := 1) hx hb dX11_product_50 (by decide) ?_
                  refine lv_iadd hx hb dX11_product_51 ?_
                  refine lv_topi (fun v_23 ev_23 => ?_)
                  have tv_23 : v_23.toInt = f5_kd.toInt + 1 := by rw [ev_23]; exact k_addv rfl zl_1 (by omega) (by omega)
                  refine va_put (D := D) (ci := 11) (v := .int v_23) (ty := .int) (C := RX11) (T := TX11) (N := 25) hx hb hT giX11 tyX11 tyX11_ok nmX11 hown hK hP hD hS 0 rfl rfl 13 (by decide) (hT (Cond.fieldLink RX11 138 "DesertWireModel" "here" "I") mw_1169) (fun _ h9 => h9) rfl (by decide +kernel) rfl rfl (Nat.le_of_ble_eq_true rfl) dX11_product_52 ?_
                  clear hP hD hS
                  intro H locs hP hD hS
                  replace hP : va_P D vwCl [(k, .inr (11, [.ref k0, .ref k1, .ref k2, .int c3, .ref k4, .ref k5, .ref k6, .ref k7, .ref k8, .int c9, .ref ka, .ref kb, .int cc, .int v_23, .int ce, .int f5_kf, .int f5_kg, .int ch, .int ci, .int cj, .int ck, .ref kl, .int cm, .int cn, .ref ko])), (k0, .inl (cI, 1201, .inl c0))] H := hP
                  replace hD : va_D A [(k, .inr (11, [.ref k0, .ref k1, .ref k2, .int c3, .ref k4, .ref k5, .ref k6, .ref k7, .ref k8, .int c9, .ref ka, .ref kb, .int cc, .int v_23, .int ce, .int f5_kf, .int f5_kg, .int ch, .int ci, .int cj, .int ck, .ref kl, .int cm, .int cn, .ref ko])), (k0, .inl (cI, 1201, .inl c0))] := hD
                  refine lv_aload_n hx hb dX11_product_55 rfl (lv_at hl 2 rfl) ?_
                  refine kJi (wr := []) (va_runV (As := []) (rest := []) ⟨hx, hb, hml, hown, hT⟩ (c_X11_oneG0 l D cI aK aV k k0 k1 k2 k4 k5 k6 k7 k8 ka kb kl ko H.size c3 c9 cc v_23 ce f5_kf f5_kg ch ci cj ck cm cn c0 (by first | omega | decide | assumption | rfl) (by first | omega | decide | assumption | rfl) (by first | omega | decide | assumption | rfl) (by first | omega | decide | assumption | rfl) (by first | omega | decide | assumption | rfl) (by first | omega | decide | assumption | rfl)) (cwV 0 hT (gV_in mw_1335 mw_1332 mw_1334 mw_p4_8 mw_12) rfl rfl rfl (by decide +kernel) ⟨Nat.le_of_ble_eq_true rfl, Nat.le_of_ble_eq_true rfl⟩) (kRecvX (q0 := 0) (ci := 11) hK hP hD hN hXS hS hA rfl rfl [0, 1] rfl (by decide)) rfl rfl hl.1 rfl (lv_room (Nat.le_of_ble_eq_true rfl)) dX11_product_56 ⟨Nat.le_of_ble_eq_true rfl, Nat.le_of_ble_eq_true rfl⟩) hP hD hS hA [0, 1] [] rfl rfl (by decide) (by decide) ?_
                  clear hP hD hS
                  intro r_24 u_29 H locs w_25 hP hD hS
                  obtain ⟨scd_26, scf_27, scg_28⟩ := u_29
                  replace hP : va_P D vwCl [(k, .inr (11, [.ref k0, .ref k1, .ref k2, .int c3, .ref k4, .ref k5, .ref k6, .ref k7, .ref k8, .int c9, .ref ka, .ref kb, .int cc, .int scd_26, .int ce, .int scf_27, .int scg_28, .int ch, .int ci, .int cj, .int ck, .ref kl, .int cm, .int cn, .ref ko])), (k0, .inl (cI, 1201, .inl c0))] H := hP
                  replace hD : va_D A [(k, .inr (11, [.ref k0, .ref k1, .ref k2, .int c3, .ref k4, .ref k5, .ref k6, .ref k7, .ref k8, .int c9, .ref ka, .ref kb, .int cc, .int scd_26, .int ce, .int scf_27, .int scg_28, .int ch, .int ci, .int cj, .int ck, .ref kl, .int cm, .int cn, .ref ko])), (k0, .inl (cI, 1201, .inl c0))] := hD
                  have lo_scd_26 := k_lo scd_26
                  have hi_scd_26 := k_hi scd_26
                  have lo_scg_28 := k_lo scg_28
                  have hi_scg_28 := k_hi scg_28
                  obtain ⟨h_30, h_31, h_32⟩ := w_25
                  have h_30 : v_23.toInt ≤ scd_26.toInt := h_30
                  have h_31 : scd_26.toInt ≤ ce.toInt := h_31
                  have h_32 : scg_28.toInt = 0 := h_32
                  have lo_r_24 := k_lo r_24
                  have hi_r_24 := k_hi r_24
                  refine lv_istore_n (lv' := [(3, .int r_24), (2, .int 0), (1, .int l5_1), (0, .ref k)]) hx hb dX11_product_59 rfl hl (by decide) rfl ?_
                  clear hl
                  intro ls hl
                  refine lv_iload_n hx hb dX11_product_60 rfl (lv_at hl 1 rfl) ?_
                  refine b_if_eq hx hb zl_0 (tgt := 70) dX11_product_61 (by decide) (fun c_33 => ?_) (fun c_33 => by exfalso; omega)
                  refine lv_iload_n hx hb dX11_product_70 rfl (lv_at hl 0 rfl) ?_
                  refine b_if_ne hx hb rfl (tgt := 78) dX11_product_71 (by decide) (fun c_34 => ?_) (fun c_34 => ?_)
                  · refine lv_iload_n hx hb dX11_product_78 rfl (lv_at hl 2 rfl) ?_
                    refine lv_iload_n hx hb dX11_product_79 rfl (lv_at hl 0 rfl) ?_
                    refine lv_irem hx hb dX11_product_80 (k_ne0 (by omega)) ?_
                    refine lv_topi (fun v_35 ev_35 => ?_)
                    have lo_v_35 := k_lo v_35
                    have hi_v_35 := k_hi v_35
                    refine lv_istore_n (lv' := [(1, .int v_35), (3, .int r_24), (2, .int 0), (0, .ref k)]) hx hb dX11_product_81 rfl hl (by decide) rfl ?_
                    clear hl
                    intro ls hl
                    refine lv_goto (tgt := 5) hx hb dX11_product_82 (by decide) ?_
                    exact ih5 v_35 scd_26 scf_27 scg_28 (by first | omega | decide | assumption | rfl) (by first | omega | decide | assumption | rfl) (by first | omega | decide | assumption | rfl) (by first | omega | decide | assumption | rfl) (by omega) ls _ _ (lv_sub hl [0, 3] rfl) (hP.sub [0, 1] rfl) (hD.sub [0, 1] (by decide) rfl) hS
                  · refine lv_iconst (v := 0) hx hb dX11_product_74 (by decide) ?_
                    refine lv_goto (tgt := 81) hx hb dX11_product_75 (by decide) ?_
                    refine lv_istore_n (lv' := [(1, .int 0), (3, .int r_24), (2, .int 0), (0, .ref k)]) hx hb dX11_product_81 rfl hl (by decide) rfl ?_
                    clear hl
                    intro ls hl
                    refine lv_goto (tgt := 5) hx hb dX11_product_82 (by decide) ?_
                    exact ih5 0 scd_26 scf_27 scg_28 (by first | omega | (simp only [zl_0] <;> omega) | decide | assumption | rfl) (by first | omega | (simp only [zl_0] <;> omega) | decide | assumption | rfl) (by first | omega | (simp only [zl_0] <;> omega) | decide | assumption | rfl) (by first | omega | (simp only [zl_0] <;> omega) | decide | assumption | rfl) (by omega) ls _ _ (lv_sub hl [0, 3] rfl) (hP.sub [0, 1] rfl) (hD.sub [0, 1] (by decide) rfl) hS
                · refine lv_iconst (v := 1) hx hb dX11_product_39 (by decide) ?_
                  refine lv_goto (tgt := 44) hx hb dX11_product_40 (by decide) ?_
                  refine lv_istore_n (lv' := [(2, .int 1), (1, .int l5_1), (0, .ref k)]) hx hb dX11_product_44 rfl hl (by decide) rfl ?_
                  clear hl
                  intro ls hl
                  refine lv_aload_n hx hb dX11_product_45 rfl (lv_at hl 2 rfl) ?_
                  refine lv_dup hx hb dX11_product_46 rfl ?_
                  refine va_get (D := D) (ci := 11) (v := .int f5_kd) (C := RX11) (T := TX11) (N := 25) hx hb hT giX11 hown hK hP 0 rfl rfl 13 (by decide) (hT (Cond.fieldLink RX11 138 "DesertWireModel" "here" "I") mw_1169) (fun _ h9 => h9) rfl dX11_product_47 ?_
                  refine lv_iconst (v := 1) hx hb dX11_product_50 (by decide) ?_
                  refine lv_iadd hx hb dX11_product_51 ?_
                  refine lv_topi (fun v_36 ev_36 => ?_)
                  have tv_36 : v_36.toInt = f5_kd.toInt + 1 := by rw [ev_36]; exact k_addv rfl zl_1 (by omega) (by omega)
                  refine va_put (D := D) (ci := 11) (v := .int v_36) (ty := .int) (C := RX11) (T := TX11) (N := 25) hx hb hT giX11 tyX11 tyX11_ok nmX11 hown hK hP hD hS 0 rfl rfl 13 (by decide) (hT (Cond.fieldLink RX11 138 "DesertWireModel" "here" "I") mw_1169) (fun _ h9 => h9) rfl (by decide +kernel) rfl rfl (Nat.le_of_ble_eq_true rfl) dX11_product_52 ?_
                  clear hP hD hS
                  intro H locs hP hD hS
                  replace hP : va_P D vwCl [(k, .inr (11, [.ref k0, .ref k1, .ref k2, .int c3, .ref k4, .ref k5, .ref k6, .ref k7, .ref k8, .int c9, .ref ka, .ref kb, .int cc, .int v_36, .int ce, .int f5_kf, .int f5_kg, .int ch, .int ci, .int cj, .int ck, .ref kl, .int cm, .int cn, .ref ko])), (k0, .inl (cI, 1201, .inl c0))] H := hP
                  replace hD : va_D A [(k, .inr (11, [.ref k0, .ref k1, .ref k2, .int c3, .ref k4, .ref k5, .ref k6, .ref k7, .ref k8, .int c9, .ref ka, .ref kb, .int cc, .int v_36, .int ce, .int f5_kf, .int f5_kg, .int ch, .int ci, .int cj, .int ck, .ref kl, .int cm, .int cn, .ref ko])), (k0, .inl (cI, 1201, .inl c0))] := hD
                  refine lv_aload_n hx hb dX11_product_55 rfl (lv_at hl 2 rfl) ?_
                  refine kJi (wr := []) (va_runV (As := []) (rest := []) ⟨hx, hb, hml, hown, hT⟩ (c_X11_oneG0 l D cI aK aV k k0 k1 k2 k4 k5 k6 k7 k8 ka kb kl ko H.size c3 c9 cc v_36 ce f5_kf f5_kg ch ci cj ck cm cn c0 (by first | omega | decide | assumption | rfl) (by first | omega | decide | assumption | rfl) (by first | omega | decide | assumption | rfl) (by first | omega | decide | assumption | rfl) (by first | omega | decide | assumption | rfl) (by first | omega | decide | assumption | rfl)) (cwV 0 hT (gV_in mw_1335 mw_1332 mw_1334 mw_p4_8 mw_12) rfl rfl rfl (by decide +kernel) ⟨Nat.le_of_ble_eq_true rfl, Nat.le_of_ble_eq_true rfl⟩) (kRecvX (q0 := 0) (ci := 11) hK hP hD hN hXS hS hA rfl rfl [0, 1] rfl (by decide)) rfl rfl hl.1 rfl (lv_room (Nat.le_of_ble_eq_true rfl)) dX11_product_56 ⟨Nat.le_of_ble_eq_true rfl, Nat.le_of_ble_eq_true rfl⟩) hP hD hS hA [0, 1] [] rfl rfl (by decide) (by decide) ?_
                  clear hP hD hS
                  intro r_37 u_42 H locs w_38 hP hD hS
                  obtain ⟨scd_39, scf_40, scg_41⟩ := u_42
                  replace hP : va_P D vwCl [(k, .inr (11, [.ref k0, .ref k1, .ref k2, .int c3, .ref k4, .ref k5, .ref k6, .ref k7, .ref k8, .int c9, .ref ka, .ref kb, .int cc, .int scd_39, .int ce, .int scf_40, .int scg_41, .int ch, .int ci, .int cj, .int ck, .ref kl, .int cm, .int cn, .ref ko])), (k0, .inl (cI, 1201, .inl c0))] H := hP
                  replace hD : va_D A [(k, .inr (11, [.ref k0, .ref k1, .ref k2, .int c3, .ref k4, .ref k5, .ref k6, .ref k7, .ref k8, .int c9, .ref ka, .ref kb, .int cc, .int scd_39, .int ce, .int scf_40, .int scg_41, .int ch, .int ci, .int cj, .int ck, .ref kl, .int cm, .int cn, .ref ko])), (k0, .inl (cI, 1201, .inl c0))] := hD
                  have lo_scd_39 := k_lo scd_39
                  have hi_scd_39 := k_hi scd_39
                  have lo_scg_41 := k_lo scg_41
                  have hi_scg_41 := k_hi scg_41
                  obtain ⟨h_43, h_44, h_45⟩ := w_38
                  have h_43 : v_36.toInt ≤ scd_39.toInt := h_43
                  have h_44 : scd_39.toInt ≤ ce.toInt := h_44
                  have h_45 : scg_41.toInt = 0 := h_45
                  have lo_r_37 := k_lo r_37
                  have hi_r_37 := k_hi r_37
                  refine lv_istore_n (lv' := [(3, .int r_37), (2, .int 1), (1, .int l5_1), (0, .ref k)]) hx hb dX11_product_59 rfl hl (by decide) rfl ?_
                  clear hl
                  intro ls hl
                  refine lv_iload_n hx hb dX11_product_60 rfl (lv_at hl 1 rfl) ?_
                  refine b_if_eq hx hb zl_1 (tgt := 70) dX11_product_61 (by decide) (fun c_46 => by exfalso; omega) (fun c_46 => ?_)
                  refine lv_iload_n hx hb dX11_product_64 rfl (lv_at hl 2 rfl) ?_
                  refine lv_iload_n hx hb dX11_product_65 rfl (lv_at hl 0 rfl) ?_
                  refine lv_imul hx hb dX11_product_66 ?_
                  refine lv_topi (fun v_47 ev_47 => ?_)
                  have lo_v_47 := k_lo v_47
                  have hi_v_47 := k_hi v_47
                  refine lv_goto (tgt := 81) hx hb dX11_product_67 (by decide) ?_
                  refine lv_istore_n (lv' := [(1, .int v_47), (3, .int r_37), (2, .int 1), (0, .ref k)]) hx hb dX11_product_81 rfl hl (by decide) rfl ?_
                  clear hl
                  intro ls hl
                  refine lv_goto (tgt := 5) hx hb dX11_product_82 (by decide) ?_
                  exact ih5 v_47 scd_39 scf_40 scg_41 (by first | omega | decide | assumption | rfl) (by first | omega | decide | assumption | rfl) (by first | omega | decide | assumption | rfl) (by first | omega | decide | assumption | rfl) (by omega) ls _ _ (lv_sub hl [0, 3] rfl) (hP.sub [0, 1] rfl) (hD.sub [0, 1] (by decide) rfl) hS
              · exfalso; omega
            · refine lv_aload_n hx hb dX11_product_21 rfl (lv_at hl 1 rfl) ?_
              refine kJi (wr := []) (va_runV (As := []) (rest := []) ⟨hx, hb, hml, hown, hT⟩ (c_X11_nowG l D cI aK aV k k0 k1 k2 k4 k5 k6 k7 k8 ka kb kl ko H.size c3 c9 cc f5_kd ce f5_kf f5_kg ch ci cj ck cm cn c0 (by first | omega | decide | assumption | rfl) (by first | omega | decide | assumption | rfl) (by first | omega | decide | assumption | rfl) (by first | omega | decide | assumption | rfl) (by first | omega | decide | assumption | rfl)) (cwV 0 hT (gV_in mw_1339 mw_1336 mw_1338 mw_p4_9 mw_12) rfl rfl rfl (by decide +kernel) ⟨Nat.le_of_ble_eq_true rfl, Nat.le_of_ble_eq_true rfl⟩) (kRecvX (q0 := 0) (ci := 11) hK hP hD hN hXS hS hA rfl rfl [0, 1] rfl (by decide)) rfl rfl hl.1 rfl (lv_room (Nat.le_of_ble_eq_true rfl)) dX11_product_22 ⟨Nat.le_of_ble_eq_true rfl, Nat.le_of_ble_eq_true rfl⟩) hP hD hS hA [0, 1] [] rfl rfl (by decide) (by decide) ?_
              clear hP hD hS
              intro r_48 u_50 H locs w_49 hP hD hS
              replace hP : va_P D vwCl [(k, .inr (11, [.ref k0, .ref k1, .ref k2, .int c3, .ref k4, .ref k5, .ref k6, .ref k7, .ref k8, .int c9, .ref ka, .ref kb, .int cc, .int f5_kd, .int ce, .int f5_kf, .int f5_kg, .int ch, .int ci, .int cj, .int ck, .ref kl, .int cm, .int cn, .ref ko])), (k0, .inl (cI, 1201, .inl c0))] H := hP
              replace hD : va_D A [(k, .inr (11, [.ref k0, .ref k1, .ref k2, .int c3, .ref k4, .ref k5, .ref k6, .ref k7, .ref k8, .int c9, .ref ka, .ref kb, .int cc, .int f5_kd, .int ce, .int f5_kf, .int f5_kg, .int ch, .int ci, .int cj, .int ck, .ref kl, .int cm, .int cn, .ref ko])), (k0, .inl (cI, 1201, .inl c0))] := hD
              rcases w_49 with h_51 | ⟨hr_48, h_52⟩
              · have h_51 : f5_kd.toInt < ce.toInt := h_51
                have lo_r_48 := k_lo r_48
                have hi_r_48 := k_hi r_48
                refine lv_bipush (v := 37) hx hb dX11_product_25 (by decide) ?_
                refine b_icmp_ne hx hb rfl zl_37 (tgt := 85) dX11_product_27 (by decide) (fun c_53 => ?_) (fun c_53 => ?_)
                · refine lv_iload_n hx hb dX11_product_85 rfl (lv_at hl 0 rfl) ?_
                  exact hRet (f5_kd, f5_kf, f5_kg) [0, 1] ⟨(by first | omega | decide | assumption | rfl | (dsimp only; first | omega)), (by first | omega | decide | assumption | rfl | (dsimp only; first | omega)), (by first | omega | decide | assumption | rfl | (dsimp only; first | omega))⟩ hP hD (by decide) rfl hS rfl dX11_product_86
                · refine lv_aload_n hx hb dX11_product_30 rfl (lv_at hl 1 rfl) ?_
                  refine kJi (wr := []) (va_runV (As := []) (rest := []) ⟨hx, hb, hml, hown, hT⟩ (c_X11_nowG l D cI aK aV k k0 k1 k2 k4 k5 k6 k7 k8 ka kb kl ko H.size c3 c9 cc f5_kd ce f5_kf f5_kg ch ci cj ck cm cn c0 (by first | omega | decide | assumption | rfl) (by first | omega | decide | assumption | rfl) (by first | omega | decide | assumption | rfl) (by first | omega | decide | assumption | rfl) (by first | omega | decide | assumption | rfl)) (cwV 0 hT (gV_in mw_1339 mw_1336 mw_1338 mw_p4_9 mw_12) rfl rfl rfl (by decide +kernel) ⟨Nat.le_of_ble_eq_true rfl, Nat.le_of_ble_eq_true rfl⟩) (kRecvX (q0 := 0) (ci := 11) hK hP hD hN hXS hS hA rfl rfl [0, 1] rfl (by decide)) rfl rfl hl.1 rfl (lv_room (Nat.le_of_ble_eq_true rfl)) dX11_product_31 ⟨Nat.le_of_ble_eq_true rfl, Nat.le_of_ble_eq_true rfl⟩) hP hD hS hA [0, 1] [] rfl rfl (by decide) (by decide) ?_
                  clear hP hD hS
                  intro r_54 u_56 H locs w_55 hP hD hS
                  replace hP : va_P D vwCl [(k, .inr (11, [.ref k0, .ref k1, .ref k2, .int c3, .ref k4, .ref k5, .ref k6, .ref k7, .ref k8, .int c9, .ref ka, .ref kb, .int cc, .int f5_kd, .int ce, .int f5_kf, .int f5_kg, .int ch, .int ci, .int cj, .int ck, .ref kl, .int cm, .int cn, .ref ko])), (k0, .inl (cI, 1201, .inl c0))] H := hP
                  replace hD : va_D A [(k, .inr (11, [.ref k0, .ref k1, .ref k2, .int c3, .ref k4, .ref k5, .ref k6, .ref k7, .ref k8, .int c9, .ref ka, .ref kb, .int cc, .int f5_kd, .int ce, .int f5_kf, .int f5_kg, .int ch, .int ci, .int cj, .int ck, .ref kl, .int cm, .int cn, .ref ko])), (k0, .inl (cI, 1201, .inl c0))] := hD
                  rcases w_55 with h_57 | ⟨hr_54, h_58⟩
                  · have h_57 : f5_kd.toInt < ce.toInt := h_57
                    have lo_r_54 := k_lo r_54
                    have hi_r_54 := k_hi r_54
                    refine lv_bipush (v := 42) hx hb dX11_product_34 (by decide) ?_
                    refine b_icmp_ne hx hb rfl zl_42 (tgt := 43) dX11_product_36 (by decide) (fun c_59 => ?_) (fun c_59 => ?_)
                    · refine lv_iconst (v := 0) hx hb dX11_product_43 (by decide) ?_
                      refine lv_istore_n (lv' := [(2, .int 0), (1, .int l5_1), (0, .ref k)]) hx hb dX11_product_44 rfl hl (by decide) rfl ?_
                      clear hl
                      intro ls hl
                      refine lv_aload_n hx hb dX11_product_45 rfl (lv_at hl 2 rfl) ?_
                      refine lv_dup hx hb dX11_product_46 rfl ?_
                      refine va_get (D := D) (ci := 11) (v := .int f5_kd) (C := RX11) (T := TX11) (N := 25) hx hb hT giX11 hown hK hP 0 rfl rfl 13 (by decide) (hT (Cond.fieldLink RX11 138 "DesertWireModel" "here" "I") mw_1169) (fun _ h9 => h9) rfl dX11_product_47 ?_
                      refine lv_iconst (v := 1) hx hb dX11_product_50 (by decide) ?_
                      refine lv_iadd hx hb dX11_product_51 ?_
                      refine lv_topi (fun v_60 ev_60 => ?_)
                      have tv_60 : v_60.toInt = f5_kd.toInt + 1 := by rw [ev_60]; exact k_addv rfl zl_1 (by omega) (by omega)
                      refine va_put (D := D) (ci := 11) (v := .int v_60) (ty := .int) (C := RX11) (T := TX11) (N := 25) hx hb hT giX11 tyX11 tyX11_ok nmX11 hown hK hP hD hS 0 rfl rfl 13 (by decide) (hT (Cond.fieldLink RX11 138 "DesertWireModel" "here" "I") mw_1169) (fun _ h9 => h9) rfl (by decide +kernel) rfl rfl (Nat.le_of_ble_eq_true rfl) dX11_product_52 ?_
                      clear hP hD hS
                      intro H locs hP hD hS
                      replace hP : va_P D vwCl [(k, .inr (11, [.ref k0, .ref k1, .ref k2, .int c3, .ref k4, .ref k5, .ref k6, .ref k7, .ref k8, .int c9, .ref ka, .ref kb, .int cc, .int v_60, .int ce, .int f5_kf, .int f5_kg, .int ch, .int ci, .int cj, .int ck, .ref kl, .int cm, .int cn, .ref ko])), (k0, .inl (cI, 1201, .inl c0))] H := hP
                      replace hD : va_D A [(k, .inr (11, [.ref k0, .ref k1, .ref k2, .int c3, .ref k4, .ref k5, .ref k6, .ref k7, .ref k8, .int c9, .ref ka, .ref kb, .int cc, .int v_60, .int ce, .int f5_kf, .int f5_kg, .int ch, .int ci, .int cj, .int ck, .ref kl, .int cm, .int cn, .ref ko])), (k0, .inl (cI, 1201, .inl c0))] := hD
                      refine lv_aload_n hx hb dX11_product_55 rfl (lv_at hl 2 rfl) ?_
                      refine kJi (wr := []) (va_runV (As := []) (rest := []) ⟨hx, hb, hml, hown, hT⟩ (c_X11_oneG0 l D cI aK aV k k0 k1 k2 k4 k5 k6 k7 k8 ka kb kl ko H.size c3 c9 cc v_60 ce f5_kf f5_kg ch ci cj ck cm cn c0 (by first | omega | decide | assumption | rfl) (by first | omega | decide | assumption | rfl) (by first | omega | decide | assumption | rfl) (by first | omega | decide | assumption | rfl) (by first | omega | decide | assumption | rfl) (by first | omega | decide | assumption | rfl)) (cwV 0 hT (gV_in mw_1335 mw_1332 mw_1334 mw_p4_8 mw_12) rfl rfl rfl (by decide +kernel) ⟨Nat.le_of_ble_eq_true rfl, Nat.le_of_ble_eq_true rfl⟩) (kRecvX (q0 := 0) (ci := 11) hK hP hD hN hXS hS hA rfl rfl [0, 1] rfl (by decide)) rfl rfl hl.1 rfl (lv_room (Nat.le_of_ble_eq_true rfl)) dX11_product_56 ⟨Nat.le_of_ble_eq_true rfl, Nat.le_of_ble_eq_true rfl⟩) hP hD hS hA [0, 1] [] rfl rfl (by decide) (by decide) ?_
                      clear hP hD hS
                      intro r_61 u_66 H locs w_62 hP hD hS
                      obtain ⟨scd_63, scf_64, scg_65⟩ := u_66
                      replace hP : va_P D vwCl [(k, .inr (11, [.ref k0, .ref k1, .ref k2, .int c3, .ref k4, .ref k5, .ref k6, .ref k7, .ref k8, .int c9, .ref ka, .ref kb, .int cc, .int scd_63, .int ce, .int scf_64, .int scg_65, .int ch, .int ci, .int cj, .int ck, .ref kl, .int cm, .int cn, .ref ko])), (k0, .inl (cI, 1201, .inl c0))] H := hP
                      replace hD : va_D A [(k, .inr (11, [.ref k0, .ref k1, .ref k2, .int c3, .ref k4, .ref k5, .ref k6, .ref k7, .ref k8, .int c9, .ref ka, .ref kb, .int cc, .int scd_63, .int ce, .int scf_64, .int scg_65, .int ch, .int ci, .int cj, .int ck, .ref kl, .int cm, .int cn, .ref ko])), (k0, .inl (cI, 1201, .inl c0))] := hD
                      have lo_scd_63 := k_lo scd_63
                      have hi_scd_63 := k_hi scd_63
                      have lo_scg_65 := k_lo scg_65
                      have hi_scg_65 := k_hi scg_65
                      obtain ⟨h_67, h_68, h_69⟩ := w_62
                      have h_67 : v_60.toInt ≤ scd_63.toInt := h_67
                      have h_68 : scd_63.toInt ≤ ce.toInt := h_68
                      have h_69 : scg_65.toInt = 0 := h_69
                      have lo_r_61 := k_lo r_61
                      have hi_r_61 := k_hi r_61
                      refine lv_istore_n (lv' := [(3, .int r_61), (2, .int 0), (1, .int l5_1), (0, .ref k)]) hx hb dX11_product_59 rfl hl (by decide) rfl ?_
                      clear hl
                      intro ls hl
                      refine lv_iload_n hx hb dX11_product_60 rfl (lv_at hl 1 rfl) ?_
                      refine b_if_eq hx hb zl_0 (tgt := 70) dX11_product_61 (by decide) (fun c_70 => ?_) (fun c_70 => by exfalso; omega)
                      refine lv_iload_n hx hb dX11_product_70 rfl (lv_at hl 0 rfl) ?_
                      refine b_if_ne hx hb rfl (tgt := 78) dX11_product_71 (by decide) (fun c_71 => ?_) (fun c_71 => ?_)
                      · refine lv_iload_n hx hb dX11_product_78 rfl (lv_at hl 2 rfl) ?_
                        refine lv_iload_n hx hb dX11_product_79 rfl (lv_at hl 0 rfl) ?_
                        refine lv_irem hx hb dX11_product_80 (k_ne0 (by omega)) ?_
                        refine lv_topi (fun v_72 ev_72 => ?_)
                        have lo_v_72 := k_lo v_72
                        have hi_v_72 := k_hi v_72
                        refine lv_istore_n (lv' := [(1, .int v_72), (3, .int r_61), (2, .int 0), (0, .ref k)]) hx hb dX11_product_81 rfl hl (by decide) rfl ?_
                        clear hl
                        intro ls hl
                        refine lv_goto (tgt := 5) hx hb dX11_product_82 (by decide) ?_
                        exact ih5 v_72 scd_63 scf_64 scg_65 (by first | omega | decide | assumption | rfl) (by first | omega | decide | assumption | rfl) (by first | omega | decide | assumption | rfl) (by first | omega | decide | assumption | rfl) (by omega) ls _ _ (lv_sub hl [0, 3] rfl) (hP.sub [0, 1] rfl) (hD.sub [0, 1] (by decide) rfl) hS
                      · refine lv_iconst (v := 0) hx hb dX11_product_74 (by decide) ?_
                        refine lv_goto (tgt := 81) hx hb dX11_product_75 (by decide) ?_
                        refine lv_istore_n (lv' := [(1, .int 0), (3, .int r_61), (2, .int 0), (0, .ref k)]) hx hb dX11_product_81 rfl hl (by decide) rfl ?_
                        clear hl
                        intro ls hl
                        refine lv_goto (tgt := 5) hx hb dX11_product_82 (by decide) ?_
                        exact ih5 0 scd_63 scf_64 scg_65 (by first | omega | (simp only [zl_0] <;> omega) | decide | assumption | rfl) (by first | omega | (simp only [zl_0] <;> omega) | decide | assumption | rfl) (by first | omega | (simp only [zl_0] <;> omega) | decide | assumption | rfl) (by first | omega | (simp only [zl_0] <;> omega) | decide | assumption | rfl) (by omega) ls _ _ (lv_sub hl [0, 3] rfl) (hP.sub [0, 1] rfl) (hD.sub [0, 1] (by decide) rfl) hS
                    · refine lv_iconst (v := 1) hx hb dX11_product_39 (by decide) ?_
                      refine lv_goto (tgt := 44) hx hb dX11_product_40 (by decide) ?_
                      refine lv_istore_n (lv' := [(2, .int 1), (1, .int l5_1), (0, .ref k)]) hx hb dX11_product_44 rfl hl (by decide) rfl ?_
                      clear hl
                      intro ls hl
                      refine lv_aload_n hx hb dX11_product_45 rfl (lv_at hl 2 rfl) ?_
                      refine lv_dup hx hb dX11_product_46 rfl ?_
                      refine va_get (D := D) (ci := 11) (v := .int f5_kd) (C := RX11) (T := TX11) (N := 25) hx hb hT giX11 hown hK hP 0 rfl rfl 13 (by decide) (hT (Cond.fieldLink RX11 138 "DesertWireModel" "here" "I") mw_1169) (fun _ h9 => h9) rfl dX11_product_47 ?_
                      refine lv_iconst (v := 1) hx hb dX11_product_50 (by decide) ?_
                      refine lv_iadd hx hb dX11_product_51 ?_
                      refine lv_topi (fun v_73 ev_73 => ?_)
                      have tv_73 : v_73.toInt = f5_kd.toInt + 1 := by rw [ev_73]; exact k_addv rfl zl_1 (by omega) (by omega)
                      refine va_put (D := D) (ci := 11) (v := .int v_73) (ty := .int) (C := RX11) (T := TX11) (N := 25) hx hb hT giX11 tyX11 tyX11_ok nmX11 hown hK hP hD hS 0 rfl rfl 13 (by decide) (hT (Cond.fieldLink RX11 138 "DesertWireModel" "here" "I") mw_1169) (fun _ h9 => h9) rfl (by decide +kernel) rfl rfl (Nat.le_of_ble_eq_true rfl) dX11_product_52 ?_
                      clear hP hD hS
                      intro H locs hP hD hS
                      replace hP : va_P D vwCl [(k, .inr (11, [.ref k0, .ref k1, .ref k2, .int c3, .ref k4, .ref k5, .ref k6, .ref k7, .ref k8, .int c9, .ref ka, .ref kb, .int cc, .int v_73, .int ce, .int f5_kf, .int f5_kg, .int ch, .int ci, .int cj, .int ck, .ref kl, .int cm, .int cn, .ref ko])), (k0, .inl (cI, 1201, .inl c0))] H := hP
                      replace hD : va_D A [(k, .inr (11, [.ref k0, .ref k1, .ref k2, .int c3, .ref k4, .ref k5, .ref k6, .ref k7, .ref k8, .int c9, .ref ka, .ref kb, .int cc, .int v_73, .int ce, .int f5_kf, .int f5_kg, .int ch, .int ci, .int cj, .int ck, .ref kl, .int cm, .int cn, .ref ko])), (k0, .inl (cI, 1201, .inl c0))] := hD
                      refine lv_aload_n hx hb dX11_product_55 rfl (lv_at hl 2 rfl) ?_
                      refine kJi (wr := []) (va_runV (As := []) (rest := []) ⟨hx, hb, hml, hown, hT⟩ (c_X11_oneG0 l D cI aK aV k k0 k1 k2 k4 k5 k6 k7 k8 ka kb kl ko H.size c3 c9 cc v_73 ce f5_kf f5_kg ch ci cj ck cm cn c0 (by first | omega | decide | assumption | rfl) (by first | omega | decide | assumption | rfl) (by first | omega | decide | assumption | rfl) (by first | omega | decide | assumption | rfl) (by first | omega | decide | assumption | rfl) (by first | omega | decide | assumption | rfl)) (cwV 0 hT (gV_in mw_1335 mw_1332 mw_1334 mw_p4_8 mw_12) rfl rfl rfl (by decide +kernel) ⟨Nat.le_of_ble_eq_true rfl, Nat.le_of_ble_eq_true rfl⟩) (kRecvX (q0 := 0) (ci := 11) hK hP hD hN hXS hS hA rfl rfl [0, 1] rfl (by decide)) rfl rfl hl.1 rfl (lv_room (Nat.le_of_ble_eq_true rfl)) dX11_product_56 ⟨Nat.le_of_ble_eq_true rfl, Nat.le_of_ble_eq_true rfl⟩) hP hD hS hA [0, 1] [] rfl rfl (by decide) (by decide) ?_
                      clear hP hD hS
                      intro r_74 u_79 H locs w_75 hP hD hS
                      obtain ⟨scd_76, scf_77, scg_78⟩ := u_79
                      replace hP : va_P D vwCl [(k, .inr (11, [.ref k0, .ref k1, .ref k2, .int c3, .ref k4, .ref k5, .ref k6, .ref k7, .ref k8, .int c9, .ref ka, .ref kb, .int cc, .int scd_76, .int ce, .int scf_77, .int scg_78, .int ch, .int ci, .int cj, .int ck, .ref kl, .int cm, .int cn, .ref ko])), (k0, .inl (cI, 1201, .inl c0))] H := hP
                      replace hD : va_D A [(k, .inr (11, [.ref k0, .ref k1, .ref k2, .int c3, .ref k4, .ref k5, .ref k6, .ref k7, .ref k8, .int c9, .ref ka, .ref kb, .int cc, .int scd_76, .int ce, .int scf_77, .int scg_78, .int ch, .int ci, .int cj, .int ck, .ref kl, .int cm, .int cn, .ref ko])), (k0, .inl (cI, 1201, .inl c0))] := hD
                      have lo_scd_76 := k_lo scd_76
                      have hi_scd_76 := k_hi scd_76
                      have lo_scg_78 := k_lo scg_78
                      have hi_scg_78 := k_hi scg_78
                      obtain ⟨h_80, h_81, h_82⟩ := w_75
                      have h_80 : v_73.toInt ≤ scd_76.toInt := h_80
                      have h_81 : scd_76.toInt ≤ ce.toInt := h_81
                      have h_82 : scg_78.toInt = 0 := h_82
                      have lo_r_74 := k_lo r_74
                      have hi_r_74 := k_hi r_74
                      refine lv_istore_n (lv' := [(3, .int r_74), (2, .int 1), (1, .int l5_1), (0, .ref k)]) hx hb dX11_product_59 rfl hl (by decide) rfl ?_
                      clear hl
                      intro ls hl
                      refine lv_iload_n hx hb dX11_product_60 rfl (lv_at hl 1 rfl) ?_
                      refine b_if_eq hx hb zl_1 (tgt := 70) dX11_product_61 (by decide) (fun c_83 => by exfalso; omega) (fun c_83 => ?_)
                      refine lv_iload_n hx hb dX11_product_64 rfl (lv_at hl 2 rfl) ?_
                      refine lv_iload_n hx hb dX11_product_65 rfl (lv_at hl 0 rfl) ?_
                      refine lv_imul hx hb dX11_product_66 ?_
                      refine lv_topi (fun v_84 ev_84 => ?_)
                      have lo_v_84 := k_lo v_84
                      have hi_v_84 := k_hi v_84
                      refine lv_goto (tgt := 81) hx hb dX11_product_67 (by decide) ?_
                      refine lv_istore_n (lv' := [(1, .int v_84), (3, .int r_74), (2, .int 1), (0, .ref k)]) hx hb dX11_product_81 rfl hl (by decide) rfl ?_
                      clear hl
                      intro ls hl
                      refine lv_goto (tgt := 5) hx hb dX11_product_82 (by decide) ?_
                      exact ih5 v_84 scd_76 scf_77 scg_78 (by first | omega | decide | assumption | rfl) (by first | omega | decide | assumption | rfl) (by first | omega | decide | assumption | rfl) (by first | omega | decide | assumption | rfl) (by omega) ls _ _ (lv_sub hl [0, 3] rfl) (hP.sub [0, 1] rfl) (hD.sub [0, 1] (by decide) rfl) hS
                  · exfalso; omega
              · exfalso; omega
          · have h_15 : f5_kd.toInt = ce.toInt := h_15
            obtain rfl : r_11 = (-1) := hr_11.trans (by decide)
            refine lv_bipush (v := 42) hx hb dX11_product_16 (by decide) ?_
            refine b_icmp_eq hx hb zl_m1 zl_42 (tgt := 30) dX11_product_18 (by decide) (fun c_85 => by exfalso; omega) (fun c_85 => ?_)
            refine lv_aload_n hx hb dX11_product_21 rfl (lv_at hl 1 rfl) ?_
            refine kJi (wr := []) (va_runV (As := []) (rest := []) ⟨hx, hb, hml, hown, hT⟩ (c_X11_nowG l D cI aK aV k k0 k1 k2 k4 k5 k6 k7 k8 ka kb kl ko H.size c3 c9 cc f5_kd ce f5_kf f5_kg ch ci cj ck cm cn c0 (by first | omega | decide | assumption | rfl) (by first | omega | decide | assumption | rfl) (by first | omega | decide | assumption | rfl) (by first | omega | decide | assumption | rfl) (by first | omega | decide | assumption | rfl)) (cwV 0 hT (gV_in mw_1339 mw_1336 mw_1338 mw_p4_9 mw_12) rfl rfl rfl (by decide +kernel) ⟨Nat.le_of_ble_eq_true rfl, Nat.le_of_ble_eq_true rfl⟩) (kRecvX (q0 := 0) (ci := 11) hK hP hD hN hXS hS hA rfl rfl [0, 1] rfl (by decide)) rfl rfl hl.1 rfl (lv_room (Nat.le_of_ble_eq_true rfl)) dX11_product_22 ⟨Nat.le_of_ble_eq_true rfl, Nat.le_of_ble_eq_true rfl⟩) hP hD hS hA [0, 1] [] rfl rfl (by decide) (by decide) ?_
            clear hP hD hS
            intro r_86 u_88 H locs w_87 hP hD hS
            replace hP : va_P D vwCl [(k, .inr (11, [.ref k0, .ref k1, .ref k2, .int c3, .ref k4, .ref k5, .ref k6, .ref k7, .ref k8, .int c9, .ref ka, .ref kb, .int cc, .int f5_kd, .int ce, .int f5_kf, .int f5_kg, .int ch, .int ci, .int cj, .int ck, .ref kl, .int cm, .int cn, .ref ko])), (k0, .inl (cI, 1201, .inl c0))] H := hP
            replace hD : va_D A [(k, .inr (11, [.ref k0, .ref k1, .ref k2, .int c3, .ref k4, .ref k5, .ref k6, .ref k7, .ref k8, .int c9, .ref ka, .ref kb, .int cc, .int f5_kd, .int ce, .int f5_kf, .int f5_kg, .int ch, .int ci, .int cj, .int ck, .ref kl, .int cm, .int cn, .ref ko])), (k0, .inl (cI, 1201, .inl c0))] := hD
            rcases w_87 with h_89 | ⟨hr_86, h_90⟩
            · exfalso; omega
            · have h_90 : f5_kd.toInt = ce.toInt := h_90
              obtain rfl : r_86 = (-1) := hr_86.trans (by decide)
              refine lv_bipush (v := 37) hx hb dX11_product_25 (by decide) ?_
              refine b_icmp_ne hx hb zl_m1 zl_37 (tgt := 85) dX11_product_27 (by decide) (fun c_91 => ?_) (fun c_91 => by exfalso; omega)
              refine lv_iload_n hx hb dX11_product_85 rfl (lv_at hl 0 rfl) ?_
              exact hRet (f5_kd, f5_kf, f5_kg) [0, 1] ⟨(by first | omega | decide | assumption | rfl | (dsimp only; first | omega)), (by first | omega | decide | assumption | rfl | (dsimp only; first | omega)), (by first | omega | decide | assumption | rfl | (dsimp only; first | omega))⟩ hP hD (by decide) rfl hS rfl dX11_product_86
  exact hloop_5 _ r_1 scd_3 scf_4 scg_5 (by first | omega | decide | assumption | rfl) (by first | omega | decide | assumption | rfl) (by first | omega | decide | assumption | rfl) (by first | omega | decide | assumption | rfl) (Nat.lt_succ_self _) ls _ _ (lv_sub hl [0, 1] rfl) hP hD hS

set_option maxHeartbeats 4000000 in
set_option maxRecDepth 100000 in
theorem c_X11_sumG0 (l : Launch) (D : va_G) (cI : ClassId) (aK aV : Nat → Nat) (k k0 k1 k2 k4 k5 k6 k7 k8 ka kb kl ko : Nat) (sz : Nat) (c3 : Int32) (c9 : Int32) (cc : Int32) (cd : Int32) (ce : Int32) (cf : Int32) (cg : Int32) (ch : Int32) (ci : Int32) (cj : Int32) (ck : Int32) (cm : Int32) (cn : Int32) (c0 : Nat → Int32) (pre0 : 0 ≤ cc.toInt) (pre1 : cc.toInt ≤ 1151) (pre2 : 0 ≤ cd.toInt) (pre3 : cd.toInt ≤ ce.toInt) (pre4 : ce.toInt ≤ 50) (pre5 : cg.toInt = 0) : Met l yX11_sum (gW yX11_sum cX11_sum 4 (some .int)) ({ frames := 27, cells := 0, slots := 0, locals := 612 } : Room) (kPreX D cI aK aV [.ref k] [(k, .inr (11, [.ref k0, .ref k1, .ref k2, .int c3, .ref k4, .ref k5, .ref k6, .ref k7, .ref k8, .int c9, .ref ka, .ref kb, .int cc, .int cd, .int ce, .int cf, .int cg, .int ch, .int ci, .int cj, .int ck, .ref kl, .int cm, .int cn, .ref ko])), (k0, .inl (cI, 1201, .inl c0))] sz) (va_Qi (fun (r : Int32) (u : Int32 × Int32 × Int32) => cd.toInt ≤ u.1.toInt ∧ u.1.toInt ≤ ce.toInt ∧ u.2.2.toInt = 0) (fun u t => kWd D cI (va_A [(k, .inr (11, [.ref k0, .ref k1, .ref k2, .int c3, .ref k4, .ref k5, .ref k6, .ref k7, .ref k8, .int c9, .ref ka, .ref kb, .int cc, .int cd, .int ce, .int cf, .int cg, .int ch, .int ci, .int cj, .int ck, .ref kl, .int cm, .int cn, .ref ko])), (k0, .inl (cI, 1201, .inl c0))] sz) [(k, .inr (11, [.ref k0, .ref k1, .ref k2, .int c3, .ref k4, .ref k5, .ref k6, .ref k7, .ref k8, .int c9, .ref ka, .ref kb, .int cc, .int u.1, .int ce, .int u.2.1, .int u.2.2, .int ch, .int ci, .int cj, .int ck, .ref kl, .int cm, .int cn, .ref ko])), (k0, .inl (cI, 1201, .inl c0))] t) (va_A [(k, .inr (11, [.ref k0, .ref k1, .ref k2, .int c3, .ref k4, .ref k5, .ref k6, .ref k7, .ref k8, .int c9, .ref ka, .ref kb, .int cc, .int cd, .int ce, .int cf, .int cg, .int ch, .int ci, .int cj, .int ck, .ref kl, .int cm, .int cn, .ref ko])), (k0, .inl (cI, 1201, .inl c0))] sz)) 0 0 (va_A [(k, .inr (11, [.ref k0, .ref k1, .ref k2, .int c3, .ref k4, .ref k5, .ref k6, .ref k7, .ref k8, .int c9, .ref ka, .ref kb, .int cc, .int cd, .int ce, .int cf, .int cg, .int ch, .int ci, .int cj, .int ck, .ref kl, .int cm, .int cn, .ref ko])), (k0, .inl (cI, 1201, .inl c0))] sz) := by
  refine kMetIX (own := RX11) (by decide) rfl (Nat.le_of_ble_eq_true rfl) ?_
  intro p e s m args below meth c hx hb hT hown hname hml A Q hK hP hD hS hA hN hXS hRet ls hl
  have hl : lv_has ls 4 [(0, .ref k)] := hl
  have lo_cd := k_lo cd
  have hi_cd := k_hi cd
  have lo_ce := k_lo ce
  have hi_ce := k_hi ce
  have lo_ci := k_lo ci
  have hi_ci := k_hi ci
  refine lv_aload_n hx hb dX11_sum_0 rfl (lv_at hl 0 rfl) ?_
  refine kJi (wr := []) (va_runV (As := []) (rest := []) ⟨hx, hb, hml, hown, hT⟩ (c_X11_productG0 l D cI aK aV k k0 k1 k2 k4 k5 k6 k7 k8 ka kb kl ko s.heap.size c3 c9 cc cd ce cf cg ch ci cj ck cm cn c0 (by first | omega | decide | assumption | rfl) (by first | omega | decide | assumption | rfl) (by first | omega | decide | assumption | rfl) (by first | omega | decide | assumption | rfl) (by first | omega | decide | assumption | rfl) (by first | omega | decide | assumption | rfl)) (cwV 0 hT (gV_in mw_1331 mw_1328 mw_1330 mw_p4_7 mw_12) rfl rfl rfl (by decide +kernel) ⟨Nat.le_of_ble_eq_true rfl, Nat.le_of_ble_eq_true rfl⟩) (kRecvX (q0 := 0) (ci := 11) hK hP hD hN hXS hS hA rfl rfl [0, 1] rfl (by decide)) rfl rfl hl.1 rfl (lv_room (Nat.le_of_ble_eq_true rfl)) dX11_sum_1 ⟨Nat.le_of_ble_eq_true rfl, Nat.le_of_ble_eq_true rfl⟩) hP hD hS hA [0, 1] [] rfl rfl (by decide) (by decide) ?_
  clear hP hD hS
  intro r_1 u_6 H locs w_2 hP hD hS
  obtain ⟨scd_3, scf_4, scg_5⟩ := u_6
  replace hP : va_P D vwCl [(k, .inr (11, [.ref k0, .ref k1, .ref k2, .int c3, .ref k4, .ref k5, .ref k6, .ref k7, .ref k8, .int c9, .ref ka, .ref kb, .int cc, .int scd_3, .int ce, .int scf_4, .int scg_5, .int ch, .int ci, .int cj, .int ck, .ref kl, .int cm, .int cn, .ref ko])), (k0, .inl (cI, 1201, .inl c0))] H := hP
  replace hD : va_D A [(k, .inr (11, [.ref k0, .ref k1, .ref k2, .int c3, .ref k4, .ref k5, .ref k6, .ref k7, .ref k8, .int c9, .ref ka, .ref kb, .int cc, .int scd_3, .int ce, .int scf_4, .int scg_5, .int ch, .int ci, .int cj, .int ck, .ref kl, .int cm, .int cn, .ref ko])), (k0, .inl (cI, 1201, .inl c0))] := hD
  have lo_scd_3 := k_lo scd_3
  have hi_scd_3 := k_hi scd_3
  have lo_scg_5 := k_lo scg_5
  have hi_scg_5 := k_hi scg_5
  obtain ⟨h_7, h_8, h_9⟩ := w_2
  have h_7 : cd.toInt ≤ scd_3.toInt := h_7
  have h_8 : scd_3.toInt ≤ ce.toInt := h_8
  have h_9 : scg_5.toInt = 0 := h_9
  have lo_r_1 := k_lo r_1
  have hi_r_1 := k_hi r_1
  refine lv_istore_n (lv' := [(1, .int r_1), (0, .ref k)]) hx hb dX11_sum_4 rfl hl (by decide) rfl ?_
  clear hl
  intro ls hl
  have hloop_5 : ∀ (fu_ : Nat) (l5_1 : Int32) (f5_kd : Int32) (f5_kf : Int32) (f5_kg : Int32), scd_3.toInt ≤ f5_kd.toInt → scg_5.toInt ≤ f5_kg.toInt → f5_kg.toInt ≤ scg_5.toInt → f5_kd.toInt ≤ ce.toInt → (ce.toInt - f5_kd.toInt).toNat < fu_ → ∀ (ls : Array Slot) (H : Heap) (locs : List Loc), lv_has ls 4 [(1, .int l5_1), (0, .ref k)] → va_P D vwCl [(k, .inr (11, [.ref k0, .ref k1, .ref k2, .int c3, .ref k4, .ref k5, .ref k6, .ref k7, .ref k8, .int c9, .ref ka, .ref kb, .int cc, .int f5_kd, .int ce, .int f5_kf, .int f5_kg, .int ch, .int ci, .int cj, .int ck, .ref kl, .int cm, .int cn, .ref ko])), (k0, .inl (cI, 1201, .inl c0))] H → va_D A [(k, .inr (11, [.ref k0, .ref k1, .ref k2, .int c3, .ref k4, .ref k5, .ref k6, .ref k7, .ref k8, .int c9, .ref ka, .ref kb, .int cc, .int f5_kd, .int ce, .int f5_kf, .int f5_kg, .int ch, .int ci, .int cj, .int ck, .ref kl, .int cm, .int cn, .ref ko])), (k0, .inl (cI, 1201, .inl c0))] → va_S A s.heap H locs → W p l e ({ frames := 27, cells := 0, slots := 0, locals := 612 } : Room) s m args below meth c H locs 0 0 Q (F0 m 5 ls []) := by
    intro fu_; induction fu_ with
    | zero => intro l5_1 f5_kd f5_kf f5_kg i5_0 i5_1 i5_2 i5_3 hm; exact absurd hm (by omega)
    | succ fu_ ih5 =>
        intro l5_1 f5_kd f5_kf f5_kg i5_0 i5_1 i5_2 i5_3 hm ls H locs hl hP hD hS
        have lo_l5_1 := k_lo l5_1
        have hi_l5_1 := k_hi l5_1
        have lo_f5_kd := k_lo f5_kd
        have hi_f5_kd := k_hi f5_kd
        have lo_f5_kf := k_lo f5_kf
        have hi_f5_kf := k_hi f5_kf
        have lo_f5_kg := k_lo f5_kg
        have hi_f5_kg := k_hi f5_kg
        refine lv_aload_n hx hb dX11_sum_5 rfl (lv_at hl 1 rfl) ?_
        refine va_get (D := D) (ci := 11) (v := .int f5_kf) (C := RX11) (T := TX11) (N := 25) hx hb hT giX11 hown hK hP 0 rfl rfl 15 (by decide) (hT (Cond.fieldLink RX11 148 "DesertWireModel" "isWrong" "Z") mw_1171) (fun _ h9 => h9) rfl dX11_sum_6 ?_
        refine b_if_ne hx hb rfl (tgt := 77) dX11_sum_9 (by decide) (fun c_10 => ?_) (fun c_10 => ?_)
        · refine lv_iload_n hx hb dX11_sum_77 rfl (lv_at hl 0 rfl) ?_
          exact hRet (f5_kd, f5_kf, f5_kg) [0, 1] ⟨(by first | omega | decide | assumption | rfl | (dsimp only; first | omega)), (by first | omega | decide | assumption | rfl | (dsimp only; first | omega)), (by first | omega | decide | assumption | rfl | (dsimp only; first | omega))⟩ hP hD (by decide) rfl hS rfl dX11_sum_78
        · refine lv_aload_n hx hb dX11_sum_12 rfl (lv_at hl 1 rfl) ?_
          refine kJi (wr := []) (va_runV (As := []) (rest := []) ⟨hx, hb, hml, hown, hT⟩ (c_X11_nowG l D cI aK aV k k0 k1 k2 k4 k5 k6 k7 k8 ka kb kl ko H.size c3 c9 cc f5_kd ce f5_kf f5_kg ch ci cj ck cm cn c0 (by first | omega | decide | assumption | rfl) (by first | omega | decide | assumption | rfl) (by first | omega | decide | assumption | rfl) (by first | omega | decide | assumption | rfl) (by first | omega | decide | assumption | rfl)) (cwV 0 hT (gV_in mw_1339 mw_1336 mw_1338 mw_p4_9 mw_12) rfl rfl rfl (by decide +kernel) ⟨Nat.le_of_ble_eq_true rfl, Nat.le_of_ble_eq_true rfl⟩) (kRecvX (q0 := 0) (ci := 11) hK hP hD hN hXS hS hA rfl rfl [0, 1] rfl (by decide)) rfl rfl hl.1 rfl (lv_room (Nat.le_of_ble_eq_true rfl)) dX11_sum_13 ⟨Nat.le_of_ble_eq_true rfl, Nat.le_of_ble_eq_true rfl⟩) hP hD hS hA [0, 1] [] rfl rfl (by decide) (by decide) ?_
          clear hP hD hS
          intro r_11 u_13 H locs w_12 hP hD hS
          replace hP : va_P D vwCl [(k, .inr (11, [.ref k0, .ref k1, .ref k2, .int c3, .ref k4, .ref k5, .ref k6, .ref k7, .ref k8, .int c9, .ref ka, .ref kb, .int cc, .int f5_kd, .int ce, .int f5_kf, .int f5_kg, .int ch, .int ci, .int cj, .int ck, .ref kl, .int cm, .int cn, .ref ko])), (k0, .inl (cI, 1201, .inl c0))] H := hP
          replace hD : va_D A [(k, .inr (11, [.ref k0, .ref k1, .ref k2, .int c3, .ref k4, .ref k5, .ref k6, .ref k7, .ref k8, .int c9, .ref ka, .ref kb, .int cc, .int f5_kd, .int ce, .int f5_kf, .int f5_kg, .int ch, .int ci, .int cj, .int ck, .ref kl, .int cm, .int cn, .ref ko])), (k0, .inl (cI, 1201, .inl c0))] := hD
          rcases w_12 with h_14 | ⟨hr_11, h_15⟩
          · have h_14 : f5_kd.toInt < ce.toInt := h_14
            have lo_r_11 := k_lo r_11
            have hi_r_11 := k_hi r_11
            refine lv_bipush (v := 43) hx hb dX11_sum_16 (by decide) ?_
            refine b_icmp_eq hx hb rfl zl_43 (tgt := 30) dX11_sum_18 (by decide) (fun c_16 => ?_) (fun c_16 => ?_)
            · refine lv_aload_n hx hb dX11_sum_30 rfl (lv_at hl 1 rfl) ?_
              refine kJi (wr := []) (va_runV (As := []) (rest := []) ⟨hx, hb, hml, hown, hT⟩ (c_X11_nowG l D cI aK aV k k0 k1 k2 k4 k5 k6 k7 k8 ka kb kl ko H.size c3 c9 cc f5_kd ce f5_kf f5_kg ch ci cj ck cm cn c0 (by first | omega | decide | assumption | rfl) (by first | omega | decide | assumption | rfl) (by first | omega | decide | assumption | rfl) (by first | omega | decide | assumption | rfl) (by first | omega | decide | assumption | rfl)) (cwV 0 hT (gV_in mw_1339 mw_1336 mw_1338 mw_p4_9 mw_12) rfl rfl rfl (by decide +kernel) ⟨Nat.le_of_ble_eq_true rfl, Nat.le_of_ble_eq_true rfl⟩) (kRecvX (q0 := 0) (ci := 11) hK hP hD hN hXS hS hA rfl rfl [0, 1] rfl (by decide)) rfl rfl hl.1 rfl (lv_room (Nat.le_of_ble_eq_true rfl)) dX11_sum_31 ⟨Nat.le_of_ble_eq_true rfl, Nat.le_of_ble_eq_true rfl⟩) hP hD hS hA [0, 1] [] rfl rfl (by decide) (by decide) ?_
              clear hP hD hS
              intro r_17 u_19 H locs w_18 hP hD hS
              replace hP : va_P D vwCl [(k, .inr (11, [.ref k0, .ref k1, .ref k2, .int c3, .ref k4, .ref k5, .ref k6, .ref k7, .ref k8, .int c9, .ref ka, .ref kb, .int cc, .int f5_kd, .int ce, .int f5_kf, .int f5_kg, .int ch, .int ci, .int cj, .int ck, .ref kl, .int cm, .int cn, .ref ko])), (k0, .inl (cI, 1201, .inl c0))] H := hP
              replace hD : va_D A [(k, .inr (11, [.ref k0, .ref k1, .ref k2, .int c3, .ref k4, .ref k5, .ref k6, .ref k7, .ref k8, .int c9, .ref ka, .ref kb, .int cc, .int f5_kd, .int ce, .int f5_kf, .int f5_kg, .int ch, .int ci, .int cj, .int ck, .ref kl, .int cm, .int cn, .ref ko])), (k0, .inl (cI, 1201, .inl c0))] := hD
              rcases w_18 with h_20 | ⟨hr_17, h_21⟩
              · have h_20 : f5_kd.toInt < ce.toInt := h_20
                have lo_r_17 := k_lo r_17
                have hi_r_17 := k_hi r_17
                refine lv_bipush (v := 43) hx hb dX11_sum_34 (by decide) ?_
                refine b_icmp_ne hx hb rfl zl_43 (tgt := 43) dX11_sum_36 (by decide) (fun c_22 => ?_) (fun c_22 => ?_)
                · refine lv_iconst (v := 0) hx hb dX11_sum_43 (by decide) ?_
                  refine lv_istore_n (lv' := [(2, .int 0), (1, .int l5_1), (0, .ref k)]) hx hb dX11_sum_44 rfl hl (by decide) rfl ?_
                  clear hl
                  intro ls hl
                  refine lv_aload_n hx hb dX11_sum_45 rfl (lv_at hl 2 rfl) ?_
                  refine lv_dup hx hb dX11_sum_46 rfl ?_
                  refine va_get (D := D) (ci := 11) (v := .int f5_kd) (C := RX11) (T := TX11) (N := 25) hx hb hT giX11 hown hK hP 0 rfl rfl 13 (by decide) (hT (Cond.fieldLink RX11 138 "DesertWireModel" "here" "I") mw_1169) (fun _ h9 => h9) rfl dX11_sum_47 ?_
                  refine lv_iconst (v := 1) hx hb dX11_sum_50 (by decide) ?_
                  refine lv_iadd hx hb dX11_sum_51 ?_
                  refine lv_topi (fun v_23 ev_23 => ?_)
                  have tv_23 : v_23.toInt = f5_kd.toInt + 1 := by rw [ev_23]; exact k_addv rfl zl_1 (by omega) (by omega)
                  refine va_put (D := D) (ci := 11) (v := .int v_23) (ty := .int) (C := RX11) (T := TX11) (N := 25) hx hb hT giX11 tyX11 tyX11_ok nmX11 hown hK hP hD hS 0 rfl rfl 13 (by decide) (hT (Cond.fieldLink RX11 138 "DesertWireModel" "here" "I") mw_1169) (fun _ h9 => h9) rfl (by decide +kernel) rfl rfl (Nat.le_of_ble_eq_true rfl) dX11_sum_52 ?_
                  clear hP hD hS
                  intro H locs hP hD hS
                  replace hP : va_P D vwCl [(k, .inr (11, [.ref k0, .ref k1, .ref k2, .int c3, .ref k4, .ref k5, .ref k6, .ref k7, .ref k8, .int c9, .ref ka, .ref kb, .int cc, .int v_23, .int ce, .int f5_kf, .int f5_kg, .int ch, .int ci, .int cj, .int ck, .ref kl, .int cm, .int cn, .ref ko])), (k0, .inl (cI, 1201, .inl c0))] H := hP
                  replace hD : va_D A [(k, .inr (11, [.ref k0, .ref k1, .ref k2, .int c3, .ref k4, .ref k5, .ref k6, .ref k7, .ref k8, .int c9, .ref ka, .ref kb, .int cc, .int v_23, .int ce, .int f5_kf, .int f5_kg, .int ch, .int ci, .int cj, .int ck, .ref kl, .int cm, .int cn, .ref ko])), (k0, .inl (cI, 1201, .inl c0))] := hD
                  refine lv_aload_n hx hb dX11_sum_55 rfl (lv_at hl 2 rfl) ?_
                  refine kJi (wr := []) (va_runV (As := []) (rest := []) ⟨hx, hb, hml, hown, hT⟩ (c_X11_productG0 l D cI aK aV k k0 k1 k2 k4 k5 k6 k7 k8 ka kb kl ko H.size c3 c9 cc v_23 ce f5_kf f5_kg ch ci cj ck cm cn c0 (by first | omega | decide | assumption | rfl) (by first | omega | decide | assumption | rfl) (by first | omega | decide | assumption | rfl) (by first | omega | decide | assumption | rfl) (by first | omega | decide | assumption | rfl) (by first | omega | decide | assumption | rfl)) (cwV 0 hT (gV_in mw_1331 mw_1328 mw_1330 mw_p4_7 mw_12) rfl rfl rfl (by decide +kernel) ⟨Nat.le_of_ble_eq_true rfl, Nat.le_of_ble_eq_true rfl⟩) (kRecvX (q0 := 0) (ci := 11) hK hP hD hN hXS hS hA rfl rfl [0, 1] rfl (by decide)) rfl rfl hl.1 rfl (lv_room (Nat.le_of_ble_eq_true rfl)) dX11_sum_56 ⟨Nat.le_of_ble_eq_true rfl, Nat.le_of_ble_eq_true rfl⟩) hP hD hS hA [0, 1] [] rfl rfl (by decide) (by decide) ?_
                  clear hP hD hS
                  intro r_24 u_29 H locs w_25 hP hD hS
                  obtain ⟨scd_26, scf_27, scg_28⟩ := u_29
                  replace hP : va_P D vwCl [(k, .inr (11, [.ref k0, .ref k1, .ref k2, .int c3, .ref k4, .ref k5, .ref k6, .ref k7, .ref k8, .int c9, .ref ka, .ref kb, .int cc, .int scd_26, .int ce, .int scf_27, .int scg_28, .int ch, .int ci, .int cj, .int ck, .ref kl, .int cm, .int cn, .ref ko])), (k0, .inl (cI, 1201, .inl c0))] H := hP
                  replace hD : va_D A [(k, .inr (11, [.ref k0, .ref k1, .ref k2, .int c3, .ref k4, .ref k5, .ref k6, .ref k7, .ref k8, .int c9, .ref ka, .ref kb, .int cc, .int scd_26, .int ce, .int scf_27, .int scg_28, .int ch, .int ci, .int cj, .int ck, .ref kl, .int cm, .int cn, .ref ko])), (k0, .inl (cI, 1201, .inl c0))] := hD
                  have lo_scd_26 := k_lo scd_26
                  have hi_scd_26 := k_hi scd_26
                  have lo_scg_28 := k_lo scg_28
                  have hi_scg_28 := k_hi scg_28
                  obtain ⟨h_30, h_31, h_32⟩ := w_25
                  have h_30 : v_23.toInt ≤ scd_26.toInt := h_30
                  have h_31 : scd_26.toInt ≤ ce.toInt := h_31
                  have h_32 : scg_28.toInt = 0 := h_32
                  have lo_r_24 := k_lo r_24
                  have hi_r_24 := k_hi r_24
                  refine lv_istore_n (lv' := [(3, .int r_24), (2, .int 0), (1, .int l5_1), (0, .ref k)]) hx hb dX11_sum_59 rfl hl (by decide) rfl ?_
                  clear hl
                  intro ls hl
                  refine lv_iload_n hx hb dX11_sum_60 rfl (lv_at hl 1 rfl) ?_
                  refine b_if_eq hx hb zl_0 (tgt := 70) dX11_sum_61 (by decide) (fun c_33 => ?_) (fun c_33 => by exfalso; omega)
                  refine lv_iload_n hx hb dX11_sum_70 rfl (lv_at hl 2 rfl) ?_
                  refine lv_iload_n hx hb dX11_sum_71 rfl (lv_at hl 0 rfl) ?_
                  refine lv_isub hx hb dX11_sum_72 ?_
                  refine lv_topi (fun v_34 ev_34 => ?_)
                  have lo_v_34 := k_lo v_34
                  have hi_v_34 := k_hi v_34
                  refine lv_istore_n (lv' := [(1, .int v_34), (3, .int r_24), (2, .int 0), (0, .ref k)]) hx hb dX11_sum_73 rfl hl (by decide) rfl ?_
                  clear hl
                  intro ls hl
                  refine lv_goto (tgt := 5) hx hb dX11_sum_74 (by decide) ?_
                  exact ih5 v_34 scd_26 scf_27 scg_28 (by first | omega | decide | assumption | rfl) (by first | omega | decide | assumption | rfl) (by first | omega | decide | assumption | rfl) (by first | omega | decide | assumption | rfl) (by omega) ls _ _ (lv_sub hl [0, 3] rfl) (hP.sub [0, 1] rfl) (hD.sub [0, 1] (by decide) rfl) hS
                · refine lv_iconst (v := 1) hx hb dX11_sum_39 (by decide) ?_
                  refine lv_goto (tgt := 44) hx hb dX11_sum_40 (by decide) ?_
                  refine lv_istore_n (lv' := [(2, .int 1), (1, .int l5_1), (0, .ref k)]) hx hb dX11_sum_44 rfl hl (by decide) rfl ?_
                  clear hl
                  intro ls hl
                  refine lv_aload_n hx hb dX11_sum_45 rfl (lv_at hl 2 rfl) ?_
                  refine lv_dup hx hb dX11_sum_46 rfl ?_
                  refine va_get (D := D) (ci := 11) (v := .int f5_kd) (C := RX11) (T := TX11) (N := 25) hx hb hT giX11 hown hK hP 0 rfl rfl 13 (by decide) (hT (Cond.fieldLink RX11 138 "DesertWireModel" "here" "I") mw_1169) (fun _ h9 => h9) rfl dX11_sum_47 ?_
                  refine lv_iconst (v := 1) hx hb dX11_sum_50 (by decide) ?_
                  refine lv_iadd hx hb dX11_sum_51 ?_
                  refine lv_topi (fun v_35 ev_35 => ?_)
                  have tv_35 : v_35.toInt = f5_kd.toInt + 1 := by rw [ev_35]; exact k_addv rfl zl_1 (by omega) (by omega)
                  refine va_put (D := D) (ci := 11) (v := .int v_35) (ty := .int) (C := RX11) (T := TX11) (N := 25) hx hb hT giX11 tyX11 tyX11_ok nmX11 hown hK hP hD hS 0 rfl rfl 13 (by decide) (hT (Cond.fieldLink RX11 138 "DesertWireModel" "here" "I") mw_1169) (fun _ h9 => h9) rfl (by decide +kernel) rfl rfl (Nat.le_of_ble_eq_true rfl) dX11_sum_52 ?_
                  clear hP hD hS
                  intro H locs hP hD hS
                  replace hP : va_P D vwCl [(k, .inr (11, [.ref k0, .ref k1, .ref k2, .int c3, .ref k4, .ref k5, .ref k6, .ref k7, .ref k8, .int c9, .ref ka, .ref kb, .int cc, .int v_35, .int ce, .int f5_kf, .int f5_kg, .int ch, .int ci, .int cj, .int ck, .ref kl, .int cm, .int cn, .ref ko])), (k0, .inl (cI, 1201, .inl c0))] H := hP
                  replace hD : va_D A [(k, .inr (11, [.ref k0, .ref k1, .ref k2, .int c3, .ref k4, .ref k5, .ref k6, .ref k7, .ref k8, .int c9, .ref ka, .ref kb, .int cc, .int v_35, .int ce, .int f5_kf, .int f5_kg, .int ch, .int ci, .int cj, .int ck, .ref kl, .int cm, .int cn, .ref ko])), (k0, .inl (cI, 1201, .inl c0))] := hD
                  refine lv_aload_n hx hb dX11_sum_55 rfl (lv_at hl 2 rfl) ?_
                  refine kJi (wr := []) (va_runV (As := []) (rest := []) ⟨hx, hb, hml, hown, hT⟩ (c_X11_productG0 l D cI aK aV k k0 k1 k2 k4 k5 k6 k7 k8 ka kb kl ko H.size c3 c9 cc v_35 ce f5_kf f5_kg ch ci cj ck cm cn c0 (by first | omega | decide | assumption | rfl) (by first | omega | decide | assumption | rfl) (by first | omega | decide | assumption | rfl) (by first | omega | decide | assumption | rfl) (by first | omega | decide | assumption | rfl) (by first | omega | decide | assumption | rfl)) (cwV 0 hT (gV_in mw_1331 mw_1328 mw_1330 mw_p4_7 mw_12) rfl rfl rfl (by decide +kernel) ⟨Nat.le_of_ble_eq_true rfl, Nat.le_of_ble_eq_true rfl⟩) (kRecvX (q0 := 0) (ci := 11) hK hP hD hN hXS hS hA rfl rfl [0, 1] rfl (by decide)) rfl rfl hl.1 rfl (lv_room (Nat.le_of_ble_eq_true rfl)) dX11_sum_56 ⟨Nat.le_of_ble_eq_true rfl, Nat.le_of_ble_eq_true rfl⟩) hP hD hS hA [0, 1] [] rfl rfl (by decide) (by decide) ?_
                  clear hP hD hS
                  intro r_36 u_41 H locs w_37 hP hD hS
                  obtain ⟨scd_38, scf_39, scg_40⟩ := u_41
                  replace hP : va_P D vwCl [(k, .inr (11, [.ref k0, .ref k1, .ref k2, .int c3, .ref k4, .ref k5, .ref k6, .ref k7, .ref k8, .int c9, .ref ka, .ref kb, .int cc, .int scd_38, .int ce, .int scf_39, .int scg_40, .int ch, .int ci, .int cj, .int ck, .ref kl, .int cm, .int cn, .ref ko])), (k0, .inl (cI, 1201, .inl c0))] H := hP
                  replace hD : va_D A [(k, .inr (11, [.ref k0, .ref k1, .ref k2, .int c3, .ref k4, .ref k5, .ref k6, .ref k7, .ref k8, .int c9, .ref ka, .ref kb, .int cc, .int scd_38, .int ce, .int scf_39, .int scg_40, .int ch, .int ci, .int cj, .int ck, .ref kl, .int cm, .int cn, .ref ko])), (k0, .inl (cI, 1201, .inl c0))] := hD
                  have lo_scd_38 := k_lo scd_38
                  have hi_scd_38 := k_hi scd_38
                  have lo_scg_40 := k_lo scg_40
                  have hi_scg_40 := k_hi scg_40
                  obtain ⟨h_42, h_43, h_44⟩ := w_37
                  have h_42 : v_35.toInt ≤ scd_38.toInt := h_42
                  have h_43 : scd_38.toInt ≤ ce.toInt := h_43
                  have h_44 : scg_40.toInt = 0 := h_44
                  have lo_r_36 := k_lo r_36
                  have hi_r_36 := k_hi r_36
                  refine lv_istore_n (lv' := [(3, .int r_36), (2, .int 1), (1, .int l5_1), (0, .ref k)]) hx hb dX11_sum_59 rfl hl (by decide) rfl ?_
                  clear hl
                  intro ls hl
                  refine lv_iload_n hx hb dX11_sum_60 rfl (lv_at hl 1 rfl) ?_
                  refine b_if_eq hx hb zl_1 (tgt := 70) dX11_sum_61 (by decide) (fun c_45 => by exfalso; omega) (fun c_45 => ?_)
                  refine lv_iload_n hx hb dX11_sum_64 rfl (lv_at hl 2 rfl) ?_
                  refine lv_iload_n hx hb dX11_sum_65 rfl (lv_at hl 0 rfl) ?_
                  refine lv_iadd hx hb dX11_sum_66 ?_
                  refine lv_topi (fun v_46 ev_46 => ?_)
                  have lo_v_46 := k_lo v_46
                  have hi_v_46 := k_hi v_46
                  refine lv_goto (tgt := 73) hx hb dX11_sum_67 (by decide) ?_
                  refine lv_istore_n (lv' := [(1, .int v_46), (3, .int r_36), (2, .int 1), (0, .ref k)]) hx hb dX11_sum_73 rfl hl (by decide) rfl ?_
                  clear hl
                  intro ls hl
                  refine lv_goto (tgt := 5) hx hb dX11_sum_74 (by decide) ?_
                  exact ih5 v_46 scd_38 scf_39 scg_40 (by first | omega | decide | assumption | rfl) (by first | omega | decide | assumption | rfl) (by first | omega | decide | assumption | rfl) (by first | omega | decide | assumption | rfl) (by omega) ls _ _ (lv_sub hl [0, 3] rfl) (hP.sub [0, 1] rfl) (hD.sub [0, 1] (by decide) rfl) hS
              · exfalso; omega
            · refine lv_aload_n hx hb dX11_sum_21 rfl (lv_at hl 1 rfl) ?_
              refine kJi (wr := []) (va_runV (As := []) (rest := []) ⟨hx, hb, hml, hown, hT⟩ (c_X11_nowG l D cI aK aV k k0 k1 k2 k4 k5 k6 k7 k8 ka kb kl ko H.size c3 c9 cc f5_kd ce f5_kf f5_kg ch ci cj ck cm cn c0 (by first | omega | decide | assumption | rfl) (by first | omega | decide | assumption | rfl) (by first | omega | decide | assumption | rfl) (by first | omega | decide | assumption | rfl) (by first | omega | decide | assumption | rfl)) (cwV 0 hT (gV_in mw_1339 mw_1336 mw_1338 mw_p4_9 mw_12) rfl rfl rfl (by decide +kernel) ⟨Nat.le_of_ble_eq_true rfl, Nat.le_of_ble_eq_true rfl⟩) (kRecvX (q0 := 0) (ci := 11) hK hP hD hN hXS hS hA rfl rfl [0, 1] rfl (by decide)) rfl rfl hl.1 rfl (lv_room (Nat.le_of_ble_eq_true rfl)) dX11_sum_22 ⟨Nat.le_of_ble_eq_true rfl, Nat.le_of_ble_eq_true rfl⟩) hP hD hS hA [0, 1] [] rfl rfl (by decide) (by decide) ?_
              clear hP hD hS
              intro r_47 u_49 H locs w_48 hP hD hS
              replace hP : va_P D vwCl [(k, .inr (11, [.ref k0, .ref k1, .ref k2, .int c3, .ref k4, .ref k5, .ref k6, .ref k7, .ref k8, .int c9, .ref ka, .ref kb, .int cc, .int f5_kd, .int ce, .int f5_kf, .int f5_kg, .int ch, .int ci, .int cj, .int ck, .ref kl, .int cm, .int cn, .ref ko])), (k0, .inl (cI, 1201, .inl c0))] H := hP
              replace hD : va_D A [(k, .inr (11, [.ref k0, .ref k1, .ref k2, .int c3, .ref k4, .ref k5, .ref k6, .ref k7, .ref k8, .int c9, .ref ka, .ref kb, .int cc, .int f5_kd, .int ce, .int f5_kf, .int f5_kg, .int ch, .int ci, .int cj, .int ck, .ref kl, .int cm, .int cn, .ref ko])), (k0, .inl (cI, 1201, .inl c0))] := hD
              rcases w_48 with h_50 | ⟨hr_47, h_51⟩
              · have h_50 : f5_kd.toInt < ce.toInt := h_50
                have lo_r_47 := k_lo r_47
                have hi_r_47 := k_hi r_47
                refine lv_bipush (v := 45) hx hb dX11_sum_25 (by decide) ?_
                refine b_icmp_ne hx hb rfl zl_45 (tgt := 77) dX11_sum_27 (by decide) (fun c_52 => ?_) (fun c_52 => ?_)
                · refine lv_iload_n hx hb dX11_sum_77 rfl (lv_at hl 0 rfl) ?_
                  exact hRet (f5_kd, f5_kf, f5_kg) [0, 1] ⟨(by first | omega | decide | assumption | rfl | (dsimp only; first | omega)), (by first | omega | decide | assumption | rfl | (dsimp only; first | omega)), (by first | omega | decide | assumption | rfl | (dsimp only; first | omega))⟩ hP hD (by decide) rfl hS rfl dX11_sum_78
                · refine lv_aload_n hx hb dX11_sum_30 rfl (lv_at hl 1 rfl) ?_
                  refine kJi (wr := []) (va_runV (As := []) (rest := []) ⟨hx, hb, hml, hown, hT⟩ (c_X11_nowG l D cI aK aV k k0 k1 k2 k4 k5 k6 k7 k8 ka kb kl ko H.size c3 c9 cc f5_kd ce f5_kf f5_kg ch ci cj ck cm cn c0 (by first | omega | decide | assumption | rfl) (by first | omega | decide | assumption | rfl) (by first | omega | decide | assumption | rfl) (by first | omega | decide | assumption | rfl) (by first | omega | decide | assumption | rfl)) (cwV 0 hT (gV_in mw_1339 mw_1336 mw_1338 mw_p4_9 mw_12) rfl rfl rfl (by decide +kernel) ⟨Nat.le_of_ble_eq_true rfl, Nat.le_of_ble_eq_true rfl⟩) (kRecvX (q0 := 0) (ci := 11) hK hP hD hN hXS hS hA rfl rfl [0, 1] rfl (by decide)) rfl rfl hl.1 rfl (lv_room (Nat.le_of_ble_eq_true rfl)) dX11_sum_31 ⟨Nat.le_of_ble_eq_true rfl, Nat.le_of_ble_eq_true rfl⟩) hP hD hS hA [0, 1] [] rfl rfl (by decide) (by decide) ?_
                  clear hP hD hS
                  intro r_53 u_55 H locs w_54 hP hD hS
                  replace hP : va_P D vwCl [(k, .inr (11, [.ref k0, .ref k1, .ref k2, .int c3, .ref k4, .ref k5, .ref k6, .ref k7, .ref k8, .int c9, .ref ka, .ref kb, .int cc, .int f5_kd, .int ce, .int f5_kf, .int f5_kg, .int ch, .int ci, .int cj, .int ck, .ref kl, .int cm, .int cn, .ref ko])), (k0, .inl (cI, 1201, .inl c0))] H := hP
                  replace hD : va_D A [(k, .inr (11, [.ref k0, .ref k1, .ref k2, .int c3, .ref k4, .ref k5, .ref k6, .ref k7, .ref k8, .int c9, .ref ka, .ref kb, .int cc, .int f5_kd, .int ce, .int f5_kf, .int f5_kg, .int ch, .int ci, .int cj, .int ck, .ref kl, .int cm, .int cn, .ref ko])), (k0, .inl (cI, 1201, .inl c0))] := hD
                  rcases w_54 with h_56 | ⟨hr_53, h_57⟩
                  · have h_56 : f5_kd.toInt < ce.toInt := h_56
                    have lo_r_53 := k_lo r_53
                    have hi_r_53 := k_hi r_53
                    refine lv_bipush (v := 43) hx hb dX11_sum_34 (by decide) ?_
                    refine b_icmp_ne hx hb rfl zl_43 (tgt := 43) dX11_sum_36 (by decide) (fun c_58 => ?_) (fun c_58 => ?_)
                    · refine lv_iconst (v := 0) hx hb dX11_sum_43 (by decide) ?_
                      refine lv_istore_n (lv' := [(2, .int 0), (1, .int l5_1), (0, .ref k)]) hx hb dX11_sum_44 rfl hl (by decide) rfl ?_
                      clear hl
                      intro ls hl
                      refine lv_aload_n hx hb dX11_sum_45 rfl (lv_at hl 2 rfl) ?_
                      refine lv_dup hx hb dX11_sum_46 rfl ?_
                      refine va_get (D := D) (ci := 11) (v := .int f5_kd) (C := RX11) (T := TX11) (N := 25) hx hb hT giX11 hown hK hP 0 rfl rfl 13 (by decide) (hT (Cond.fieldLink RX11 138 "DesertWireModel" "here" "I") mw_1169) (fun _ h9 => h9) rfl dX11_sum_47 ?_
                      refine lv_iconst (v := 1) hx hb dX11_sum_50 (by decide) ?_
                      refine lv_iadd hx hb dX11_sum_51 ?_
                      refine lv_topi (fun v_59 ev_59 => ?_)
                      have tv_59 : v_59.toInt = f5_kd.toInt + 1 := by rw [ev_59]; exact k_addv rfl zl_1 (by omega) (by omega)
                      refine va_put (D := D) (ci := 11) (v := .int v_59) (ty := .int) (C := RX11) (T := TX11) (N := 25) hx hb hT giX11 tyX11 tyX11_ok nmX11 hown hK hP hD hS 0 rfl rfl 13 (by decide) (hT (Cond.fieldLink RX11 138 "DesertWireModel" "here" "I") mw_1169) (fun _ h9 => h9) rfl (by decide +kernel) rfl rfl (Nat.le_of_ble_eq_true rfl) dX11_sum_52 ?_
                      clear hP hD hS
                      intro H locs hP hD hS
                      replace hP : va_P D vwCl [(k, .inr (11, [.ref k0, .ref k1, .ref k2, .int c3, .ref k4, .ref k5, .ref k6, .ref k7, .ref k8, .int c9, .ref ka, .ref kb, .int cc, .int v_59, .int ce, .int f5_kf, .int f5_kg, .int ch, .int ci, .int cj, .int ck, .ref kl, .int cm, .int cn, .ref ko])), (k0, .inl (cI, 1201, .inl c0))] H := hP
                      replace hD : va_D A [(k, .inr (11, [.ref k0, .ref k1, .ref k2, .int c3, .ref k4, .ref k5, .ref k6, .ref k7, .ref k8, .int c9, .ref ka, .ref kb, .int cc, .int v_59, .int ce, .int f5_kf, .int f5_kg, .int ch, .int ci, .int cj, .int ck, .ref kl, .int cm, .int cn, .ref ko])), (k0, .inl (cI, 1201, .inl c0))] := hD
                      refine lv_aload_n hx hb dX11_sum_55 rfl (lv_at hl 2 rfl) ?_
                      refine kJi (wr := []) (va_runV (As := []) (rest := []) ⟨hx, hb, hml, hown, hT⟩ (c_X11_productG0 l D cI aK aV k k0 k1 k2 k4 k5 k6 k7 k8 ka kb kl ko H.size c3 c9 cc v_59 ce f5_kf f5_kg ch ci cj ck cm cn c0 (by first | omega | decide | assumption | rfl) (by first | omega | decide | assumption | rfl) (by first | omega | decide | assumption | rfl) (by first | omega | decide | assumption | rfl) (by first | omega | decide | assumption | rfl) (by first | omega | decide | assumption | rfl)) (cwV 0 hT (gV_in mw_1331 mw_1328 mw_1330 mw_p4_7 mw_12) rfl rfl rfl (by decide +kernel) ⟨Nat.le_of_ble_eq_true rfl, Nat.le_of_ble_eq_true rfl⟩) (kRecvX (q0 := 0) (ci := 11) hK hP hD hN hXS hS hA rfl rfl [0, 1] rfl (by decide)) rfl rfl hl.1 rfl (lv_room (Nat.le_of_ble_eq_true rfl)) dX11_sum_56 ⟨Nat.le_of_ble_eq_true rfl, Nat.le_of_ble_eq_true rfl⟩) hP hD hS hA [0, 1] [] rfl rfl (by decide) (by decide) ?_
                      clear hP hD hS
                      intro r_60 u_65 H locs w_61 hP hD hS
                      obtain ⟨scd_62, scf_63, scg_64⟩ := u_65
                      replace hP : va_P D vwCl [(k, .inr (11, [.ref k0, .ref k1, .ref k2, .int c3, .ref k4, .ref k5, .ref k6, .ref k7, .ref k8, .int c9, .ref ka, .ref kb, .int cc, .int scd_62, .int ce, .int scf_63, .int scg_64, .int ch, .int ci, .int cj, .int ck, .ref kl, .int cm, .int cn, .ref ko])), (k0, .inl (cI, 1201, .inl c0))] H := hP
                      replace hD : va_D A [(k, .inr (11, [.ref k0, .ref k1, .ref k2, .int c3, .ref k4, .ref k5, .ref k6, .ref k7, .ref k8, .int c9, .ref ka, .ref kb, .int cc, .int scd_62, .int ce, .int scf_63, .int scg_64, .int ch, .int ci, .int cj, .int ck, .ref kl, .int cm, .int cn, .ref ko])), (k0, .inl (cI, 1201, .inl c0))] := hD
                      have lo_scd_62 := k_lo scd_62
                      have hi_scd_62 := k_hi scd_62
                      have lo_scg_64 := k_lo scg_64
                      have hi_scg_64 := k_hi scg_64
                      obtain ⟨h_66, h_67, h_68⟩ := w_61
                      have h_66 : v_59.toInt ≤ scd_62.toInt := h_66
                      have h_67 : scd_62.toInt ≤ ce.toInt := h_67
                      have h_68 : scg_64.toInt = 0 := h_68
                      have lo_r_60 := k_lo r_60
                      have hi_r_60 := k_hi r_60
                      refine lv_istore_n (lv' := [(3, .int r_60), (2, .int 0), (1, .int l5_1), (0, .ref k)]) hx hb dX11_sum_59 rfl hl (by decide) rfl ?_
                      clear hl
                      intro ls hl
                      refine lv_iload_n hx hb dX11_sum_60 rfl (lv_at hl 1 rfl) ?_
                      refine b_if_eq hx hb zl_0 (tgt := 70) dX11_sum_61 (by decide) (fun c_69 => ?_) (fun c_69 => by exfalso; omega)
                      refine lv_iload_n hx hb dX11_sum_70 rfl (lv_at hl 2 rfl) ?_
                      refine lv_iload_n hx hb dX11_sum_71 rfl (lv_at hl 0 rfl) ?_
                      refine lv_isub hx hb dX11_sum_72 ?_
                      refine lv_topi (fun v_70 ev_70 => ?_)
                      have lo_v_70 := k_lo v_70
                      have hi_v_70 := k_hi v_70
                      refine lv_istore_n (lv' := [(1, .int v_70), (3, .int r_60), (2, .int 0), (0, .ref k)]) hx hb dX11_sum_73 rfl hl (by decide) rfl ?_
                      clear hl
                      intro ls hl
                      refine lv_goto (tgt := 5) hx hb dX11_sum_74 (by decide) ?_
                      exact ih5 v_70 scd_62 scf_63 scg_64 (by first | omega | decide | assumption | rfl) (by first | omega | decide | assumption | rfl) (by first | omega | decide | assumption | rfl) (by first | omega | decide | assumption | rfl) (by omega) ls _ _ (lv_sub hl [0, 3] rfl) (hP.sub [0, 1] rfl) (hD.sub [0, 1] (by decide) rfl) hS
                    · refine lv_iconst (v := 1) hx hb dX11_sum_39 (by decide) ?_
                      refine lv_goto (tgt := 44) hx hb dX11_sum_40 (by decide) ?_
                      refine lv_istore_n (lv' := [(2, .int 1), (1, .int l5_1), (0, .ref k)]) hx hb dX11_sum_44 rfl hl (by decide) rfl ?_
                      clear hl
                      intro ls hl
                      refine lv_aload_n hx hb dX11_sum_45 rfl (lv_at hl 2 rfl) ?_
                      refine lv_dup hx hb dX11_sum_46 rfl ?_
                      refine va_get (D := D) (ci := 11) (v := .int f5_kd) (C := RX11) (T := TX11) (N := 25) hx hb hT giX11 hown hK hP 0 rfl rfl 13 (by decide) (hT (Cond.fieldLink RX11 138 "DesertWireModel" "here" "I") mw_1169) (fun _ h9 => h9) rfl dX11_sum_47 ?_
                      refine lv_iconst (v := 1) hx hb dX11_sum_50 (by decide) ?_
                      refine lv_iadd hx hb dX11_sum_51 ?_
                      refine lv_topi (fun v_71 ev_71 => ?_)
                      have tv_71 : v_71.toInt = f5_kd.toInt + 1 := by rw [ev_71]; exact k_addv rfl zl_1 (by omega) (by omega)
                      refine va_put (D := D) (ci := 11) (v := .int v_71) (ty := .int) (C := RX11) (T := TX11) (N := 25) hx hb hT giX11 tyX11 tyX11_ok nmX11 hown hK hP hD hS 0 rfl rfl 13 (by decide) (hT (Cond.fieldLink RX11 138 "DesertWireModel" "here" "I") mw_1169) (fun _ h9 => h9) rfl (by decide +kernel) rfl rfl (Nat.le_of_ble_eq_true rfl) dX11_sum_52 ?_
                      clear hP hD hS
                      intro H locs hP hD hS
                      replace hP : va_P D vwCl [(k, .inr (11, [.ref k0, .ref k1, .ref k2, .int c3, .ref k4, .ref k5, .ref k6, .ref k7, .ref k8, .int c9, .ref ka, .ref kb, .int cc, .int v_71, .int ce, .int f5_kf, .int f5_kg, .int ch, .int ci, .int cj, .int ck, .ref kl, .int cm, .int cn, .ref ko])), (k0, .inl (cI, 1201, .inl c0))] H := hP
                      replace hD : va_D A [(k, .inr (11, [.ref k0, .ref k1, .ref k2, .int c3, .ref k4, .ref k5, .ref k6, .ref k7, .ref k8, .int c9, .ref ka, .ref kb, .int cc, .int v_71, .int ce, .int f5_kf, .int f5_kg, .int ch, .int ci, .int cj, .int ck, .ref kl, .int cm, .int cn, .ref ko])), (k0, .inl (cI, 1201, .inl c0))] := hD
                      refine lv_aload_n hx hb dX11_sum_55 rfl (lv_at hl 2 rfl) ?_
                      refine kJi (wr := []) (va_runV (As := []) (rest := []) ⟨hx, hb, hml, hown, hT⟩ (c_X11_productG0 l D cI aK aV k k0 k1 k2 k4 k5 k6 k7 k8 ka kb kl ko H.size c3 c9 cc v_71 ce f5_kf f5_kg ch ci cj ck cm cn c0 (by first | omega | decide | assumption | rfl) (by first | omega | decide | assumption | rfl) (by first | omega | decide | assumption | rfl) (by first | omega | decide | assumption | rfl) (by first | omega | decide | assumption | rfl) (by first | omega | decide | assumption | rfl)) (cwV 0 hT (gV_in mw_1331 mw_1328 mw_1330 mw_p4_7 mw_12) rfl rfl rfl (by decide +kernel) ⟨Nat.le_of_ble_eq_true rfl, Nat.le_of_ble_eq_true rfl⟩) (kRecvX (q0 := 0) (ci := 11) hK hP hD hN hXS hS hA rfl rfl [0, 1] rfl (by decide)) rfl rfl hl.1 rfl (lv_room (Nat.le_of_ble_eq_true rfl)) dX11_sum_56 ⟨Nat.le_of_ble_eq_true rfl, Nat.le_of_ble_eq_true rfl⟩) hP hD hS hA [0, 1] [] rfl rfl (by decide) (by decide) ?_
                      clear hP hD hS
                      intro r_72 u_77 H locs w_73 hP hD hS
                      obtain ⟨scd_74, scf_75, scg_76⟩ := u_77
                      replace hP : va_P D vwCl [(k, .inr (11, [.ref k0, .ref k1, .ref k2, .int c3, .ref k4, .ref k5, .ref k6, .ref k7, .ref k8, .int c9, .ref ka, .ref kb, .int cc, .int scd_74, .int ce, .int scf_75, .int scg_76, .int ch, .int ci, .int cj, .int ck, .ref kl, .int cm, .int cn, .ref ko])), (k0, .inl (cI, 1201, .inl c0))] H := hP
                      replace hD : va_D A [(k, .inr (11, [.ref k0, .ref k1, .ref k2, .int c3, .ref k4, .ref k5, .ref k6, .ref k7, .ref k8, .int c9, .ref ka, .ref kb, .int cc, .int scd_74, .int ce, .int scf_75, .int scg_76, .int ch, .int ci, .int cj, .int ck, .ref kl, .int cm, .int cn, .ref ko])), (k0, .inl (cI, 1201, .inl c0))] := hD
                      have lo_scd_74 := k_lo scd_74
                      have hi_scd_74 := k_hi scd_74
                      have lo_scg_76 := k_lo scg_76
                      have hi_scg_76 := k_hi scg_76
                      obtain ⟨h_78, h_79, h_80⟩ := w_73
                      have h_78 : v_71.toInt ≤ scd_74.toInt := h_78
                      have h_79 : scd_74.toInt ≤ ce.toInt := h_79
                      have h_80 : scg_76.toInt = 0 := h_80
                      have lo_r_72 := k_lo r_72
                      have hi_r_72 := k_hi r_72
                      refine lv_istore_n (lv' := [(3, .int r_72), (2, .int 1), (1, .int l5_1), (0, .ref k)]) hx hb dX11_sum_59 rfl hl (by decide) rfl ?_
                      clear hl
                      intro ls hl
                      refine lv_iload_n hx hb dX11_sum_60 rfl (lv_at hl 1 rfl) ?_
                      refine b_if_eq hx hb zl_1 (tgt := 70) dX11_sum_61 (by decide) (fun c_81 => by exfalso; omega) (fun c_81 => ?_)
                      refine lv_iload_n hx hb dX11_sum_64 rfl (lv_at hl 2 rfl) ?_
                      refine lv_iload_n hx hb dX11_sum_65 rfl (lv_at hl 0 rfl) ?_
                      refine lv_iadd hx hb dX11_sum_66 ?_
                      refine lv_topi (fun v_82 ev_82 => ?_)
                      have lo_v_82 := k_lo v_82
                      have hi_v_82 := k_hi v_82
                      refine lv_goto (tgt := 73) hx hb dX11_sum_67 (by decide) ?_
                      refine lv_istore_n (lv' := [(1, .int v_82), (3, .int r_72), (2, .int 1), (0, .ref k)]) hx hb dX11_sum_73 rfl hl (by decide) rfl ?_
                      clear hl
                      intro ls hl
                      refine lv_goto (tgt := 5) hx hb dX11_sum_74 (by decide) ?_
                      exact ih5 v_82 scd_74 scf_75 scg_76 (by first | omega | decide | assumption | rfl) (by first | omega | decide | assumption | rfl) (by first | omega | decide | assumption | rfl) (by first | omega | decide | assumption | rfl) (by omega) ls _ _ (lv_sub hl [0, 3] rfl) (hP.sub [0, 1] rfl) (hD.sub [0, 1] (by decide) rfl) hS
                  · exfalso; omega
              · exfalso; omega
          · have h_15 : f5_kd.toInt = ce.toInt := h_15
            obtain rfl : r_11 = (-1) := hr_11.trans (by decide)
            refine lv_bipush (v := 43) hx hb dX11_sum_16 (by decide) ?_
            refine b_icmp_eq hx hb zl_m1 zl_43 (tgt := 30) dX11_sum_18 (by decide) (fun c_83 => by exfalso; omega) (fun c_83 => ?_)
            refine lv_aload_n hx hb dX11_sum_21 rfl (lv_at hl 1 rfl) ?_
            refine kJi (wr := []) (va_runV (As := []) (rest := []) ⟨hx, hb, hml, hown, hT⟩ (c_X11_nowG l D cI aK aV k k0 k1 k2 k4 k5 k6 k7 k8 ka kb kl ko H.size c3 c9 cc f5_kd ce f5_kf f5_kg ch ci cj ck cm cn c0 (by first | omega | decide | assumption | rfl) (by first | omega | decide | assumption | rfl) (by first | omega | decide | assumption | rfl) (by first | omega | decide | assumption | rfl) (by first | omega | decide | assumption | rfl)) (cwV 0 hT (gV_in mw_1339 mw_1336 mw_1338 mw_p4_9 mw_12) rfl rfl rfl (by decide +kernel) ⟨Nat.le_of_ble_eq_true rfl, Nat.le_of_ble_eq_true rfl⟩) (kRecvX (q0 := 0) (ci := 11) hK hP hD hN hXS hS hA rfl rfl [0, 1] rfl (by decide)) rfl rfl hl.1 rfl (lv_room (Nat.le_of_ble_eq_true rfl)) dX11_sum_22 ⟨Nat.le_of_ble_eq_true rfl, Nat.le_of_ble_eq_true rfl⟩) hP hD hS hA [0, 1] [] rfl rfl (by decide) (by decide) ?_
            clear hP hD hS
            intro r_84 u_86 H locs w_85 hP hD hS
            replace hP : va_P D vwCl [(k, .inr (11, [.ref k0, .ref k1, .ref k2, .int c3, .ref k4, .ref k5, .ref k6, .ref k7, .ref k8, .int c9, .ref ka, .ref kb, .int cc, .int f5_kd, .int ce, .int f5_kf, .int f5_kg, .int ch, .int ci, .int cj, .int ck, .ref kl, .int cm, .int cn, .ref ko])), (k0, .inl (cI, 1201, .inl c0))] H := hP
            replace hD : va_D A [(k, .inr (11, [.ref k0, .ref k1, .ref k2, .int c3, .ref k4, .ref k5, .ref k6, .ref k7, .ref k8, .int c9, .ref ka, .ref kb, .int cc, .int f5_kd, .int ce, .int f5_kf, .int f5_kg, .int ch, .int ci, .int cj, .int ck, .ref kl, .int cm, .int cn, .ref ko])), (k0, .inl (cI, 1201, .inl c0))] := hD
            rcases w_85 with h_87 | ⟨hr_84, h_88⟩
            · exfalso; omega
            · have h_88 : f5_kd.toInt = ce.toInt := h_88
              obtain rfl : r_84 = (-1) := hr_84.trans (by decide)
              refine lv_bipush (v := 45) hx hb dX11_sum_25 (by decide) ?_
              refine b_icmp_ne hx hb zl_m1 zl_45 (tgt := 77) dX11_sum_27 (by decide) (fun c_89 => ?_) (fun c_89 => by exfalso; omega)
              refine lv_iload_n hx hb dX11_sum_77 rfl (lv_at hl 0 rfl) ?_
              exact hRet (f5_kd, f5_kf, f5_kg) [0, 1] ⟨(by first | omega | decide | assumption | rfl | (dsimp only; first | omega)), (by first | omega | decide | assumption | rfl | (dsimp only; first | omega)), (by first | omega | decide | assumption | rfl | (dsimp only; first | omega))⟩ hP hD (by decide) rfl hS rfl dX11_sum_78
  exact hloop_5 _ r_1 scd_3 scf_4 scg_5 (by first | omega | decide | assumption | rfl) (by first | omega | decide | assumption | rfl) (by first | omega | decide | assumption | rfl) (by first | omega | decide | assumption | rfl) (Nat.lt_succ_self _) ls _ _ (lv_sub hl [0, 1] rfl) hP hD hS

set_option maxHeartbeats 4000000 in
set_option maxRecDepth 100000 in
theorem c_X11_testG0 (l : Launch) (D : va_G) (cI : ClassId) (aK aV : Nat → Nat) (k k0 k1 k2 k4 k5 k6 k7 k8 ka kb kl ko : Nat) (sz : Nat) (c3 : Int32) (c9 : Int32) (cc : Int32) (cd : Int32) (ce : Int32) (cf : Int32) (cg : Int32) (ch : Int32) (ci : Int32) (cj : Int32) (ck : Int32) (cm : Int32) (cn : Int32) (c0 : Nat → Int32) (pre0 : 0 ≤ cc.toInt) (pre1 : cc.toInt ≤ 1151) (pre2 : 0 ≤ cd.toInt) (pre3 : cd.toInt ≤ ce.toInt) (pre4 : ce.toInt ≤ 50) (pre5 : cg.toInt = 0) : Met l yX11_test (gW yX11_test cX11_test 4 (some .int)) ({ frames := 28, cells := 0, slots := 0, locals := 635 } : Room) (kPreX D cI aK aV [.ref k] [(k, .inr (11, [.ref k0, .ref k1, .ref k2, .int c3, .ref k4, .ref k5, .ref k6, .ref k7, .ref k8, .int c9, .ref ka, .ref kb, .int cc, .int cd, .int ce, .int cf, .int cg, .int ch, .int ci, .int cj, .int ck, .ref kl, .int cm, .int cn, .ref ko])), (k0, .inl (cI, 1201, .inl c0))] sz) (va_Qi (fun (r : Int32) (u : Int32 × Int32 × Int32) => cd.toInt ≤ u.1.toInt ∧ u.1.toInt ≤ ce.toInt ∧ u.2.2.toInt = 0) (fun u t => kWd D cI (va_A [(k, .inr (11, [.ref k0, .ref k1, .ref k2, .int c3, .ref k4, .ref k5, .ref k6, .ref k7, .ref k8, .int c9, .ref ka, .ref kb, .int cc, .int cd, .int ce, .int cf, .int cg, .int ch, .int ci, .int cj, .int ck, .ref kl, .int cm, .int cn, .ref ko])), (k0, .inl (cI, 1201, .inl c0))] sz) [(k, .inr (11, [.ref k0, .ref k1, .ref k2, .int c3, .ref k4, .ref k5, .ref k6, .ref k7, .ref k8, .int c9, .ref ka, .ref kb, .int cc, .int u.1, .int ce, .int u.2.1, .int u.2.2, .int ch, .int ci, .int cj, .int ck, .ref kl, .int cm, .int cn, .ref ko])), (k0, .inl (cI, 1201, .inl c0))] t) (va_A [(k, .inr (11, [.ref k0, .ref k1, .ref k2, .int c3, .ref k4, .ref k5, .ref k6, .ref k7, .ref k8, .int c9, .ref ka, .ref kb, .int cc, .int cd, .int ce, .int cf, .int cg, .int ch, .int ci, .int cj, .int ck, .ref kl, .int cm, .int cn, .ref ko])), (k0, .inl (cI, 1201, .inl c0))] sz)) 0 0 (va_A [(k, .inr (11, [.ref k0, .ref k1, .ref k2, .int c3, .ref k4, .ref k5, .ref k6, .ref k7, .ref k8, .int c9, .ref ka, .ref kb, .int cc, .int cd, .int ce, .int cf, .int cg, .int ch, .int ci, .int cj, .int ck, .ref kl, .int cm, .int cn, .ref ko])), (k0, .inl (cI, 1201, .inl c0))] sz) := by
  refine kMetIX (own := RX11) (by decide) rfl (Nat.le_of_ble_eq_true rfl) ?_
  intro p e s m args below meth c hx hb hT hown hname hml A Q hK hP hD hS hA hN hXS hRet ls hl
  have hl : lv_has ls 4 [(0, .ref k)] := hl
  have lo_cd := k_lo cd
  have hi_cd := k_hi cd
  have lo_ce := k_lo ce
  have hi_ce := k_hi ce
  have lo_ci := k_lo ci
  have hi_ci := k_hi ci
  refine lv_aload_n hx hb dX11_test_0 rfl (lv_at hl 0 rfl) ?_
  refine kJi (wr := []) (va_runV (As := []) (rest := []) ⟨hx, hb, hml, hown, hT⟩ (c_X11_sumG0 l D cI aK aV k k0 k1 k2 k4 k5 k6 k7 k8 ka kb kl ko s.heap.size c3 c9 cc cd ce cf cg ch ci cj ck cm cn c0 (by first | omega | decide | assumption | rfl) (by first | omega | decide | assumption | rfl) (by first | omega | decide | assumption | rfl) (by first | omega | decide | assumption | rfl) (by first | omega | decide | assumption | rfl) (by first | omega | decide | assumption | rfl)) (cwV 0 hT (gV_in mw_1327 mw_1324 mw_1326 mw_p4_6 mw_12) rfl rfl rfl (by decide +kernel) ⟨Nat.le_of_ble_eq_true rfl, Nat.le_of_ble_eq_true rfl⟩) (kRecvX (q0 := 0) (ci := 11) hK hP hD hN hXS hS hA rfl rfl [0, 1] rfl (by decide)) rfl rfl hl.1 rfl (lv_room (Nat.le_of_ble_eq_true rfl)) dX11_test_1 ⟨Nat.le_of_ble_eq_true rfl, Nat.le_of_ble_eq_true rfl⟩) hP hD hS hA [0, 1] [] rfl rfl (by decide) (by decide) ?_
  clear hP hD hS
  intro r_1 u_6 H locs w_2 hP hD hS
  obtain ⟨scd_3, scf_4, scg_5⟩ := u_6
  replace hP : va_P D vwCl [(k, .inr (11, [.ref k0, .ref k1, .ref k2, .int c3, .ref k4, .ref k5, .ref k6, .ref k7, .ref k8, .int c9, .ref ka, .ref kb, .int cc, .int scd_3, .int ce, .int scf_4, .int scg_5, .int ch, .int ci, .int cj, .int ck, .ref kl, .int cm, .int cn, .ref ko])), (k0, .inl (cI, 1201, .inl c0))] H := hP
  replace hD : va_D A [(k, .inr (11, [.ref k0, .ref k1, .ref k2, .int c3, .ref k4, .ref k5, .ref k6, .ref k7, .ref k8, .int c9, .ref ka, .ref kb, .int cc, .int scd_3, .int ce, .int scf_4, .int scg_5, .int ch, .int ci, .int cj, .int ck, .ref kl, .int cm, .int cn, .ref ko])), (k0, .inl (cI, 1201, .inl c0))] := hD
  have lo_scd_3 := k_lo scd_3
  have hi_scd_3 := k_hi scd_3
  have lo_scf_4 := k_lo scf_4
  have hi_scf_4 := k_hi scf_4
  have lo_scg_5 := k_lo scg_5
  have hi_scg_5 := k_hi scg_5
  obtain ⟨h_7, h_8, h_9⟩ := w_2
  have h_7 : cd.toInt ≤ scd_3.toInt := h_7
  have h_8 : scd_3.toInt ≤ ce.toInt := h_8
  have h_9 : scg_5.toInt = 0 := h_9
  have lo_r_1 := k_lo r_1
  have hi_r_1 := k_hi r_1
  refine lv_istore_n (lv' := [(1, .int r_1), (0, .ref k)]) hx hb dX11_test_4 rfl hl (by decide) rfl ?_
  clear hl
  intro ls hl
  refine lv_aload_n hx hb dX11_test_5 rfl (lv_at hl 1 rfl) ?_
  refine kJi (wr := []) (va_runV (As := []) (rest := []) ⟨hx, hb, hml, hown, hT⟩ (c_X11_nowG l D cI aK aV k k0 k1 k2 k4 k5 k6 k7 k8 ka kb kl ko H.size c3 c9 cc scd_3 ce scf_4 scg_5 ch ci cj ck cm cn c0 (by first | omega | decide | assumption | rfl) (by first | omega | decide | assumption | rfl) (by first | omega | decide | assumption | rfl) (by first | omega | decide | assumption | rfl) (by first | omega | decide | assumption | rfl)) (cwV 0 hT (gV_in mw_1339 mw_1336 mw_1338 mw_p4_9 mw_12) rfl rfl rfl (by decide +kernel) ⟨Nat.le_of_ble_eq_true rfl, Nat.le_of_ble_eq_true rfl⟩) (kRecvX (q0 := 0) (ci := 11) hK hP hD hN hXS hS hA rfl rfl [0, 1] rfl (by decide)) rfl rfl hl.1 rfl (lv_room (Nat.le_of_ble_eq_true rfl)) dX11_test_6 ⟨Nat.le_of_ble_eq_true rfl, Nat.le_of_ble_eq_true rfl⟩) hP hD hS hA [0, 1] [] rfl rfl (by decide) (by decide) ?_
  clear hP hD hS
  intro r_10 u_12 H locs w_11 hP hD hS
  replace hP : va_P D vwCl [(k, .inr (11, [.ref k0, .ref k1, .ref k2, .int c3, .ref k4, .ref k5, .ref k6, .ref k7, .ref k8, .int c9, .ref ka, .ref kb, .int cc, .int scd_3, .int ce, .int scf_4, .int scg_5, .int ch, .int ci, .int cj, .int ck, .ref kl, .int cm, .int cn, .ref ko])), (k0, .inl (cI, 1201, .inl c0))] H := hP
  replace hD : va_D A [(k, .inr (11, [.ref k0, .ref k1, .ref k2, .int c3, .ref k4, .ref k5, .ref k6, .ref k7, .ref k8, .int c9, .ref ka, .ref kb, .int cc, .int scd_3, .int ce, .int scf_4, .int scg_5, .int ch, .int ci, .int cj, .int ck, .ref kl, .int cm, .int cn, .ref ko])), (k0, .inl (cI, 1201, .inl c0))] := hD
  rcases w_11 with h_13 | ⟨hr_10, h_14⟩
  · have h_13 : scd_3.toInt < ce.toInt := h_13
    have lo_r_10 := k_lo r_10
    have hi_r_10 := k_hi r_10
    refine lv_istore_n (lv' := [(2, .int r_10), (1, .int r_1), (0, .ref k)]) hx hb dX11_test_9 rfl hl (by decide) rfl ?_
    clear hl
    intro ls hl
    refine lv_aload_n hx hb dX11_test_10 rfl (lv_at hl 2 rfl) ?_
    refine va_get (D := D) (ci := 11) (v := .int scf_4) (C := RX11) (T := TX11) (N := 25) hx hb hT giX11 hown hK hP 0 rfl rfl 15 (by decide) (hT (Cond.fieldLink RX11 148 "DesertWireModel" "isWrong" "Z") mw_1171) (fun _ h9 => h9) rfl dX11_test_11 ?_
    refine b_if_ne hx hb rfl (tgt := 35) dX11_test_14 (by decide) (fun c_15 => ?_) (fun c_15 => ?_)
    · refine lv_iload_n hx hb dX11_test_35 rfl (lv_at hl 1 rfl) ?_
      exact hRet (scd_3, scf_4, scg_5) [0, 1] ⟨(by first | omega | decide | assumption | rfl | (dsimp only; first | omega)), (by first | omega | decide | assumption | rfl | (dsimp only; first | omega)), (by first | omega | decide | assumption | rfl | (dsimp only; first | omega))⟩ hP hD (by decide) rfl hS rfl dX11_test_36
    · refine lv_iload_n hx hb dX11_test_17 rfl (lv_at hl 0 rfl) ?_
      refine lv_bipush (v := 60) hx hb dX11_test_18 (by decide) ?_
      refine b_icmp_eq hx hb rfl zl_60 (tgt := 37) dX11_test_20 (by decide) (fun c_16 => ?_) (fun c_16 => ?_)
      · refine lv_aload_n hx hb dX11_test_37 rfl (lv_at hl 2 rfl) ?_
        refine lv_dup hx hb dX11_test_38 rfl ?_
        refine va_get (D := D) (ci := 11) (v := .int scd_3) (C := RX11) (T := TX11) (N := 25) hx hb hT giX11 hown hK hP 0 rfl rfl 13 (by decide) (hT (Cond.fieldLink RX11 138 "DesertWireModel" "here" "I") mw_1169) (fun _ h9 => h9) rfl dX11_test_39 ?_
        refine lv_iconst (v := 1) hx hb dX11_test_42 (by decide) ?_
        refine lv_iadd hx hb dX11_test_43 ?_
        refine lv_topi (fun v_17 ev_17 => ?_)
        have tv_17 : v_17.toInt = scd_3.toInt + 1 := by rw [ev_17]; exact k_addv rfl zl_1 (by omega) (by omega)
        refine va_put (D := D) (ci := 11) (v := .int v_17) (ty := .int) (C := RX11) (T := TX11) (N := 25) hx hb hT giX11 tyX11 tyX11_ok nmX11 hown hK hP hD hS 0 rfl rfl 13 (by decide) (hT (Cond.fieldLink RX11 138 "DesertWireModel" "here" "I") mw_1169) (fun _ h9 => h9) rfl (by decide +kernel) rfl rfl (Nat.le_of_ble_eq_true rfl) dX11_test_44 ?_
        clear hP hD hS
        intro H locs hP hD hS
        replace hP : va_P D vwCl [(k, .inr (11, [.ref k0, .ref k1, .ref k2, .int c3, .ref k4, .ref k5, .ref k6, .ref k7, .ref k8, .int c9, .ref ka, .ref kb, .int cc, .int v_17, .int ce, .int scf_4, .int scg_5, .int ch, .int ci, .int cj, .int ck, .ref kl, .int cm, .int cn, .ref ko])), (k0, .inl (cI, 1201, .inl c0))] H := hP
        replace hD : va_D A [(k, .inr (11, [.ref k0, .ref k1, .ref k2, .int c3, .ref k4, .ref k5, .ref k6, .ref k7, .ref k8, .int c9, .ref ka, .ref kb, .int cc, .int v_17, .int ce, .int scf_4, .int scg_5, .int ch, .int ci, .int cj, .int ck, .ref kl, .int cm, .int cn, .ref ko])), (k0, .inl (cI, 1201, .inl c0))] := hD
        refine lv_aload_n hx hb dX11_test_47 rfl (lv_at hl 2 rfl) ?_
        refine kJi (wr := []) (va_runV (As := []) (rest := []) ⟨hx, hb, hml, hown, hT⟩ (c_X11_sumG0 l D cI aK aV k k0 k1 k2 k4 k5 k6 k7 k8 ka kb kl ko H.size c3 c9 cc v_17 ce scf_4 scg_5 ch ci cj ck cm cn c0 (by first | omega | decide | assumption | rfl) (by first | omega | decide | assumption | rfl) (by first | omega | decide | assumption | rfl) (by first | omega | decide | assumption | rfl) (by first | omega | decide | assumption | rfl) (by first | omega | decide | assumption | rfl)) (cwV 0 hT (gV_in mw_1327 mw_1324 mw_1326 mw_p4_6 mw_12) rfl rfl rfl (by decide +kernel) ⟨Nat.le_of_ble_eq_true rfl, Nat.le_of_ble_eq_true rfl⟩) (kRecvX (q0 := 0) (ci := 11) hK hP hD hN hXS hS hA rfl rfl [0, 1] rfl (by decide)) rfl rfl hl.1 rfl (lv_room (Nat.le_of_ble_eq_true rfl)) dX11_test_48 ⟨Nat.le_of_ble_eq_true rfl, Nat.le_of_ble_eq_true rfl⟩) hP hD hS hA [0, 1] [] rfl rfl (by decide) (by decide) ?_
        clear hP hD hS
        intro r_18 u_23 H locs w_19 hP hD hS
        obtain ⟨scd_20, scf_21, scg_22⟩ := u_23
        replace hP : va_P D vwCl [(k, .inr (11, [.ref k0, .ref k1, .ref k2, .int c3, .ref k4, .ref k5, .ref k6, .ref k7, .ref k8, .int c9, .ref ka, .ref kb, .int cc, .int scd_20, .int ce, .int scf_21, .int scg_22, .int ch, .int ci, .int cj, .int ck, .ref kl, .int cm, .int cn, .ref ko])), (k0, .inl (cI, 1201, .inl c0))] H := hP
        replace hD : va_D A [(k, .inr (11, [.ref k0, .ref k1, .ref k2, .int c3, .ref k4, .ref k5, .ref k6, .ref k7, .ref k8, .int c9, .ref ka, .ref kb, .int cc, .int scd_20, .int ce, .int scf_21, .int scg_22, .int ch, .int ci, .int cj, .int ck, .ref kl, .int cm, .int cn, .ref ko])), (k0, .inl (cI, 1201, .inl c0))] := hD
        have lo_scd_20 := k_lo scd_20
        have hi_scd_20 := k_hi scd_20
        have lo_scg_22 := k_lo scg_22
        have hi_scg_22 := k_hi scg_22
        obtain ⟨h_24, h_25, h_26⟩ := w_19
        have h_24 : v_17.toInt ≤ scd_20.toInt := h_24
        have h_25 : scd_20.toInt ≤ ce.toInt := h_25
        have h_26 : scg_22.toInt = 0 := h_26
        have lo_r_18 := k_lo r_18
        have hi_r_18 := k_hi r_18
        refine lv_istore_n (lv' := [(3, .int r_18), (2, .int r_10), (1, .int r_1), (0, .ref k)]) hx hb dX11_test_51 rfl hl (by decide) rfl ?_
        clear hl
        intro ls hl
        refine lv_iload_n hx hb dX11_test_52 rfl (lv_at hl 1 rfl) ?_
        refine lv_bipush (v := 60) hx hb dX11_test_53 (by decide) ?_
        refine b_icmp_ne hx hb rfl zl_60 (tgt := 66) dX11_test_55 (by decide) (fun c_27 => by exfalso; omega) (fun c_27 => ?_)
        refine lv_iload_n hx hb dX11_test_58 rfl (lv_at hl 2 rfl) ?_
        refine lv_iload_n hx hb dX11_test_59 rfl (lv_at hl 0 rfl) ?_
        refine b_icmp_ge hx hb rfl rfl (tgt := 89) dX11_test_60 (by decide) (fun c_28 => ?_) (fun c_28 => ?_)
        · refine lv_iconst (v := 0) hx hb dX11_test_89 (by decide) ?_
          exact hRet (scd_20, scf_21, scg_22) [0, 1] ⟨(by first | omega | (simp only [zl_0] <;> omega) | decide | assumption | rfl | (dsimp only; first | omega | (simp only [zl_0] <;> omega))), (by first | omega | (simp only [zl_0] <;> omega) | decide | assumption | rfl | (dsimp only; first | omega | (simp only [zl_0] <;> omega))), (by first | omega | (simp only [zl_0] <;> omega) | decide | assumption | rfl | (dsimp only; first | omega | (simp only [zl_0] <;> omega)))⟩ hP hD (by decide) rfl hS rfl dX11_test_90
        · refine lv_goto (tgt := 85) hx hb dX11_test_63 (by decide) ?_
          refine lv_iconst (v := 1) hx hb dX11_test_85 (by decide) ?_
          refine lv_goto (tgt := 90) hx hb dX11_test_86 (by decide) ?_
          exact hRet (scd_20, scf_21, scg_22) [0, 1] ⟨(by first | omega | (simp only [zl_1] <;> omega) | decide | assumption | rfl | (dsimp only; first | omega | (simp only [zl_1] <;> omega))), (by first | omega | (simp only [zl_1] <;> omega) | decide | assumption | rfl | (dsimp only; first | omega | (simp only [zl_1] <;> omega))), (by first | omega | (simp only [zl_1] <;> omega) | decide | assumption | rfl | (dsimp only; first | omega | (simp only [zl_1] <;> omega)))⟩ hP hD (by decide) rfl hS rfl dX11_test_90
      · refine lv_iload_n hx hb dX11_test_23 rfl (lv_at hl 0 rfl) ?_
        refine lv_bipush (v := 61) hx hb dX11_test_24 (by decide) ?_
        refine b_icmp_eq hx hb rfl zl_61 (tgt := 37) dX11_test_26 (by decide) (fun c_29 => ?_) (fun c_29 => ?_)
        · refine lv_aload_n hx hb dX11_test_37 rfl (lv_at hl 2 rfl) ?_
          refine lv_dup hx hb dX11_test_38 rfl ?_
          refine va_get (D := D) (ci := 11) (v := .int scd_3) (C := RX11) (T := TX11) (N := 25) hx hb hT giX11 hown hK hP 0 rfl rfl 13 (by decide) (hT (Cond.fieldLink RX11 138 "DesertWireModel" "here" "I") mw_1169) (fun _ h9 => h9) rfl dX11_test_39 ?_
          refine lv_iconst (v := 1) hx hb dX11_test_42 (by decide) ?_
          refine lv_iadd hx hb dX11_test_43 ?_
          refine lv_topi (fun v_30 ev_30 => ?_)
          have tv_30 : v_30.toInt = scd_3.toInt + 1 := by rw [ev_30]; exact k_addv rfl zl_1 (by omega) (by omega)
          refine va_put (D := D) (ci := 11) (v := .int v_30) (ty := .int) (C := RX11) (T := TX11) (N := 25) hx hb hT giX11 tyX11 tyX11_ok nmX11 hown hK hP hD hS 0 rfl rfl 13 (by decide) (hT (Cond.fieldLink RX11 138 "DesertWireModel" "here" "I") mw_1169) (fun _ h9 => h9) rfl (by decide +kernel) rfl rfl (Nat.le_of_ble_eq_true rfl) dX11_test_44 ?_
          clear hP hD hS
          intro H locs hP hD hS
          replace hP : va_P D vwCl [(k, .inr (11, [.ref k0, .ref k1, .ref k2, .int c3, .ref k4, .ref k5, .ref k6, .ref k7, .ref k8, .int c9, .ref ka, .ref kb, .int cc, .int v_30, .int ce, .int scf_4, .int scg_5, .int ch, .int ci, .int cj, .int ck, .ref kl, .int cm, .int cn, .ref ko])), (k0, .inl (cI, 1201, .inl c0))] H := hP
          replace hD : va_D A [(k, .inr (11, [.ref k0, .ref k1, .ref k2, .int c3, .ref k4, .ref k5, .ref k6, .ref k7, .ref k8, .int c9, .ref ka, .ref kb, .int cc, .int v_30, .int ce, .int scf_4, .int scg_5, .int ch, .int ci, .int cj, .int ck, .ref kl, .int cm, .int cn, .ref ko])), (k0, .inl (cI, 1201, .inl c0))] := hD
          refine lv_aload_n hx hb dX11_test_47 rfl (lv_at hl 2 rfl) ?_
          refine kJi (wr := []) (va_runV (As := []) (rest := []) ⟨hx, hb, hml, hown, hT⟩ (c_X11_sumG0 l D cI aK aV k k0 k1 k2 k4 k5 k6 k7 k8 ka kb kl ko H.size c3 c9 cc v_30 ce scf_4 scg_5 ch ci cj ck cm cn c0 (by first | omega | decide | assumption | rfl) (by first | omega | decide | assumption | rfl) (by first | omega | decide | assumption | rfl) (by first | omega | decide | assumption | rfl) (by first | omega | decide | assumption | rfl) (by first | omega | decide | assumption | rfl)) (cwV 0 hT (gV_in mw_1327 mw_1324 mw_1326 mw_p4_6 mw_12) rfl rfl rfl (by decide +kernel) ⟨Nat.le_of_ble_eq_true rfl, Nat.le_of_ble_eq_true rfl⟩) (kRecvX (q0 := 0) (ci := 11) hK hP hD hN hXS hS hA rfl rfl [0, 1] rfl (by decide)) rfl rfl hl.1 rfl (lv_room (Nat.le_of_ble_eq_true rfl)) dX11_test_48 ⟨Nat.le_of_ble_eq_true rfl, Nat.le_of_ble_eq_true rfl⟩) hP hD hS hA [0, 1] [] rfl rfl (by decide) (by decide) ?_
          clear hP hD hS
          intro r_31 u_36 H locs w_32 hP hD hS
          obtain ⟨scd_33, scf_34, scg_35⟩ := u_36
          replace hP : va_P D vwCl [(k, .inr (11, [.ref k0, .ref k1, .ref k2, .int c3, .ref k4, .ref k5, .ref k6, .ref k7, .ref k8, .int c9, .ref ka, .ref kb, .int cc, .int scd_33, .int ce, .int scf_34, .int scg_35, .int ch, .int ci, .int cj, .int ck, .ref kl, .int cm, .int cn, .ref ko])), (k0, .inl (cI, 1201, .inl c0))] H := hP
          replace hD : va_D A [(k, .inr (11, [.ref k0, .ref k1, .ref k2, .int c3, .ref k4, .ref k5, .ref k6, .ref k7, .ref k8, .int c9, .ref ka, .ref kb, .int cc, .int scd_33, .int ce, .int scf_34, .int scg_35, .int ch, .int ci, .int cj, .int ck, .ref kl, .int cm, .int cn, .ref ko])), (k0, .inl (cI, 1201, .inl c0))] := hD
          have lo_scd_33 := k_lo scd_33
          have hi_scd_33 := k_hi scd_33
          have lo_scg_35 := k_lo scg_35
          have hi_scg_35 := k_hi scg_35
          obtain ⟨h_37, h_38, h_39⟩ := w_32
          have h_37 : v_30.toInt ≤ scd_33.toInt := h_37
          have h_38 : scd_33.toInt ≤ ce.toInt := h_38
          have h_39 : scg_35.toInt = 0 := h_39
          have lo_r_31 := k_lo r_31
          have hi_r_31 := k_hi r_31
          refine lv_istore_n (lv' := [(3, .int r_31), (2, .int r_10), (1, .int r_1), (0, .ref k)]) hx hb dX11_test_51 rfl hl (by decide) rfl ?_
          clear hl
          intro ls hl
          refine lv_iload_n hx hb dX11_test_52 rfl (lv_at hl 1 rfl) ?_
          refine lv_bipush (v := 60) hx hb dX11_test_53 (by decide) ?_
          refine b_icmp_ne hx hb rfl zl_60 (tgt := 66) dX11_test_55 (by decide) (fun c_40 => ?_) (fun c_40 => by exfalso; omega)
          refine lv_iload_n hx hb dX11_test_66 rfl (lv_at hl 1 rfl) ?_
          refine lv_bipush (v := 62) hx hb dX11_test_67 (by decide) ?_
          refine b_icmp_ne hx hb rfl zl_62 (tgt := 80) dX11_test_69 (by decide) (fun c_41 => ?_) (fun c_41 => by exfalso; omega)
          refine lv_iload_n hx hb dX11_test_80 rfl (lv_at hl 2 rfl) ?_
          refine lv_iload_n hx hb dX11_test_81 rfl (lv_at hl 0 rfl) ?_
          refine b_icmp_ne hx hb rfl rfl (tgt := 89) dX11_test_82 (by decide) (fun c_42 => ?_) (fun c_42 => ?_)
          · refine lv_iconst (v := 0) hx hb dX11_test_89 (by decide) ?_
            exact hRet (scd_33, scf_34, scg_35) [0, 1] ⟨(by first | omega | (simp only [zl_0] <;> omega) | decide | assumption | rfl | (dsimp only; first | omega | (simp only [zl_0] <;> omega))), (by first | omega | (simp only [zl_0] <;> omega) | decide | assumption | rfl | (dsimp only; first | omega | (simp only [zl_0] <;> omega))), (by first | omega | (simp only [zl_0] <;> omega) | decide | assumption | rfl | (dsimp only; first | omega | (simp only [zl_0] <;> omega)))⟩ hP hD (by decide) rfl hS rfl dX11_test_90
          · refine lv_iconst (v := 1) hx hb dX11_test_85 (by decide) ?_
            refine lv_goto (tgt := 90) hx hb dX11_test_86 (by decide) ?_
            exact hRet (scd_33, scf_34, scg_35) [0, 1] ⟨(by first | omega | (simp only [zl_1] <;> omega) | decide | assumption | rfl | (dsimp only; first | omega | (simp only [zl_1] <;> omega))), (by first | omega | (simp only [zl_1] <;> omega) | decide | assumption | rfl | (dsimp only; first | omega | (simp only [zl_1] <;> omega))), (by first | omega | (simp only [zl_1] <;> omega) | decide | assumption | rfl | (dsimp only; first | omega | (simp only [zl_1] <;> omega)))⟩ hP hD (by decide) rfl hS rfl dX11_test_90
        · refine lv_iload_n hx hb dX11_test_29 rfl (lv_at hl 0 rfl) ?_
          refine lv_bipush (v := 62) hx hb dX11_test_30 (by decide) ?_
          refine b_icmp_eq hx hb rfl zl_62 (tgt := 37) dX11_test_32 (by decide) (fun c_43 => ?_) (fun c_43 => ?_)
          · refine lv_aload_n hx hb dX11_test_37 rfl (lv_at hl 2 rfl) ?_
            refine lv_dup hx hb dX11_test_38 rfl ?_
            refine va_get (D := D) (ci := 11) (v := .int scd_3) (C := RX11) (T := TX11) (N := 25) hx hb hT giX11 hown hK hP 0 rfl rfl 13 (by decide) (hT (Cond.fieldLink RX11 138 "DesertWireModel" "here" "I") mw_1169) (fun _ h9 => h9) rfl dX11_test_39 ?_
            refine lv_iconst (v := 1) hx hb dX11_test_42 (by decide) ?_
            refine lv_iadd hx hb dX11_test_43 ?_
            refine lv_topi (fun v_44 ev_44 => ?_)
            have tv_44 : v_44.toInt = scd_3.toInt + 1 := by rw [ev_44]; exact k_addv rfl zl_1 (by omega) (by omega)
            refine va_put (D := D) (ci := 11) (v := .int v_44) (ty := .int) (C := RX11) (T := TX11) (N := 25) hx hb hT giX11 tyX11 tyX11_ok nmX11 hown hK hP hD hS 0 rfl rfl 13 (by decide) (hT (Cond.fieldLink RX11 138 "DesertWireModel" "here" "I") mw_1169) (fun _ h9 => h9) rfl (by decide +kernel) rfl rfl (Nat.le_of_ble_eq_true rfl) dX11_test_44 ?_
            clear hP hD hS
            intro H locs hP hD hS
            replace hP : va_P D vwCl [(k, .inr (11, [.ref k0, .ref k1, .ref k2, .int c3, .ref k4, .ref k5, .ref k6, .ref k7, .ref k8, .int c9, .ref ka, .ref kb, .int cc, .int v_44, .int ce, .int scf_4, .int scg_5, .int ch, .int ci, .int cj, .int ck, .ref kl, .int cm, .int cn, .ref ko])), (k0, .inl (cI, 1201, .inl c0))] H := hP
            replace hD : va_D A [(k, .inr (11, [.ref k0, .ref k1, .ref k2, .int c3, .ref k4, .ref k5, .ref k6, .ref k7, .ref k8, .int c9, .ref ka, .ref kb, .int cc, .int v_44, .int ce, .int scf_4, .int scg_5, .int ch, .int ci, .int cj, .int ck, .ref kl, .int cm, .int cn, .ref ko])), (k0, .inl (cI, 1201, .inl c0))] := hD
            refine lv_aload_n hx hb dX11_test_47 rfl (lv_at hl 2 rfl) ?_
            refine kJi (wr := []) (va_runV (As := []) (rest := []) ⟨hx, hb, hml, hown, hT⟩ (c_X11_sumG0 l D cI aK aV k k0 k1 k2 k4 k5 k6 k7 k8 ka kb kl ko H.size c3 c9 cc v_44 ce scf_4 scg_5 ch ci cj ck cm cn c0 (by first | omega | decide | assumption | rfl) (by first | omega | decide | assumption | rfl) (by first | omega | decide | assumption | rfl) (by first | omega | decide | assumption | rfl) (by first | omega | decide | assumption | rfl) (by first | omega | decide | assumption | rfl)) (cwV 0 hT (gV_in mw_1327 mw_1324 mw_1326 mw_p4_6 mw_12) rfl rfl rfl (by decide +kernel) ⟨Nat.le_of_ble_eq_true rfl, Nat.le_of_ble_eq_true rfl⟩) (kRecvX (q0 := 0) (ci := 11) hK hP hD hN hXS hS hA rfl rfl [0, 1] rfl (by decide)) rfl rfl hl.1 rfl (lv_room (Nat.le_of_ble_eq_true rfl)) dX11_test_48 ⟨Nat.le_of_ble_eq_true rfl, Nat.le_of_ble_eq_true rfl⟩) hP hD hS hA [0, 1] [] rfl rfl (by decide) (by decide) ?_
            clear hP hD hS
            intro r_45 u_50 H locs w_46 hP hD hS
            obtain ⟨scd_47, scf_48, scg_49⟩ := u_50
            replace hP : va_P D vwCl [(k, .inr (11, [.ref k0, .ref k1, .ref k2, .int c3, .ref k4, .ref k5, .ref k6, .ref k7, .ref k8, .int c9, .ref ka, .ref kb, .int cc, .int scd_47, .int ce, .int scf_48, .int scg_49, .int ch, .int ci, .int cj, .int ck, .ref kl, .int cm, .int cn, .ref ko])), (k0, .inl (cI, 1201, .inl c0))] H := hP
            replace hD : va_D A [(k, .inr (11, [.ref k0, .ref k1, .ref k2, .int c3, .ref k4, .ref k5, .ref k6, .ref k7, .ref k8, .int c9, .ref ka, .ref kb, .int cc, .int scd_47, .int ce, .int scf_48, .int scg_49, .int ch, .int ci, .int cj, .int ck, .ref kl, .int cm, .int cn, .ref ko])), (k0, .inl (cI, 1201, .inl c0))] := hD
            have lo_scd_47 := k_lo scd_47
            have hi_scd_47 := k_hi scd_47
            have lo_scg_49 := k_lo scg_49
            have hi_scg_49 := k_hi scg_49
            obtain ⟨h_51, h_52, h_53⟩ := w_46
            have h_51 : v_44.toInt ≤ scd_47.toInt := h_51
            have h_52 : scd_47.toInt ≤ ce.toInt := h_52
            have h_53 : scg_49.toInt = 0 := h_53
            have lo_r_45 := k_lo r_45
            have hi_r_45 := k_hi r_45
            refine lv_istore_n (lv' := [(3, .int r_45), (2, .int r_10), (1, .int r_1), (0, .ref k)]) hx hb dX11_test_51 rfl hl (by decide) rfl ?_
            clear hl
            intro ls hl
            refine lv_iload_n hx hb dX11_test_52 rfl (lv_at hl 1 rfl) ?_
            refine lv_bipush (v := 60) hx hb dX11_test_53 (by decide) ?_
            refine b_icmp_ne hx hb rfl zl_60 (tgt := 66) dX11_test_55 (by decide) (fun c_54 => ?_) (fun c_54 => by exfalso; omega)
            refine lv_iload_n hx hb dX11_test_66 rfl (lv_at hl 1 rfl) ?_
            refine lv_bipush (v := 62) hx hb dX11_test_67 (by decide) ?_
            refine b_icmp_ne hx hb rfl zl_62 (tgt := 80) dX11_test_69 (by decide) (fun c_55 => by exfalso; omega) (fun c_55 => ?_)
            refine lv_iload_n hx hb dX11_test_72 rfl (lv_at hl 2 rfl) ?_
            refine lv_iload_n hx hb dX11_test_73 rfl (lv_at hl 0 rfl) ?_
            refine b_icmp_le hx hb rfl rfl (tgt := 89) dX11_test_74 (by decide) (fun c_56 => ?_) (fun c_56 => ?_)
            · refine lv_iconst (v := 0) hx hb dX11_test_89 (by decide) ?_
              exact hRet (scd_47, scf_48, scg_49) [0, 1] ⟨(by first | omega | (simp only [zl_0] <;> omega) | decide | assumption | rfl | (dsimp only; first | omega | (simp only [zl_0] <;> omega))), (by first | omega | (simp only [zl_0] <;> omega) | decide | assumption | rfl | (dsimp only; first | omega | (simp only [zl_0] <;> omega))), (by first | omega | (simp only [zl_0] <;> omega) | decide | assumption | rfl | (dsimp only; first | omega | (simp only [zl_0] <;> omega)))⟩ hP hD (by decide) rfl hS rfl dX11_test_90
            · refine lv_goto (tgt := 85) hx hb dX11_test_77 (by decide) ?_
              refine lv_iconst (v := 1) hx hb dX11_test_85 (by decide) ?_
              refine lv_goto (tgt := 90) hx hb dX11_test_86 (by decide) ?_
              exact hRet (scd_47, scf_48, scg_49) [0, 1] ⟨(by first | omega | (simp only [zl_1] <;> omega) | decide | assumption | rfl | (dsimp only; first | omega | (simp only [zl_1] <;> omega))), (by first | omega | (simp only [zl_1] <;> omega) | decide | assumption | rfl | (dsimp only; first | omega | (simp only [zl_1] <;> omega))), (by first | omega | (simp only [zl_1] <;> omega) | decide | assumption | rfl | (dsimp only; first | omega | (simp only [zl_1] <;> omega)))⟩ hP hD (by decide) rfl hS rfl dX11_test_90
          · refine lv_iload_n hx hb dX11_test_35 rfl (lv_at hl 1 rfl) ?_
            exact hRet (scd_3, scf_4, scg_5) [0, 1] ⟨(by first | omega | decide | assumption | rfl | (dsimp only; first | omega)), (by first | omega | decide | assumption | rfl | (dsimp only; first | omega)), (by first | omega | decide | assumption | rfl | (dsimp only; first | omega))⟩ hP hD (by decide) rfl hS rfl dX11_test_36
  · have h_14 : scd_3.toInt = ce.toInt := h_14
    obtain rfl : r_10 = (-1) := hr_10.trans (by decide)
    refine lv_istore_n (lv' := [(2, .int (-1)), (1, .int r_1), (0, .ref k)]) hx hb dX11_test_9 rfl hl (by decide) rfl ?_
    clear hl
    intro ls hl
    refine lv_aload_n hx hb dX11_test_10 rfl (lv_at hl 2 rfl) ?_
    refine va_get (D := D) (ci := 11) (v := .int scf_4) (C := RX11) (T := TX11) (N := 25) hx hb hT giX11 hown hK hP 0 rfl rfl 15 (by decide) (hT (Cond.fieldLink RX11 148 "DesertWireModel" "isWrong" "Z") mw_1171) (fun _ h9 => h9) rfl dX11_test_11 ?_
    refine b_if_ne hx hb rfl (tgt := 35) dX11_test_14 (by decide) (fun c_57 => ?_) (fun c_57 => ?_)
    · refine lv_iload_n hx hb dX11_test_35 rfl (lv_at hl 1 rfl) ?_
      exact hRet (scd_3, scf_4, scg_5) [0, 1] ⟨(by first | omega | decide | assumption | rfl | (dsimp only; first | omega)), (by first | omega | decide | assumption | rfl | (dsimp only; first | omega)), (by first | omega | decide | assumption | rfl | (dsimp only; first | omega))⟩ hP hD (by decide) rfl hS rfl dX11_test_36
    · refine lv_iload_n hx hb dX11_test_17 rfl (lv_at hl 0 rfl) ?_
      refine lv_bipush (v := 60) hx hb dX11_test_18 (by decide) ?_
      refine b_icmp_eq hx hb zl_m1 zl_60 (tgt := 37) dX11_test_20 (by decide) (fun c_58 => by exfalso; omega) (fun c_58 => ?_)
      refine lv_iload_n hx hb dX11_test_23 rfl (lv_at hl 0 rfl) ?_
      refine lv_bipush (v := 61) hx hb dX11_test_24 (by decide) ?_
      refine b_icmp_eq hx hb zl_m1 zl_61 (tgt := 37) dX11_test_26 (by decide) (fun c_59 => by exfalso; omega) (fun c_59 => ?_)
      refine lv_iload_n hx hb dX11_test_29 rfl (lv_at hl 0 rfl) ?_
      refine lv_bipush (v := 62) hx hb dX11_test_30 (by decide) ?_
      refine b_icmp_eq hx hb zl_m1 zl_62 (tgt := 37) dX11_test_32 (by decide) (fun c_60 => by exfalso; omega) (fun c_60 => ?_)
      refine lv_iload_n hx hb dX11_test_35 rfl (lv_at hl 1 rfl) ?_
      exact hRet (scd_3, scf_4, scg_5) [0, 1] ⟨(by first | omega | decide | assumption | rfl | (dsimp only; first | omega)), (by first | omega | decide | assumption | rfl | (dsimp only; first | omega)), (by first | omega | decide | assumption | rfl | (dsimp only; first | omega))⟩ hP hD (by decide) rfl hS rfl dX11_test_36

set_option maxHeartbeats 4000000 in
set_option maxRecDepth 100000 in
theorem c_X11_bothG0 (l : Launch) (D : va_G) (cI : ClassId) (aK aV : Nat → Nat) (k k0 k1 k2 k4 k5 k6 k7 k8 ka kb kl ko : Nat) (sz : Nat) (c3 : Int32) (c9 : Int32) (cc : Int32) (cd : Int32) (ce : Int32) (cf : Int32) (cg : Int32) (ch : Int32) (ci : Int32) (cj : Int32) (ck : Int32) (cm : Int32) (cn : Int32) (c0 : Nat → Int32) (pre0 : 0 ≤ cc.toInt) (pre1 : cc.toInt ≤ 1151) (pre2 : 0 ≤ cd.toInt) (pre3 : cd.toInt ≤ ce.toInt) (pre4 : ce.toInt ≤ 50) (pre5 : cg.toInt = 0) : Met l yX11_both (gW yX11_both cX11_both 3 (some .int)) ({ frames := 29, cells := 0, slots := 0, locals := 658 } : Room) (kPreX D cI aK aV [.ref k] [(k, .inr (11, [.ref k0, .ref k1, .ref k2, .int c3, .ref k4, .ref k5, .ref k6, .ref k7, .ref k8, .int c9, .ref ka, .ref kb, .int cc, .int cd, .int ce, .int cf, .int cg, .int ch, .int ci, .int cj, .int ck, .ref kl, .int cm, .int cn, .ref ko])), (k0, .inl (cI, 1201, .inl c0))] sz) (va_Qi (fun (r : Int32) (u : Int32 × Int32 × Int32) => cd.toInt ≤ u.1.toInt ∧ u.1.toInt ≤ ce.toInt ∧ u.2.2.toInt = 0) (fun u t => kWd D cI (va_A [(k, .inr (11, [.ref k0, .ref k1, .ref k2, .int c3, .ref k4, .ref k5, .ref k6, .ref k7, .ref k8, .int c9, .ref ka, .ref kb, .int cc, .int cd, .int ce, .int cf, .int cg, .int ch, .int ci, .int cj, .int ck, .ref kl, .int cm, .int cn, .ref ko])), (k0, .inl (cI, 1201, .inl c0))] sz) [(k, .inr (11, [.ref k0, .ref k1, .ref k2, .int c3, .ref k4, .ref k5, .ref k6, .ref k7, .ref k8, .int c9, .ref ka, .ref kb, .int cc, .int u.1, .int ce, .int u.2.1, .int u.2.2, .int ch, .int ci, .int cj, .int ck, .ref kl, .int cm, .int cn, .ref ko])), (k0, .inl (cI, 1201, .inl c0))] t) (va_A [(k, .inr (11, [.ref k0, .ref k1, .ref k2, .int c3, .ref k4, .ref k5, .ref k6, .ref k7, .ref k8, .int c9, .ref ka, .ref kb, .int cc, .int cd, .int ce, .int cf, .int cg, .int ch, .int ci, .int cj, .int ck, .ref kl, .int cm, .int cn, .ref ko])), (k0, .inl (cI, 1201, .inl c0))] sz)) 0 0 (va_A [(k, .inr (11, [.ref k0, .ref k1, .ref k2, .int c3, .ref k4, .ref k5, .ref k6, .ref k7, .ref k8, .int c9, .ref ka, .ref kb, .int cc, .int cd, .int ce, .int cf, .int cg, .int ch, .int ci, .int cj, .int ck, .ref kl, .int cm, .int cn, .ref ko])), (k0, .inl (cI, 1201, .inl c0))] sz) := by
  refine kMetIX (own := RX11) (by decide) rfl (Nat.le_of_ble_eq_true rfl) ?_
  intro p e s m args below meth c hx hb hT hown hname hml A Q hK hP hD hS hA hN hXS hRet ls hl
  have hl : lv_has ls 3 [(0, .ref k)] := hl
  have lo_cd := k_lo cd
  have hi_cd := k_hi cd
  have lo_ce := k_lo ce
  have hi_ce := k_hi ce
  have lo_ci := k_lo ci
  have hi_ci := k_hi ci
  refine lv_aload_n hx hb dX11_both_0 rfl (lv_at hl 0 rfl) ?_
  refine kJi (wr := []) (va_runV (As := []) (rest := []) ⟨hx, hb, hml, hown, hT⟩ (c_X11_testG0 l D cI aK aV k k0 k1 k2 k4 k5 k6 k7 k8 ka kb kl ko s.heap.size c3 c9 cc cd ce cf cg ch ci cj ck cm cn c0 (by first | omega | decide | assumption | rfl) (by first | omega | decide | assumption | rfl) (by first | omega | decide | assumption | rfl) (by first | omega | decide | assumption | rfl) (by first | omega | decide | assumption | rfl) (by first | omega | decide | assumption | rfl)) (cwV 0 hT (gV_in mw_1323 mw_1320 mw_1322 mw_p4_5 mw_12) rfl rfl rfl (by decide +kernel) ⟨Nat.le_of_ble_eq_true rfl, Nat.le_of_ble_eq_true rfl⟩) (kRecvX (q0 := 0) (ci := 11) hK hP hD hN hXS hS hA rfl rfl [0, 1] rfl (by decide)) rfl rfl hl.1 rfl (lv_room (Nat.le_of_ble_eq_true rfl)) dX11_both_1 ⟨Nat.le_of_ble_eq_true rfl, Nat.le_of_ble_eq_true rfl⟩) hP hD hS hA [0, 1] [] rfl rfl (by decide) (by decide) ?_
  clear hP hD hS
  intro r_1 u_6 H locs w_2 hP hD hS
  obtain ⟨scd_3, scf_4, scg_5⟩ := u_6
  replace hP : va_P D vwCl [(k, .inr (11, [.ref k0, .ref k1, .ref k2, .int c3, .ref k4, .ref k5, .ref k6, .ref k7, .ref k8, .int c9, .ref ka, .ref kb, .int cc, .int scd_3, .int ce, .int scf_4, .int scg_5, .int ch, .int ci, .int cj, .int ck, .ref kl, .int cm, .int cn, .ref ko])), (k0, .inl (cI, 1201, .inl c0))] H := hP
  replace hD : va_D A [(k, .inr (11, [.ref k0, .ref k1, .ref k2, .int c3, .ref k4, .ref k5, .ref k6, .ref k7, .ref k8, .int c9, .ref ka, .ref kb, .int cc, .int scd_3, .int ce, .int scf_4, .int scg_5, .int ch, .int ci, .int cj, .int ck, .ref kl, .int cm, .int cn, .ref ko])), (k0, .inl (cI, 1201, .inl c0))] := hD
  have lo_scd_3 := k_lo scd_3
  have hi_scd_3 := k_hi scd_3
  have lo_scg_5 := k_lo scg_5
  have hi_scg_5 := k_hi scg_5
  obtain ⟨h_7, h_8, h_9⟩ := w_2
  have h_7 : cd.toInt ≤ scd_3.toInt := h_7
  have h_8 : scd_3.toInt ≤ ce.toInt := h_8
  have h_9 : scg_5.toInt = 0 := h_9
  have lo_r_1 := k_lo r_1
  have hi_r_1 := k_hi r_1
  refine lv_istore_n (lv' := [(1, .int r_1), (0, .ref k)]) hx hb dX11_both_4 rfl hl (by decide) rfl ?_
  clear hl
  intro ls hl
  have hloop_5 : ∀ (fu_ : Nat) (l5_1 : Int32) (f5_kd : Int32) (f5_kf : Int32) (f5_kg : Int32), scd_3.toInt ≤ f5_kd.toInt → scg_5.toInt ≤ f5_kg.toInt → f5_kg.toInt ≤ scg_5.toInt → f5_kd.toInt ≤ ce.toInt → (ce.toInt - f5_kd.toInt).toNat < fu_ → ∀ (ls : Array Slot) (H : Heap) (locs : List Loc), lv_has ls 3 [(1, .int l5_1), (0, .ref k)] → va_P D vwCl [(k, .inr (11, [.ref k0, .ref k1, .ref k2, .int c3, .ref k4, .ref k5, .ref k6, .ref k7, .ref k8, .int c9, .ref ka, .ref kb, .int cc, .int f5_kd, .int ce, .int f5_kf, .int f5_kg, .int ch, .int ci, .int cj, .int ck, .ref kl, .int cm, .int cn, .ref ko])), (k0, .inl (cI, 1201, .inl c0))] H → va_D A [(k, .inr (11, [.ref k0, .ref k1, .ref k2, .int c3, .ref k4, .ref k5, .ref k6, .ref k7, .ref k8, .int c9, .ref ka, .ref kb, .int cc, .int f5_kd, .int ce, .int f5_kf, .int f5_kg, .int ch, .int ci, .int cj, .int ck, .ref kl, .int cm, .int cn, .ref ko])), (k0, .inl (cI, 1201, .inl c0))] → va_S A s.heap H locs → W p l e ({ frames := 29, cells := 0, slots := 0, locals := 658 } : Room) s m args below meth c H locs 0 0 Q (F0 m 5 ls []) := by
    intro fu_; induction fu_ with
    | zero => intro l5_1 f5_kd f5_kf f5_kg i5_0 i5_1 i5_2 i5_3 hm; exact absurd hm (by omega)
    | succ fu_ ih5 =>
        intro l5_1 f5_kd f5_kf f5_kg i5_0 i5_1 i5_2 i5_3 hm ls H locs hl hP hD hS
        have lo_l5_1 := k_lo l5_1
        have hi_l5_1 := k_hi l5_1
        have lo_f5_kd := k_lo f5_kd
        have hi_f5_kd := k_hi f5_kd
        have lo_f5_kf := k_lo f5_kf
        have hi_f5_kf := k_hi f5_kf
        have lo_f5_kg := k_lo f5_kg
        have hi_f5_kg := k_hi f5_kg
        refine lv_aload_n hx hb dX11_both_5 rfl (lv_at hl 1 rfl) ?_
        refine lv_bipush (v := 38) hx hb dX11_both_6 (by decide) ?_
        refine kJi (wr := []) (va_runV (As := [.int 38]) (rest := []) ⟨hx, hb, hml, hown, hT⟩ (c_X11_takesG l D cI aK aV k k0 k1 k2 k4 k5 k6 k7 k8 ka kb kl ko H.size c3 c9 cc f5_kd ce f5_kf f5_kg ch ci cj ck cm cn c0 38 (by first | omega | (simp only [zl_38] <;> omega) | decide | assumption | rfl) (by first | omega | (simp only [zl_38] <;> omega) | decide | assumption | rfl) (by first | omega | (simp only [zl_38] <;> omega) | decide | assumption | rfl) (by first | omega | (simp only [zl_38] <;> omega) | decide | assumption | rfl) (by first | omega | (simp only [zl_38] <;> omega) | decide | assumption | rfl) (by first | omega | (simp only [zl_38] <;> omega) | decide | assumption | rfl)) (cwV 1 hT (gV_in mw_1351 mw_1348 mw_1350 mw_p4_12 mw_12) rfl rfl rfl (by decide +kernel) ⟨Nat.le_of_ble_eq_true rfl, Nat.le_of_ble_eq_true rfl⟩) (kRecvX (q0 := 0) (ci := 11) hK hP hD hN hXS hS hA rfl rfl [0, 1] rfl (by decide)) rfl rfl hl.1 rfl (lv_room (Nat.le_of_ble_eq_true rfl)) dX11_both_8 ⟨Nat.le_of_ble_eq_true rfl, Nat.le_of_ble_eq_true rfl⟩) hP hD hS hA [0, 1] [] rfl rfl (by decide) (by decide) ?_
        clear hP hD hS
        intro r_10 scd_12 H locs w_11 hP hD hS
        replace hP : va_P D vwCl [(k, .inr (11, [.ref k0, .ref k1, .ref k2, .int c3, .ref k4, .ref k5, .ref k6, .ref k7, .ref k8, .int c9, .ref ka, .ref kb, .int cc, .int scd_12, .int ce, .int f5_kf, .int f5_kg, .int ch, .int ci, .int cj, .int ck, .ref kl, .int cm, .int cn, .ref ko])), (k0, .inl (cI, 1201, .inl c0))] H := hP
        replace hD : va_D A [(k, .inr (11, [.ref k0, .ref k1, .ref k2, .int c3, .ref k4, .ref k5, .ref k6, .ref k7, .ref k8, .int c9, .ref ka, .ref kb, .int cc, .int scd_12, .int ce, .int f5_kf, .int f5_kg, .int ch, .int ci, .int cj, .int ck, .ref kl, .int cm, .int cn, .ref ko])), (k0, .inl (cI, 1201, .inl c0))] := hD
        have lo_scd_12 := k_lo scd_12
        have hi_scd_12 := k_hi scd_12
        rcases w_11 with ⟨hr_10, h_13, h_14⟩ | ⟨hr_10, h_15⟩
        · try simp only [zl_38] at h_13
          have h_13 : scd_12.toInt = f5_kd.toInt + 1 := h_13
          try simp only [zl_38] at h_14
          have h_14 : scd_12.toInt ≤ ce.toInt := h_14
          obtain rfl : r_10 = 1 := hr_10.trans (by decide)
          refine b_if_eq hx hb zl_1 (tgt := 36) dX11_both_11 (by decide) (fun c_16 => by exfalso; omega) (fun c_16 => ?_)
          refine lv_aload_n hx hb dX11_both_14 rfl (lv_at hl 1 rfl) ?_
          refine kJi (wr := []) (va_runV (As := []) (rest := []) ⟨hx, hb, hml, hown, hT⟩ (c_X11_testG0 l D cI aK aV k k0 k1 k2 k4 k5 k6 k7 k8 ka kb kl ko H.size c3 c9 cc scd_12 ce f5_kf f5_kg ch ci cj ck cm cn c0 (by first | omega | decide | assumption | rfl) (by first | omega | decide | assumption | rfl) (by first | omega | decide | assumption | rfl) (by first | omega | decide | assumption | rfl) (by first | omega | decide | assumption | rfl) (by first | omega | decide | assumption | rfl)) (cwV 0 hT (gV_in mw_1323 mw_1320 mw_1322 mw_p4_5 mw_12) rfl rfl rfl (by decide +kernel) ⟨Nat.le_of_ble_eq_true rfl, Nat.le_of_ble_eq_true rfl⟩) (kRecvX (q0 := 0) (ci := 11) hK hP hD hN hXS hS hA rfl rfl [0, 1] rfl (by decide)) rfl rfl hl.1 rfl (lv_room (Nat.le_of_ble_eq_true rfl)) dX11_both_15 ⟨Nat.le_of_ble_eq_true rfl, Nat.le_of_ble_eq_true rfl⟩) hP hD hS hA [0, 1] [] rfl rfl (by decide) (by decide) ?_
          clear hP hD hS
          intro r_17 u_22 H locs w_18 hP hD hS
          obtain ⟨scd_19, scf_20, scg_21⟩ := u_22
          replace hP : va_P D vwCl [(k, .inr (11, [.ref k0, .ref k1, .ref k2, .int c3, .ref k4, .ref k5, .ref k6, .ref k7, .ref k8, .int c9, .ref ka, .ref kb, .int cc, .int scd_19, .int ce, .int scf_20, .int scg_21, .int ch, .int ci, .int cj, .int ck, .ref kl, .int cm, .int cn, .ref ko])), (k0, .inl (cI, 1201, .inl c0))] H := hP
          replace hD : va_D A [(k, .inr (11, [.ref k0, .ref k1, .ref k2, .int c3, .ref k4, .ref k5, .ref k6, .ref k7, .ref k8, .int c9, .ref ka, .ref kb, .int cc, .int scd_19, .int ce, .int scf_20, .int scg_21, .int ch, .int ci, .int cj, .int ck, .ref kl, .int cm, .int cn, .ref ko])), (k0, .inl (cI, 1201, .inl c0))] := hD
          have lo_scd_19 := k_lo scd_19
          have hi_scd_19 := k_hi scd_19
          have lo_scg_21 := k_lo scg_21
          have hi_scg_21 := k_hi scg_21
          obtain ⟨h_23, h_24, h_25⟩ := w_18
          have h_23 : scd_12.toInt ≤ scd_19.toInt := h_23
          have h_24 : scd_19.toInt ≤ ce.toInt := h_24
          have h_25 : scg_21.toInt = 0 := h_25
          have lo_r_17 := k_lo r_17
          have hi_r_17 := k_hi r_17
          refine lv_istore_n (lv' := [(2, .int r_17), (1, .int l5_1), (0, .ref k)]) hx hb dX11_both_18 rfl hl (by decide) rfl ?_
          clear hl
          intro ls hl
          refine lv_iload_n hx hb dX11_both_19 rfl (lv_at hl 1 rfl) ?_
          refine b_if_eq hx hb rfl (tgt := 31) dX11_both_20 (by decide) (fun c_26 => ?_) (fun c_26 => ?_)
          · refine lv_iconst (v := 0) hx hb dX11_both_31 (by decide) ?_
            refine lv_istore_n (lv' := [(1, .int 0), (2, .int r_17), (0, .ref k)]) hx hb dX11_both_32 rfl hl (by decide) rfl ?_
            clear hl
            intro ls hl
            refine lv_goto (tgt := 5) hx hb dX11_both_33 (by decide) ?_
            exact ih5 0 scd_19 scf_20 scg_21 (by first | omega | (simp only [zl_0] <;> omega) | decide | assumption | rfl) (by first | omega | (simp only [zl_0] <;> omega) | decide | assumption | rfl) (by first | omega | (simp only [zl_0] <;> omega) | decide | assumption | rfl) (by first | omega | (simp only [zl_0] <;> omega) | decide | assumption | rfl) (by omega) ls _ _ (lv_sub hl [0, 2] rfl) (hP.sub [0, 1] rfl) (hD.sub [0, 1] (by decide) rfl) hS
          · refine lv_iload_n hx hb dX11_both_23 rfl (lv_at hl 0 rfl) ?_
            refine b_if_eq hx hb rfl (tgt := 31) dX11_both_24 (by decide) (fun c_27 => ?_) (fun c_27 => ?_)
            · refine lv_iconst (v := 0) hx hb dX11_both_31 (by decide) ?_
              refine lv_istore_n (lv' := [(1, .int 0), (2, .int r_17), (0, .ref k)]) hx hb dX11_both_32 rfl hl (by decide) rfl ?_
              clear hl
              intro ls hl
              refine lv_goto (tgt := 5) hx hb dX11_both_33 (by decide) ?_
              exact ih5 0 scd_19 scf_20 scg_21 (by first | omega | (simp only [zl_0] <;> omega) | decide | assumption | rfl) (by first | omega | (simp only [zl_0] <;> omega) | decide | assumption | rfl) (by first | omega | (simp only [zl_0] <;> omega) | decide | assumption | rfl) (by first | omega | (simp only [zl_0] <;> omega) | decide | assumption | rfl) (by omega) ls _ _ (lv_sub hl [0, 2] rfl) (hP.sub [0, 1] rfl) (hD.sub [0, 1] (by decide) rfl) hS
            · refine lv_iconst (v := 1) hx hb dX11_both_27 (by decide) ?_
              refine lv_goto (tgt := 32) hx hb dX11_both_28 (by decide) ?_
              refine lv_istore_n (lv' := [(1, .int 1), (2, .int r_17), (0, .ref k)]) hx hb dX11_both_32 rfl hl (by decide) rfl ?_
              clear hl
              intro ls hl
              refine lv_goto (tgt := 5) hx hb dX11_both_33 (by decide) ?_
              exact ih5 1 scd_19 scf_20 scg_21 (by first | omega | (simp only [zl_1] <;> omega) | decide | assumption | rfl) (by first | omega | (simp only [zl_1] <;> omega) | decide | assumption | rfl) (by first | omega | (simp only [zl_1] <;> omega) | decide | assumption | rfl) (by first | omega | (simp only [zl_1] <;> omega) | decide | assumption | rfl) (by omega) ls _ _ (lv_sub hl [0, 2] rfl) (hP.sub [0, 1] rfl) (hD.sub [0, 1] (by decide) rfl) hS
        · try simp only [zl_38] at h_15
          have h_15 : scd_12.toInt = f5_kd.toInt := h_15
          obtain rfl : r_10 = 0 := hr_10.trans (by decide)
          refine b_if_eq hx hb zl_0 (tgt := 36) dX11_both_11 (by decide) (fun c_28 => ?_) (fun c_28 => by exfalso; omega)
          refine lv_iload_n hx hb dX11_both_36 rfl (lv_at hl 0 rfl) ?_
          exact hRet (scd_12, f5_kf, f5_kg) [0, 1] ⟨(by first | omega | decide | assumption | rfl | (dsimp only; first | omega)), (by first | omega | decide | assumption | rfl | (dsimp only; first | omega)), (by first | omega | decide | assumption | rfl | (dsimp only; first | omega))⟩ hP hD (by decide) rfl hS rfl dX11_both_37
  exact hloop_5 _ r_1 scd_3 scf_4 scg_5 (by first | omega | decide | assumption | rfl) (by first | omega | decide | assumption | rfl) (by first | omega | decide | assumption | rfl) (by first | omega | decide | assumption | rfl) (Nat.lt_succ_self _) ls _ _ (lv_sub hl [0, 1] rfl) hP hD hS

set_option maxHeartbeats 4000000 in
set_option maxRecDepth 100000 in
theorem c_X11_wholeG0 (l : Launch) (D : va_G) (cI : ClassId) (aK aV : Nat → Nat) (k k0 k1 k2 k4 k5 k6 k7 k8 ka kb kl ko : Nat) (sz : Nat) (c3 : Int32) (c9 : Int32) (cc : Int32) (cd : Int32) (ce : Int32) (cf : Int32) (cg : Int32) (ch : Int32) (ci : Int32) (cj : Int32) (ck : Int32) (cm : Int32) (cn : Int32) (c0 : Nat → Int32) (pre0 : 0 ≤ cc.toInt) (pre1 : cc.toInt ≤ 1151) (pre2 : 0 ≤ cd.toInt) (pre3 : cd.toInt ≤ ce.toInt) (pre4 : ce.toInt ≤ 50) (pre5 : cg.toInt = 0) : Met l yX11_whole (gW yX11_whole cX11_whole 3 (some .int)) ({ frames := 30, cells := 0, slots := 0, locals := 680 } : Room) (kPreX D cI aK aV [.ref k] [(k, .inr (11, [.ref k0, .ref k1, .ref k2, .int c3, .ref k4, .ref k5, .ref k6, .ref k7, .ref k8, .int c9, .ref ka, .ref kb, .int cc, .int cd, .int ce, .int cf, .int cg, .int ch, .int ci, .int cj, .int ck, .ref kl, .int cm, .int cn, .ref ko])), (k0, .inl (cI, 1201, .inl c0))] sz) (va_Qi (fun (r : Int32) (u : Int32 × Int32 × Int32) => cd.toInt ≤ u.1.toInt ∧ u.1.toInt ≤ ce.toInt ∧ u.2.2.toInt = 0) (fun u t => kWd D cI (va_A [(k, .inr (11, [.ref k0, .ref k1, .ref k2, .int c3, .ref k4, .ref k5, .ref k6, .ref k7, .ref k8, .int c9, .ref ka, .ref kb, .int cc, .int cd, .int ce, .int cf, .int cg, .int ch, .int ci, .int cj, .int ck, .ref kl, .int cm, .int cn, .ref ko])), (k0, .inl (cI, 1201, .inl c0))] sz) [(k, .inr (11, [.ref k0, .ref k1, .ref k2, .int c3, .ref k4, .ref k5, .ref k6, .ref k7, .ref k8, .int c9, .ref ka, .ref kb, .int cc, .int u.1, .int ce, .int u.2.1, .int u.2.2, .int ch, .int ci, .int cj, .int ck, .ref kl, .int cm, .int cn, .ref ko])), (k0, .inl (cI, 1201, .inl c0))] t) (va_A [(k, .inr (11, [.ref k0, .ref k1, .ref k2, .int c3, .ref k4, .ref k5, .ref k6, .ref k7, .ref k8, .int c9, .ref ka, .ref kb, .int cc, .int cd, .int ce, .int cf, .int cg, .int ch, .int ci, .int cj, .int ck, .ref kl, .int cm, .int cn, .ref ko])), (k0, .inl (cI, 1201, .inl c0))] sz)) 0 0 (va_A [(k, .inr (11, [.ref k0, .ref k1, .ref k2, .int c3, .ref k4, .ref k5, .ref k6, .ref k7, .ref k8, .int c9, .ref ka, .ref kb, .int cc, .int cd, .int ce, .int cf, .int cg, .int ch, .int ci, .int cj, .int ck, .ref kl, .int cm, .int cn, .ref ko])), (k0, .inl (cI, 1201, .inl c0))] sz) := by
  refine kMetIX (own := RX11) (by decide) rfl (Nat.le_of_ble_eq_true rfl) ?_
  intro p e s m args below meth c hx hb hT hown hname hml A Q hK hP hD hS hA hN hXS hRet ls hl
  have hl : lv_has ls 3 [(0, .ref k)] := hl
  have lo_cd := k_lo cd
  have hi_cd := k_hi cd
  have lo_ce := k_lo ce
  have hi_ce := k_hi ce
  have lo_ci := k_lo ci
  have hi_ci := k_hi ci
  refine lv_aload_n hx hb dX11_whole_0 rfl (lv_at hl 0 rfl) ?_
  refine kJi (wr := []) (va_runV (As := []) (rest := []) ⟨hx, hb, hml, hown, hT⟩ (c_X11_bothG0 l D cI aK aV k k0 k1 k2 k4 k5 k6 k7 k8 ka kb kl ko s.heap.size c3 c9 cc cd ce cf cg ch ci cj ck cm cn c0 (by first | omega | decide | assumption | rfl) (by first | omega | decide | assumption | rfl) (by first | omega | decide | assumption | rfl) (by first | omega | decide | assumption | rfl) (by first | omega | decide | assumption | rfl) (by first | omega | decide | assumption | rfl)) (cwV 0 hT (gV_in mw_1319 mw_1316 mw_1318 mw_p4_4 mw_12) rfl rfl rfl (by decide +kernel) ⟨Nat.le_of_ble_eq_true rfl, Nat.le_of_ble_eq_true rfl⟩) (kRecvX (q0 := 0) (ci := 11) hK hP hD hN hXS hS hA rfl rfl [0, 1] rfl (by decide)) rfl rfl hl.1 rfl (lv_room (Nat.le_of_ble_eq_true rfl)) dX11_whole_1 ⟨Nat.le_of_ble_eq_true rfl, Nat.le_of_ble_eq_true rfl⟩) hP hD hS hA [0, 1] [] rfl rfl (by decide) (by decide) ?_
  clear hP hD hS
  intro r_1 u_6 H locs w_2 hP hD hS
  obtain ⟨scd_3, scf_4, scg_5⟩ := u_6
  replace hP : va_P D vwCl [(k, .inr (11, [.ref k0, .ref k1, .ref k2, .int c3, .ref k4, .ref k5, .ref k6, .ref k7, .ref k8, .int c9, .ref ka, .ref kb, .int cc, .int scd_3, .int ce, .int scf_4, .int scg_5, .int ch, .int ci, .int cj, .int ck, .ref kl, .int cm, .int cn, .ref ko])), (k0, .inl (cI, 1201, .inl c0))] H := hP
  replace hD : va_D A [(k, .inr (11, [.ref k0, .ref k1, .ref k2, .int c3, .ref k4, .ref k5, .ref k6, .ref k7, .ref k8, .int c9, .ref ka, .ref kb, .int cc, .int scd_3, .int ce, .int scf_4, .int scg_5, .int ch, .int ci, .int cj, .int ck, .ref kl, .int cm, .int cn, .ref ko])), (k0, .inl (cI, 1201, .inl c0))] := hD
  have lo_scd_3 := k_lo scd_3
  have hi_scd_3 := k_hi scd_3
  have lo_scg_5 := k_lo scg_5
  have hi_scg_5 := k_hi scg_5
  obtain ⟨h_7, h_8, h_9⟩ := w_2
  have h_7 : cd.toInt ≤ scd_3.toInt := h_7
  have h_8 : scd_3.toInt ≤ ce.toInt := h_8
  have h_9 : scg_5.toInt = 0 := h_9
  have lo_r_1 := k_lo r_1
  have hi_r_1 := k_hi r_1
  refine lv_istore_n (lv' := [(1, .int r_1), (0, .ref k)]) hx hb dX11_whole_4 rfl hl (by decide) rfl ?_
  clear hl
  intro ls hl
  have hloop_5 : ∀ (fu_ : Nat) (l5_1 : Int32) (f5_kd : Int32) (f5_kf : Int32) (f5_kg : Int32), scd_3.toInt ≤ f5_kd.toInt → scg_5.toInt ≤ f5_kg.toInt → f5_kg.toInt ≤ scg_5.toInt → f5_kd.toInt ≤ ce.toInt → (ce.toInt - f5_kd.toInt).toNat < fu_ → ∀ (ls : Array Slot) (H : Heap) (locs : List Loc), lv_has ls 3 [(1, .int l5_1), (0, .ref k)] → va_P D vwCl [(k, .inr (11, [.ref k0, .ref k1, .ref k2, .int c3, .ref k4, .ref k5, .ref k6, .ref k7, .ref k8, .int c9, .ref ka, .ref kb, .int cc, .int f5_kd, .int ce, .int f5_kf, .int f5_kg, .int ch, .int ci, .int cj, .int ck, .ref kl, .int cm, .int cn, .ref ko])), (k0, .inl (cI, 1201, .inl c0))] H → va_D A [(k, .inr (11, [.ref k0, .ref k1, .ref k2, .int c3, .ref k4, .ref k5, .ref k6, .ref k7, .ref k8, .int c9, .ref ka, .ref kb, .int cc, .int f5_kd, .int ce, .int f5_kf, .int f5_kg, .int ch, .int ci, .int cj, .int ck, .ref kl, .int cm, .int cn, .ref ko])), (k0, .inl (cI, 1201, .inl c0))] → va_S A s.heap H locs → W p l e ({ frames := 30, cells := 0, slots := 0, locals := 680 } : Room) s m args below meth c H locs 0 0 Q (F0 m 5 ls []) := by
    intro fu_; induction fu_ with
    | zero => intro l5_1 f5_kd f5_kf f5_kg i5_0 i5_1 i5_2 i5_3 hm; exact absurd hm (by omega)
    | succ fu_ ih5 =>
        intro l5_1 f5_kd f5_kf f5_kg i5_0 i5_1 i5_2 i5_3 hm ls H locs hl hP hD hS
        have lo_l5_1 := k_lo l5_1
        have hi_l5_1 := k_hi l5_1
        have lo_f5_kd := k_lo f5_kd
        have hi_f5_kd := k_hi f5_kd
        have lo_f5_kf := k_lo f5_kf
        have hi_f5_kf := k_hi f5_kf
        have lo_f5_kg := k_lo f5_kg
        have hi_f5_kg := k_hi f5_kg
        refine lv_aload_n hx hb dX11_whole_5 rfl (lv_at hl 1 rfl) ?_
        refine lv_bipush (v := 124) hx hb dX11_whole_6 (by decide) ?_
        refine kJi (wr := []) (va_runV (As := [.int 124]) (rest := []) ⟨hx, hb, hml, hown, hT⟩ (c_X11_takesG l D cI aK aV k k0 k1 k2 k4 k5 k6 k7 k8 ka kb kl ko H.size c3 c9 cc f5_kd ce f5_kf f5_kg ch ci cj ck cm cn c0 124 (by first | omega | (simp only [zl_124] <;> omega) | decide | assumption | rfl) (by first | omega | (simp only [zl_124] <;> omega) | decide | assumption | rfl) (by first | omega | (simp only [zl_124] <;> omega) | decide | assumption | rfl) (by first | omega | (simp only [zl_124] <;> omega) | decide | assumption | rfl) (by first | omega | (simp only [zl_124] <;> omega) | decide | assumption | rfl) (by first | omega | (simp only [zl_124] <;> omega) | decide | assumption | rfl)) (cwV 1 hT (gV_in mw_1351 mw_1348 mw_1350 mw_p4_12 mw_12) rfl rfl rfl (by decide +kernel) ⟨Nat.le_of_ble_eq_true rfl, Nat.le_of_ble_eq_true rfl⟩) (kRecvX (q0 := 0) (ci := 11) hK hP hD hN hXS hS hA rfl rfl [0, 1] rfl (by decide)) rfl rfl hl.1 rfl (lv_room (Nat.le_of_ble_eq_true rfl)) dX11_whole_8 ⟨Nat.le_of_ble_eq_true rfl, Nat.le_of_ble_eq_true rfl⟩) hP hD hS hA [0, 1] [] rfl rfl (by decide) (by decide) ?_
        clear hP hD hS
        intro r_10 scd_12 H locs w_11 hP hD hS
        replace hP : va_P D vwCl [(k, .inr (11, [.ref k0, .ref k1, .ref k2, .int c3, .ref k4, .ref k5, .ref k6, .ref k7, .ref k8, .int c9, .ref ka, .ref kb, .int cc, .int scd_12, .int ce, .int f5_kf, .int f5_kg, .int ch, .int ci, .int cj, .int ck, .ref kl, .int cm, .int cn, .ref ko])), (k0, .inl (cI, 1201, .inl c0))] H := hP
        replace hD : va_D A [(k, .inr (11, [.ref k0, .ref k1, .ref k2, .int c3, .ref k4, .ref k5, .ref k6, .ref k7, .ref k8, .int c9, .ref ka, .ref kb, .int cc, .int scd_12, .int ce, .int f5_kf, .int f5_kg, .int ch, .int ci, .int cj, .int ck, .ref kl, .int cm, .int cn, .ref ko])), (k0, .inl (cI, 1201, .inl c0))] := hD
        have lo_scd_12 := k_lo scd_12
        have hi_scd_12 := k_hi scd_12
        rcases w_11 with ⟨hr_10, h_13, h_14⟩ | ⟨hr_10, h_15⟩
        · try simp only [zl_124] at h_13
          have h_13 : scd_12.toInt = f5_kd.toInt + 1 := h_13
          try simp only [zl_124] at h_14
          have h_14 : scd_12.toInt ≤ ce.toInt := h_14
          obtain rfl : r_10 = 1 := hr_10.trans (by decide)
          refine b_if_eq hx hb zl_1 (tgt := 36) dX11_whole_11 (by decide) (fun c_16 => by exfalso; omega) (fun c_16 => ?_)
          refine lv_aload_n hx hb dX11_whole_14 rfl (lv_at hl 1 rfl) ?_
          refine kJi (wr := []) (va_runV (As := []) (rest := []) ⟨hx, hb, hml, hown, hT⟩ (c_X11_bothG0 l D cI aK aV k k0 k1 k2 k4 k5 k6 k7 k8 ka kb kl ko H.size c3 c9 cc scd_12 ce f5_kf f5_kg ch ci cj ck cm cn c0 (by first | omega | decide | assumption | rfl) (by first | omega | decide | assumption | rfl) (by first | omega | decide | assumption | rfl) (by first | omega | decide | assumption | rfl) (by first | omega | decide | assumption | rfl) (by first | omega | decide | assumption | rfl)) (cwV 0 hT (gV_in mw_1319 mw_1316 mw_1318 mw_p4_4 mw_12) rfl rfl rfl (by decide +kernel) ⟨Nat.le_of_ble_eq_true rfl, Nat.le_of_ble_eq_true rfl⟩) (kRecvX (q0 := 0) (ci := 11) hK hP hD hN hXS hS hA rfl rfl [0, 1] rfl (by decide)) rfl rfl hl.1 rfl (lv_room (Nat.le_of_ble_eq_true rfl)) dX11_whole_15 ⟨Nat.le_of_ble_eq_true rfl, Nat.le_of_ble_eq_true rfl⟩) hP hD hS hA [0, 1] [] rfl rfl (by decide) (by decide) ?_
          clear hP hD hS
          intro r_17 u_22 H locs w_18 hP hD hS
          obtain ⟨scd_19, scf_20, scg_21⟩ := u_22
          replace hP : va_P D vwCl [(k, .inr (11, [.ref k0, .ref k1, .ref k2, .int c3, .ref k4, .ref k5, .ref k6, .ref k7, .ref k8, .int c9, .ref ka, .ref kb, .int cc, .int scd_19, .int ce, .int scf_20, .int scg_21, .int ch, .int ci, .int cj, .int ck, .ref kl, .int cm, .int cn, .ref ko])), (k0, .inl (cI, 1201, .inl c0))] H := hP
          replace hD : va_D A [(k, .inr (11, [.ref k0, .ref k1, .ref k2, .int c3, .ref k4, .ref k5, .ref k6, .ref k7, .ref k8, .int c9, .ref ka, .ref kb, .int cc, .int scd_19, .int ce, .int scf_20, .int scg_21, .int ch, .int ci, .int cj, .int ck, .ref kl, .int cm, .int cn, .ref ko])), (k0, .inl (cI, 1201, .inl c0))] := hD
          have lo_scd_19 := k_lo scd_19
          have hi_scd_19 := k_hi scd_19
          have lo_scg_21 := k_lo scg_21
          have hi_scg_21 := k_hi scg_21
          obtain ⟨h_23, h_24, h_25⟩ := w_18
          have h_23 : scd_12.toInt ≤ scd_19.toInt := h_23
          have h_24 : scd_19.toInt ≤ ce.toInt := h_24
          have h_25 : scg_21.toInt = 0 := h_25
          have lo_r_17 := k_lo r_17
          have hi_r_17 := k_hi r_17
          refine lv_istore_n (lv' := [(2, .int r_17), (1, .int l5_1), (0, .ref k)]) hx hb dX11_whole_18 rfl hl (by decide) rfl ?_
          clear hl
          intro ls hl
          refine lv_iload_n hx hb dX11_whole_19 rfl (lv_at hl 1 rfl) ?_
          refine b_if_ne hx hb rfl (tgt := 27) dX11_whole_20 (by decide) (fun c_26 => ?_) (fun c_26 => ?_)
          · refine lv_iconst (v := 1) hx hb dX11_whole_27 (by decide) ?_
            refine lv_goto (tgt := 32) hx hb dX11_whole_28 (by decide) ?_
            refine lv_istore_n (lv' := [(1, .int 1), (2, .int r_17), (0, .ref k)]) hx hb dX11_whole_32 rfl hl (by decide) rfl ?_
            clear hl
            intro ls hl
            refine lv_goto (tgt := 5) hx hb dX11_whole_33 (by decide) ?_
            exact ih5 1 scd_19 scf_20 scg_21 (by first | omega | (simp only [zl_1] <;> omega) | decide | assumption | rfl) (by first | omega | (simp only [zl_1] <;> omega) | decide | assumption | rfl) (by first | omega | (simp only [zl_1] <;> omega) | decide | assumption | rfl) (by first | omega | (simp only [zl_1] <;> omega) | decide | assumption | rfl) (by omega) ls _ _ (lv_sub hl [0, 2] rfl) (hP.sub [0, 1] rfl) (hD.sub [0, 1] (by decide) rfl) hS
          · refine lv_iload_n hx hb dX11_whole_23 rfl (lv_at hl 0 rfl) ?_
            refine b_if_eq hx hb rfl (tgt := 31) dX11_whole_24 (by decide) (fun c_27 => ?_) (fun c_27 => ?_)
            · refine lv_iconst (v := 0) hx hb dX11_whole_31 (by decide) ?_
              refine lv_istore_n (lv' := [(1, .int 0), (2, .int r_17), (0, .ref k)]) hx hb dX11_whole_32 rfl hl (by decide) rfl ?_
              clear hl
              intro ls hl
              refine lv_goto (tgt := 5) hx hb dX11_whole_33 (by decide) ?_
              exact ih5 0 scd_19 scf_20 scg_21 (by first | omega | (simp only [zl_0] <;> omega) | decide | assumption | rfl) (by first | omega | (simp only [zl_0] <;> omega) | decide | assumption | rfl) (by first | omega | (simp only [zl_0] <;> omega) | decide | assumption | rfl) (by first | omega | (simp only [zl_0] <;> omega) | decide | assumption | rfl) (by omega) ls _ _ (lv_sub hl [0, 2] rfl) (hP.sub [0, 1] rfl) (hD.sub [0, 1] (by decide) rfl) hS
            · refine lv_iconst (v := 1) hx hb dX11_whole_27 (by decide) ?_
              refine lv_goto (tgt := 32) hx hb dX11_whole_28 (by decide) ?_
              refine lv_istore_n (lv' := [(1, .int 1), (2, .int r_17), (0, .ref k)]) hx hb dX11_whole_32 rfl hl (by decide) rfl ?_
              clear hl
              intro ls hl
              refine lv_goto (tgt := 5) hx hb dX11_whole_33 (by decide) ?_
              exact ih5 1 scd_19 scf_20 scg_21 (by first | omega | (simp only [zl_1] <;> omega) | decide | assumption | rfl) (by first | omega | (simp only [zl_1] <;> omega) | decide | assumption | rfl) (by first | omega | (simp only [zl_1] <;> omega) | decide | assumption | rfl) (by first | omega | (simp only [zl_1] <;> omega) | decide | assumption | rfl) (by omega) ls _ _ (lv_sub hl [0, 2] rfl) (hP.sub [0, 1] rfl) (hD.sub [0, 1] (by decide) rfl) hS
        · try simp only [zl_124] at h_15
          have h_15 : scd_12.toInt = f5_kd.toInt := h_15
          obtain rfl : r_10 = 0 := hr_10.trans (by decide)
          refine b_if_eq hx hb zl_0 (tgt := 36) dX11_whole_11 (by decide) (fun c_28 => ?_) (fun c_28 => by exfalso; omega)
          refine lv_iload_n hx hb dX11_whole_36 rfl (lv_at hl 0 rfl) ?_
          exact hRet (scd_12, f5_kf, f5_kg) [0, 1] ⟨(by first | omega | decide | assumption | rfl | (dsimp only; first | omega)), (by first | omega | decide | assumption | rfl | (dsimp only; first | omega)), (by first | omega | decide | assumption | rfl | (dsimp only; first | omega))⟩ hP hD (by decide) rfl hS rfl dX11_whole_37
  exact hloop_5 _ r_1 scd_3 scf_4 scg_5 (by first | omega | decide | assumption | rfl) (by first | omega | decide | assumption | rfl) (by first | omega | decide | assumption | rfl) (by first | omega | decide | assumption | rfl) (Nat.lt_succ_self _) ls _ _ (lv_sub hl [0, 1] rfl) hP hD hS
theorem dX11_goesOver_0 : decode cX11_goesOver 0 = .ok (.aload_n 0, 1) := by decide +kernel
theorem dX11_goesOver_1 : decode cX11_goesOver 1 = .ok (.iload_n 1, 1) := by decide +kernel
theorem dX11_goesOver_2 : decode cX11_goesOver 2 = .ok (.putfield 155, 3) := by decide +kernel
theorem dX11_goesOver_5 : decode cX11_goesOver 5 = .ok (.aload_n 0, 1) := by decide +kernel
theorem dX11_goesOver_6 : decode cX11_goesOver 6 = .ok (.iload_n 2, 1) := by decide +kernel
theorem dX11_goesOver_7 : decode cX11_goesOver 7 = .ok (.putfield 145, 3) := by decide +kernel
theorem dX11_goesOver_10 : decode cX11_goesOver 10 = .ok (.aload_n 0, 1) := by decide +kernel
theorem dX11_goesOver_11 : decode cX11_goesOver 11 = .ok (.iload_n 3, 1) := by decide +kernel
theorem dX11_goesOver_12 : decode cX11_goesOver 12 = .ok (.putfield 142, 3) := by decide +kernel
theorem dX11_goesOver_15 : decode cX11_goesOver 15 = .ok (.aload_n 0, 1) := by decide +kernel
theorem dX11_goesOver_16 : decode cX11_goesOver 16 = .ok (.iconst 0, 1) := by decide +kernel
theorem dX11_goesOver_17 : decode cX11_goesOver 17 = .ok (.putfield 138, 3) := by decide +kernel
theorem dX11_goesOver_20 : decode cX11_goesOver 20 = .ok (.aload_n 0, 1) := by decide +kernel
theorem dX11_goesOver_21 : decode cX11_goesOver 21 = .ok (.iconst 0, 1) := by decide +kernel
theorem dX11_goesOver_22 : decode cX11_goesOver 22 = .ok (.putfield 148, 3) := by decide +kernel
theorem dX11_goesOver_25 : decode cX11_goesOver 25 = .ok (.aload_n 0, 1) := by decide +kernel
theorem dX11_goesOver_26 : decode cX11_goesOver 26 = .ok (.iconst 0, 1) := by decide +kernel
theorem dX11_goesOver_27 : decode cX11_goesOver 27 = .ok (.putfield 170, 3) := by decide +kernel
theorem dX11_goesOver_30 : decode cX11_goesOver 30 = .ok (.aload_n 0, 1) := by decide +kernel
theorem dX11_goesOver_31 : decode cX11_goesOver 31 = .ok (.iload 4, 2) := by decide +kernel
theorem dX11_goesOver_33 : decode cX11_goesOver 33 = .ok (.putfield 161, 3) := by decide +kernel
theorem dX11_goesOver_36 : decode cX11_goesOver 36 = .ok (.aload_n 0, 1) := by decide +kernel
theorem dX11_goesOver_37 : decode cX11_goesOver 37 = .ok (.iload 5, 2) := by decide +kernel
theorem dX11_goesOver_39 : decode cX11_goesOver 39 = .ok (.putfield 164, 3) := by decide +kernel
theorem dX11_goesOver_42 : decode cX11_goesOver 42 = .ok (.aload_n 0, 1) := by decide +kernel
theorem dX11_goesOver_43 : decode cX11_goesOver 43 = .ok (.iload 6, 2) := by decide +kernel
theorem dX11_goesOver_45 : decode cX11_goesOver 45 = .ok (.putfield 167, 3) := by decide +kernel
theorem dX11_goesOver_48 : decode cX11_goesOver 48 = .ok (.aload_n 0, 1) := by decide +kernel
theorem dX11_goesOver_49 : decode cX11_goesOver 49 = .ok (.invokevirtual 177, 3) := by decide +kernel
theorem dX11_goesOver_52 : decode cX11_goesOver 52 = .ok (.ireturn, 1) := by decide +kernel
set_option maxHeartbeats 4000000 in
set_option maxRecDepth 100000 in
theorem c_X11_goesOverG (l : Launch) (D : va_G) (cI : ClassId) (aK aV : Nat → Nat) (k k0 k1 k2 k4 k5 k6 k7 k8 ka kb kl ko : Nat) (sz : Nat) (c3 : Int32) (c9 : Int32) (cc : Int32) (cd : Int32) (ce : Int32) (cf : Int32) (cg : Int32) (ch : Int32) (ci : Int32) (cj : Int32) (ck : Int32) (cm : Int32) (cn : Int32) (c0 : Nat → Int32) (a0 : Int32) (a1 : Int32) (a2 : Int32) (a3 : Int32) (a4 : Int32) (a5 : Int32) (pre0 : 0 ≤ a1.toInt) (pre1 : a1.toInt ≤ 1151) (pre2 : 0 ≤ a2.toInt) (pre3 : a2.toInt ≤ 50) : Met l yX11_goesOver (gW yX11_goesOver cX11_goesOver 7 (some .int)) ({ frames := 31, cells := 0, slots := 0, locals := 702 } : Room) (kPreX D cI aK aV [.ref k, .int a0, .int a1, .int a2, .int a3, .int a4, .int a5] [(k, .inr (11, [.ref k0, .ref k1, .ref k2, .int c3, .ref k4, .ref k5, .ref k6, .ref k7, .ref k8, .int c9, .ref ka, .ref kb, .int cc, .int cd, .int ce, .int cf, .int cg, .int ch, .int ci, .int cj, .int ck, .ref kl, .int cm, .int cn, .ref ko])), (k0, .inl (cI, 1201, .inl c0))] sz) (va_Qi (fun (r : Int32) (u : Int32 × Int32 × Int32 × Int32 × Int32 × Int32 × Int32 × Int32 × Int32) => 0 ≤ u.2.1.toInt ∧ u.2.1.toInt ≤ 50) (fun u t => kWd D cI (va_A [(k, .inr (11, [.ref k0, .ref k1, .ref k2, .int c3, .ref k4, .ref k5, .ref k6, .ref k7, .ref k8, .int c9, .ref ka, .ref kb, .int cc, .int cd, .int ce, .int cf, .int cg, .int ch, .int ci, .int cj, .int ck, .ref kl, .int cm, .int cn, .ref ko])), (k0, .inl (cI, 1201, .inl c0))] sz) [(k, .inr (11, [.ref k0, .ref k1, .ref k2, .int c3, .ref k4, .ref k5, .ref k6, .ref k7, .ref k8, .int c9, .ref ka, .ref kb, .int u.1, .int u.2.1, .int u.2.2.1, .int u.2.2.2.1, .int u.2.2.2.2.1, .int u.2.2.2.2.2.1, .int u.2.2.2.2.2.2.1, .int u.2.2.2.2.2.2.2.1, .int u.2.2.2.2.2.2.2.2, .ref kl, .int cm, .int cn, .ref ko])), (k0, .inl (cI, 1201, .inl c0))] t) (va_A [(k, .inr (11, [.ref k0, .ref k1, .ref k2, .int c3, .ref k4, .ref k5, .ref k6, .ref k7, .ref k8, .int c9, .ref ka, .ref kb, .int cc, .int cd, .int ce, .int cf, .int cg, .int ch, .int ci, .int cj, .int ck, .ref kl, .int cm, .int cn, .ref ko])), (k0, .inl (cI, 1201, .inl c0))] sz)) 0 0 (va_A [(k, .inr (11, [.ref k0, .ref k1, .ref k2, .int c3, .ref k4, .ref k5, .ref k6, .ref k7, .ref k8, .int c9, .ref ka, .ref kb, .int cc, .int cd, .int ce, .int cf, .int cg, .int ch, .int ci, .int cj, .int ck, .ref kl, .int cm, .int cn, .ref ko])), (k0, .inl (cI, 1201, .inl c0))] sz) := by
  refine kMetIX (own := RX11) (by decide) rfl (Nat.le_of_ble_eq_true rfl) ?_
  intro p e s m args below meth c hx hb hT hown hname hml A Q hK hP hD hS hA hN hXS hRet ls hl
  have hl : lv_has ls 7 [(0, .ref k), (1, .int a0), (2, .int a1), (3, .int a2), (4, .int a3), (5, .int a4), (6, .int a5)] := hl
  have lo_a0 := k_lo a0
  have hi_a0 := k_hi a0
  have lo_a1 := k_lo a1
  have hi_a1 := k_hi a1
  have lo_a2 := k_lo a2
  have hi_a2 := k_hi a2
  have lo_a3 := k_lo a3
  have hi_a3 := k_hi a3
  have lo_a4 := k_lo a4
  have hi_a4 := k_hi a4
  have lo_a5 := k_lo a5
  have hi_a5 := k_hi a5
  have lo_ci := k_lo ci
  have hi_ci := k_hi ci
  refine lv_aload_n hx hb dX11_goesOver_0 rfl (lv_at hl 0 rfl) ?_
  refine lv_iload_n hx hb dX11_goesOver_1 rfl (lv_at hl 1 rfl) ?_
  refine va_put (D := D) (ci := 11) (v := .int a0) (ty := .int) (C := RX11) (T := TX11) (N := 25) hx hb hT giX11 tyX11 tyX11_ok nmX11 hown hK hP hD hS 0 rfl rfl 17 (by decide) (hT (Cond.fieldLink RX11 155 "DesertWireModel" "use" "I") mw_1173) (fun _ h9 => h9) rfl (by decide +kernel) rfl rfl (Nat.le_of_ble_eq_true rfl) dX11_goesOver_2 ?_
  clear hP hD hS
  intro H locs hP hD hS
  replace hP : va_P D vwCl [(k, .inr (11, [.ref k0, .ref k1, .ref k2, .int c3, .ref k4, .ref k5, .ref k6, .ref k7, .ref k8, .int c9, .ref ka, .ref kb, .int cc, .int cd, .int ce, .int cf, .int cg, .int a0, .int ci, .int cj, .int ck, .ref kl, .int cm, .int cn, .ref ko])), (k0, .inl (cI, 1201, .inl c0))] H := hP
  replace hD : va_D A [(k, .inr (11, [.ref k0, .ref k1, .ref k2, .int c3, .ref k4, .ref k5, .ref k6, .ref k7, .ref k8, .int c9, .ref ka, .ref kb, .int cc, .int cd, .int ce, .int cf, .int cg, .int a0, .int ci, .int cj, .int ck, .ref kl, .int cm, .int cn, .ref ko])), (k0, .inl (cI, 1201, .inl c0))] := hD
  refine lv_aload_n hx hb dX11_goesOver_5 rfl (lv_at hl 0 rfl) ?_
  refine lv_iload_n hx hb dX11_goesOver_6 rfl (lv_at hl 2 rfl) ?_
  refine va_put (D := D) (ci := 11) (v := .int a1) (ty := .int) (C := RX11) (T := TX11) (N := 25) hx hb hT giX11 tyX11 tyX11_ok nmX11 hown hK hP hD hS 0 rfl rfl 12 (by decide) (hT (Cond.fieldLink RX11 145 "DesertWireModel" "from" "I") mw_1168) (fun _ h9 => h9) rfl (by decide +kernel) rfl rfl (Nat.le_of_ble_eq_true rfl) dX11_goesOver_7 ?_
  clear hP hD hS
  intro H locs hP hD hS
  replace hP : va_P D vwCl [(k, .inr (11, [.ref k0, .ref k1, .ref k2, .int c3, .ref k4, .ref k5, .ref k6, .ref k7, .ref k8, .int c9, .ref ka, .ref kb, .int a1, .int cd, .int ce, .int cf, .int cg, .int a0, .int ci, .int cj, .int ck, .ref kl, .int cm, .int cn, .ref ko])), (k0, .inl (cI, 1201, .inl c0))] H := hP
  replace hD : va_D A [(k, .inr (11, [.ref k0, .ref k1, .ref k2, .int c3, .ref k4, .ref k5, .ref k6, .ref k7, .ref k8, .int c9, .ref ka, .ref kb, .int a1, .int cd, .int ce, .int cf, .int cg, .int a0, .int ci, .int cj, .int ck, .ref kl, .int cm, .int cn, .ref ko])), (k0, .inl (cI, 1201, .inl c0))] := hD
  refine lv_aload_n hx hb dX11_goesOver_10 rfl (lv_at hl 0 rfl) ?_
  refine lv_iload_n hx hb dX11_goesOver_11 rfl (lv_at hl 3 rfl) ?_
  refine va_put (D := D) (ci := 11) (v := .int a2) (ty := .int) (C := RX11) (T := TX11) (N := 25) hx hb hT giX11 tyX11 tyX11_ok nmX11 hown hK hP hD hS 0 rfl rfl 14 (by decide) (hT (Cond.fieldLink RX11 142 "DesertWireModel" "end" "I") mw_1170) (fun _ h9 => h9) rfl (by decide +kernel) rfl rfl (Nat.le_of_ble_eq_true rfl) dX11_goesOver_12 ?_
  clear hP hD hS
  intro H locs hP hD hS
  replace hP : va_P D vwCl [(k, .inr (11, [.ref k0, .ref k1, .ref k2, .int c3, .ref k4, .ref k5, .ref k6, .ref k7, .ref k8, .int c9, .ref ka, .ref kb, .int a1, .int cd, .int a2, .int cf, .int cg, .int a0, .int ci, .int cj, .int ck, .ref kl, .int cm, .int cn, .ref ko])), (k0, .inl (cI, 1201, .inl c0))] H := hP
  replace hD : va_D A [(k, .inr (11, [.ref k0, .ref k1, .ref k2, .int c3, .ref k4, .ref k5, .ref k6, .ref k7, .ref k8, .int c9, .ref ka, .ref kb, .int a1, .int cd, .int a2, .int cf, .int cg, .int a0, .int ci, .int cj, .int ck, .ref kl, .int cm, .int cn, .ref ko])), (k0, .inl (cI, 1201, .inl c0))] := hD
  refine lv_aload_n hx hb dX11_goesOver_15 rfl (lv_at hl 0 rfl) ?_
  refine lv_iconst (v := 0) hx hb dX11_goesOver_16 (by decide) ?_
  refine va_put (D := D) (ci := 11) (v := .int 0) (ty := .int) (C := RX11) (T := TX11) (N := 25) hx hb hT giX11 tyX11 tyX11_ok nmX11 hown hK hP hD hS 0 rfl rfl 13 (by decide) (hT (Cond.fieldLink RX11 138 "DesertWireModel" "here" "I") mw_1169) (fun _ h9 => h9) rfl (by decide +kernel) rfl rfl (Nat.le_of_ble_eq_true rfl) dX11_goesOver_17 ?_
  clear hP hD hS
  intro H locs hP hD hS
  replace hP : va_P D vwCl [(k, .inr (11, [.ref k0, .ref k1, .ref k2, .int c3, .ref k4, .ref k5, .ref k6, .ref k7, .ref k8, .int c9, .ref ka, .ref kb, .int a1, .int 0, .int a2, .int cf, .int cg, .int a0, .int ci, .int cj, .int ck, .ref kl, .int cm, .int cn, .ref ko])), (k0, .inl (cI, 1201, .inl c0))] H := hP
  replace hD : va_D A [(k, .inr (11, [.ref k0, .ref k1, .ref k2, .int c3, .ref k4, .ref k5, .ref k6, .ref k7, .ref k8, .int c9, .ref ka, .ref kb, .int a1, .int 0, .int a2, .int cf, .int cg, .int a0, .int ci, .int cj, .int ck, .ref kl, .int cm, .int cn, .ref ko])), (k0, .inl (cI, 1201, .inl c0))] := hD
  refine lv_aload_n hx hb dX11_goesOver_20 rfl (lv_at hl 0 rfl) ?_
  refine lv_iconst (v := 0) hx hb dX11_goesOver_21 (by decide) ?_
  refine va_put (D := D) (ci := 11) (v := .int 0) (ty := .boolean) (C := RX11) (T := TX11) (N := 25) hx hb hT giX11 tyX11 tyX11_ok nmX11 hown hK hP hD hS 0 rfl rfl 15 (by decide) (hT (Cond.fieldLink RX11 148 "DesertWireModel" "isWrong" "Z") mw_1171) (fun _ h9 => h9) rfl (by decide +kernel) rfl rfl (Nat.le_of_ble_eq_true rfl) dX11_goesOver_22 ?_
  clear hP hD hS
  intro H locs hP hD hS
  replace hP : va_P D vwCl [(k, .inr (11, [.ref k0, .ref k1, .ref k2, .int c3, .ref k4, .ref k5, .ref k6, .ref k7, .ref k8, .int c9, .ref ka, .ref kb, .int a1, .int 0, .int a2, .int 0, .int cg, .int a0, .int ci, .int cj, .int ck, .ref kl, .int cm, .int cn, .ref ko])), (k0, .inl (cI, 1201, .inl c0))] H := hP
  replace hD : va_D A [(k, .inr (11, [.ref k0, .ref k1, .ref k2, .int c3, .ref k4, .ref k5, .ref k6, .ref k7, .ref k8, .int c9, .ref ka, .ref kb, .int a1, .int 0, .int a2, .int 0, .int cg, .int a0, .int ci, .int cj, .int ck, .ref kl, .int cm, .int cn, .ref ko])), (k0, .inl (cI, 1201, .inl c0))] := hD
  refine lv_aload_n hx hb dX11_goesOver_25 rfl (lv_at hl 0 rfl) ?_
  refine lv_iconst (v := 0) hx hb dX11_goesOver_26 (by decide) ?_
  refine va_put (D := D) (ci := 11) (v := .int 0) (ty := .int) (C := RX11) (T := TX11) (N := 25) hx hb hT giX11 tyX11 tyX11_ok nmX11 hown hK hP hD hS 0 rfl rfl 16 (by decide) (hT (Cond.fieldLink RX11 170 "DesertWireModel" "open" "I") mw_1172) (fun _ h9 => h9) rfl (by decide +kernel) rfl rfl (Nat.le_of_ble_eq_true rfl) dX11_goesOver_27 ?_
  clear hP hD hS
  intro H locs hP hD hS
  replace hP : va_P D vwCl [(k, .inr (11, [.ref k0, .ref k1, .ref k2, .int c3, .ref k4, .ref k5, .ref k6, .ref k7, .ref k8, .int c9, .ref ka, .ref kb, .int a1, .int 0, .int a2, .int 0, .int 0, .int a0, .int ci, .int cj, .int ck, .ref kl, .int cm, .int cn, .ref ko])), (k0, .inl (cI, 1201, .inl c0))] H := hP
  replace hD : va_D A [(k, .inr (11, [.ref k0, .ref k1, .ref k2, .int c3, .ref k4, .ref k5, .ref k6, .ref k7, .ref k8, .int c9, .ref ka, .ref kb, .int a1, .int 0, .int a2, .int 0, .int 0, .int a0, .int ci, .int cj, .int ck, .ref kl, .int cm, .int cn, .ref ko])), (k0, .inl (cI, 1201, .inl c0))] := hD
  refine lv_aload_n hx hb dX11_goesOver_30 rfl (lv_at hl 0 rfl) ?_
  refine lv_iload hx hb dX11_goesOver_31 (lv_at hl 4 rfl) ?_
  refine va_put (D := D) (ci := 11) (v := .int a3) (ty := .int) (C := RX11) (T := TX11) (N := 25) hx hb hT giX11 tyX11 tyX11_ok nmX11 hown hK hP hD hS 0 rfl rfl 18 (by decide) (hT (Cond.fieldLink RX11 161 "DesertWireModel" "nameA" "I") mw_1174) (fun _ h9 => h9) rfl (by decide +kernel) rfl rfl (Nat.le_of_ble_eq_true rfl) dX11_goesOver_33 ?_
  clear hP hD hS
  intro H locs hP hD hS
  replace hP : va_P D vwCl [(k, .inr (11, [.ref k0, .ref k1, .ref k2, .int c3, .ref k4, .ref k5, .ref k6, .ref k7, .ref k8, .int c9, .ref ka, .ref kb, .int a1, .int 0, .int a2, .int 0, .int 0, .int a0, .int a3, .int cj, .int ck, .ref kl, .int cm, .int cn, .ref ko])), (k0, .inl (cI, 1201, .inl c0))] H := hP
  replace hD : va_D A [(k, .inr (11, [.ref k0, .ref k1, .ref k2, .int c3, .ref k4, .ref k5, .ref k6, .ref k7, .ref k8, .int c9, .ref ka, .ref kb, .int a1, .int 0, .int a2, .int 0, .int 0, .int a0, .int a3, .int cj, .int ck, .ref kl, .int cm, .int cn, .ref ko])), (k0, .inl (cI, 1201, .inl c0))] := hD
  refine lv_aload_n hx hb dX11_goesOver_36 rfl (lv_at hl 0 rfl) ?_
  refine lv_iload hx hb dX11_goesOver_37 (lv_at hl 5 rfl) ?_
  refine va_put (D := D) (ci := 11) (v := .int a4) (ty := .int) (C := RX11) (T := TX11) (N := 25) hx hb hT giX11 tyX11 tyX11_ok nmX11 hown hK hP hD hS 0 rfl rfl 19 (by decide) (hT (Cond.fieldLink RX11 164 "DesertWireModel" "nameB" "I") mw_1175) (fun _ h9 => h9) rfl (by decide +kernel) rfl rfl (Nat.le_of_ble_eq_true rfl) dX11_goesOver_39 ?_
  clear hP hD hS
  intro H locs hP hD hS
  replace hP : va_P D vwCl [(k, .inr (11, [.ref k0, .ref k1, .ref k2, .int c3, .ref k4, .ref k5, .ref k6, .ref k7, .ref k8, .int c9, .ref ka, .ref kb, .int a1, .int 0, .int a2, .int 0, .int 0, .int a0, .int a3, .int a4, .int ck, .ref kl, .int cm, .int cn, .ref ko])), (k0, .inl (cI, 1201, .inl c0))] H := hP
  replace hD : va_D A [(k, .inr (11, [.ref k0, .ref k1, .ref k2, .int c3, .ref k4, .ref k5, .ref k6, .ref k7, .ref k8, .int c9, .ref ka, .ref kb, .int a1, .int 0, .int a2, .int 0, .int 0, .int a0, .int a3, .int a4, .int ck, .ref kl, .int cm, .int cn, .ref ko])), (k0, .inl (cI, 1201, .inl c0))] := hD
  refine lv_aload_n hx hb dX11_goesOver_42 rfl (lv_at hl 0 rfl) ?_
  refine lv_iload hx hb dX11_goesOver_43 (lv_at hl 6 rfl) ?_
  refine va_put (D := D) (ci := 11) (v := .int a5) (ty := .int) (C := RX11) (T := TX11) (N := 25) hx hb hT giX11 tyX11 tyX11_ok nmX11 hown hK hP hD hS 0 rfl rfl 20 (by decide) (hT (Cond.fieldLink RX11 167 "DesertWireModel" "nameC" "I") mw_1176) (fun _ h9 => h9) rfl (by decide +kernel) rfl rfl (Nat.le_of_ble_eq_true rfl) dX11_goesOver_45 ?_
  clear hP hD hS
  intro H locs hP hD hS
  replace hP : va_P D vwCl [(k, .inr (11, [.ref k0, .ref k1, .ref k2, .int c3, .ref k4, .ref k5, .ref k6, .ref k7, .ref k8, .int c9, .ref ka, .ref kb, .int a1, .int 0, .int a2, .int 0, .int 0, .int a0, .int a3, .int a4, .int a5, .ref kl, .int cm, .int cn, .ref ko])), (k0, .inl (cI, 1201, .inl c0))] H := hP
  replace hD : va_D A [(k, .inr (11, [.ref k0, .ref k1, .ref k2, .int c3, .ref k4, .ref k5, .ref k6, .ref k7, .ref k8, .int c9, .ref ka, .ref kb, .int a1, .int 0, .int a2, .int 0, .int 0, .int a0, .int a3, .int a4, .int a5, .ref kl, .int cm, .int cn, .ref ko])), (k0, .inl (cI, 1201, .inl c0))] := hD
  refine lv_aload_n hx hb dX11_goesOver_48 rfl (lv_at hl 0 rfl) ?_
  refine kJi (wr := []) (va_runV (As := []) (rest := []) ⟨hx, hb, hml, hown, hT⟩ (c_X11_wholeG0 l D cI aK aV k k0 k1 k2 k4 k5 k6 k7 k8 ka kb kl ko H.size c3 c9 a1 0 a2 0 0 a0 a3 a4 a5 cm cn c0 (by first | omega | (simp only [zl_0] <;> omega) | decide | assumption | rfl) (by first | omega | (simp only [zl_0] <;> omega) | decide | assumption | rfl) (by first | omega | (simp only [zl_0] <;> omega) | decide | assumption | rfl) (by first | omega | (simp only [zl_0] <;> omega) | decide | assumption | rfl) (by first | omega | (simp only [zl_0] <;> omega) | decide | assumption | rfl) (by first | omega | (simp only [zl_0] <;> omega) | decide | assumption | rfl)) (cwV 0 hT (gV_in mw_1315 mw_1312 mw_1314 mw_p4_3 mw_12) rfl rfl rfl (by decide +kernel) ⟨Nat.le_of_ble_eq_true rfl, Nat.le_of_ble_eq_true rfl⟩) (kRecvX (q0 := 0) (ci := 11) hK hP hD hN hXS hS hA rfl rfl [0, 1] rfl (by decide)) rfl rfl hl.1 rfl (lv_room (Nat.le_of_ble_eq_true rfl)) dX11_goesOver_49 ⟨Nat.le_of_ble_eq_true rfl, Nat.le_of_ble_eq_true rfl⟩) hP hD hS hA [0, 1] [] rfl rfl (by decide) (by decide) ?_
  clear hP hD hS
  intro r_1 u_6 H locs w_2 hP hD hS
  obtain ⟨scd_3, scf_4, scg_5⟩ := u_6
  replace hP : va_P D vwCl [(k, .inr (11, [.ref k0, .ref k1, .ref k2, .int c3, .ref k4, .ref k5, .ref k6, .ref k7, .ref k8, .int c9, .ref ka, .ref kb, .int a1, .int scd_3, .int a2, .int scf_4, .int scg_5, .int a0, .int a3, .int a4, .int a5, .ref kl, .int cm, .int cn, .ref ko])), (k0, .inl (cI, 1201, .inl c0))] H := hP
  replace hD : va_D A [(k, .inr (11, [.ref k0, .ref k1, .ref k2, .int c3, .ref k4, .ref k5, .ref k6, .ref k7, .ref k8, .int c9, .ref ka, .ref kb, .int a1, .int scd_3, .int a2, .int scf_4, .int scg_5, .int a0, .int a3, .int a4, .int a5, .ref kl, .int cm, .int cn, .ref ko])), (k0, .inl (cI, 1201, .inl c0))] := hD
  have lo_scd_3 := k_lo scd_3
  have hi_scd_3 := k_hi scd_3
  have lo_scg_5 := k_lo scg_5
  have hi_scg_5 := k_hi scg_5
  obtain ⟨h_7, h_8, h_9⟩ := w_2
  try simp only [zl_0] at h_7
  have h_7 : 0 ≤ scd_3.toInt := h_7
  try simp only [zl_0] at h_8
  have h_8 : scd_3.toInt ≤ a2.toInt := h_8
  try simp only [zl_0] at h_9
  have h_9 : scg_5.toInt = 0 := h_9
  have lo_r_1 := k_lo r_1
  have hi_r_1 := k_hi r_1
  exact hRet (a1, scd_3, a2, scf_4, scg_5, a0, a3, a4, a5) [0, 1] ⟨(by first | omega | decide | assumption | rfl | (dsimp only; first | omega)), (by first | omega | decide | assumption | rfl | (dsimp only; first | omega))⟩ hP hD (by decide) rfl hS rfl dX11_goesOver_52
