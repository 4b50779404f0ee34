theorem bn_cX7_bodyFrom_0 : BN cX7_bodyFrom 0 0xad058459d005400808851f0b002b90eab45e050b0a402b305805342f0285852015985002a35f8a402b3028583a014e0142c051b98438690407468015181c221e1f8107c1b := by
  unfold BN; decide +kernel
theorem dX7_bodyFrom_0 : decode cX7_bodyFrom 0 = .ok (.iload_n 0, 1) := dR0 (k := 0) (i := 0) bn_cX7_bodyFrom_0 dop_26 (by decide +kernel)
theorem dX7_bodyFrom_1 : decode cX7_bodyFrom 1 = .ok (.istore_n 2, 1) := dR0 (k := 0) (i := 1) bn_cX7_bodyFrom_0 dop_61 (by decide +kernel)
theorem dX7_bodyFrom_2 : decode cX7_bodyFrom 2 = .ok (.iconst 0, 1) := dR0 (k := 0) (i := 2) bn_cX7_bodyFrom_0 dop_3 (by decide +kernel)
theorem dX7_bodyFrom_3 : decode cX7_bodyFrom 3 = .ok (.istore_n 3, 1) := dR0 (k := 0) (i := 3) bn_cX7_bodyFrom_0 dop_62 (by decide +kernel)
theorem dX7_bodyFrom_4 : decode cX7_bodyFrom 4 = .ok (.iload_n 3, 1) := dR0 (k := 0) (i := 4) bn_cX7_bodyFrom_0 dop_29 (by decide +kernel)
theorem dX7_bodyFrom_5 : decode cX7_bodyFrom 5 = .ok (.bipush 6, 2) := dR1s (f := Instr.bipush) (k := 0) (i := 5) bn_cX7_bodyFrom_0 dop_16 6 6 (by decide +kernel)
theorem dX7_bodyFrom_7 : decode cX7_bodyFrom 7 = .ok (.if_icmp .ge 51, 3) := dR2s (f := Instr.if_icmp .ge) (k := 0) (i := 7) bn_cX7_bodyFrom_0 dop_162 51 51 (by decide +kernel)
theorem dX7_bodyFrom_10 : decode cX7_bodyFrom 10 = .ok (.iload_n 2, 1) := dR0 (k := 0) (i := 10) bn_cX7_bodyFrom_0 dop_28 (by decide +kernel)
theorem dX7_bodyFrom_11 : decode cX7_bodyFrom 11 = .ok (.iconst 4, 1) := dR0 (k := 0) (i := 11) bn_cX7_bodyFrom_0 dop_7 (by decide +kernel)
theorem dX7_bodyFrom_12 : decode cX7_bodyFrom 12 = .ok (.imul, 1) := dR0 (k := 0) (i := 12) bn_cX7_bodyFrom_0 dop_104 (by decide +kernel)
theorem dX7_bodyFrom_13 : decode cX7_bodyFrom 13 = .ok (.iload_n 1, 1) := dR0 (k := 0) (i := 13) bn_cX7_bodyFrom_0 dop_27 (by decide +kernel)
theorem dX7_bodyFrom_14 : decode cX7_bodyFrom 14 = .ok (.iadd, 1) := dR0 (k := 0) (i := 14) bn_cX7_bodyFrom_0 dop_96 (by decide +kernel)
theorem dX7_bodyFrom_15 : decode cX7_bodyFrom 15 = .ok (.istore 4, 2) := dR1 (f := Instr.istore) (k := 0) (i := 15) bn_cX7_bodyFrom_0 dop_54 4 (by decide +kernel)
theorem dX7_bodyFrom_17 : decode cX7_bodyFrom 17 = .ok (.iload 4, 2) := dR1 (f := Instr.iload) (k := 0) (i := 17) bn_cX7_bodyFrom_0 dop_21 4 (by decide +kernel)
theorem dX7_bodyFrom_19 : decode cX7_bodyFrom 19 = .ok (.ifCond .lt 28, 3) := dR2s (f := Instr.ifCond .lt) (k := 0) (i := 19) bn_cX7_bodyFrom_0 dop_155 28 28 (by decide +kernel)
theorem dX7_bodyFrom_22 : decode cX7_bodyFrom 22 = .ok (.iload 4, 2) := dR1 (f := Instr.iload) (k := 0) (i := 22) bn_cX7_bodyFrom_0 dop_21 4 (by decide +kernel)
theorem dX7_bodyFrom_24 : decode cX7_bodyFrom 24 = .ok (.getstatic 40, 3) := dR2 (f := Instr.getstatic) (k := 0) (i := 24) bn_cX7_bodyFrom_0 dop_178 40 (by decide +kernel)
theorem dX7_bodyFrom_27 : decode cX7_bodyFrom 27 = .ok (.arraylength, 1) := dR0 (k := 0) (i := 27) bn_cX7_bodyFrom_0 dop_190 (by decide +kernel)
theorem dX7_bodyFrom_28 : decode cX7_bodyFrom 28 = .ok (.if_icmp .ge 19, 3) := dR2s (f := Instr.if_icmp .ge) (k := 0) (i := 28) bn_cX7_bodyFrom_0 dop_162 19 19 (by decide +kernel)
theorem dX7_bodyFrom_31 : decode cX7_bodyFrom 31 = .ok (.getstatic 40, 3) := dR2 (f := Instr.getstatic) (k := 0) (i := 31) bn_cX7_bodyFrom_0 dop_178 40 (by decide +kernel)
theorem dX7_bodyFrom_34 : decode cX7_bodyFrom 34 = .ok (.iload 4, 2) := dR1 (f := Instr.iload) (k := 0) (i := 34) bn_cX7_bodyFrom_0 dop_21 4 (by decide +kernel)
theorem dX7_bodyFrom_36 : decode cX7_bodyFrom 36 = .ok (.iaload, 1) := dR0 (k := 0) (i := 36) bn_cX7_bodyFrom_0 dop_46 (by decide +kernel)
theorem dX7_bodyFrom_37 : decode cX7_bodyFrom 37 = .ok (.ifCond .eq 10, 3) := dR2s (f := Instr.ifCond .eq) (k := 0) (i := 37) bn_cX7_bodyFrom_0 dop_153 10 10 (by decide +kernel)
theorem dX7_bodyFrom_40 : decode cX7_bodyFrom 40 = .ok (.getstatic 40, 3) := dR2 (f := Instr.getstatic) (k := 0) (i := 40) bn_cX7_bodyFrom_0 dop_178 40 (by decide +kernel)
theorem dX7_bodyFrom_43 : decode cX7_bodyFrom 43 = .ok (.iload 4, 2) := dR1 (f := Instr.iload) (k := 0) (i := 43) bn_cX7_bodyFrom_0 dop_21 4 (by decide +kernel)
theorem dX7_bodyFrom_45 : decode cX7_bodyFrom 45 = .ok (.iaload, 1) := dR0 (k := 0) (i := 45) bn_cX7_bodyFrom_0 dop_46 (by decide +kernel)
theorem dX7_bodyFrom_46 : decode cX7_bodyFrom 46 = .ok (.ireturn, 1) := dR0 (k := 0) (i := 46) bn_cX7_bodyFrom_0 dop_172 (by decide +kernel)
theorem dX7_bodyFrom_47 : decode cX7_bodyFrom 47 = .ok (.iload_n 2, 1) := dR0 (k := 0) (i := 47) bn_cX7_bodyFrom_0 dop_28 (by decide +kernel)
theorem dX7_bodyFrom_48 : decode cX7_bodyFrom 48 = .ok (.invokestatic 43, 3) := dR2 (f := Instr.invokestatic) (k := 0) (i := 48) bn_cX7_bodyFrom_0 dop_184 43 (by decide +kernel)
theorem dX7_bodyFrom_51 : decode cX7_bodyFrom 51 = .ok (.istore_n 2, 1) := dR0 (k := 0) (i := 51) bn_cX7_bodyFrom_0 dop_61 (by decide +kernel)
theorem dX7_bodyFrom_52 : decode cX7_bodyFrom 52 = .ok (.iinc 3 1, 3) := dRii (f := Instr.iinc) (k := 0) (i := 52) bn_cX7_bodyFrom_0 dop_132 3 1 1 (by decide +kernel)
theorem dX7_bodyFrom_55 : decode cX7_bodyFrom 55 = .ok (.goto (-51), 3) := dR2s (f := Instr.goto) (k := 0) (i := 55) bn_cX7_bodyFrom_0 dop_167 65485 (-51) (by decide +kernel)
theorem dX7_bodyFrom_58 : decode cX7_bodyFrom 58 = .ok (.bipush 10, 2) := dR1s (f := Instr.bipush) (k := 0) (i := 58) bn_cX7_bodyFrom_0 dop_16 10 10 (by decide +kernel)
theorem dX7_bodyFrom_60 : decode cX7_bodyFrom 60 = .ok (.ireturn, 1) := dR0 (k := 0) (i := 60) bn_cX7_bodyFrom_0 dop_172 (by decide +kernel)
set_option maxHeartbeats 4000000 in
set_option maxRecDepth 100000 in
theorem c_X7_bodyFromG (l : Launch) (D : va_G) (cI : ClassId) (aK aV : Nat → Nat) (sz : Nat) (a0 : Int32) (a1 : Int32) : Met l yX7_bodyFrom (gW yX7_bodyFrom cX7_bodyFrom 5 (some .int)) ({ frames := 1, cells := 0, slots := 0, locals := 20 } : Room) (kPreX D cI aK aV [.int a0, .int a1] [] sz) (va_Qi (fun (r : Int32) (u : Unit) => (r.toInt = 10 ∨ r.toInt = 11 ∨ r.toInt = 12 ∨ r.toInt = 13 ∨ r.toInt = 20 ∨ r.toInt = 21 ∨ r.toInt = 30 ∨ r.toInt = 31 ∨ r.toInt = 40 ∨ r.toInt = 41 ∨ r.toInt = 50 ∨ r.toInt = 51 ∨ r.toInt = 60 ∨ r.toInt = 61)) (fun u t => kWd D cI (va_A [] sz) [] t) (va_A [] sz)) 0 0 (va_A [] sz) := by
  refine kMetIX (own := RX7) (by decide +kernel) rfl (Nat.le_of_ble_eq_true rfl) ?_
  intro p e s m args below meth c hx hb hT hown hname hml A Q hK hP hD hS hA hN hXS hRet ls hl
  have hl : lv_has ls 5 [(0, .int a0), (1, .int a1)] := hl
  have lo_a0 := k_lo a0
  have hi_a0 := k_hi a0
  have lo_a1 := k_lo a1
  have hi_a1 := k_hi a1
  obtain ⟨hXS1, ⟨tB, hZB, hTB⟩, hXS2⟩ := id hXS
  refine lv_iload_n hx hb dX7_bodyFrom_0 rfl (lv_at hl 0 rfl) ?_
  refine lv_istore_n (lv' := [(2, .int a0), (0, .int a0), (1, .int a1)]) hx hb dX7_bodyFrom_1 rfl hl (by decide +kernel) rfl ?_
  clear hl
  intro ls hl
  refine lv_iconst (v := 0) hx hb dX7_bodyFrom_2 (by decide +kernel) ?_
  refine lv_istore_n (lv' := [(3, .int 0), (2, .int a0), (0, .int a0), (1, .int a1)]) hx hb dX7_bodyFrom_3 rfl hl (by decide +kernel) rfl ?_
  clear hl
  intro ls hl
  have hloop_4 : ∀ (fu_ : Nat) (l4_2 : Int32) (l4_3 : Int32), 0 ≤ l4_3.toInt → (6 - l4_3.toInt).toNat < fu_ → ∀ (ls : Array Slot) (H : Heap) (locs : List Loc), lv_has ls 5 [(3, .int l4_3), (2, .int l4_2), (0, .int a0), (1, .int a1)] → va_P D vwCl [] H → va_D A [] → va_S A s.heap H locs → W p l e ({ frames := 1, cells := 0, slots := 0, locals := 20 } : Room) s m args below meth c H locs 0 0 Q (F0 m 4 ls []) := by
    intro fu_; induction fu_ with
    | zero => intro l4_2 l4_3 i4_0 hm; exact absurd hm (by omega)
    | succ fu_ ih4 =>
        intro l4_2 l4_3 i4_0 hm ls H locs hl hP hD hS
        have lo_l4_2 := k_lo l4_2
        have hi_l4_2 := k_hi l4_2
        have lo_l4_3 := k_lo l4_3
        have hi_l4_3 := k_hi l4_3
        refine lv_iload_n hx hb dX7_bodyFrom_4 rfl (lv_at hl 0 rfl) ?_
        refine lv_bipush (v := 6) hx hb dX7_bodyFrom_5 (by decide +kernel) ?_
        refine b_icmp_ge hx hb rfl zl_6 (tgt := 58) dX7_bodyFrom_7 (by decide +kernel) (fun c_1 => ?_) (fun c_1 => ?_)
        · refine lv_bipush (v := 10) hx hb dX7_bodyFrom_58 (by decide +kernel) ?_
          exact hRet () [] (by rw [zl_10]; omega) hP hD (by decide +kernel) rfl hS rfl dX7_bodyFrom_60
        · refine lv_iload_n hx hb dX7_bodyFrom_10 rfl (lv_at hl 1 rfl) ?_
          refine lv_iconst (v := 4) hx hb dX7_bodyFrom_11 (by decide +kernel) ?_
          refine lv_imul hx hb dX7_bodyFrom_12 ?_
          refine lv_topi (fun v_2 ev_2 => ?_)
          have lo_v_2 := k_lo v_2
          have hi_v_2 := k_hi v_2
          refine lv_iload_n hx hb dX7_bodyFrom_13 rfl (lv_at hl 3 rfl) ?_
          refine lv_iadd hx hb dX7_bodyFrom_14 ?_
          refine lv_topi (fun v_3 ev_3 => ?_)
          have lo_v_3 := k_lo v_3
          have hi_v_3 := k_hi v_3
          refine lv_istore (lv' := [(4, .int v_3), (3, .int l4_3), (2, .int l4_2), (0, .int a0), (1, .int a1)]) hx hb dX7_bodyFrom_15 hl (by decide +kernel) rfl ?_
          clear hl
          intro ls hl
          refine lv_iload hx hb dX7_bodyFrom_17 (lv_at hl 0 rfl) ?_
          refine b_if_lt hx hb rfl (tgt := 47) dX7_bodyFrom_19 (by decide +kernel) (fun c_4 => ?_) (fun c_4 => ?_)
          · refine lv_iload_n hx hb dX7_bodyFrom_47 rfl (lv_at hl 2 rfl) ?_
            refine kJi (wr := []) (va_runSN (As := [.int l4_2]) (rest := []) ⟨hx, hb, hml, hown, hT⟩ (c_X10_kindAboveG l D cI aK aV H.size l4_2) ⟨va_cnB 1 hT (gW_in mw_390) rfl rfl rfl (hN _ mw_1060) (hT _ mw_1) (by decide +kernel) ⟨Nat.le_of_ble_eq_true rfl, Nat.le_of_ble_eq_true rfl⟩, hT _ mw_389, trivial⟩ (kStatX hK hP hD hN hXS hS hA [] rfl (by decide +kernel)) rfl rfl hl.1 rfl (lv_room (Nat.le_of_ble_eq_true rfl)) dX7_bodyFrom_48 ⟨Nat.le_of_ble_eq_true rfl, Nat.le_of_ble_eq_true rfl⟩) hP hD hS hA [] [] rfl rfl (by decide +kernel) (by decide +kernel) ?_
            clear hP hD hS
            intro r_5 u_7 H locs w_6 hP hD hS
            replace hP : va_P D vwCl [] H := hP
            replace hD : va_D A [] := hD
            have lo_r_5 := k_lo r_5
            have hi_r_5 := k_hi r_5
            refine lv_istore_n (lv' := [(2, .int r_5), (4, .int v_3), (3, .int l4_3), (0, .int a0), (1, .int a1)]) hx hb dX7_bodyFrom_51 rfl hl (by decide +kernel) rfl ?_
            clear hl
            intro ls hl
            obtain ⟨v_8, ev_8⟩ : ∃ y : Int32, y = l4_3 + 1 := ⟨_, rfl⟩
            have tv_8 : v_8.toInt = l4_3.toInt + 1 := by rw [ev_8]; exact k_addv rfl zl_1 (by omega) (by omega)
            refine lv_iinc (v := v_8) (lv' := [(3, .int v_8), (2, .int r_5), (4, .int v_3), (0, .int a0), (1, .int a1)]) hx hb dX7_bodyFrom_52 hl (k := 2) rfl (by rw [ev_8]; rfl) (by decide +kernel) rfl ?_
            clear hl
            intro ls hl
            refine lv_goto (tgt := 4) hx hb dX7_bodyFrom_55 (by decide +kernel) ?_
            exact ih4 r_5 v_8 (by first | omega | decide | assumption | rfl) (by omega) ls _ _ (lv_sub hl [0, 1, 3, 4] rfl) (hP.sub [] rfl) (hD.sub [] (by decide +kernel) rfl) hS
          · refine lv_iload hx hb dX7_bodyFrom_22 (lv_at hl 0 rfl) ?_
            refine va_gets hx hb hZB hS hown (hT _ mw_1058) (fun _ h9 => h9) dX7_bodyFrom_24 ?_
            refine va_tlen (v := 24) hx hb hTB hS (by decide +kernel) dX7_bodyFrom_27 ?_
            refine b_icmp_ge hx hb rfl zl_24 (tgt := 47) dX7_bodyFrom_28 (by decide +kernel) (fun c_9 => ?_) (fun c_9 => ?_)
            · refine lv_iload_n hx hb dX7_bodyFrom_47 rfl (lv_at hl 2 rfl) ?_
              refine kJi (wr := []) (va_runSN (As := [.int l4_2]) (rest := []) ⟨hx, hb, hml, hown, hT⟩ (c_X10_kindAboveG l D cI aK aV H.size l4_2) ⟨va_cnB 1 hT (gW_in mw_390) rfl rfl rfl (hN _ mw_1060) (hT _ mw_1) (by decide +kernel) ⟨Nat.le_of_ble_eq_true rfl, Nat.le_of_ble_eq_true rfl⟩, hT _ mw_389, trivial⟩ (kStatX hK hP hD hN hXS hS hA [] rfl (by decide +kernel)) rfl rfl hl.1 rfl (lv_room (Nat.le_of_ble_eq_true rfl)) dX7_bodyFrom_48 ⟨Nat.le_of_ble_eq_true rfl, Nat.le_of_ble_eq_true rfl⟩) hP hD hS hA [] [] rfl rfl (by decide +kernel) (by decide +kernel) ?_
              clear hP hD hS
              intro r_10 u_12 H locs w_11 hP hD hS
              replace hP : va_P D vwCl [] H := hP
              replace hD : va_D A [] := hD
              have lo_r_10 := k_lo r_10
              have hi_r_10 := k_hi r_10
              refine lv_istore_n (lv' := [(2, .int r_10), (4, .int v_3), (3, .int l4_3), (0, .int a0), (1, .int a1)]) hx hb dX7_bodyFrom_51 rfl hl (by decide +kernel) rfl ?_
              clear hl
              intro ls hl
              obtain ⟨v_13, ev_13⟩ : ∃ y : Int32, y = l4_3 + 1 := ⟨_, rfl⟩
              have tv_13 : v_13.toInt = l4_3.toInt + 1 := by rw [ev_13]; exact k_addv rfl zl_1 (by omega) (by omega)
              refine lv_iinc (v := v_13) (lv' := [(3, .int v_13), (2, .int r_10), (4, .int v_3), (0, .int a0), (1, .int a1)]) hx hb dX7_bodyFrom_52 hl (k := 2) rfl (by rw [ev_13]; rfl) (by decide +kernel) rfl ?_
              clear hl
              intro ls hl
              refine lv_goto (tgt := 4) hx hb dX7_bodyFrom_55 (by decide +kernel) ?_
              exact ih4 r_10 v_13 (by first | omega | decide | assumption | rfl) (by omega) ls _ _ (lv_sub hl [0, 1, 3, 4] rfl) (hP.sub [] rfl) (hD.sub [] (by decide +kernel) rfl) hS
            · refine va_gets hx hb hZB hS hown (hT _ mw_1058) (fun _ h9 => h9) dX7_bodyFrom_31 ?_
              refine lv_iload hx hb dX7_bodyFrom_34 (lv_at hl 0 rfl) ?_
              refine va_ti (v := .int (bodL.getD v_3.toNatClampNeg 0)) hx hb hTB hS (k_in (by omega) (by omega)) rfl dX7_bodyFrom_36 ?_
              refine lv_topi (fun v_14 ev_14 => ?_)
              have lo_v_14 := k_lo v_14
              have hi_v_14 := k_hi v_14
              refine b_if_eq hx hb rfl (tgt := 47) dX7_bodyFrom_37 (by decide +kernel) (fun c_15 => ?_) (fun c_15 => ?_)
              · refine lv_iload_n hx hb dX7_bodyFrom_47 rfl (lv_at hl 2 rfl) ?_
                refine kJi (wr := []) (va_runSN (As := [.int l4_2]) (rest := []) ⟨hx, hb, hml, hown, hT⟩ (c_X10_kindAboveG l D cI aK aV H.size l4_2) ⟨va_cnB 1 hT (gW_in mw_390) rfl rfl rfl (hN _ mw_1060) (hT _ mw_1) (by decide +kernel) ⟨Nat.le_of_ble_eq_true rfl, Nat.le_of_ble_eq_true rfl⟩, hT _ mw_389, trivial⟩ (kStatX hK hP hD hN hXS hS hA [] rfl (by decide +kernel)) rfl rfl hl.1 rfl (lv_room (Nat.le_of_ble_eq_true rfl)) dX7_bodyFrom_48 ⟨Nat.le_of_ble_eq_true rfl, Nat.le_of_ble_eq_true rfl⟩) hP hD hS hA [] [] rfl rfl (by decide +kernel) (by decide +kernel) ?_
                clear hP hD hS
                intro r_16 u_18 H locs w_17 hP hD hS
                replace hP : va_P D vwCl [] H := hP
                replace hD : va_D A [] := hD
                have lo_r_16 := k_lo r_16
                have hi_r_16 := k_hi r_16
                refine lv_istore_n (lv' := [(2, .int r_16), (4, .int v_3), (3, .int l4_3), (0, .int a0), (1, .int a1)]) hx hb dX7_bodyFrom_51 rfl hl (by decide +kernel) rfl ?_
                clear hl
                intro ls hl
                obtain ⟨v_19, ev_19⟩ : ∃ y : Int32, y = l4_3 + 1 := ⟨_, rfl⟩
                have tv_19 : v_19.toInt = l4_3.toInt + 1 := by rw [ev_19]; exact k_addv rfl zl_1 (by omega) (by omega)
                refine lv_iinc (v := v_19) (lv' := [(3, .int v_19), (2, .int r_16), (4, .int v_3), (0, .int a0), (1, .int a1)]) hx hb dX7_bodyFrom_52 hl (k := 2) rfl (by rw [ev_19]; rfl) (by decide +kernel) rfl ?_
                clear hl
                intro ls hl
                refine lv_goto (tgt := 4) hx hb dX7_bodyFrom_55 (by decide +kernel) ?_
                exact ih4 r_16 v_19 (by first | omega | decide | assumption | rfl) (by omega) ls _ _ (lv_sub hl [0, 1, 3, 4] rfl) (hP.sub [] rfl) (hD.sub [] (by decide +kernel) rfl) hS
              · refine va_gets hx hb hZB hS hown (hT _ mw_1058) (fun _ h9 => h9) dX7_bodyFrom_40 ?_
                refine lv_iload hx hb dX7_bodyFrom_43 (lv_at hl 0 rfl) ?_
                refine va_ti (v := .int v_14) hx hb hTB hS (k_in (by omega) (by omega)) (by rw [ev_14]) dX7_bodyFrom_45 ?_
                exact hRet () [] (bod_in ev_14 (by rw [k_clamp]; omega) (by omega)) hP hD (by decide +kernel) rfl hS rfl dX7_bodyFrom_46
  exact hloop_4 _ a0 0 (by first | omega | (simp only [zl_0]; first | done | omega) | decide | assumption | rfl) (Nat.lt_succ_self _) ls _ _ (lv_sub hl [0, 1, 2, 3] rfl) hP hD hS
theorem bn_cX7_bodyAt_0 : BN cX7_bodyAt 0 0xad0201402a81787014015a8ac1a01518a4221c09805461000ad4561c0d805381c := by
  unfold BN; decide +kernel
theorem dX7_bodyAt_0 : decode cX7_bodyAt 0 = .ok (.iload_n 1, 1) := dR0 (k := 0) (i := 0) bn_cX7_bodyAt_0 dop_27 (by decide +kernel)
theorem dX7_bodyAt_1 : decode cX7_bodyAt 1 = .ok (.ifCond .lt 26, 3) := dR2s (f := Instr.ifCond .lt) (k := 0) (i := 1) bn_cX7_bodyAt_0 dop_155 26 26 (by decide +kernel)
theorem dX7_bodyAt_4 : decode cX7_bodyAt 4 = .ok (.iload_n 1, 1) := dR0 (k := 0) (i := 4) bn_cX7_bodyAt_0 dop_27 (by decide +kernel)
theorem dX7_bodyAt_5 : decode cX7_bodyAt 5 = .ok (.aload_n 0, 1) := dR0 (k := 0) (i := 5) bn_cX7_bodyAt_0 dop_42 (by decide +kernel)
theorem dX7_bodyAt_6 : decode cX7_bodyAt 6 = .ok (.getfield 15, 3) := dR2 (f := Instr.getfield) (k := 0) (i := 6) bn_cX7_bodyAt_0 dop_180 15 (by decide +kernel)
theorem dX7_bodyAt_9 : decode cX7_bodyAt 9 = .ok (.if_icmp .ge 18, 3) := dR2s (f := Instr.if_icmp .ge) (k := 0) (i := 9) bn_cX7_bodyAt_0 dop_162 18 18 (by decide +kernel)
theorem dX7_bodyAt_12 : decode cX7_bodyAt 12 = .ok (.iload_n 1, 1) := dR0 (k := 0) (i := 12) bn_cX7_bodyAt_0 dop_27 (by decide +kernel)
theorem dX7_bodyAt_13 : decode cX7_bodyAt 13 = .ok (.bipush 40, 2) := dR1s (f := Instr.bipush) (k := 0) (i := 13) bn_cX7_bodyAt_0 dop_16 40 40 (by decide +kernel)
theorem dX7_bodyAt_15 : decode cX7_bodyAt 15 = .ok (.if_icmp .ge 12, 3) := dR2s (f := Instr.if_icmp .ge) (k := 0) (i := 15) bn_cX7_bodyAt_0 dop_162 12 12 (by decide +kernel)
theorem dX7_bodyAt_18 : decode cX7_bodyAt 18 = .ok (.aload_n 0, 1) := dR0 (k := 0) (i := 18) bn_cX7_bodyAt_0 dop_42 (by decide +kernel)
theorem dX7_bodyAt_19 : decode cX7_bodyAt 19 = .ok (.getfield 9, 3) := dR2 (f := Instr.getfield) (k := 0) (i := 19) bn_cX7_bodyAt_0 dop_180 9 (by decide +kernel)
theorem dX7_bodyAt_22 : decode cX7_bodyAt 22 = .ok (.iload_n 1, 1) := dR0 (k := 0) (i := 22) bn_cX7_bodyAt_0 dop_27 (by decide +kernel)
theorem dX7_bodyAt_23 : decode cX7_bodyAt 23 = .ok (.iaload, 1) := dR0 (k := 0) (i := 23) bn_cX7_bodyAt_0 dop_46 (by decide +kernel)
theorem dX7_bodyAt_24 : decode cX7_bodyAt 24 = .ok (.goto 4, 3) := dR2s (f := Instr.goto) (k := 0) (i := 24) bn_cX7_bodyAt_0 dop_167 4 4 (by decide +kernel)
theorem dX7_bodyAt_27 : decode cX7_bodyAt 27 = .ok (.iconst 0, 1) := dR0 (k := 0) (i := 27) bn_cX7_bodyAt_0 dop_3 (by decide +kernel)
theorem dX7_bodyAt_28 : decode cX7_bodyAt 28 = .ok (.ireturn, 1) := dR0 (k := 0) (i := 28) bn_cX7_bodyAt_0 dop_172 (by decide +kernel)
set_option maxHeartbeats 4000000 in
set_option maxRecDepth 100000 in
theorem c_X7_bodyAtG (l : Launch) (D : va_G) (cI : ClassId) (aK aV : Nat → Nat) (k k0 : Nat) (sz : Nat) (c1 : Int32) (c2 : Int32) (c3 : Int32) (c4 : Int32) (c0 : Nat → Int32) (a0 : Int32) : Met l yX7_bodyAt (gW yX7_bodyAt cX7_bodyAt 2 (some .int)) ({ frames := 0, cells := 0, slots := 0, locals := 0 } : Room) (kPreX D cI aK aV [.ref k, .int a0] [(k, .inr (7, [.ref k0, .int c1, .int c2, .int c3, .int c4])), (k0, .inl (cI, 40, .inl c0))] sz) (va_Qi (fun (r : Int32) (u : Unit) => True) (fun u t => kWd D cI (va_A [(k, .inr (7, [.ref k0, .int c1, .int c2, .int c3, .int c4])), (k0, .inl (cI, 40, .inl c0))] sz) [(k, .inr (7, [.ref k0, .int c1, .int c2, .int c3, .int c4])), (k0, .inl (cI, 40, .inl c0))] t) (va_A [(k, .inr (7, [.ref k0, .int c1, .int c2, .int c3, .int c4])), (k0, .inl (cI, 40, .inl c0))] sz)) 0 0 (va_A [(k, .inr (7, [.ref k0, .int c1, .int c2, .int c3, .int c4])), (k0, .inl (cI, 40, .inl c0))] sz) := by
  refine kMetIX (own := RX7) (by decide +kernel) rfl (Nat.le_of_ble_eq_true rfl) ?_
  intro p e s m args below meth c hx hb hT hown hname hml A Q hK hP hD hS hA hN hXS hRet ls hl
  have hl : lv_has ls 2 [(0, .ref k), (1, .int a0)] := hl
  have lo_a0 := k_lo a0
  have hi_a0 := k_hi a0
  have lo_c1 := k_lo c1
  have hi_c1 := k_hi c1
  refine lv_iload_n hx hb dX7_bodyAt_0 rfl (lv_at hl 1 rfl) ?_
  refine b_if_lt hx hb rfl (tgt := 27) dX7_bodyAt_1 (by decide +kernel) (fun c_1 => ?_) (fun c_1 => ?_)
  · refine lv_iconst (v := 0) hx hb dX7_bodyAt_27 (by decide +kernel) ?_
    exact hRet () [0, 1] trivial hP hD (by decide +kernel) rfl hS rfl dX7_bodyAt_28
  · refine lv_iload_n hx hb dX7_bodyAt_4 rfl (lv_at hl 1 rfl) ?_
    refine lv_aload_n hx hb dX7_bodyAt_5 rfl (lv_at hl 0 rfl) ?_
    refine va_get (D := D) (ci := 7) (v := .int c1) (C := RX7) (T := TX7) (N := 5) hx hb hT giX7 hown hK hP 0 rfl rfl 1 (by decide +kernel) (hT (Cond.fieldLink RX7 15 "DesertWire$Voices" "begun" "I") mw_259) (fun _ h9 => h9) rfl dX7_bodyAt_6 ?_
    refine b_icmp_ge hx hb rfl rfl (tgt := 27) dX7_bodyAt_9 (by decide +kernel) (fun c_2 => ?_) (fun c_2 => ?_)
    · refine lv_iconst (v := 0) hx hb dX7_bodyAt_27 (by decide +kernel) ?_
      exact hRet () [0, 1] trivial hP hD (by decide +kernel) rfl hS rfl dX7_bodyAt_28
    · refine lv_iload_n hx hb dX7_bodyAt_12 rfl (lv_at hl 1 rfl) ?_
      refine lv_bipush (v := 40) hx hb dX7_bodyAt_13 (by decide +kernel) ?_
      refine b_icmp_ge hx hb rfl zl_40 (tgt := 27) dX7_bodyAt_15 (by decide +kernel) (fun c_3 => ?_) (fun c_3 => ?_)
      · refine lv_iconst (v := 0) hx hb dX7_bodyAt_27 (by decide +kernel) ?_
        exact hRet () [0, 1] trivial hP hD (by decide +kernel) rfl hS rfl dX7_bodyAt_28
      · refine lv_aload_n hx hb dX7_bodyAt_18 rfl (lv_at hl 0 rfl) ?_
        refine va_get (D := D) (ci := 7) (v := .ref k0) (C := RX7) (T := TX7) (N := 5) hx hb hT giX7 hown hK hP 0 rfl rfl 0 (by decide +kernel) (hT (Cond.fieldLink RX7 9 "DesertWire$Voices" "bodies" "[I") mw_258) (fun _ h9 => h9) rfl dX7_bodyAt_19 ?_
        refine lv_iload_n hx hb dX7_bodyAt_22 rfl (lv_at hl 1 rfl) ?_
        refine k_iald (v := (c0 a0.toNatClampNeg)) hx hb hK hP 1 0 rfl rfl (k_in (by omega) (by omega)) rfl dX7_bodyAt_23 ?_
        refine lv_topi (fun v_4 ev_4 => ?_)
        have lo_v_4 := k_lo v_4
        have hi_v_4 := k_hi v_4
        have tv_4 : v_4.toInt = (c0 a0.toNatClampNeg).toInt := by rw [ev_4]
        refine lv_goto (tgt := 28) hx hb dX7_bodyAt_24 (by decide +kernel) ?_
        exact hRet () [0, 1] trivial hP hD (by decide +kernel) rfl hS rfl dX7_bodyAt_28
theorem bn_cX7_own_0 : BN cX7_own 0 0x5688402b70f074381400ad4562b := by
  unfold BN; decide +kernel
theorem dX7_own_0 : decode cX7_own 0 = .ok (.aload_n 0, 1) := dR0 (k := 0) (i := 0) bn_cX7_own_0 dop_42 (by decide +kernel)
theorem dX7_own_1 : decode cX7_own 1 = .ok (.aload_n 0, 1) := dR0 (k := 0) (i := 1) bn_cX7_own_0 dop_42 (by decide +kernel)
theorem dX7_own_2 : decode cX7_own 2 = .ok (.getfield 19, 3) := dR2 (f := Instr.getfield) (k := 0) (i := 2) bn_cX7_own_0 dop_180 19 (by decide +kernel)
theorem dX7_own_5 : decode cX7_own 5 = .ok (.iload_n 1, 1) := dR0 (k := 0) (i := 5) bn_cX7_own_0 dop_27 (by decide +kernel)
theorem dX7_own_6 : decode cX7_own 6 = .ok (.iload_n 2, 1) := dR0 (k := 0) (i := 6) bn_cX7_own_0 dop_28 (by decide +kernel)
theorem dX7_own_7 : decode cX7_own 7 = .ok (.iload_n 3, 1) := dR0 (k := 0) (i := 7) bn_cX7_own_0 dop_29 (by decide +kernel)
theorem dX7_own_8 : decode cX7_own 8 = .ok (.invokevirtual 32, 3) := dR2 (f := Instr.invokevirtual) (k := 0) (i := 8) bn_cX7_own_0 dop_182 32 (by decide +kernel)
theorem dX7_own_11 : decode cX7_own 11 = .ok (.ireturn, 1) := dR0 (k := 0) (i := 11) bn_cX7_own_0 dop_172 (by decide +kernel)
theorem bn_cX7_say_0 : BN cX7_say 0 0x4f00802014f00802014f00802010d00802010700802014f00802014f00802014f00802014f00802014f00802014f00802017e00402017880402017180402016e00402011e80402010580402014f00802010080556060b01c6e61028142c1000ad8c205080056a5a159400c16080056a2b050056a2b0c80546290884002b515888029c080056a2b030dc4a015c87438ad0201802a5148440a16 := by
  unfold BN; decide +kernel
theorem dX7_say_0 : decode cX7_say 0 = .ok (.iload 4, 2) := dR1 (f := Instr.iload) (k := 0) (i := 0) bn_cX7_say_0 dop_21 4 (by decide +kernel)
theorem dX7_say_2 : decode cX7_say 2 = .ok (.bipush 40, 2) := dR1s (f := Instr.bipush) (k := 0) (i := 2) bn_cX7_say_0 dop_16 40 40 (by decide +kernel)
theorem dX7_say_4 : decode cX7_say 4 = .ok (.if_icmp .le 5, 3) := dR2s (f := Instr.if_icmp .le) (k := 0) (i := 4) bn_cX7_say_0 dop_164 5 5 (by decide +kernel)
theorem dX7_say_7 : decode cX7_say 7 = .ok (.iconst 0, 1) := dR0 (k := 0) (i := 7) bn_cX7_say_0 dop_3 (by decide +kernel)
theorem dX7_say_8 : decode cX7_say 8 = .ok (.ireturn, 1) := dR0 (k := 0) (i := 8) bn_cX7_say_0 dop_172 (by decide +kernel)
theorem dX7_say_9 : decode cX7_say 9 = .ok (.iload_n 1, 1) := dR0 (k := 0) (i := 9) bn_cX7_say_0 dop_27 (by decide +kernel)
theorem dX7_say_10 : decode cX7_say 10 = .ok (.iload_n 2, 1) := dR0 (k := 0) (i := 10) bn_cX7_say_0 dop_28 (by decide +kernel)
theorem dX7_say_11 : decode cX7_say 11 = .ok (.invokestatic 36, 3) := dR2 (f := Instr.invokestatic) (k := 0) (i := 11) bn_cX7_say_0 dop_184 36 (by decide +kernel)
theorem dX7_say_14 : decode cX7_say 14 = .ok (.istore 5, 2) := dR1 (f := Instr.istore) (k := 0) (i := 14) bn_cX7_say_0 dop_54 5 (by decide +kernel)
theorem dX7_say_16 : decode cX7_say 16 = .ok (.aload_n 0, 1) := dR0 (k := 0) (i := 16) bn_cX7_say_0 dop_42 (by decide +kernel)
theorem dX7_say_17 : decode cX7_say 17 = .ok (.getfield 15, 3) := dR2 (f := Instr.getfield) (k := 0) (i := 17) bn_cX7_say_0 dop_180 15 (by decide +kernel)
theorem dX7_say_20 : decode cX7_say 20 = .ok (.ifCond .lt 33, 3) := dR2s (f := Instr.ifCond .lt) (k := 0) (i := 20) bn_cX7_say_0 dop_155 33 33 (by decide +kernel)
theorem dX7_say_23 : decode cX7_say 23 = .ok (.aload_n 0, 1) := dR0 (k := 0) (i := 23) bn_cX7_say_0 dop_42 (by decide +kernel)
theorem dX7_say_24 : decode cX7_say 24 = .ok (.getfield 15, 3) := dR2 (f := Instr.getfield) (k := 0) (i := 24) bn_cX7_say_0 dop_180 15 (by decide +kernel)
theorem dX7_say_27 : decode cX7_say 27 = .ok (.bipush 40, 2) := dR1s (f := Instr.bipush) (k := 0) (i := 27) bn_cX7_say_0 dop_16 40 40 (by decide +kernel)
theorem dX7_say_29 : decode cX7_say 29 = .ok (.if_icmp .ge 24, 3) := dR2s (f := Instr.if_icmp .ge) (k := 0) (i := 29) bn_cX7_say_0 dop_162 24 24 (by decide +kernel)
theorem dX7_say_32 : decode cX7_say 32 = .ok (.aload_n 0, 1) := dR0 (k := 0) (i := 32) bn_cX7_say_0 dop_42 (by decide +kernel)
theorem dX7_say_33 : decode cX7_say 33 = .ok (.getfield 9, 3) := dR2 (f := Instr.getfield) (k := 0) (i := 33) bn_cX7_say_0 dop_180 9 (by decide +kernel)
theorem dX7_say_36 : decode cX7_say 36 = .ok (.aload_n 0, 1) := dR0 (k := 0) (i := 36) bn_cX7_say_0 dop_42 (by decide +kernel)
theorem dX7_say_37 : decode cX7_say 37 = .ok (.getfield 15, 3) := dR2 (f := Instr.getfield) (k := 0) (i := 37) bn_cX7_say_0 dop_180 15 (by decide +kernel)
theorem dX7_say_40 : decode cX7_say 40 = .ok (.iload 5, 2) := dR1 (f := Instr.iload) (k := 0) (i := 40) bn_cX7_say_0 dop_21 5 (by decide +kernel)
theorem dX7_say_42 : decode cX7_say 42 = .ok (.iastore, 1) := dR0 (k := 0) (i := 42) bn_cX7_say_0 dop_79 (by decide +kernel)
theorem dX7_say_43 : decode cX7_say 43 = .ok (.aload_n 0, 1) := dR0 (k := 0) (i := 43) bn_cX7_say_0 dop_42 (by decide +kernel)
theorem dX7_say_44 : decode cX7_say 44 = .ok (.dup, 1) := dR0 (k := 0) (i := 44) bn_cX7_say_0 dop_89 (by decide +kernel)
theorem dX7_say_45 : decode cX7_say 45 = .ok (.getfield 15, 3) := dR2 (f := Instr.getfield) (k := 0) (i := 45) bn_cX7_say_0 dop_180 15 (by decide +kernel)
theorem dX7_say_48 : decode cX7_say 48 = .ok (.iconst 1, 1) := dR0 (k := 0) (i := 48) bn_cX7_say_0 dop_4 (by decide +kernel)
theorem dX7_say_49 : decode cX7_say 49 = .ok (.iadd, 1) := dR0 (k := 0) (i := 49) bn_cX7_say_0 dop_96 (by decide +kernel)
theorem dX7_say_50 : decode cX7_say 50 = .ok (.putfield 15, 3) := dR2 (f := Instr.putfield) (k := 0) (i := 50) bn_cX7_say_0 dop_181 15 (by decide +kernel)
theorem dX7_say_53 : decode cX7_say 53 = .ok (.iload 4, 2) := dR1 (f := Instr.iload) (k := 0) (i := 53) bn_cX7_say_0 dop_21 4 (by decide +kernel)
theorem dX7_say_55 : decode cX7_say 55 = .ok (.iconst 1, 1) := dR0 (k := 0) (i := 55) bn_cX7_say_0 dop_4 (by decide +kernel)
theorem dX7_say_56 : decode cX7_say 56 = .ok (.iadd, 1) := dR0 (k := 0) (i := 56) bn_cX7_say_0 dop_96 (by decide +kernel)
theorem dX7_say_57 : decode cX7_say 57 = .ok (.istore 6, 2) := dR1 (f := Instr.istore) (k := 0) (i := 57) bn_cX7_say_0 dop_54 6 (by decide +kernel)
theorem dX7_say_59 : decode cX7_say 59 = .ok (.iload 5, 2) := dR1 (f := Instr.iload) (k := 0) (i := 59) bn_cX7_say_0 dop_21 5 (by decide +kernel)
theorem dX7_say_61 : decode cX7_say 61 = .ok (.tableswitch 413 10 60 #[219, 226, 240, 251, 413, 413, 413, 413, 413, 413, 269, 281, 413, 413, 413, 413, 413, 413, 413, 413, 296, 308, 413, 413, 413, 413, 413, 413, 413, 413, 320, 342, 413, 413, 413, 413, 413, 413, 413, 413, 364, 379, 413, 413, 413, 413, 413, 413, 413, 413, 398], 219) := by decide +kernel
theorem bn_cX7_say_256 : BN cX7_say 256 0x20ac42015b81c2c1e0301856ad3288402b7038583c06028ac08ad3481c42015b81c2c1e0201456ad3285c02b51588402b7038583c07020ad5a2100adc0e16308143c05020ad5a830e8056e070b078082b0e8056e070b0780c2b569a40c1d00adc0e160f01456ad3086802b51587402b7038583c0415ab4ca1700ad4561e4780802014f00802014f00802014f00802014f00802014f0080201 := by
  unfold BN; decide +kernel
theorem dX7_say_280 : decode cX7_say 280 = .ok (.iload_n 3, 1) := dR0 (k := 256) (i := 24) bn_cX7_say_256 dop_29 (by decide +kernel)
theorem dX7_say_281 : decode cX7_say 281 = .ok (.aload_n 0, 1) := dR0 (k := 256) (i := 25) bn_cX7_say_256 dop_42 (by decide +kernel)
theorem dX7_say_282 : decode cX7_say 282 = .ok (.getfield 22, 3) := dR2 (f := Instr.getfield) (k := 256) (i := 26) bn_cX7_say_256 dop_180 22 (by decide +kernel)
theorem dX7_say_285 : decode cX7_say 285 = .ok (.isub, 1) := dR0 (k := 256) (i := 29) bn_cX7_say_256 dop_100 (by decide +kernel)
theorem dX7_say_286 : decode cX7_say 286 = .ok (.ireturn, 1) := dR0 (k := 256) (i := 30) bn_cX7_say_256 dop_172 (by decide +kernel)
theorem dX7_say_287 : decode cX7_say 287 = .ok (.aload_n 0, 1) := dR0 (k := 256) (i := 31) bn_cX7_say_256 dop_42 (by decide +kernel)
theorem dX7_say_288 : decode cX7_say 288 = .ok (.iconst 0, 1) := dR0 (k := 256) (i := 32) bn_cX7_say_256 dop_3 (by decide +kernel)
theorem dX7_say_289 : decode cX7_say 289 = .ok (.iload_n 3, 1) := dR0 (k := 256) (i := 33) bn_cX7_say_256 dop_29 (by decide +kernel)
theorem dX7_say_290 : decode cX7_say 290 = .ok (.iload 6, 2) := dR1 (f := Instr.iload) (k := 256) (i := 34) bn_cX7_say_256 dop_21 6 (by decide +kernel)
theorem dX7_say_292 : decode cX7_say 292 = .ok (.invokevirtual 28, 3) := dR2 (f := Instr.invokevirtual) (k := 256) (i := 36) bn_cX7_say_256 dop_182 28 (by decide +kernel)
theorem dX7_say_295 : decode cX7_say 295 = .ok (.aload_n 0, 1) := dR0 (k := 256) (i := 39) bn_cX7_say_256 dop_42 (by decide +kernel)
theorem dX7_say_296 : decode cX7_say 296 = .ok (.getfield 25, 3) := dR2 (f := Instr.getfield) (k := 256) (i := 40) bn_cX7_say_256 dop_180 25 (by decide +kernel)
theorem dX7_say_299 : decode cX7_say 299 = .ok (.iadd, 1) := dR0 (k := 256) (i := 43) bn_cX7_say_256 dop_96 (by decide +kernel)
theorem dX7_say_300 : decode cX7_say 300 = .ok (.ireturn, 1) := dR0 (k := 256) (i := 44) bn_cX7_say_256 dop_172 (by decide +kernel)
theorem dX7_say_301 : decode cX7_say 301 = .ok (.aload_n 0, 1) := dR0 (k := 256) (i := 45) bn_cX7_say_256 dop_42 (by decide +kernel)
theorem dX7_say_302 : decode cX7_say 302 = .ok (.iconst 1, 1) := dR0 (k := 256) (i := 46) bn_cX7_say_256 dop_4 (by decide +kernel)
theorem dX7_say_303 : decode cX7_say 303 = .ok (.iload_n 3, 1) := dR0 (k := 256) (i := 47) bn_cX7_say_256 dop_29 (by decide +kernel)
theorem dX7_say_304 : decode cX7_say 304 = .ok (.iload 6, 2) := dR1 (f := Instr.iload) (k := 256) (i := 48) bn_cX7_say_256 dop_21 6 (by decide +kernel)
theorem dX7_say_306 : decode cX7_say 306 = .ok (.invokevirtual 28, 3) := dR2 (f := Instr.invokevirtual) (k := 256) (i := 50) bn_cX7_say_256 dop_182 28 (by decide +kernel)
theorem dX7_say_309 : decode cX7_say 309 = .ok (.iconst 2, 1) := dR0 (k := 256) (i := 53) bn_cX7_say_256 dop_5 (by decide +kernel)
theorem dX7_say_310 : decode cX7_say 310 = .ok (.imul, 1) := dR0 (k := 256) (i := 54) bn_cX7_say_256 dop_104 (by decide +kernel)
theorem dX7_say_311 : decode cX7_say 311 = .ok (.ireturn, 1) := dR0 (k := 256) (i := 55) bn_cX7_say_256 dop_172 (by decide +kernel)
theorem dX7_say_312 : decode cX7_say 312 = .ok (.aload_n 0, 1) := dR0 (k := 256) (i := 56) bn_cX7_say_256 dop_42 (by decide +kernel)
theorem dX7_say_313 : decode cX7_say 313 = .ok (.iconst 2, 1) := dR0 (k := 256) (i := 57) bn_cX7_say_256 dop_5 (by decide +kernel)
theorem dX7_say_314 : decode cX7_say 314 = .ok (.iload_n 3, 1) := dR0 (k := 256) (i := 58) bn_cX7_say_256 dop_29 (by decide +kernel)
theorem dX7_say_315 : decode cX7_say 315 = .ok (.iload 6, 2) := dR1 (f := Instr.iload) (k := 256) (i := 59) bn_cX7_say_256 dop_21 6 (by decide +kernel)
theorem dX7_say_317 : decode cX7_say 317 = .ok (.invokevirtual 28, 3) := dR2 (f := Instr.invokevirtual) (k := 256) (i := 61) bn_cX7_say_256 dop_182 28 (by decide +kernel)
theorem dX7_say_320 : decode cX7_say 320 = .ok (.aload_n 0, 1) := dR0 (k := 256) (i := 64) bn_cX7_say_256 dop_42 (by decide +kernel)
theorem dX7_say_321 : decode cX7_say 321 = .ok (.iconst 0, 1) := dR0 (k := 256) (i := 65) bn_cX7_say_256 dop_3 (by decide +kernel)
theorem dX7_say_322 : decode cX7_say 322 = .ok (.iload_n 3, 1) := dR0 (k := 256) (i := 66) bn_cX7_say_256 dop_29 (by decide +kernel)
theorem dX7_say_323 : decode cX7_say 323 = .ok (.iload 6, 2) := dR1 (f := Instr.iload) (k := 256) (i := 67) bn_cX7_say_256 dop_21 6 (by decide +kernel)
theorem dX7_say_325 : decode cX7_say 325 = .ok (.invokevirtual 28, 3) := dR2 (f := Instr.invokevirtual) (k := 256) (i := 69) bn_cX7_say_256 dop_182 28 (by decide +kernel)
theorem dX7_say_328 : decode cX7_say 328 = .ok (.ixor, 1) := dR0 (k := 256) (i := 72) bn_cX7_say_256 dop_130 (by decide +kernel)
theorem dX7_say_329 : decode cX7_say 329 = .ok (.ireturn, 1) := dR0 (k := 256) (i := 73) bn_cX7_say_256 dop_172 (by decide +kernel)
theorem dX7_say_330 : decode cX7_say 330 = .ok (.aload_n 0, 1) := dR0 (k := 256) (i := 74) bn_cX7_say_256 dop_42 (by decide +kernel)
theorem dX7_say_331 : decode cX7_say 331 = .ok (.iconst 0, 1) := dR0 (k := 256) (i := 75) bn_cX7_say_256 dop_3 (by decide +kernel)
theorem dX7_say_332 : decode cX7_say 332 = .ok (.iconst 1, 1) := dR0 (k := 256) (i := 76) bn_cX7_say_256 dop_4 (by decide +kernel)
theorem dX7_say_333 : decode cX7_say 333 = .ok (.iload_n 3, 1) := dR0 (k := 256) (i := 77) bn_cX7_say_256 dop_29 (by decide +kernel)
theorem dX7_say_334 : decode cX7_say 334 = .ok (.iconst 1, 1) := dR0 (k := 256) (i := 78) bn_cX7_say_256 dop_4 (by decide +kernel)
theorem dX7_say_335 : decode cX7_say 335 = .ok (.iadd, 1) := dR0 (k := 256) (i := 79) bn_cX7_say_256 dop_96 (by decide +kernel)
theorem dX7_say_336 : decode cX7_say 336 = .ok (.iload 6, 2) := dR1 (f := Instr.iload) (k := 256) (i := 80) bn_cX7_say_256 dop_21 6 (by decide +kernel)
theorem dX7_say_338 : decode cX7_say 338 = .ok (.invokevirtual 32, 3) := dR2 (f := Instr.invokevirtual) (k := 256) (i := 82) bn_cX7_say_256 dop_182 32 (by decide +kernel)
theorem dX7_say_341 : decode cX7_say 341 = .ok (.ireturn, 1) := dR0 (k := 256) (i := 85) bn_cX7_say_256 dop_172 (by decide +kernel)
theorem dX7_say_342 : decode cX7_say 342 = .ok (.aload_n 0, 1) := dR0 (k := 256) (i := 86) bn_cX7_say_256 dop_42 (by decide +kernel)
theorem dX7_say_343 : decode cX7_say 343 = .ok (.iconst 0, 1) := dR0 (k := 256) (i := 87) bn_cX7_say_256 dop_3 (by decide +kernel)
theorem dX7_say_344 : decode cX7_say 344 = .ok (.iconst 3, 1) := dR0 (k := 256) (i := 88) bn_cX7_say_256 dop_6 (by decide +kernel)
theorem dX7_say_345 : decode cX7_say 345 = .ok (.iload_n 3, 1) := dR0 (k := 256) (i := 89) bn_cX7_say_256 dop_29 (by decide +kernel)
theorem dX7_say_346 : decode cX7_say 346 = .ok (.iload 6, 2) := dR1 (f := Instr.iload) (k := 256) (i := 90) bn_cX7_say_256 dop_21 6 (by decide +kernel)
theorem dX7_say_348 : decode cX7_say 348 = .ok (.invokevirtual 32, 3) := dR2 (f := Instr.invokevirtual) (k := 256) (i := 92) bn_cX7_say_256 dop_182 32 (by decide +kernel)
theorem dX7_say_351 : decode cX7_say 351 = .ok (.aload_n 0, 1) := dR0 (k := 256) (i := 95) bn_cX7_say_256 dop_42 (by decide +kernel)
theorem dX7_say_352 : decode cX7_say 352 = .ok (.getfield 22, 3) := dR2 (f := Instr.getfield) (k := 256) (i := 96) bn_cX7_say_256 dop_180 22 (by decide +kernel)
theorem dX7_say_355 : decode cX7_say 355 = .ok (.isub, 1) := dR0 (k := 256) (i := 99) bn_cX7_say_256 dop_100 (by decide +kernel)
theorem dX7_say_356 : decode cX7_say 356 = .ok (.ireturn, 1) := dR0 (k := 256) (i := 100) bn_cX7_say_256 dop_172 (by decide +kernel)
theorem dX7_say_357 : decode cX7_say 357 = .ok (.aload_n 0, 1) := dR0 (k := 256) (i := 101) bn_cX7_say_256 dop_42 (by decide +kernel)
theorem dX7_say_358 : decode cX7_say 358 = .ok (.iconst 1, 1) := dR0 (k := 256) (i := 102) bn_cX7_say_256 dop_4 (by decide +kernel)
theorem dX7_say_359 : decode cX7_say 359 = .ok (.iconst 0, 1) := dR0 (k := 256) (i := 103) bn_cX7_say_256 dop_3 (by decide +kernel)
theorem dX7_say_360 : decode cX7_say 360 = .ok (.iload_n 3, 1) := dR0 (k := 256) (i := 104) bn_cX7_say_256 dop_29 (by decide +kernel)
theorem dX7_say_361 : decode cX7_say 361 = .ok (.iload 6, 2) := dR1 (f := Instr.iload) (k := 256) (i := 105) bn_cX7_say_256 dop_21 6 (by decide +kernel)
theorem dX7_say_363 : decode cX7_say 363 = .ok (.invokevirtual 32, 3) := dR2 (f := Instr.invokevirtual) (k := 256) (i := 107) bn_cX7_say_256 dop_182 32 (by decide +kernel)
theorem dX7_say_366 : decode cX7_say 366 = .ok (.iconst 3, 1) := dR0 (k := 256) (i := 110) bn_cX7_say_256 dop_6 (by decide +kernel)
theorem dX7_say_367 : decode cX7_say 367 = .ok (.imul, 1) := dR0 (k := 256) (i := 111) bn_cX7_say_256 dop_104 (by decide +kernel)
theorem dX7_say_368 : decode cX7_say 368 = .ok (.ireturn, 1) := dR0 (k := 256) (i := 112) bn_cX7_say_256 dop_172 (by decide +kernel)
theorem dX7_say_369 : decode cX7_say 369 = .ok (.iconst 0, 1) := dR0 (k := 256) (i := 113) bn_cX7_say_256 dop_3 (by decide +kernel)
theorem dX7_say_370 : decode cX7_say 370 = .ok (.aload_n 0, 1) := dR0 (k := 256) (i := 114) bn_cX7_say_256 dop_42 (by decide +kernel)
theorem dX7_say_371 : decode cX7_say 371 = .ok (.iconst 1, 1) := dR0 (k := 256) (i := 115) bn_cX7_say_256 dop_4 (by decide +kernel)
theorem dX7_say_372 : decode cX7_say 372 = .ok (.iconst 2, 1) := dR0 (k := 256) (i := 116) bn_cX7_say_256 dop_5 (by decide +kernel)
theorem dX7_say_373 : decode cX7_say 373 = .ok (.iload_n 3, 1) := dR0 (k := 256) (i := 117) bn_cX7_say_256 dop_29 (by decide +kernel)
theorem dX7_say_374 : decode cX7_say 374 = .ok (.iload 6, 2) := dR1 (f := Instr.iload) (k := 256) (i := 118) bn_cX7_say_256 dop_21 6 (by decide +kernel)
theorem dX7_say_376 : decode cX7_say 376 = .ok (.invokevirtual 32, 3) := dR2 (f := Instr.invokevirtual) (k := 256) (i := 120) bn_cX7_say_256 dop_182 32 (by decide +kernel)
theorem dX7_say_379 : decode cX7_say 379 = .ok (.isub, 1) := dR0 (k := 256) (i := 123) bn_cX7_say_256 dop_100 (by decide +kernel)
theorem dX7_say_380 : decode cX7_say 380 = .ok (.ireturn, 1) := dR0 (k := 256) (i := 124) bn_cX7_say_256 dop_172 (by decide +kernel)
theorem dX7_say_381 : decode cX7_say 381 = .ok (.aload_n 0, 1) := dR0 (k := 256) (i := 125) bn_cX7_say_256 dop_42 (by decide +kernel)
theorem dX7_say_382 : decode cX7_say 382 = .ok (.iconst 2, 1) := dR0 (k := 256) (i := 126) bn_cX7_say_256 dop_5 (by decide +kernel)
theorem dX7_say_383 : decode cX7_say 383 = .ok (.iconst 2, 1) := dR0 (k := 256) (i := 127) bn_cX7_say_256 dop_5 (by decide +kernel)
theorem bn_cX7_say_384 : BN cX7_say 384 0x15a65108056e070b0780e08158115a690d0056a2b108056e070b0780a0815ab4ca1d00adc0e1602810562100adc0e160f018082b5698434015a8ac42015b81c2c1e0201056ad4187402b7038582e015a8ac0a2b108056e070b0780e0615ab4c21d00adc0e160d0056a2b020ac42015b81c2c1e := by
  unfold BN; decide +kernel
theorem dX7_say_384 : decode cX7_say 384 = .ok (.iload_n 3, 1) := dR0 (k := 384) (i := 0) bn_cX7_say_384 dop_29 (by decide +kernel)
theorem dX7_say_385 : decode cX7_say 385 = .ok (.iload 6, 2) := dR1 (f := Instr.iload) (k := 384) (i := 1) bn_cX7_say_384 dop_21 6 (by decide +kernel)
theorem dX7_say_387 : decode cX7_say 387 = .ok (.invokevirtual 32, 3) := dR2 (f := Instr.invokevirtual) (k := 384) (i := 3) bn_cX7_say_384 dop_182 32 (by decide +kernel)
theorem dX7_say_390 : decode cX7_say 390 = .ok (.aload_n 0, 1) := dR0 (k := 384) (i := 6) bn_cX7_say_384 dop_42 (by decide +kernel)
theorem dX7_say_391 : decode cX7_say 391 = .ok (.iconst 0, 1) := dR0 (k := 384) (i := 7) bn_cX7_say_384 dop_3 (by decide +kernel)
theorem dX7_say_392 : decode cX7_say 392 = .ok (.aload_n 0, 1) := dR0 (k := 384) (i := 8) bn_cX7_say_384 dop_42 (by decide +kernel)
theorem dX7_say_393 : decode cX7_say 393 = .ok (.getfield 25, 3) := dR2 (f := Instr.getfield) (k := 384) (i := 9) bn_cX7_say_384 dop_180 25 (by decide +kernel)
theorem dX7_say_396 : decode cX7_say 396 = .ok (.iload 6, 2) := dR1 (f := Instr.iload) (k := 384) (i := 12) bn_cX7_say_384 dop_21 6 (by decide +kernel)
theorem dX7_say_398 : decode cX7_say 398 = .ok (.invokevirtual 28, 3) := dR2 (f := Instr.invokevirtual) (k := 384) (i := 14) bn_cX7_say_384 dop_182 28 (by decide +kernel)
theorem dX7_say_401 : decode cX7_say 401 = .ok (.iadd, 1) := dR0 (k := 384) (i := 17) bn_cX7_say_384 dop_96 (by decide +kernel)
theorem dX7_say_402 : decode cX7_say 402 = .ok (.ireturn, 1) := dR0 (k := 384) (i := 18) bn_cX7_say_384 dop_172 (by decide +kernel)
theorem dX7_say_403 : decode cX7_say 403 = .ok (.aload_n 0, 1) := dR0 (k := 384) (i := 19) bn_cX7_say_384 dop_42 (by decide +kernel)
theorem dX7_say_404 : decode cX7_say 404 = .ok (.iconst 2, 1) := dR0 (k := 384) (i := 20) bn_cX7_say_384 dop_5 (by decide +kernel)
theorem dX7_say_405 : decode cX7_say 405 = .ok (.iconst 3, 1) := dR0 (k := 384) (i := 21) bn_cX7_say_384 dop_6 (by decide +kernel)
theorem dX7_say_406 : decode cX7_say 406 = .ok (.iload_n 3, 1) := dR0 (k := 384) (i := 22) bn_cX7_say_384 dop_29 (by decide +kernel)
theorem dX7_say_407 : decode cX7_say 407 = .ok (.iload 6, 2) := dR1 (f := Instr.iload) (k := 384) (i := 23) bn_cX7_say_384 dop_21 6 (by decide +kernel)
theorem dX7_say_409 : decode cX7_say 409 = .ok (.invokevirtual 32, 3) := dR2 (f := Instr.invokevirtual) (k := 384) (i := 25) bn_cX7_say_384 dop_182 32 (by decide +kernel)
theorem dX7_say_412 : decode cX7_say 412 = .ok (.aload_n 0, 1) := dR0 (k := 384) (i := 28) bn_cX7_say_384 dop_42 (by decide +kernel)
theorem dX7_say_413 : decode cX7_say 413 = .ok (.iconst 1, 1) := dR0 (k := 384) (i := 29) bn_cX7_say_384 dop_4 (by decide +kernel)
theorem dX7_say_414 : decode cX7_say 414 = .ok (.aload_n 0, 1) := dR0 (k := 384) (i := 30) bn_cX7_say_384 dop_42 (by decide +kernel)
theorem dX7_say_415 : decode cX7_say 415 = .ok (.getfield 22, 3) := dR2 (f := Instr.getfield) (k := 384) (i := 31) bn_cX7_say_384 dop_180 22 (by decide +kernel)
theorem dX7_say_418 : decode cX7_say 418 = .ok (.iload 6, 2) := dR1 (f := Instr.iload) (k := 384) (i := 34) bn_cX7_say_384 dop_21 6 (by decide +kernel)
theorem dX7_say_420 : decode cX7_say 420 = .ok (.invokevirtual 28, 3) := dR2 (f := Instr.invokevirtual) (k := 384) (i := 36) bn_cX7_say_384 dop_182 28 (by decide +kernel)
theorem dX7_say_423 : decode cX7_say 423 = .ok (.ixor, 1) := dR0 (k := 384) (i := 39) bn_cX7_say_384 dop_130 (by decide +kernel)
theorem dX7_say_424 : decode cX7_say 424 = .ok (.ireturn, 1) := dR0 (k := 384) (i := 40) bn_cX7_say_384 dop_172 (by decide +kernel)
theorem dX7_say_425 : decode cX7_say 425 = .ok (.aload_n 0, 1) := dR0 (k := 384) (i := 41) bn_cX7_say_384 dop_42 (by decide +kernel)
theorem dX7_say_426 : decode cX7_say 426 = .ok (.iconst 0, 1) := dR0 (k := 384) (i := 42) bn_cX7_say_384 dop_3 (by decide +kernel)
theorem dX7_say_427 : decode cX7_say 427 = .ok (.iconst 0, 1) := dR0 (k := 384) (i := 43) bn_cX7_say_384 dop_3 (by decide +kernel)
theorem dX7_say_428 : decode cX7_say 428 = .ok (.iload_n 3, 1) := dR0 (k := 384) (i := 44) bn_cX7_say_384 dop_29 (by decide +kernel)
theorem dX7_say_429 : decode cX7_say 429 = .ok (.iload 6, 2) := dR1 (f := Instr.iload) (k := 384) (i := 45) bn_cX7_say_384 dop_21 6 (by decide +kernel)
theorem dX7_say_431 : decode cX7_say 431 = .ok (.invokevirtual 32, 3) := dR2 (f := Instr.invokevirtual) (k := 384) (i := 47) bn_cX7_say_384 dop_182 32 (by decide +kernel)
theorem dX7_say_434 : decode cX7_say 434 = .ok (.aload_n 0, 1) := dR0 (k := 384) (i := 50) bn_cX7_say_384 dop_42 (by decide +kernel)
theorem dX7_say_435 : decode cX7_say 435 = .ok (.getfield 25, 3) := dR2 (f := Instr.getfield) (k := 384) (i := 51) bn_cX7_say_384 dop_180 25 (by decide +kernel)
theorem dX7_say_438 : decode cX7_say 438 = .ok (.iadd, 1) := dR0 (k := 384) (i := 54) bn_cX7_say_384 dop_96 (by decide +kernel)
theorem dX7_say_439 : decode cX7_say 439 = .ok (.ireturn, 1) := dR0 (k := 384) (i := 55) bn_cX7_say_384 dop_172 (by decide +kernel)
theorem dX7_say_440 : decode cX7_say 440 = .ok (.aload_n 0, 1) := dR0 (k := 384) (i := 56) bn_cX7_say_384 dop_42 (by decide +kernel)
theorem dX7_say_441 : decode cX7_say 441 = .ok (.iconst 0, 1) := dR0 (k := 384) (i := 57) bn_cX7_say_384 dop_3 (by decide +kernel)
theorem dX7_say_442 : decode cX7_say 442 = .ok (.iconst 2, 1) := dR0 (k := 384) (i := 58) bn_cX7_say_384 dop_5 (by decide +kernel)
theorem dX7_say_443 : decode cX7_say 443 = .ok (.iload_n 3, 1) := dR0 (k := 384) (i := 59) bn_cX7_say_384 dop_29 (by decide +kernel)
theorem dX7_say_444 : decode cX7_say 444 = .ok (.iload 6, 2) := dR1 (f := Instr.iload) (k := 384) (i := 60) bn_cX7_say_384 dop_21 6 (by decide +kernel)
theorem dX7_say_446 : decode cX7_say 446 = .ok (.invokevirtual 32, 3) := dR2 (f := Instr.invokevirtual) (k := 384) (i := 62) bn_cX7_say_384 dop_182 32 (by decide +kernel)
theorem dX7_say_449 : decode cX7_say 449 = .ok (.aload_n 0, 1) := dR0 (k := 384) (i := 65) bn_cX7_say_384 dop_42 (by decide +kernel)
theorem dX7_say_450 : decode cX7_say 450 = .ok (.iconst 0, 1) := dR0 (k := 384) (i := 66) bn_cX7_say_384 dop_3 (by decide +kernel)
theorem dX7_say_451 : decode cX7_say 451 = .ok (.iconst 1, 1) := dR0 (k := 384) (i := 67) bn_cX7_say_384 dop_4 (by decide +kernel)
theorem dX7_say_452 : decode cX7_say 452 = .ok (.iload 6, 2) := dR1 (f := Instr.iload) (k := 384) (i := 68) bn_cX7_say_384 dop_21 6 (by decide +kernel)
theorem dX7_say_454 : decode cX7_say 454 = .ok (.invokevirtual 28, 3) := dR2 (f := Instr.invokevirtual) (k := 384) (i := 70) bn_cX7_say_384 dop_182 28 (by decide +kernel)
theorem dX7_say_457 : decode cX7_say 457 = .ok (.isub, 1) := dR0 (k := 384) (i := 73) bn_cX7_say_384 dop_100 (by decide +kernel)
theorem dX7_say_458 : decode cX7_say 458 = .ok (.ireturn, 1) := dR0 (k := 384) (i := 74) bn_cX7_say_384 dop_172 (by decide +kernel)
theorem dX7_say_459 : decode cX7_say 459 = .ok (.aload_n 0, 1) := dR0 (k := 384) (i := 75) bn_cX7_say_384 dop_42 (by decide +kernel)
theorem dX7_say_460 : decode cX7_say 460 = .ok (.iconst 4, 1) := dR0 (k := 384) (i := 76) bn_cX7_say_384 dop_7 (by decide +kernel)
theorem dX7_say_461 : decode cX7_say 461 = .ok (.iconst 1, 1) := dR0 (k := 384) (i := 77) bn_cX7_say_384 dop_4 (by decide +kernel)
theorem dX7_say_462 : decode cX7_say 462 = .ok (.iload_n 3, 1) := dR0 (k := 384) (i := 78) bn_cX7_say_384 dop_29 (by decide +kernel)
theorem dX7_say_463 : decode cX7_say 463 = .ok (.iload 6, 2) := dR1 (f := Instr.iload) (k := 384) (i := 79) bn_cX7_say_384 dop_21 6 (by decide +kernel)
theorem dX7_say_465 : decode cX7_say 465 = .ok (.invokevirtual 32, 3) := dR2 (f := Instr.invokevirtual) (k := 384) (i := 81) bn_cX7_say_384 dop_182 32 (by decide +kernel)
theorem dX7_say_468 : decode cX7_say 468 = .ok (.aload_n 0, 1) := dR0 (k := 384) (i := 84) bn_cX7_say_384 dop_42 (by decide +kernel)
theorem dX7_say_469 : decode cX7_say 469 = .ok (.getfield 25, 3) := dR2 (f := Instr.getfield) (k := 384) (i := 85) bn_cX7_say_384 dop_180 25 (by decide +kernel)
theorem dX7_say_472 : decode cX7_say 472 = .ok (.imul, 1) := dR0 (k := 384) (i := 88) bn_cX7_say_384 dop_104 (by decide +kernel)
theorem dX7_say_473 : decode cX7_say 473 = .ok (.ireturn, 1) := dR0 (k := 384) (i := 89) bn_cX7_say_384 dop_172 (by decide +kernel)
theorem dX7_say_474 : decode cX7_say 474 = .ok (.iconst 0, 1) := dR0 (k := 384) (i := 90) bn_cX7_say_384 dop_3 (by decide +kernel)
theorem dX7_say_475 : decode cX7_say 475 = .ok (.aload_n 0, 1) := dR0 (k := 384) (i := 91) bn_cX7_say_384 dop_42 (by decide +kernel)
theorem dX7_say_476 : decode cX7_say 476 = .ok (.iconst 4, 1) := dR0 (k := 384) (i := 92) bn_cX7_say_384 dop_7 (by decide +kernel)
theorem dX7_say_477 : decode cX7_say 477 = .ok (.iconst 3, 1) := dR0 (k := 384) (i := 93) bn_cX7_say_384 dop_6 (by decide +kernel)
theorem dX7_say_478 : decode cX7_say 478 = .ok (.iload_n 3, 1) := dR0 (k := 384) (i := 94) bn_cX7_say_384 dop_29 (by decide +kernel)
theorem dX7_say_479 : decode cX7_say 479 = .ok (.iload 6, 2) := dR1 (f := Instr.iload) (k := 384) (i := 95) bn_cX7_say_384 dop_21 6 (by decide +kernel)
theorem dX7_say_481 : decode cX7_say 481 = .ok (.invokevirtual 32, 3) := dR2 (f := Instr.invokevirtual) (k := 384) (i := 97) bn_cX7_say_384 dop_182 32 (by decide +kernel)
theorem dX7_say_484 : decode cX7_say 484 = .ok (.isub, 1) := dR0 (k := 384) (i := 100) bn_cX7_say_384 dop_100 (by decide +kernel)
theorem dX7_say_485 : decode cX7_say 485 = .ok (.ireturn, 1) := dR0 (k := 384) (i := 101) bn_cX7_say_384 dop_172 (by decide +kernel)
def SAYP (dd : Nat) : Prop := ∀ (l : Launch) (D : va_G) (cI : ClassId) (aK aV : Nat → Nat) (k k0 : Nat) (sz : Nat) (c1 : Int32) (c2 : Int32) (c3 : Int32) (c4 : Int32) (c0 : Nat → Int32) (a0 : Int32) (a1 : Int32) (a2 : Int32) (a3 : Int32) (pre0 : (41 - a3.toInt).toNat < dd) , Met l yX7_say (gW yX7_say cX7_say 7 (some .int)) ({ frames := 4 * dd, cells := 0, slots := 0, locals := 128 * dd } : Room) (kPreX D cI aK aV [.ref k, .int a0, .int a1, .int a2, .int a3] [(k, .inr (7, [.ref k0, .int c1, .int c2, .int c3, .int c4])), (k0, .inl (cI, 40, .inl c0))] sz) (va_Qi (fun (r : Int32) (u : Int32 × (Nat → Int32)) => True) (fun u t => kWd D cI (va_A [(k, .inr (7, [.ref k0, .int c1, .int c2, .int c3, .int c4])), (k0, .inl (cI, 40, .inl c0))] sz) [(k, .inr (7, [.ref k0, .int u.1, .int c2, .int c3, .int c4])), (k0, .inl (cI, 40, .inl u.2))] t) (va_A [(k, .inr (7, [.ref k0, .int c1, .int c2, .int c3, .int c4])), (k0, .inl (cI, 40, .inl c0))] sz)) 0 0 (va_A [(k, .inr (7, [.ref k0, .int c1, .int c2, .int c3, .int c4])), (k0, .inl (cI, 40, .inl c0))] sz)
set_option maxHeartbeats 4000000 in
set_option maxRecDepth 100000 in
theorem c_X7_own_of (dd : Nat) (ih : SAYP dd) (l : Launch) (D : va_G) (cI : ClassId) (aK aV : Nat → Nat) (k k0 : Nat) (sz : Nat) (c1 : Int32) (c2 : Int32) (c3 : Int32) (c4 : Int32) (c0 : Nat → Int32) (a0 : Int32) (a1 : Int32) (a2 : Int32) (pre0 : (41 - a2.toInt).toNat < dd)  : Met l yX7_own (gW yX7_own cX7_own 4 (some .int)) ({ frames := 4 * dd + 2, cells := 0, slots := 0, locals := 128 * dd + 64 } : Room) (kPreX D cI aK aV [.ref k, .int a0, .int a1, .int a2] [(k, .inr (7, [.ref k0, .int c1, .int c2, .int c3, .int c4])), (k0, .inl (cI, 40, .inl c0))] sz) (va_Qi (fun (r : Int32) (u : Int32 × (Nat → Int32)) => True) (fun u t => kWd D cI (va_A [(k, .inr (7, [.ref k0, .int c1, .int c2, .int c3, .int c4])), (k0, .inl (cI, 40, .inl c0))] sz) [(k, .inr (7, [.ref k0, .int u.1, .int c2, .int c3, .int c4])), (k0, .inl (cI, 40, .inl u.2))] t) (va_A [(k, .inr (7, [.ref k0, .int c1, .int c2, .int c3, .int c4])), (k0, .inl (cI, 40, .inl c0))] sz)) 0 0 (va_A [(k, .inr (7, [.ref k0, .int c1, .int c2, .int c3, .int c4])), (k0, .inl (cI, 40, .inl c0))] sz) := by
  refine kMetIX (own := RX7) (by decide +kernel) rfl (Nat.le_of_ble_eq_true rfl) ?_
  intro p e s m args below meth c hx hb hT hown hname hml A Q hK hP hD hS hA hN hXS hRet ls hl
  have hl : lv_has ls 4 [(0, .ref k), (1, .int a0), (2, .int a1), (3, .int a2)] := hl
  have lo_a0 := k_lo a0
  have hi_a0 := k_hi a0
  have lo_a1 := k_lo a1
  have hi_a1 := k_hi a1
  have lo_a2 := k_lo a2
  have hi_a2 := k_hi a2
  have lo_c2 := k_lo c2
  have hi_c2 := k_hi c2
  refine lv_aload_n hx hb dX7_own_0 rfl (lv_at hl 0 rfl) ?_
  refine lv_aload_n hx hb dX7_own_1 rfl (lv_at hl 0 rfl) ?_
  refine va_get (D := D) (ci := 7) (v := .int c2) (C := RX7) (T := TX7) (N := 5) hx hb hT giX7 hown hK hP 0 rfl rfl 2 (by decide +kernel) (hT (Cond.fieldLink RX7 19 "DesertWire$Voices" "kind" "I") mw_261) (fun _ h9 => h9) rfl dX7_own_2 ?_
  refine lv_iload_n hx hb dX7_own_5 rfl (lv_at hl 1 rfl) ?_
  refine lv_iload_n hx hb dX7_own_6 rfl (lv_at hl 2 rfl) ?_
  refine lv_iload_n hx hb dX7_own_7 rfl (lv_at hl 3 rfl) ?_
  refine kJi (wr := []) (va_runV (As := [.int c2, .int a0, .int a1, .int a2]) (rest := []) ⟨hx, hb, hml, hown, hT⟩ (ih l D cI aK aV k k0 s.heap.size c1 c2 c3 c4 c0 c2 a0 a1 a2 (by first | omega | decide | assumption | rfl)) (cwV 4 hT (gV_in mw_1054 mw_1051 mw_1053 mw_p3_7 mw_10) rfl rfl rfl (by decide +kernel) ⟨(by dsimp only; omega), (by dsimp only; omega)⟩) (kRecvX (q0 := 0) (ci := 7) hK hP hD hN hXS hS hA rfl rfl [0, 1] rfl (by decide +kernel)) rfl rfl hl.1 rfl (lv_room (Nat.le_of_ble_eq_true rfl)) dX7_own_8 ⟨Nat.le_of_ble_eq_true rfl, Nat.le_of_ble_eq_true rfl⟩) hP hD hS hA [0, 1] [] rfl rfl (by decide +kernel) (by decide +kernel) ?_
  clear hP hD hS
  intro r_1 u_5 H locs w_2 hP hD hS
  obtain ⟨sc1_3, sc0_4⟩ := u_5
  replace hP : va_P D vwCl [(k, .inr (7, [.ref k0, .int sc1_3, .int c2, .int c3, .int c4])), (k0, .inl (cI, 40, .inl sc0_4))] H := hP
  replace hD : va_D A [(k, .inr (7, [.ref k0, .int sc1_3, .int c2, .int c3, .int c4])), (k0, .inl (cI, 40, .inl sc0_4))] := hD
  have lo_r_1 := k_lo r_1
  have hi_r_1 := k_hi r_1
  exact hRet (sc1_3, sc0_4) [0, 1] trivial hP hD (by decide +kernel) rfl hS rfl dX7_own_11
set_option maxHeartbeats 4000000 in
set_option maxRecDepth 100000 in
theorem c_X7_sayR : ∀ dd : Nat, SAYP dd := by
  intro dd
  induction dd with
  | zero => intro l D cI aK aV k k0 sz c1 c2 c3 c4 c0 a0 a1 a2 a3 pre0; exact absurd pre0 (by omega)
  | succ dd ih =>
    intro l D cI aK aV k k0 sz c1 c2 c3 c4 c0 a0 a1 a2 a3 pre0
    refine kMetIX (own := RX7) (by decide +kernel) rfl (Nat.le_of_ble_eq_true rfl) ?_
    intro p e s m args below meth c hx hb hT hown hname hml A Q hK hP hD hS hA hN hXS hRet ls hl
    have hl : lv_has ls 7 [(0, .ref k), (1, .int a0), (2, .int a1), (3, .int a2), (4, .int a3)] := hl
    have lo_a0 := k_lo a0
    have hi_a0 := k_hi a0
    have lo_a1 := k_lo a1
    have hi_a1 := k_hi a1
    have lo_a2 := k_lo a2
    have hi_a2 := k_hi a2
    have lo_a3 := k_lo a3
    have hi_a3 := k_hi a3
    have lo_c1 := k_lo c1
    have hi_c1 := k_hi c1
    have lo_c3 := k_lo c3
    have hi_c3 := k_hi c3
    have lo_c4 := k_lo c4
    have hi_c4 := k_hi c4
    refine lv_iload hx hb dX7_say_0 (lv_at hl 4 rfl) ?_
    refine lv_bipush (v := 40) hx hb dX7_say_2 (by decide +kernel) ?_
    refine b_icmp_le hx hb rfl zl_40 (tgt := 9) dX7_say_4 (by decide +kernel) (fun c_1 => ?_) (fun c_1 => ?_)
    · refine lv_iload_n hx hb dX7_say_9 rfl (lv_at hl 1 rfl) ?_
      refine lv_iload_n hx hb dX7_say_10 rfl (lv_at hl 2 rfl) ?_
      refine kJi (wr := [(k, .inr (7, [.ref k0, .int c1, .int c2, .int c3, .int c4])), (k0, .inl (cI, 40, .inl c0))]) (va_runS (As := [.int a0, .int a1]) (rest := []) ⟨hx, hb, hml, hown, hT⟩ (c_X7_bodyFromG l D cI aK aV s.heap.size a0 a1) (cwS 2 hT (gS_in mw_1057 mw_1055 mw_1056 mw_10) rfl rfl rfl (by decide +kernel) ⟨(by dsimp only; omega), (by dsimp only; omega)⟩) (kStatX hK hP hD hN hXS hS hA [] rfl (by decide +kernel)) rfl rfl hl.1 rfl (lv_room (Nat.le_of_ble_eq_true rfl)) dX7_say_11 ⟨Nat.le_of_ble_eq_true rfl, Nat.le_of_ble_eq_true rfl⟩) hP hD hS hA [] [0, 1] rfl rfl (by decide +kernel) (by decide +kernel) ?_
      clear hP hD hS
      intro r_2 u_4 H locs w_3 hP hD hS
      replace hP : va_P D vwCl [(k, .inr (7, [.ref k0, .int c1, .int c2, .int c3, .int c4])), (k0, .inl (cI, 40, .inl c0))] H := hP
      replace hD : va_D A [(k, .inr (7, [.ref k0, .int c1, .int c2, .int c3, .int c4])), (k0, .inl (cI, 40, .inl c0))] := hD
      have h_5 := w_3
      have h_5 : r_2.toInt = 10 ∨ r_2.toInt = 11 ∨ r_2.toInt = 12 ∨ r_2.toInt = 13 ∨ r_2.toInt = 20 ∨ r_2.toInt = 21 ∨ r_2.toInt = 30 ∨ r_2.toInt = 31 ∨ r_2.toInt = 40 ∨ r_2.toInt = 41 ∨ r_2.toInt = 50 ∨ r_2.toInt = 51 ∨ r_2.toInt = 60 ∨ r_2.toInt = 61 := h_5
      have lo_r_2 := k_lo r_2
      have hi_r_2 := k_hi r_2
      refine lv_istore (lv' := [(5, .int r_2), (0, .ref k), (1, .int a0), (2, .int a1), (3, .int a2), (4, .int a3)]) hx hb dX7_say_14 hl (by decide +kernel) rfl ?_
      clear hl
      intro ls hl
      refine lv_aload_n hx hb dX7_say_16 rfl (lv_at hl 1 rfl) ?_
      refine va_get (D := D) (ci := 7) (v := .int c1) (C := RX7) (T := TX7) (N := 5) hx hb hT giX7 hown hK hP 0 rfl rfl 1 (by decide +kernel) (hT (Cond.fieldLink RX7 15 "DesertWire$Voices" "begun" "I") mw_259) (fun _ h9 => h9) rfl dX7_say_17 ?_
      refine b_if_lt hx hb rfl (tgt := 53) dX7_say_20 (by decide +kernel) (fun c_6 => ?_) (fun c_6 => ?_)
      · refine lv_iload hx hb dX7_say_53 (lv_at hl 5 rfl) ?_
        refine lv_iconst (v := 1) hx hb dX7_say_55 (by decide +kernel) ?_
        refine lv_iadd hx hb dX7_say_56 ?_
        refine lv_topi (fun v_7 ev_7 => ?_)
        have tv_7 : v_7.toInt = a3.toInt + 1 := by rw [ev_7]; exact k_addv rfl zl_1 (by omega) (by omega)
        refine lv_istore (lv' := [(6, .int v_7), (5, .int r_2), (0, .ref k), (1, .int a0), (2, .int a1), (3, .int a2), (4, .int a3)]) hx hb dX7_say_57 hl (by decide +kernel) rfl ?_
        clear hl
        intro ls hl
        refine lv_iload hx hb dX7_say_59 (lv_at hl 1 rfl) ?_
        by_cases c_8 : r_2.toInt = 10
        · refine lv_tableIn (off := 219) (tgt := 280) hx hb dX7_say_61 (by omega) (by omega) (by rw [c_8]; decide) (by decide +kernel) ?_
          refine lv_iload_n hx hb dX7_say_280 rfl (lv_at hl 5 rfl) ?_
          refine lv_aload_n hx hb dX7_say_281 rfl (lv_at hl 2 rfl) ?_
          refine va_get (D := D) (ci := 7) (v := .int c3) (C := RX7) (T := TX7) (N := 5) hx hb hT giX7 hown hK hP 0 rfl rfl 3 (by decide +kernel) (hT (Cond.fieldLink RX7 22 "DesertWire$Voices" "n" "I") mw_262) (fun _ h9 => h9) rfl dX7_say_282 ?_
          refine lv_isub hx hb dX7_say_285 ?_
          refine lv_topi (fun v_9 ev_9 => ?_)
          have lo_v_9 := k_lo v_9
          have hi_v_9 := k_hi v_9
          exact hRet (c1, c0) [0, 1] trivial hP hD (by decide +kernel) rfl hS rfl dX7_say_286
        by_cases c_10 : r_2.toInt = 11
        · refine lv_tableIn (off := 226) (tgt := 287) hx hb dX7_say_61 (by omega) (by omega) (by rw [c_10]; decide) (by decide +kernel) ?_
          refine lv_aload_n hx hb dX7_say_287 rfl (lv_at hl 2 rfl) ?_
          refine lv_iconst (v := 0) hx hb dX7_say_288 (by decide +kernel) ?_
          refine lv_iload_n hx hb dX7_say_289 rfl (lv_at hl 5 rfl) ?_
          refine lv_iload hx hb dX7_say_290 (lv_at hl 0 rfl) ?_
          refine kJi (wr := []) (va_runV (As := [.int 0, .int a2, .int v_7]) (rest := []) ⟨hx, hb, hml, hown, hT⟩ (c_X7_own_of dd ih l D cI aK aV k k0 H.size c1 c2 c3 c4 c0 0 a2 v_7 (by first | omega | (simp only [zl_0]; first | done | omega) | decide | assumption | rfl)) (cwV 3 hT (gV_in mw_1050 mw_1047 mw_1049 mw_p3_6 mw_10) rfl rfl rfl (by decide +kernel) ⟨(by dsimp only; omega), (by dsimp only; omega)⟩) (kRecvX (q0 := 0) (ci := 7) hK hP hD hN hXS hS hA rfl rfl [0, 1] rfl (by decide +kernel)) rfl rfl hl.1 rfl (lv_room (Nat.le_of_ble_eq_true rfl)) dX7_say_292 ⟨Nat.le_of_ble_eq_true rfl, Nat.le_of_ble_eq_true rfl⟩) hP hD hS hA [0, 1] [] rfl rfl (by decide +kernel) (by decide +kernel) ?_
          clear hP hD hS
          intro r_11 u_15 H locs w_12 hP hD hS
          obtain ⟨sc1_13, sc0_14⟩ := u_15
          replace hP : va_P D vwCl [(k, .inr (7, [.ref k0, .int sc1_13, .int c2, .int c3, .int c4])), (k0, .inl (cI, 40, .inl sc0_14))] H := hP
          replace hD : va_D A [(k, .inr (7, [.ref k0, .int sc1_13, .int c2, .int c3, .int c4])), (k0, .inl (cI, 40, .inl sc0_14))] := hD
          have lo_r_11 := k_lo r_11
          have hi_r_11 := k_hi r_11
          refine lv_aload_n hx hb dX7_say_295 rfl (lv_at hl 2 rfl) ?_
          refine va_get (D := D) (ci := 7) (v := .int c4) (C := RX7) (T := TX7) (N := 5) hx hb hT giX7 hown hK hP 0 rfl rfl 4 (by decide +kernel) (hT (Cond.fieldLink RX7 25 "DesertWire$Voices" "w" "I") mw_263) (fun _ h9 => h9) rfl dX7_say_296 ?_
          refine lv_iadd hx hb dX7_say_299 ?_
          refine lv_topi (fun v_16 ev_16 => ?_)
          have lo_v_16 := k_lo v_16
          have hi_v_16 := k_hi v_16
          exact hRet (sc1_13, sc0_14) [0, 1] trivial hP hD (by decide +kernel) rfl hS rfl dX7_say_300
        by_cases c_17 : r_2.toInt = 12
        · refine lv_tableIn (off := 240) (tgt := 301) hx hb dX7_say_61 (by omega) (by omega) (by rw [c_17]; decide) (by decide +kernel) ?_
          refine lv_aload_n hx hb dX7_say_301 rfl (lv_at hl 2 rfl) ?_
          refine lv_iconst (v := 1) hx hb dX7_say_302 (by decide +kernel) ?_
          refine lv_iload_n hx hb dX7_say_303 rfl (lv_at hl 5 rfl) ?_
          refine lv_iload hx hb dX7_say_304 (lv_at hl 0 rfl) ?_
          refine kJi (wr := []) (va_runV (As := [.int 1, .int a2, .int v_7]) (rest := []) ⟨hx, hb, hml, hown, hT⟩ (c_X7_own_of dd ih l D cI aK aV k k0 H.size c1 c2 c3 c4 c0 1 a2 v_7 (by first | omega | (simp only [zl_1]; first | done | omega) | decide | assumption | rfl)) (cwV 3 hT (gV_in mw_1050 mw_1047 mw_1049 mw_p3_6 mw_10) rfl rfl rfl (by decide +kernel) ⟨(by dsimp only; omega), (by dsimp only; omega)⟩) (kRecvX (q0 := 0) (ci := 7) hK hP hD hN hXS hS hA rfl rfl [0, 1] rfl (by decide +kernel)) rfl rfl hl.1 rfl (lv_room (Nat.le_of_ble_eq_true rfl)) dX7_say_306 ⟨Nat.le_of_ble_eq_true rfl, Nat.le_of_ble_eq_true rfl⟩) hP hD hS hA [0, 1] [] rfl rfl (by decide +kernel) (by decide +kernel) ?_
          clear hP hD hS
          intro r_18 u_22 H locs w_19 hP hD hS
          obtain ⟨sc1_20, sc0_21⟩ := u_22
          replace hP : va_P D vwCl [(k, .inr (7, [.ref k0, .int sc1_20, .int c2, .int c3, .int c4])), (k0, .inl (cI, 40, .inl sc0_21))] H := hP
          replace hD : va_D A [(k, .inr (7, [.ref k0, .int sc1_20, .int c2, .int c3, .int c4])), (k0, .inl (cI, 40, .inl sc0_21))] := hD
          have lo_r_18 := k_lo r_18
          have hi_r_18 := k_hi r_18
          refine lv_iconst (v := 2) hx hb dX7_say_309 (by decide +kernel) ?_
          refine lv_imul hx hb dX7_say_310 ?_
          refine lv_topi (fun v_23 ev_23 => ?_)
          have lo_v_23 := k_lo v_23
          have hi_v_23 := k_hi v_23
          exact hRet (sc1_20, sc0_21) [0, 1] trivial hP hD (by decide +kernel) rfl hS rfl dX7_say_311
        by_cases c_24 : r_2.toInt = 13
        · refine lv_tableIn (off := 251) (tgt := 312) hx hb dX7_say_61 (by omega) (by omega) (by rw [c_24]; decide) (by decide +kernel) ?_
          refine lv_aload_n hx hb dX7_say_312 rfl (lv_at hl 2 rfl) ?_
          refine lv_iconst (v := 2) hx hb dX7_say_313 (by decide +kernel) ?_
          refine lv_iload_n hx hb dX7_say_314 rfl (lv_at hl 5 rfl) ?_
          refine lv_iload hx hb dX7_say_315 (lv_at hl 0 rfl) ?_
          refine kJi (wr := []) (va_runV (As := [.int 2, .int a2, .int v_7]) (rest := []) ⟨hx, hb, hml, hown, hT⟩ (c_X7_own_of dd ih l D cI aK aV k k0 H.size c1 c2 c3 c4 c0 2 a2 v_7 (by first | omega | (simp only [zl_2]; first | done | omega) | decide | assumption | rfl)) (cwV 3 hT (gV_in mw_1050 mw_1047 mw_1049 mw_p3_6 mw_10) rfl rfl rfl (by decide +kernel) ⟨(by dsimp only; omega), (by dsimp only; omega)⟩) (kRecvX (q0 := 0) (ci := 7) hK hP hD hN hXS hS hA rfl rfl [0, 1] rfl (by decide +kernel)) rfl rfl hl.1 rfl (lv_room (Nat.le_of_ble_eq_true rfl)) dX7_say_317 ⟨Nat.le_of_ble_eq_true rfl, Nat.le_of_ble_eq_true rfl⟩) hP hD hS hA [0, 1] [] rfl rfl (by decide +kernel) (by decide +kernel) ?_
          clear hP hD hS
          intro r_25 u_29 H locs w_26 hP hD hS
          obtain ⟨sc1_27, sc0_28⟩ := u_29
          replace hP : va_P D vwCl [(k, .inr (7, [.ref k0, .int sc1_27, .int c2, .int c3, .int c4])), (k0, .inl (cI, 40, .inl sc0_28))] H := hP
          replace hD : va_D A [(k, .inr (7, [.ref k0, .int sc1_27, .int c2, .int c3, .int c4])), (k0, .inl (cI, 40, .inl sc0_28))] := hD
          have lo_r_25 := k_lo r_25
          have hi_r_25 := k_hi r_25
          refine lv_aload_n hx hb dX7_say_320 rfl (lv_at hl 2 rfl) ?_
          refine lv_iconst (v := 0) hx hb dX7_say_321 (by decide +kernel) ?_
          refine lv_iload_n hx hb dX7_say_322 rfl (lv_at hl 5 rfl) ?_
          refine lv_iload hx hb dX7_say_323 (lv_at hl 0 rfl) ?_
          refine kJi (wr := []) (va_runV (As := [.int 0, .int a2, .int v_7]) (rest := [.int r_25]) ⟨hx, hb, hml, hown, hT⟩ (c_X7_own_of dd ih l D cI aK aV k k0 H.size sc1_27 c2 c3 c4 sc0_28 0 a2 v_7 (by first | omega | (simp only [zl_0]; first | done | omega) | decide | assumption | rfl)) (cwV 3 hT (gV_in mw_1050 mw_1047 mw_1049 mw_p3_6 mw_10) rfl rfl rfl (by decide +kernel) ⟨(by dsimp only; omega), (by dsimp only; omega)⟩) (kRecvX (q0 := 0) (ci := 7) hK hP hD hN hXS hS hA rfl rfl [0, 1] rfl (by decide +kernel)) rfl rfl hl.1 rfl (lv_room (Nat.le_of_ble_eq_true rfl)) dX7_say_325 ⟨Nat.le_of_ble_eq_true rfl, Nat.le_of_ble_eq_true rfl⟩) hP hD hS hA [0, 1] [] rfl rfl (by decide +kernel) (by decide +kernel) ?_
          clear hP hD hS
          intro r_30 u_34 H locs w_31 hP hD hS
          obtain ⟨sc1_32, sc0_33⟩ := u_34
          replace hP : va_P D vwCl [(k, .inr (7, [.ref k0, .int sc1_32, .int c2, .int c3, .int c4])), (k0, .inl (cI, 40, .inl sc0_33))] H := hP
          replace hD : va_D A [(k, .inr (7, [.ref k0, .int sc1_32, .int c2, .int c3, .int c4])), (k0, .inl (cI, 40, .inl sc0_33))] := hD
          have lo_r_30 := k_lo r_30
          have hi_r_30 := k_hi r_30
          refine lv_ixor hx hb dX7_say_328 ?_
          refine lv_topi (fun v_35 ev_35 => ?_)
          have lo_v_35 := k_lo v_35
          have hi_v_35 := k_hi v_35
          exact hRet (sc1_32, sc0_33) [0, 1] trivial hP hD (by decide +kernel) rfl hS rfl dX7_say_329
        by_cases c_36 : r_2.toInt = 20
        · refine lv_tableIn (off := 269) (tgt := 330) hx hb dX7_say_61 (by omega) (by omega) (by rw [c_36]; decide) (by decide +kernel) ?_
          refine lv_aload_n hx hb dX7_say_330 rfl (lv_at hl 2 rfl) ?_
          refine lv_iconst (v := 0) hx hb dX7_say_331 (by decide +kernel) ?_
          refine lv_iconst (v := 1) hx hb dX7_say_332 (by decide +kernel) ?_
          refine lv_iload_n hx hb dX7_say_333 rfl (lv_at hl 5 rfl) ?_
          refine lv_iconst (v := 1) hx hb dX7_say_334 (by decide +kernel) ?_
          refine lv_iadd hx hb dX7_say_335 ?_
          refine lv_topi (fun v_37 ev_37 => ?_)
          have lo_v_37 := k_lo v_37
          have hi_v_37 := k_hi v_37
          refine lv_iload hx hb dX7_say_336 (lv_at hl 0 rfl) ?_
          refine kJi (wr := []) (va_runV (As := [.int 0, .int 1, .int v_37, .int v_7]) (rest := []) ⟨hx, hb, hml, hown, hT⟩ (ih l D cI aK aV k k0 H.size c1 c2 c3 c4 c0 0 1 v_37 v_7 (by first | omega | (simp only [zl_0, zl_1]; first | done | omega) | decide | assumption | rfl)) (cwV 4 hT (gV_in mw_1054 mw_1051 mw_1053 mw_p3_7 mw_10) rfl rfl rfl (by decide +kernel) ⟨(by dsimp only; omega), (by dsimp only; omega)⟩) (kRecvX (q0 := 0) (ci := 7) hK hP hD hN hXS hS hA rfl rfl [0, 1] rfl (by decide +kernel)) rfl rfl hl.1 rfl (lv_room (Nat.le_of_ble_eq_true rfl)) dX7_say_338 ⟨Nat.le_of_ble_eq_true rfl, Nat.le_of_ble_eq_true rfl⟩) hP hD hS hA [0, 1] [] rfl rfl (by decide +kernel) (by decide +kernel) ?_
          clear hP hD hS
          intro r_38 u_42 H locs w_39 hP hD hS
          obtain ⟨sc1_40, sc0_41⟩ := u_42
          replace hP : va_P D vwCl [(k, .inr (7, [.ref k0, .int sc1_40, .int c2, .int c3, .int c4])), (k0, .inl (cI, 40, .inl sc0_41))] H := hP
          replace hD : va_D A [(k, .inr (7, [.ref k0, .int sc1_40, .int c2, .int c3, .int c4])), (k0, .inl (cI, 40, .inl sc0_41))] := hD
          have lo_r_38 := k_lo r_38
          have hi_r_38 := k_hi r_38
          exact hRet (sc1_40, sc0_41) [0, 1] trivial hP hD (by decide +kernel) rfl hS rfl dX7_say_341
        by_cases c_43 : r_2.toInt = 21
        · refine lv_tableIn (off := 281) (tgt := 342) hx hb dX7_say_61 (by omega) (by omega) (by rw [c_43]; decide) (by decide +kernel) ?_
          refine lv_aload_n hx hb dX7_say_342 rfl (lv_at hl 2 rfl) ?_
          refine lv_iconst (v := 0) hx hb dX7_say_343 (by decide +kernel) ?_
          refine lv_iconst (v := 3) hx hb dX7_say_344 (by decide +kernel) ?_
          refine lv_iload_n hx hb dX7_say_345 rfl (lv_at hl 5 rfl) ?_
          refine lv_iload hx hb dX7_say_346 (lv_at hl 0 rfl) ?_
          refine kJi (wr := []) (va_runV (As := [.int 0, .int 3, .int a2, .int v_7]) (rest := []) ⟨hx, hb, hml, hown, hT⟩ (ih l D cI aK aV k k0 H.size c1 c2 c3 c4 c0 0 3 a2 v_7 (by first | omega | (simp only [zl_0, zl_3]; first | done | omega) | decide | assumption | rfl)) (cwV 4 hT (gV_in mw_1054 mw_1051 mw_1053 mw_p3_7 mw_10) rfl rfl rfl (by decide +kernel) ⟨(by dsimp only; omega), (by dsimp only; omega)⟩) (kRecvX (q0 := 0) (ci := 7) hK hP hD hN hXS hS hA rfl rfl [0, 1] rfl (by decide +kernel)) rfl rfl hl.1 rfl (lv_room (Nat.le_of_ble_eq_true rfl)) dX7_say_348 ⟨Nat.le_of_ble_eq_true rfl, Nat.le_of_ble_eq_true rfl⟩) hP hD hS hA [0, 1] [] rfl rfl (by decide +kernel) (by decide +kernel) ?_
          clear hP hD hS
          intro r_44 u_48 H locs w_45 hP hD hS
          obtain ⟨sc1_46, sc0_47⟩ := u_48
          replace hP : va_P D vwCl [(k, .inr (7, [.ref k0, .int sc1_46, .int c2, .int c3, .int c4])), (k0, .inl (cI, 40, .inl sc0_47))] H := hP
          replace hD : va_D A [(k, .inr (7, [.ref k0, .int sc1_46, .int c2, .int c3, .int c4])), (k0, .inl (cI, 40, .inl sc0_47))] := hD
          have lo_r_44 := k_lo r_44
          have hi_r_44 := k_hi r_44
          refine lv_aload_n hx hb dX7_say_351 rfl (lv_at hl 2 rfl) ?_
          refine va_get (D := D) (ci := 7) (v := .int c3) (C := RX7) (T := TX7) (N := 5) hx hb hT giX7 hown hK hP 0 rfl rfl 3 (by decide +kernel) (hT (Cond.fieldLink RX7 22 "DesertWire$Voices" "n" "I") mw_262) (fun _ h9 => h9) rfl dX7_say_352 ?_
          refine lv_isub hx hb dX7_say_355 ?_
          refine lv_topi (fun v_49 ev_49 => ?_)
          have lo_v_49 := k_lo v_49
          have hi_v_49 := k_hi v_49
          exact hRet (sc1_46, sc0_47) [0, 1] trivial hP hD (by decide +kernel) rfl hS rfl dX7_say_356
        by_cases c_50 : r_2.toInt = 30
        · refine lv_tableIn (off := 296) (tgt := 357) hx hb dX7_say_61 (by omega) (by omega) (by rw [c_50]; decide) (by decide +kernel) ?_
          refine lv_aload_n hx hb dX7_say_357 rfl (lv_at hl 2 rfl) ?_
          refine lv_iconst (v := 1) hx hb dX7_say_358 (by decide +kernel) ?_
          refine lv_iconst (v := 0) hx hb dX7_say_359 (by decide +kernel) ?_
          refine lv_iload_n hx hb dX7_say_360 rfl (lv_at hl 5 rfl) ?_
          refine lv_iload hx hb dX7_say_361 (lv_at hl 0 rfl) ?_
          refine kJi (wr := []) (va_runV (As := [.int 1, .int 0, .int a2, .int v_7]) (rest := []) ⟨hx, hb, hml, hown, hT⟩ (ih l D cI aK aV k k0 H.size c1 c2 c3 c4 c0 1 0 a2 v_7 (by first | omega | (simp only [zl_0, zl_1]; first | done | omega) | decide | assumption | rfl)) (cwV 4 hT (gV_in mw_1054 mw_1051 mw_1053 mw_p3_7 mw_10) rfl rfl rfl (by decide +kernel) ⟨(by dsimp only; omega), (by dsimp only; omega)⟩) (kRecvX (q0 := 0) (ci := 7) hK hP hD hN hXS hS hA rfl rfl [0, 1] rfl (by decide +kernel)) rfl rfl hl.1 rfl (lv_room (Nat.le_of_ble_eq_true rfl)) dX7_say_363 ⟨Nat.le_of_ble_eq_true rfl, Nat.le_of_ble_eq_true rfl⟩) hP hD hS hA [0, 1] [] rfl rfl (by decide +kernel) (by decide +kernel) ?_
          clear hP hD hS
          intro r_51 u_55 H locs w_52 hP hD hS
          obtain ⟨sc1_53, sc0_54⟩ := u_55
          replace hP : va_P D vwCl [(k, .inr (7, [.ref k0, .int sc1_53, .int c2, .int c3, .int c4])), (k0, .inl (cI, 40, .inl sc0_54))] H := hP
          replace hD : va_D A [(k, .inr (7, [.ref k0, .int sc1_53, .int c2, .int c3, .int c4])), (k0, .inl (cI, 40, .inl sc0_54))] := hD
          have lo_r_51 := k_lo r_51
          have hi_r_51 := k_hi r_51
          refine lv_iconst (v := 3) hx hb dX7_say_366 (by decide +kernel) ?_
          refine lv_imul hx hb dX7_say_367 ?_
          refine lv_topi (fun v_56 ev_56 => ?_)
          have lo_v_56 := k_lo v_56
          have hi_v_56 := k_hi v_56
          exact hRet (sc1_53, sc0_54) [0, 1] trivial hP hD (by decide +kernel) rfl hS rfl dX7_say_368
        by_cases c_57 : r_2.toInt = 31
        · refine lv_tableIn (off := 308) (tgt := 369) hx hb dX7_say_61 (by omega) (by omega) (by rw [c_57]; decide) (by decide +kernel) ?_
          refine lv_iconst (v := 0) hx hb dX7_say_369 (by decide +kernel) ?_
          refine lv_aload_n hx hb dX7_say_370 rfl (lv_at hl 2 rfl) ?_
          refine lv_iconst (v := 1) hx hb dX7_say_371 (by decide +kernel) ?_
          refine lv_iconst (v := 2) hx hb dX7_say_372 (by decide +kernel) ?_
          refine lv_iload_n hx hb dX7_say_373 rfl (lv_at hl 5 rfl) ?_
          refine lv_iload hx hb dX7_say_374 (lv_at hl 0 rfl) ?_
          refine kJi (wr := []) (va_runV (As := [.int 1, .int 2, .int a2, .int v_7]) (rest := [.int 0]) ⟨hx, hb, hml, hown, hT⟩ (ih l D cI aK aV k k0 H.size c1 c2 c3 c4 c0 1 2 a2 v_7 (by first | omega | (simp only [zl_1, zl_2]; first | done | omega) | decide | assumption | rfl)) (cwV 4 hT (gV_in mw_1054 mw_1051 mw_1053 mw_p3_7 mw_10) rfl rfl rfl (by decide +kernel) ⟨(by dsimp only; omega), (by dsimp only; omega)⟩) (kRecvX (q0 := 0) (ci := 7) hK hP hD hN hXS hS hA rfl rfl [0, 1] rfl (by decide +kernel)) rfl rfl hl.1 rfl (lv_room (Nat.le_of_ble_eq_true rfl)) dX7_say_376 ⟨Nat.le_of_ble_eq_true rfl, Nat.le_of_ble_eq_true rfl⟩) hP hD hS hA [0, 1] [] rfl rfl (by decide +kernel) (by decide +kernel) ?_
          clear hP hD hS
          intro r_58 u_62 H locs w_59 hP hD hS
          obtain ⟨sc1_60, sc0_61⟩ := u_62
          replace hP : va_P D vwCl [(k, .inr (7, [.ref k0, .int sc1_60, .int c2, .int c3, .int c4])), (k0, .inl (cI, 40, .inl sc0_61))] H := hP
          replace hD : va_D A [(k, .inr (7, [.ref k0, .int sc1_60, .int c2, .int c3, .int c4])), (k0, .inl (cI, 40, .inl sc0_61))] := hD
          have lo_r_58 := k_lo r_58
          have hi_r_58 := k_hi r_58
          refine lv_isub hx hb dX7_say_379 ?_
          refine lv_topi (fun v_63 ev_63 => ?_)
          have lo_v_63 := k_lo v_63
          have hi_v_63 := k_hi v_63
          exact hRet (sc1_60, sc0_61) [0, 1] trivial hP hD (by decide +kernel) rfl hS rfl dX7_say_380
        by_cases c_64 : r_2.toInt = 40
        · refine lv_tableIn (off := 320) (tgt := 381) hx hb dX7_say_61 (by omega) (by omega) (by rw [c_64]; decide) (by decide +kernel) ?_
          refine lv_aload_n hx hb dX7_say_381 rfl (lv_at hl 2 rfl) ?_
          refine lv_iconst (v := 2) hx hb dX7_say_382 (by decide +kernel) ?_
          refine lv_iconst (v := 2) hx hb dX7_say_383 (by decide +kernel) ?_
          refine lv_iload_n hx hb dX7_say_384 rfl (lv_at hl 5 rfl) ?_
          refine lv_iload hx hb dX7_say_385 (lv_at hl 0 rfl) ?_
          refine kJi (wr := []) (va_runV (As := [.int 2, .int 2, .int a2, .int v_7]) (rest := []) ⟨hx, hb, hml, hown, hT⟩ (ih l D cI aK aV k k0 H.size c1 c2 c3 c4 c0 2 2 a2 v_7 (by first | omega | (simp only [zl_2]; first | done | omega) | decide | assumption | rfl)) (cwV 4 hT (gV_in mw_1054 mw_1051 mw_1053 mw_p3_7 mw_10) rfl rfl rfl (by decide +kernel) ⟨(by dsimp only; omega), (by dsimp only; omega)⟩) (kRecvX (q0 := 0) (ci := 7) hK hP hD hN hXS hS hA rfl rfl [0, 1] rfl (by decide +kernel)) rfl rfl hl.1 rfl (lv_room (Nat.le_of_ble_eq_true rfl)) dX7_say_387 ⟨Nat.le_of_ble_eq_true rfl, Nat.le_of_ble_eq_true rfl⟩) hP hD hS hA [0, 1] [] rfl rfl (by decide +kernel) (by decide +kernel) ?_
          clear hP hD hS
          intro r_65 u_69 H locs w_66 hP hD hS
          obtain ⟨sc1_67, sc0_68⟩ := u_69
          replace hP : va_P D vwCl [(k, .inr (7, [.ref k0, .int sc1_67, .int c2, .int c3, .int c4])), (k0, .inl (cI, 40, .inl sc0_68))] H := hP
          replace hD : va_D A [(k, .inr (7, [.ref k0, .int sc1_67, .int c2, .int c3, .int c4])), (k0, .inl (cI, 40, .inl sc0_68))] := hD
          have lo_r_65 := k_lo r_65
          have hi_r_65 := k_hi r_65
          refine lv_aload_n hx hb dX7_say_390 rfl (lv_at hl 2 rfl) ?_
          refine lv_iconst (v := 0) hx hb dX7_say_391 (by decide +kernel) ?_
          refine lv_aload_n hx hb dX7_say_392 rfl (lv_at hl 2 rfl) ?_
          refine va_get (D := D) (ci := 7) (v := .int c4) (C := RX7) (T := TX7) (N := 5) hx hb hT giX7 hown hK hP 0 rfl rfl 4 (by decide +kernel) (hT (Cond.fieldLink RX7 25 "DesertWire$Voices" "w" "I") mw_263) (fun _ h9 => h9) rfl dX7_say_393 ?_
          refine lv_iload hx hb dX7_say_396 (lv_at hl 0 rfl) ?_
          refine kJi (wr := []) (va_runV (As := [.int 0, .int c4, .int v_7]) (rest := [.int r_65]) ⟨hx, hb, hml, hown, hT⟩ (c_X7_own_of dd ih l D cI aK aV k k0 H.size sc1_67 c2 c3 c4 sc0_68 0 c4 v_7 (by first | omega | (simp only [zl_0]; first | done | omega) | decide | assumption | rfl)) (cwV 3 hT (gV_in mw_1050 mw_1047 mw_1049 mw_p3_6 mw_10) rfl rfl rfl (by decide +kernel) ⟨(by dsimp only; omega), (by dsimp only; omega)⟩) (kRecvX (q0 := 0) (ci := 7) hK hP hD hN hXS hS hA rfl rfl [0, 1] rfl (by decide +kernel)) rfl rfl hl.1 rfl (lv_room (Nat.le_of_ble_eq_true rfl)) dX7_say_398 ⟨Nat.le_of_ble_eq_true rfl, Nat.le_of_ble_eq_true rfl⟩) hP hD hS hA [0, 1] [] rfl rfl (by decide +kernel) (by decide +kernel) ?_
          clear hP hD hS
          intro r_70 u_74 H locs w_71 hP hD hS
          obtain ⟨sc1_72, sc0_73⟩ := u_74
          replace hP : va_P D vwCl [(k, .inr (7, [.ref k0, .int sc1_72, .int c2, .int c3, .int c4])), (k0, .inl (cI, 40, .inl sc0_73))] H := hP
          replace hD : va_D A [(k, .inr (7, [.ref k0, .int sc1_72, .int c2, .int c3, .int c4])), (k0, .inl (cI, 40, .inl sc0_73))] := hD
          have lo_r_70 := k_lo r_70
          have hi_r_70 := k_hi r_70
          refine lv_iadd hx hb dX7_say_401 ?_
          refine lv_topi (fun v_75 ev_75 => ?_)
          have lo_v_75 := k_lo v_75
          have hi_v_75 := k_hi v_75
          exact hRet (sc1_72, sc0_73) [0, 1] trivial hP hD (by decide +kernel) rfl hS rfl dX7_say_402
        by_cases c_76 : r_2.toInt = 41
        · refine lv_tableIn (off := 342) (tgt := 403) hx hb dX7_say_61 (by omega) (by omega) (by rw [c_76]; decide) (by decide +kernel) ?_
          refine lv_aload_n hx hb dX7_say_403 rfl (lv_at hl 2 rfl) ?_
          refine lv_iconst (v := 2) hx hb dX7_say_404 (by decide +kernel) ?_
          refine lv_iconst (v := 3) hx hb dX7_say_405 (by decide +kernel) ?_
          refine lv_iload_n hx hb dX7_say_406 rfl (lv_at hl 5 rfl) ?_
          refine lv_iload hx hb dX7_say_407 (lv_at hl 0 rfl) ?_
          refine kJi (wr := []) (va_runV (As := [.int 2, .int 3, .int a2, .int v_7]) (rest := []) ⟨hx, hb, hml, hown, hT⟩ (ih l D cI aK aV k k0 H.size c1 c2 c3 c4 c0 2 3 a2 v_7 (by first | omega | (simp only [zl_2, zl_3]; first | done | omega) | decide | assumption | rfl)) (cwV 4 hT (gV_in mw_1054 mw_1051 mw_1053 mw_p3_7 mw_10) rfl rfl rfl (by decide +kernel) ⟨(by dsimp only; omega), (by dsimp only; omega)⟩) (kRecvX (q0 := 0) (ci := 7) hK hP hD hN hXS hS hA rfl rfl [0, 1] rfl (by decide +kernel)) rfl rfl hl.1 rfl (lv_room (Nat.le_of_ble_eq_true rfl)) dX7_say_409 ⟨Nat.le_of_ble_eq_true rfl, Nat.le_of_ble_eq_true rfl⟩) hP hD hS hA [0, 1] [] rfl rfl (by decide +kernel) (by decide +kernel) ?_
          clear hP hD hS
          intro r_77 u_81 H locs w_78 hP hD hS
          obtain ⟨sc1_79, sc0_80⟩ := u_81
          replace hP : va_P D vwCl [(k, .inr (7, [.ref k0, .int sc1_79, .int c2, .int c3, .int c4])), (k0, .inl (cI, 40, .inl sc0_80))] H := hP
          replace hD : va_D A [(k, .inr (7, [.ref k0, .int sc1_79, .int c2, .int c3, .int c4])), (k0, .inl (cI, 40, .inl sc0_80))] := hD
          have lo_r_77 := k_lo r_77
          have hi_r_77 := k_hi r_77
          refine lv_aload_n hx hb dX7_say_412 rfl (lv_at hl 2 rfl) ?_
          refine lv_iconst (v := 1) hx hb dX7_say_413 (by decide +kernel) ?_
          refine lv_aload_n hx hb dX7_say_414 rfl (lv_at hl 2 rfl) ?_
          refine va_get (D := D) (ci := 7) (v := .int c3) (C := RX7) (T := TX7) (N := 5) hx hb hT giX7 hown hK hP 0 rfl rfl 3 (by decide +kernel) (hT (Cond.fieldLink RX7 22 "DesertWire$Voices" "n" "I") mw_262) (fun _ h9 => h9) rfl dX7_say_415 ?_
          refine lv_iload hx hb dX7_say_418 (lv_at hl 0 rfl) ?_
          refine kJi (wr := []) (va_runV (As := [.int 1, .int c3, .int v_7]) (rest := [.int r_77]) ⟨hx, hb, hml, hown, hT⟩ (c_X7_own_of dd ih l D cI aK aV k k0 H.size sc1_79 c2 c3 c4 sc0_80 1 c3 v_7 (by first | omega | (simp only [zl_1]; first | done | omega) | decide | assumption | rfl)) (cwV 3 hT (gV_in mw_1050 mw_1047 mw_1049 mw_p3_6 mw_10) rfl rfl rfl (by decide +kernel) ⟨(by dsimp only; omega), (by dsimp only; omega)⟩) (kRecvX (q0 := 0) (ci := 7) hK hP hD hN hXS hS hA rfl rfl [0, 1] rfl (by decide +kernel)) rfl rfl hl.1 rfl (lv_room (Nat.le_of_ble_eq_true rfl)) dX7_say_420 ⟨Nat.le_of_ble_eq_true rfl, Nat.le_of_ble_eq_true rfl⟩) hP hD hS hA [0, 1] [] rfl rfl (by decide +kernel) (by decide +kernel) ?_
          clear hP hD hS
          intro r_82 u_86 H locs w_83 hP hD hS
          obtain ⟨sc1_84, sc0_85⟩ := u_86
          replace hP : va_P D vwCl [(k, .inr (7, [.ref k0, .int sc1_84, .int c2, .int c3, .int c4])), (k0, .inl (cI, 40, .inl sc0_85))] H := hP
          replace hD : va_D A [(k, .inr (7, [.ref k0, .int sc1_84, .int c2, .int c3, .int c4])), (k0, .inl (cI, 40, .inl sc0_85))] := hD
          have lo_r_82 := k_lo r_82
          have hi_r_82 := k_hi r_82
          refine lv_ixor hx hb dX7_say_423 ?_
          refine lv_topi (fun v_87 ev_87 => ?_)
          have lo_v_87 := k_lo v_87
          have hi_v_87 := k_hi v_87
          exact hRet (sc1_84, sc0_85) [0, 1] trivial hP hD (by decide +kernel) rfl hS rfl dX7_say_424
        by_cases c_88 : r_2.toInt = 50
        · refine lv_tableIn (off := 364) (tgt := 425) hx hb dX7_say_61 (by omega) (by omega) (by rw [c_88]; decide) (by decide +kernel) ?_
          refine lv_aload_n hx hb dX7_say_425 rfl (lv_at hl 2 rfl) ?_
          refine lv_iconst (v := 0) hx hb dX7_say_426 (by decide +kernel) ?_
          refine lv_iconst (v := 0) hx hb dX7_say_427 (by decide +kernel) ?_
          refine lv_iload_n hx hb dX7_say_428 rfl (lv_at hl 5 rfl) ?_
          refine lv_iload hx hb dX7_say_429 (lv_at hl 0 rfl) ?_
          refine kJi (wr := []) (va_runV (As := [.int 0, .int 0, .int a2, .int v_7]) (rest := []) ⟨hx, hb, hml, hown, hT⟩ (ih l D cI aK aV k k0 H.size c1 c2 c3 c4 c0 0 0 a2 v_7 (by first | omega | (simp only [zl_0]; first | done | omega) | decide | assumption | rfl)) (cwV 4 hT (gV_in mw_1054 mw_1051 mw_1053 mw_p3_7 mw_10) rfl rfl rfl (by decide +kernel) ⟨(by dsimp only; omega), (by dsimp only; omega)⟩) (kRecvX (q0 := 0) (ci := 7) hK hP hD hN hXS hS hA rfl rfl [0, 1] rfl (by decide +kernel)) rfl rfl hl.1 rfl (lv_room (Nat.le_of_ble_eq_true rfl)) dX7_say_431 ⟨Nat.le_of_ble_eq_true rfl, Nat.le_of_ble_eq_true rfl⟩) hP hD hS hA [0, 1] [] rfl rfl (by decide +kernel) (by decide +kernel) ?_
          clear hP hD hS
          intro r_89 u_93 H locs w_90 hP hD hS
          obtain ⟨sc1_91, sc0_92⟩ := u_93
          replace hP : va_P D vwCl [(k, .inr (7, [.ref k0, .int sc1_91, .int c2, .int c3, .int c4])), (k0, .inl (cI, 40, .inl sc0_92))] H := hP
          replace hD : va_D A [(k, .inr (7, [.ref k0, .int sc1_91, .int c2, .int c3, .int c4])), (k0, .inl (cI, 40, .inl sc0_92))] := hD
          have lo_r_89 := k_lo r_89
          have hi_r_89 := k_hi r_89
          refine lv_aload_n hx hb dX7_say_434 rfl (lv_at hl 2 rfl) ?_
          refine va_get (D := D) (ci := 7) (v := .int c4) (C := RX7) (T := TX7) (N := 5) hx hb hT giX7 hown hK hP 0 rfl rfl 4 (by decide +kernel) (hT (Cond.fieldLink RX7 25 "DesertWire$Voices" "w" "I") mw_263) (fun _ h9 => h9) rfl dX7_say_435 ?_
          refine lv_iadd hx hb dX7_say_438 ?_
          refine lv_topi (fun v_94 ev_94 => ?_)
          have lo_v_94 := k_lo v_94
          have hi_v_94 := k_hi v_94
          exact hRet (sc1_91, sc0_92) [0, 1] trivial hP hD (by decide +kernel) rfl hS rfl dX7_say_439
        by_cases c_95 : r_2.toInt = 51
        · refine lv_tableIn (off := 379) (tgt := 440) hx hb dX7_say_61 (by omega) (by omega) (by rw [c_95]; decide) (by decide +kernel) ?_
          refine lv_aload_n hx hb dX7_say_440 rfl (lv_at hl 2 rfl) ?_
          refine lv_iconst (v := 0) hx hb dX7_say_441 (by decide +kernel) ?_
          refine lv_iconst (v := 2) hx hb dX7_say_442 (by decide +kernel) ?_
          refine lv_iload_n hx hb dX7_say_443 rfl (lv_at hl 5 rfl) ?_
          refine lv_iload hx hb dX7_say_444 (lv_at hl 0 rfl) ?_
          refine kJi (wr := []) (va_runV (As := [.int 0, .int 2, .int a2, .int v_7]) (rest := []) ⟨hx, hb, hml, hown, hT⟩ (ih l D cI aK aV k k0 H.size c1 c2 c3 c4 c0 0 2 a2 v_7 (by first | omega | (simp only [zl_0, zl_2]; first | done | omega) | decide | assumption | rfl)) (cwV 4 hT (gV_in mw_1054 mw_1051 mw_1053 mw_p3_7 mw_10) rfl rfl rfl (by decide +kernel) ⟨(by dsimp only; omega), (by dsimp only; omega)⟩) (kRecvX (q0 := 0) (ci := 7) hK hP hD hN hXS hS hA rfl rfl [0, 1] rfl (by decide +kernel)) rfl rfl hl.1 rfl (lv_room (Nat.le_of_ble_eq_true rfl)) dX7_say_446 ⟨Nat.le_of_ble_eq_true rfl, Nat.le_of_ble_eq_true rfl⟩) hP hD hS hA [0, 1] [] rfl rfl (by decide +kernel) (by decide +kernel) ?_
          clear hP hD hS
          intro r_96 u_100 H locs w_97 hP hD hS
          obtain ⟨sc1_98, sc0_99⟩ := u_100
          replace hP : va_P D vwCl [(k, .inr (7, [.ref k0, .int sc1_98, .int c2, .int c3, .int c4])), (k0, .inl (cI, 40, .inl sc0_99))] H := hP
          replace hD : va_D A [(k, .inr (7, [.ref k0, .int sc1_98, .int c2, .int c3, .int c4])), (k0, .inl (cI, 40, .inl sc0_99))] := hD
          have lo_r_96 := k_lo r_96
          have hi_r_96 := k_hi r_96
          refine lv_aload_n hx hb dX7_say_449 rfl (lv_at hl 2 rfl) ?_
          refine lv_iconst (v := 0) hx hb dX7_say_450 (by decide +kernel) ?_
          refine lv_iconst (v := 1) hx hb dX7_say_451 (by decide +kernel) ?_
          refine lv_iload hx hb dX7_say_452 (lv_at hl 0 rfl) ?_
          refine kJi (wr := []) (va_runV (As := [.int 0, .int 1, .int v_7]) (rest := [.int r_96]) ⟨hx, hb, hml, hown, hT⟩ (c_X7_own_of dd ih l D cI aK aV k k0 H.size sc1_98 c2 c3 c4 sc0_99 0 1 v_7 (by first | omega | (simp only [zl_0, zl_1]; first | done | omega) | decide | assumption | rfl)) (cwV 3 hT (gV_in mw_1050 mw_1047 mw_1049 mw_p3_6 mw_10) rfl rfl rfl (by decide +kernel) ⟨(by dsimp only; omega), (by dsimp only; omega)⟩) (kRecvX (q0 := 0) (ci := 7) hK hP hD hN hXS hS hA rfl rfl [0, 1] rfl (by decide +kernel)) rfl rfl hl.1 rfl (lv_room (Nat.le_of_ble_eq_true rfl)) dX7_say_454 ⟨Nat.le_of_ble_eq_true rfl, Nat.le_of_ble_eq_true rfl⟩) hP hD hS hA [0, 1] [] rfl rfl (by decide +kernel) (by decide +kernel) ?_
          clear hP hD hS
          intro r_101 u_105 H locs w_102 hP hD hS
          obtain ⟨sc1_103, sc0_104⟩ := u_105
          replace hP : va_P D vwCl [(k, .inr (7, [.ref k0, .int sc1_103, .int c2, .int c3, .int c4])), (k0, .inl (cI, 40, .inl sc0_104))] H := hP
          replace hD : va_D A [(k, .inr (7, [.ref k0, .int sc1_103, .int c2, .int c3, .int c4])), (k0, .inl (cI, 40, .inl sc0_104))] := hD
          have lo_r_101 := k_lo r_101
          have hi_r_101 := k_hi r_101
          refine lv_isub hx hb dX7_say_457 ?_
          refine lv_topi (fun v_106 ev_106 => ?_)
          have lo_v_106 := k_lo v_106
          have hi_v_106 := k_hi v_106
          exact hRet (sc1_103, sc0_104) [0, 1] trivial hP hD (by decide +kernel) rfl hS rfl dX7_say_458
        by_cases c_107 : r_2.toInt = 60
        · refine lv_tableIn (off := 398) (tgt := 459) hx hb dX7_say_61 (by omega) (by omega) (by rw [c_107]; decide) (by decide +kernel) ?_
          refine lv_aload_n hx hb dX7_say_459 rfl (lv_at hl 2 rfl) ?_
          refine lv_iconst (v := 4) hx hb dX7_say_460 (by decide +kernel) ?_
          refine lv_iconst (v := 1) hx hb dX7_say_461 (by decide +kernel) ?_
          refine lv_iload_n hx hb dX7_say_462 rfl (lv_at hl 5 rfl) ?_
          refine lv_iload hx hb dX7_say_463 (lv_at hl 0 rfl) ?_
          refine kJi (wr := []) (va_runV (As := [.int 4, .int 1, .int a2, .int v_7]) (rest := []) ⟨hx, hb, hml, hown, hT⟩ (ih l D cI aK aV k k0 H.size c1 c2 c3 c4 c0 4 1 a2 v_7 (by first | omega | (simp only [zl_1, zl_4]; first | done | omega) | decide | assumption | rfl)) (cwV 4 hT (gV_in mw_1054 mw_1051 mw_1053 mw_p3_7 mw_10) rfl rfl rfl (by decide +kernel) ⟨(by dsimp only; omega), (by dsimp only; omega)⟩) (kRecvX (q0 := 0) (ci := 7) hK hP hD hN hXS hS hA rfl rfl [0, 1] rfl (by decide +kernel)) rfl rfl hl.1 rfl (lv_room (Nat.le_of_ble_eq_true rfl)) dX7_say_465 ⟨Nat.le_of_ble_eq_true rfl, Nat.le_of_ble_eq_true rfl⟩) hP hD hS hA [0, 1] [] rfl rfl (by decide +kernel) (by decide +kernel) ?_
          clear hP hD hS
          intro r_108 u_112 H locs w_109 hP hD hS
          obtain ⟨sc1_110, sc0_111⟩ := u_112
          replace hP : va_P D vwCl [(k, .inr (7, [.ref k0, .int sc1_110, .int c2, .int c3, .int c4])), (k0, .inl (cI, 40, .inl sc0_111))] H := hP
          replace hD : va_D A [(k, .inr (7, [.ref k0, .int sc1_110, .int c2, .int c3, .int c4])), (k0, .inl (cI, 40, .inl sc0_111))] := hD
          have lo_r_108 := k_lo r_108
          have hi_r_108 := k_hi r_108
          refine lv_aload_n hx hb dX7_say_468 rfl (lv_at hl 2 rfl) ?_
          refine va_get (D := D) (ci := 7) (v := .int c4) (C := RX7) (T := TX7) (N := 5) hx hb hT giX7 hown hK hP 0 rfl rfl 4 (by decide +kernel) (hT (Cond.fieldLink RX7 25 "DesertWire$Voices" "w" "I") mw_263) (fun _ h9 => h9) rfl dX7_say_469 ?_
          refine lv_imul hx hb dX7_say_472 ?_
          refine lv_topi (fun v_113 ev_113 => ?_)
          have lo_v_113 := k_lo v_113
          have hi_v_113 := k_hi v_113
          exact hRet (sc1_110, sc0_111) [0, 1] trivial hP hD (by decide +kernel) rfl hS rfl dX7_say_473
        refine lv_tableOut (tgt := 474) hx hb dX7_say_61 (by omega) (by decide +kernel) ?_
        refine lv_iconst (v := 0) hx hb dX7_say_474 (by decide +kernel) ?_
        refine lv_aload_n hx hb dX7_say_475 rfl (lv_at hl 2 rfl) ?_
        refine lv_iconst (v := 4) hx hb dX7_say_476 (by decide +kernel) ?_
        refine lv_iconst (v := 3) hx hb dX7_say_477 (by decide +kernel) ?_
        refine lv_iload_n hx hb dX7_say_478 rfl (lv_at hl 5 rfl) ?_
        refine lv_iload hx hb dX7_say_479 (lv_at hl 0 rfl) ?_
        refine kJi (wr := []) (va_runV (As := [.int 4, .int 3, .int a2, .int v_7]) (rest := [.int 0]) ⟨hx, hb, hml, hown, hT⟩ (ih l D cI aK aV k k0 H.size c1 c2 c3 c4 c0 4 3 a2 v_7 (by first | omega | (simp only [zl_3, zl_4]; first | done | omega) | decide | assumption | rfl)) (cwV 4 hT (gV_in mw_1054 mw_1051 mw_1053 mw_p3_7 mw_10) rfl rfl rfl (by decide +kernel) ⟨(by dsimp only; omega), (by dsimp only; omega)⟩) (kRecvX (q0 := 0) (ci := 7) hK hP hD hN hXS hS hA rfl rfl [0, 1] rfl (by decide +kernel)) rfl rfl hl.1 rfl (lv_room (Nat.le_of_ble_eq_true rfl)) dX7_say_481 ⟨Nat.le_of_ble_eq_true rfl, Nat.le_of_ble_eq_true rfl⟩) hP hD hS hA [0, 1] [] rfl rfl (by decide +kernel) (by decide +kernel) ?_
        clear hP hD hS
        intro r_114 u_118 H locs w_115 hP hD hS
        obtain ⟨sc1_116, sc0_117⟩ := u_118
        replace hP : va_P D vwCl [(k, .inr (7, [.ref k0, .int sc1_116, .int c2, .int c3, .int c4])), (k0, .inl (cI, 40, .inl sc0_117))] H := hP
        replace hD : va_D A [(k, .inr (7, [.ref k0, .int sc1_116, .int c2, .int c3, .int c4])), (k0, .inl (cI, 40, .inl sc0_117))] := hD
        have lo_r_114 := k_lo r_114
        have hi_r_114 := k_hi r_114
        refine lv_isub hx hb dX7_say_484 ?_
        refine lv_topi (fun v_119 ev_119 => ?_)
        have lo_v_119 := k_lo v_119
        have hi_v_119 := k_hi v_119
        exact hRet (sc1_116, sc0_117) [0, 1] trivial hP hD (by decide +kernel) rfl hS rfl dX7_say_485
      · refine lv_aload_n hx hb dX7_say_23 rfl (lv_at hl 1 rfl) ?_
        refine va_get (D := D) (ci := 7) (v := .int c1) (C := RX7) (T := TX7) (N := 5) hx hb hT giX7 hown hK hP 0 rfl rfl 1 (by decide +kernel) (hT (Cond.fieldLink RX7 15 "DesertWire$Voices" "begun" "I") mw_259) (fun _ h9 => h9) rfl dX7_say_24 ?_
        refine lv_bipush (v := 40) hx hb dX7_say_27 (by decide +kernel) ?_
        refine b_icmp_ge hx hb rfl zl_40 (tgt := 53) dX7_say_29 (by decide +kernel) (fun c_120 => ?_) (fun c_120 => ?_)
        · refine lv_iload hx hb dX7_say_53 (lv_at hl 5 rfl) ?_
          refine lv_iconst (v := 1) hx hb dX7_say_55 (by decide +kernel) ?_
          refine lv_iadd hx hb dX7_say_56 ?_
          refine lv_topi (fun v_121 ev_121 => ?_)
          have tv_121 : v_121.toInt = a3.toInt + 1 := by rw [ev_121]; exact k_addv rfl zl_1 (by omega) (by omega)
          refine lv_istore (lv' := [(6, .int v_121), (5, .int r_2), (0, .ref k), (1, .int a0), (2, .int a1), (3, .int a2), (4, .int a3)]) hx hb dX7_say_57 hl (by decide +kernel) rfl ?_
          clear hl
          intro ls hl
          refine lv_iload hx hb dX7_say_59 (lv_at hl 1 rfl) ?_
          by_cases c_122 : r_2.toInt = 10
          · refine lv_tableIn (off := 219) (tgt := 280) hx hb dX7_say_61 (by omega) (by omega) (by rw [c_122]; decide) (by decide +kernel) ?_
            refine lv_iload_n hx hb dX7_say_280 rfl (lv_at hl 5 rfl) ?_
            refine lv_aload_n hx hb dX7_say_281 rfl (lv_at hl 2 rfl) ?_
            refine va_get (D := D) (ci := 7) (v := .int c3) (C := RX7) (T := TX7) (N := 5) hx hb hT giX7 hown hK hP 0 rfl rfl 3 (by decide +kernel) (hT (Cond.fieldLink RX7 22 "DesertWire$Voices" "n" "I") mw_262) (fun _ h9 => h9) rfl dX7_say_282 ?_
            refine lv_isub hx hb dX7_say_285 ?_
            refine lv_topi (fun v_123 ev_123 => ?_)
            have lo_v_123 := k_lo v_123
            have hi_v_123 := k_hi v_123
            exact hRet (c1, c0) [0, 1] trivial hP hD (by decide +kernel) rfl hS rfl dX7_say_286
          by_cases c_124 : r_2.toInt = 11
          · refine lv_tableIn (off := 226) (tgt := 287) hx hb dX7_say_61 (by omega) (by omega) (by rw [c_124]; decide) (by decide +kernel) ?_
            refine lv_aload_n hx hb dX7_say_287 rfl (lv_at hl 2 rfl) ?_
            refine lv_iconst (v := 0) hx hb dX7_say_288 (by decide +kernel) ?_
            refine lv_iload_n hx hb dX7_say_289 rfl (lv_at hl 5 rfl) ?_
            refine lv_iload hx hb dX7_say_290 (lv_at hl 0 rfl) ?_
            refine kJi (wr := []) (va_runV (As := [.int 0, .int a2, .int v_121]) (rest := []) ⟨hx, hb, hml, hown, hT⟩ (c_X7_own_of dd ih l D cI aK aV k k0 H.size c1 c2 c3 c4 c0 0 a2 v_121 (by first | omega | (simp only [zl_0]; first | done | omega) | decide | assumption | rfl)) (cwV 3 hT (gV_in mw_1050 mw_1047 mw_1049 mw_p3_6 mw_10) rfl rfl rfl (by decide +kernel) ⟨(by dsimp only; omega), (by dsimp only; omega)⟩) (kRecvX (q0 := 0) (ci := 7) hK hP hD hN hXS hS hA rfl rfl [0, 1] rfl (by decide +kernel)) rfl rfl hl.1 rfl (lv_room (Nat.le_of_ble_eq_true rfl)) dX7_say_292 ⟨Nat.le_of_ble_eq_true rfl, Nat.le_of_ble_eq_true rfl⟩) hP hD hS hA [0, 1] [] rfl rfl (by decide +kernel) (by decide +kernel) ?_
            clear hP hD hS
            intro r_125 u_129 H locs w_126 hP hD hS
            obtain ⟨sc1_127, sc0_128⟩ := u_129
            replace hP : va_P D vwCl [(k, .inr (7, [.ref k0, .int sc1_127, .int c2, .int c3, .int c4])), (k0, .inl (cI, 40, .inl sc0_128))] H := hP
            replace hD : va_D A [(k, .inr (7, [.ref k0, .int sc1_127, .int c2, .int c3, .int c4])), (k0, .inl (cI, 40, .inl sc0_128))] := hD
            have lo_r_125 := k_lo r_125
            have hi_r_125 := k_hi r_125
            refine lv_aload_n hx hb dX7_say_295 rfl (lv_at hl 2 rfl) ?_
            refine va_get (D := D) (ci := 7) (v := .int c4) (C := RX7) (T := TX7) (N := 5) hx hb hT giX7 hown hK hP 0 rfl rfl 4 (by decide +kernel) (hT (Cond.fieldLink RX7 25 "DesertWire$Voices" "w" "I") mw_263) (fun _ h9 => h9) rfl dX7_say_296 ?_
            refine lv_iadd hx hb dX7_say_299 ?_
            refine lv_topi (fun v_130 ev_130 => ?_)
            have lo_v_130 := k_lo v_130
            have hi_v_130 := k_hi v_130
            exact hRet (sc1_127, sc0_128) [0, 1] trivial hP hD (by decide +kernel) rfl hS rfl dX7_say_300
          by_cases c_131 : r_2.toInt = 12
          · refine lv_tableIn (off := 240) (tgt := 301) hx hb dX7_say_61 (by omega) (by omega) (by rw [c_131]; decide) (by decide +kernel) ?_
            refine lv_aload_n hx hb dX7_say_301 rfl (lv_at hl 2 rfl) ?_
            refine lv_iconst (v := 1) hx hb dX7_say_302 (by decide +kernel) ?_
            refine lv_iload_n hx hb dX7_say_303 rfl (lv_at hl 5 rfl) ?_
            refine lv_iload hx hb dX7_say_304 (lv_at hl 0 rfl) ?_
            refine kJi (wr := []) (va_runV (As := [.int 1, .int a2, .int v_121]) (rest := []) ⟨hx, hb, hml, hown, hT⟩ (c_X7_own_of dd ih l D cI aK aV k k0 H.size c1 c2 c3 c4 c0 1 a2 v_121 (by first | omega | (simp only [zl_1]; first | done | omega) | decide | assumption | rfl)) (cwV 3 hT (gV_in mw_1050 mw_1047 mw_1049 mw_p3_6 mw_10) rfl rfl rfl (by decide +kernel) ⟨(by dsimp only; omega), (by dsimp only; omega)⟩) (kRecvX (q0 := 0) (ci := 7) hK hP hD hN hXS hS hA rfl rfl [0, 1] rfl (by decide +kernel)) rfl rfl hl.1 rfl (lv_room (Nat.le_of_ble_eq_true rfl)) dX7_say_306 ⟨Nat.le_of_ble_eq_true rfl, Nat.le_of_ble_eq_true rfl⟩) hP hD hS hA [0, 1] [] rfl rfl (by decide +kernel) (by decide +kernel) ?_
            clear hP hD hS
            intro r_132 u_136 H locs w_133 hP hD hS
            obtain ⟨sc1_134, sc0_135⟩ := u_136
            replace hP : va_P D vwCl [(k, .inr (7, [.ref k0, .int sc1_134, .int c2, .int c3, .int c4])), (k0, .inl (cI, 40, .inl sc0_135))] H := hP
            replace hD : va_D A [(k, .inr (7, [.ref k0, .int sc1_134, .int c2, .int c3, .int c4])), (k0, .inl (cI, 40, .inl sc0_135))] := hD
            have lo_r_132 := k_lo r_132
            have hi_r_132 := k_hi r_132
            refine lv_iconst (v := 2) hx hb dX7_say_309 (by decide +kernel) ?_
            refine lv_imul hx hb dX7_say_310 ?_
            refine lv_topi (fun v_137 ev_137 => ?_)
            have lo_v_137 := k_lo v_137
            have hi_v_137 := k_hi v_137
            exact hRet (sc1_134, sc0_135) [0, 1] trivial hP hD (by decide +kernel) rfl hS rfl dX7_say_311
          by_cases c_138 : r_2.toInt = 13
          · refine lv_tableIn (off := 251) (tgt := 312) hx hb dX7_say_61 (by omega) (by omega) (by rw [c_138]; decide) (by decide +kernel) ?_
            refine lv_aload_n hx hb dX7_say_312 rfl (lv_at hl 2 rfl) ?_
            refine lv_iconst (v := 2) hx hb dX7_say_313 (by decide +kernel) ?_
            refine lv_iload_n hx hb dX7_say_314 rfl (lv_at hl 5 rfl) ?_
            refine lv_iload hx hb dX7_say_315 (lv_at hl 0 rfl) ?_
            refine kJi (wr := []) (va_runV (As := [.int 2, .int a2, .int v_121]) (rest := []) ⟨hx, hb, hml, hown, hT⟩ (c_X7_own_of dd ih l D cI aK aV k k0 H.size c1 c2 c3 c4 c0 2 a2 v_121 (by first | omega | (simp only [zl_2]; first | done | omega) | decide | assumption | rfl)) (cwV 3 hT (gV_in mw_1050 mw_1047 mw_1049 mw_p3_6 mw_10) rfl rfl rfl (by decide +kernel) ⟨(by dsimp only; omega), (by dsimp only; omega)⟩) (kRecvX (q0 := 0) (ci := 7) hK hP hD hN hXS hS hA rfl rfl [0, 1] rfl (by decide +kernel)) rfl rfl hl.1 rfl (lv_room (Nat.le_of_ble_eq_true rfl)) dX7_say_317 ⟨Nat.le_of_ble_eq_true rfl, Nat.le_of_ble_eq_true rfl⟩) hP hD hS hA [0, 1] [] rfl rfl (by decide +kernel) (by decide +kernel) ?_
            clear hP hD hS
            intro r_139 u_143 H locs w_140 hP hD hS
            obtain ⟨sc1_141, sc0_142⟩ := u_143
            replace hP : va_P D vwCl [(k, .inr (7, [.ref k0, .int sc1_141, .int c2, .int c3, .int c4])), (k0, .inl (cI, 40, .inl sc0_142))] H := hP
            replace hD : va_D A [(k, .inr (7, [.ref k0, .int sc1_141, .int c2, .int c3, .int c4])), (k0, .inl (cI, 40, .inl sc0_142))] := hD
            have lo_r_139 := k_lo r_139
            have hi_r_139 := k_hi r_139
            refine lv_aload_n hx hb dX7_say_320 rfl (lv_at hl 2 rfl) ?_
            refine lv_iconst (v := 0) hx hb dX7_say_321 (by decide +kernel) ?_
            refine lv_iload_n hx hb dX7_say_322 rfl (lv_at hl 5 rfl) ?_
            refine lv_iload hx hb dX7_say_323 (lv_at hl 0 rfl) ?_
            refine kJi (wr := []) (va_runV (As := [.int 0, .int a2, .int v_121]) (rest := [.int r_139]) ⟨hx, hb, hml, hown, hT⟩ (c_X7_own_of dd ih l D cI aK aV k k0 H.size sc1_141 c2 c3 c4 sc0_142 0 a2 v_121 (by first | omega | (simp only [zl_0]; first | done | omega) | decide | assumption | rfl)) (cwV 3 hT (gV_in mw_1050 mw_1047 mw_1049 mw_p3_6 mw_10) rfl rfl rfl (by decide +kernel) ⟨(by dsimp only; omega), (by dsimp only; omega)⟩) (kRecvX (q0 := 0) (ci := 7) hK hP hD hN hXS hS hA rfl rfl [0, 1] rfl (by decide +kernel)) rfl rfl hl.1 rfl (lv_room (Nat.le_of_ble_eq_true rfl)) dX7_say_325 ⟨Nat.le_of_ble_eq_true rfl, Nat.le_of_ble_eq_true rfl⟩) hP hD hS hA [0, 1] [] rfl rfl (by decide +kernel) (by decide +kernel) ?_
            clear hP hD hS
            intro r_144 u_148 H locs w_145 hP hD hS
            obtain ⟨sc1_146, sc0_147⟩ := u_148
            replace hP : va_P D vwCl [(k, .inr (7, [.ref k0, .int sc1_146, .int c2, .int c3, .int c4])), (k0, .inl (cI, 40, .inl sc0_147))] H := hP
            replace hD : va_D A [(k, .inr (7, [.ref k0, .int sc1_146, .int c2, .int c3, .int c4])), (k0, .inl (cI, 40, .inl sc0_147))] := hD
            have lo_r_144 := k_lo r_144
            have hi_r_144 := k_hi r_144
            refine lv_ixor hx hb dX7_say_328 ?_
            refine lv_topi (fun v_149 ev_149 => ?_)
            have lo_v_149 := k_lo v_149
            have hi_v_149 := k_hi v_149
            exact hRet (sc1_146, sc0_147) [0, 1] trivial hP hD (by decide +kernel) rfl hS rfl dX7_say_329
          by_cases c_150 : r_2.toInt = 20
          · refine lv_tableIn (off := 269) (tgt := 330) hx hb dX7_say_61 (by omega) (by omega) (by rw [c_150]; decide) (by decide +kernel) ?_
            refine lv_aload_n hx hb dX7_say_330 rfl (lv_at hl 2 rfl) ?_
            refine lv_iconst (v := 0) hx hb dX7_say_331 (by decide +kernel) ?_
            refine lv_iconst (v := 1) hx hb dX7_say_332 (by decide +kernel) ?_
            refine lv_iload_n hx hb dX7_say_333 rfl (lv_at hl 5 rfl) ?_
            refine lv_iconst (v := 1) hx hb dX7_say_334 (by decide +kernel) ?_
            refine lv_iadd hx hb dX7_say_335 ?_
            refine lv_topi (fun v_151 ev_151 => ?_)
            have lo_v_151 := k_lo v_151
            have hi_v_151 := k_hi v_151
            refine lv_iload hx hb dX7_say_336 (lv_at hl 0 rfl) ?_
            refine kJi (wr := []) (va_runV (As := [.int 0, .int 1, .int v_151, .int v_121]) (rest := []) ⟨hx, hb, hml, hown, hT⟩ (ih l D cI aK aV k k0 H.size c1 c2 c3 c4 c0 0 1 v_151 v_121 (by first | omega | (simp only [zl_0, zl_1]; first | done | omega) | decide | assumption | rfl)) (cwV 4 hT (gV_in mw_1054 mw_1051 mw_1053 mw_p3_7 mw_10) rfl rfl rfl (by decide +kernel) ⟨(by dsimp only; omega), (by dsimp only; omega)⟩) (kRecvX (q0 := 0) (ci := 7) hK hP hD hN hXS hS hA rfl rfl [0, 1] rfl (by decide +kernel)) rfl rfl hl.1 rfl (lv_room (Nat.le_of_ble_eq_true rfl)) dX7_say_338 ⟨Nat.le_of_ble_eq_true rfl, Nat.le_of_ble_eq_true rfl⟩) hP hD hS hA [0, 1] [] rfl rfl (by decide +kernel) (by decide +kernel) ?_
            clear hP hD hS
            intro r_152 u_156 H locs w_153 hP hD hS
            obtain ⟨sc1_154, sc0_155⟩ := u_156
            replace hP : va_P D vwCl [(k, .inr (7, [.ref k0, .int sc1_154, .int c2, .int c3, .int c4])), (k0, .inl (cI, 40, .inl sc0_155))] H := hP
            replace hD : va_D A [(k, .inr (7, [.ref k0, .int sc1_154, .int c2, .int c3, .int c4])), (k0, .inl (cI, 40, .inl sc0_155))] := hD
            have lo_r_152 := k_lo r_152
            have hi_r_152 := k_hi r_152
            exact hRet (sc1_154, sc0_155) [0, 1] trivial hP hD (by decide +kernel) rfl hS rfl dX7_say_341
          by_cases c_157 : r_2.toInt = 21
          · refine lv_tableIn (off := 281) (tgt := 342) hx hb dX7_say_61 (by omega) (by omega) (by rw [c_157]; decide) (by decide +kernel) ?_
            refine lv_aload_n hx hb dX7_say_342 rfl (lv_at hl 2 rfl) ?_
            refine lv_iconst (v := 0) hx hb dX7_say_343 (by decide +kernel) ?_
            refine lv_iconst (v := 3) hx hb dX7_say_344 (by decide +kernel) ?_
            refine lv_iload_n hx hb dX7_say_345 rfl (lv_at hl 5 rfl) ?_
            refine lv_iload hx hb dX7_say_346 (lv_at hl 0 rfl) ?_
            refine kJi (wr := []) (va_runV (As := [.int 0, .int 3, .int a2, .int v_121]) (rest := []) ⟨hx, hb, hml, hown, hT⟩ (ih l D cI aK aV k k0 H.size c1 c2 c3 c4 c0 0 3 a2 v_121 (by first | omega | (simp only [zl_0, zl_3]; first | done | omega) | decide | assumption | rfl)) (cwV 4 hT (gV_in mw_1054 mw_1051 mw_1053 mw_p3_7 mw_10) rfl rfl rfl (by decide +kernel) ⟨(by dsimp only; omega), (by dsimp only; omega)⟩) (kRecvX (q0 := 0) (ci := 7) hK hP hD hN hXS hS hA rfl rfl [0, 1] rfl (by decide +kernel)) rfl rfl hl.1 rfl (lv_room (Nat.le_of_ble_eq_true rfl)) dX7_say_348 ⟨Nat.le_of_ble_eq_true rfl, Nat.le_of_ble_eq_true rfl⟩) hP hD hS hA [0, 1] [] rfl rfl (by decide +kernel) (by decide +kernel) ?_
            clear hP hD hS
            intro r_158 u_162 H locs w_159 hP hD hS
            obtain ⟨sc1_160, sc0_161⟩ := u_162
            replace hP : va_P D vwCl [(k, .inr (7, [.ref k0, .int sc1_160, .int c2, .int c3, .int c4])), (k0, .inl (cI, 40, .inl sc0_161))] H := hP
            replace hD : va_D A [(k, .inr (7, [.ref k0, .int sc1_160, .int c2, .int c3, .int c4])), (k0, .inl (cI, 40, .inl sc0_161))] := hD
            have lo_r_158 := k_lo r_158
            have hi_r_158 := k_hi r_158
            refine lv_aload_n hx hb dX7_say_351 rfl (lv_at hl 2 rfl) ?_
            refine va_get (D := D) (ci := 7) (v := .int c3) (C := RX7) (T := TX7) (N := 5) hx hb hT giX7 hown hK hP 0 rfl rfl 3 (by decide +kernel) (hT (Cond.fieldLink RX7 22 "DesertWire$Voices" "n" "I") mw_262) (fun _ h9 => h9) rfl dX7_say_352 ?_
            refine lv_isub hx hb dX7_say_355 ?_
            refine lv_topi (fun v_163 ev_163 => ?_)
            have lo_v_163 := k_lo v_163
            have hi_v_163 := k_hi v_163
            exact hRet (sc1_160, sc0_161) [0, 1] trivial hP hD (by decide +kernel) rfl hS rfl dX7_say_356
          by_cases c_164 : r_2.toInt = 30
          · refine lv_tableIn (off := 296) (tgt := 357) hx hb dX7_say_61 (by omega) (by omega) (by rw [c_164]; decide) (by decide +kernel) ?_
            refine lv_aload_n hx hb dX7_say_357 rfl (lv_at hl 2 rfl) ?_
            refine lv_iconst (v := 1) hx hb dX7_say_358 (by decide +kernel) ?_
            refine lv_iconst (v := 0) hx hb dX7_say_359 (by decide +kernel) ?_
            refine lv_iload_n hx hb dX7_say_360 rfl (lv_at hl 5 rfl) ?_
            refine lv_iload hx hb dX7_say_361 (lv_at hl 0 rfl) ?_
            refine kJi (wr := []) (va_runV (As := [.int 1, .int 0, .int a2, .int v_121]) (rest := []) ⟨hx, hb, hml, hown, hT⟩ (ih l D cI aK aV k k0 H.size c1 c2 c3 c4 c0 1 0 a2 v_121 (by first | omega | (simp only [zl_0, zl_1]; first | done | omega) | decide | assumption | rfl)) (cwV 4 hT (gV_in mw_1054 mw_1051 mw_1053 mw_p3_7 mw_10) rfl rfl rfl (by decide +kernel) ⟨(by dsimp only; omega), (by dsimp only; omega)⟩) (kRecvX (q0 := 0) (ci := 7) hK hP hD hN hXS hS hA rfl rfl [0, 1] rfl (by decide +kernel)) rfl rfl hl.1 rfl (lv_room (Nat.le_of_ble_eq_true rfl)) dX7_say_363 ⟨Nat.le_of_ble_eq_true rfl, Nat.le_of_ble_eq_true rfl⟩) hP hD hS hA [0, 1] [] rfl rfl (by decide +kernel) (by decide +kernel) ?_
            clear hP hD hS
            intro r_165 u_169 H locs w_166 hP hD hS
            obtain ⟨sc1_167, sc0_168⟩ := u_169
            replace hP : va_P D vwCl [(k, .inr (7, [.ref k0, .int sc1_167, .int c2, .int c3, .int c4])), (k0, .inl (cI, 40, .inl sc0_168))] H := hP
            replace hD : va_D A [(k, .inr (7, [.ref k0, .int sc1_167, .int c2, .int c3, .int c4])), (k0, .inl (cI, 40, .inl sc0_168))] := hD
            have lo_r_165 := k_lo r_165
            have hi_r_165 := k_hi r_165
            refine lv_iconst (v := 3) hx hb dX7_say_366 (by decide +kernel) ?_
            refine lv_imul hx hb dX7_say_367 ?_
            refine lv_topi (fun v_170 ev_170 => ?_)
            have lo_v_170 := k_lo v_170
            have hi_v_170 := k_hi v_170
            exact hRet (sc1_167, sc0_168) [0, 1] trivial hP hD (by decide +kernel) rfl hS rfl dX7_say_368
          by_cases c_171 : r_2.toInt = 31
          · refine lv_tableIn (off := 308) (tgt := 369) hx hb dX7_say_61 (by omega) (by omega) (by rw [c_171]; decide) (by decide +kernel) ?_
            refine lv_iconst (v := 0) hx hb dX7_say_369 (by decide +kernel) ?_
            refine lv_aload_n hx hb dX7_say_370 rfl (lv_at hl 2 rfl) ?_
            refine lv_iconst (v := 1) hx hb dX7_say_371 (by decide +kernel) ?_
            refine lv_iconst (v := 2) hx hb dX7_say_372 (by decide +kernel) ?_
            refine lv_iload_n hx hb dX7_say_373 rfl (lv_at hl 5 rfl) ?_
            refine lv_iload hx hb dX7_say_374 (lv_at hl 0 rfl) ?_
            refine kJi (wr := []) (va_runV (As := [.int 1, .int 2, .int a2, .int v_121]) (rest := [.int 0]) ⟨hx, hb, hml, hown, hT⟩ (ih l D cI aK aV k k0 H.size c1 c2 c3 c4 c0 1 2 a2 v_121 (by first | omega | (simp only [zl_1, zl_2]; first | done | omega) | decide | assumption | rfl)) (cwV 4 hT (gV_in mw_1054 mw_1051 mw_1053 mw_p3_7 mw_10) rfl rfl rfl (by decide +kernel) ⟨(by dsimp only; omega), (by dsimp only; omega)⟩) (kRecvX (q0 := 0) (ci := 7) hK hP hD hN hXS hS hA rfl rfl [0, 1] rfl (by decide +kernel)) rfl rfl hl.1 rfl (lv_room (Nat.le_of_ble_eq_true rfl)) dX7_say_376 ⟨Nat.le_of_ble_eq_true rfl, Nat.le_of_ble_eq_true rfl⟩) hP hD hS hA [0, 1] [] rfl rfl (by decide +kernel) (by decide +kernel) ?_
            clear hP hD hS
            intro r_172 u_176 H locs w_173 hP hD hS
            obtain ⟨sc1_174, sc0_175⟩ := u_176
            replace hP : va_P D vwCl [(k, .inr (7, [.ref k0, .int sc1_174, .int c2, .int c3, .int c4])), (k0, .inl (cI, 40, .inl sc0_175))] H := hP
            replace hD : va_D A [(k, .inr (7, [.ref k0, .int sc1_174, .int c2, .int c3, .int c4])), (k0, .inl (cI, 40, .inl sc0_175))] := hD
            have lo_r_172 := k_lo r_172
            have hi_r_172 := k_hi r_172
            refine lv_isub hx hb dX7_say_379 ?_
            refine lv_topi (fun v_177 ev_177 => ?_)
            have lo_v_177 := k_lo v_177
            have hi_v_177 := k_hi v_177
            exact hRet (sc1_174, sc0_175) [0, 1] trivial hP hD (by decide +kernel) rfl hS rfl dX7_say_380
          by_cases c_178 : r_2.toInt = 40
          · refine lv_tableIn (off := 320) (tgt := 381) hx hb dX7_say_61 (by omega) (by omega) (by rw [c_178]; decide) (by decide +kernel) ?_
            refine lv_aload_n hx hb dX7_say_381 rfl (lv_at hl 2 rfl) ?_
            refine lv_iconst (v := 2) hx hb dX7_say_382 (by decide +kernel) ?_
            refine lv_iconst (v := 2) hx hb dX7_say_383 (by decide +kernel) ?_
            refine lv_iload_n hx hb dX7_say_384 rfl (lv_at hl 5 rfl) ?_
            refine lv_iload hx hb dX7_say_385 (lv_at hl 0 rfl) ?_
            refine kJi (wr := []) (va_runV (As := [.int 2, .int 2, .int a2, .int v_121]) (rest := []) ⟨hx, hb, hml, hown, hT⟩ (ih l D cI aK aV k k0 H.size c1 c2 c3 c4 c0 2 2 a2 v_121 (by first | omega | (simp only [zl_2]; first | done | omega) | decide | assumption | rfl)) (cwV 4 hT (gV_in mw_1054 mw_1051 mw_1053 mw_p3_7 mw_10) rfl rfl rfl (by decide +kernel) ⟨(by dsimp only; omega), (by dsimp only; omega)⟩) (kRecvX (q0 := 0) (ci := 7) hK hP hD hN hXS hS hA rfl rfl [0, 1] rfl (by decide +kernel)) rfl rfl hl.1 rfl (lv_room (Nat.le_of_ble_eq_true rfl)) dX7_say_387 ⟨Nat.le_of_ble_eq_true rfl, Nat.le_of_ble_eq_true rfl⟩) hP hD hS hA [0, 1] [] rfl rfl (by decide +kernel) (by decide +kernel) ?_
            clear hP hD hS
            intro r_179 u_183 H locs w_180 hP hD hS
            obtain ⟨sc1_181, sc0_182⟩ := u_183
            replace hP : va_P D vwCl [(k, .inr (7, [.ref k0, .int sc1_181, .int c2, .int c3, .int c4])), (k0, .inl (cI, 40, .inl sc0_182))] H := hP
            replace hD : va_D A [(k, .inr (7, [.ref k0, .int sc1_181, .int c2, .int c3, .int c4])), (k0, .inl (cI, 40, .inl sc0_182))] := hD
            have lo_r_179 := k_lo r_179
            have hi_r_179 := k_hi r_179
            refine lv_aload_n hx hb dX7_say_390 rfl (lv_at hl 2 rfl) ?_
            refine lv_iconst (v := 0) hx hb dX7_say_391 (by decide +kernel) ?_
            refine lv_aload_n hx hb dX7_say_392 rfl (lv_at hl 2 rfl) ?_
            refine va_get (D := D) (ci := 7) (v := .int c4) (C := RX7) (T := TX7) (N := 5) hx hb hT giX7 hown hK hP 0 rfl rfl 4 (by decide +kernel) (hT (Cond.fieldLink RX7 25 "DesertWire$Voices" "w" "I") mw_263) (fun _ h9 => h9) rfl dX7_say_393 ?_
            refine lv_iload hx hb dX7_say_396 (lv_at hl 0 rfl) ?_
            refine kJi (wr := []) (va_runV (As := [.int 0, .int c4, .int v_121]) (rest := [.int r_179]) ⟨hx, hb, hml, hown, hT⟩ (c_X7_own_of dd ih l D cI aK aV k k0 H.size sc1_181 c2 c3 c4 sc0_182 0 c4 v_121 (by first | omega | (simp only [zl_0]; first | done | omega) | decide | assumption | rfl)) (cwV 3 hT (gV_in mw_1050 mw_1047 mw_1049 mw_p3_6 mw_10) rfl rfl rfl (by decide +kernel) ⟨(by dsimp only; omega), (by dsimp only; omega)⟩) (kRecvX (q0 := 0) (ci := 7) hK hP hD hN hXS hS hA rfl rfl [0, 1] rfl (by decide +kernel)) rfl rfl hl.1 rfl (lv_room (Nat.le_of_ble_eq_true rfl)) dX7_say_398 ⟨Nat.le_of_ble_eq_true rfl, Nat.le_of_ble_eq_true rfl⟩) hP hD hS hA [0, 1] [] rfl rfl (by decide +kernel) (by decide +kernel) ?_
            clear hP hD hS
            intro r_184 u_188 H locs w_185 hP hD hS
            obtain ⟨sc1_186, sc0_187⟩ := u_188
            replace hP : va_P D vwCl [(k, .inr (7, [.ref k0, .int sc1_186, .int c2, .int c3, .int c4])), (k0, .inl (cI, 40, .inl sc0_187))] H := hP
            replace hD : va_D A [(k, .inr (7, [.ref k0, .int sc1_186, .int c2, .int c3, .int c4])), (k0, .inl (cI, 40, .inl sc0_187))] := hD
            have lo_r_184 := k_lo r_184
            have hi_r_184 := k_hi r_184
            refine lv_iadd hx hb dX7_say_401 ?_
            refine lv_topi (fun v_189 ev_189 => ?_)
            have lo_v_189 := k_lo v_189
            have hi_v_189 := k_hi v_189
            exact hRet (sc1_186, sc0_187) [0, 1] trivial hP hD (by decide +kernel) rfl hS rfl dX7_say_402
          by_cases c_190 : r_2.toInt = 41
          · refine lv_tableIn (off := 342) (tgt := 403) hx hb dX7_say_61 (by omega) (by omega) (by rw [c_190]; decide) (by decide +kernel) ?_
            refine lv_aload_n hx hb dX7_say_403 rfl (lv_at hl 2 rfl) ?_
            refine lv_iconst (v := 2) hx hb dX7_say_404 (by decide +kernel) ?_
            refine lv_iconst (v := 3) hx hb dX7_say_405 (by decide +kernel) ?_
            refine lv_iload_n hx hb dX7_say_406 rfl (lv_at hl 5 rfl) ?_
            refine lv_iload hx hb dX7_say_407 (lv_at hl 0 rfl) ?_
            refine kJi (wr := []) (va_runV (As := [.int 2, .int 3, .int a2, .int v_121]) (rest := []) ⟨hx, hb, hml, hown, hT⟩ (ih l D cI aK aV k k0 H.size c1 c2 c3 c4 c0 2 3 a2 v_121 (by first | omega | (simp only [zl_2, zl_3]; first | done | omega) | decide | assumption | rfl)) (cwV 4 hT (gV_in mw_1054 mw_1051 mw_1053 mw_p3_7 mw_10) rfl rfl rfl (by decide +kernel) ⟨(by dsimp only; omega), (by dsimp only; omega)⟩) (kRecvX (q0 := 0) (ci := 7) hK hP hD hN hXS hS hA rfl rfl [0, 1] rfl (by decide +kernel)) rfl rfl hl.1 rfl (lv_room (Nat.le_of_ble_eq_true rfl)) dX7_say_409 ⟨Nat.le_of_ble_eq_true rfl, Nat.le_of_ble_eq_true rfl⟩) hP hD hS hA [0, 1] [] rfl rfl (by decide +kernel) (by decide +kernel) ?_
            clear hP hD hS
            intro r_191 u_195 H locs w_192 hP hD hS
            obtain ⟨sc1_193, sc0_194⟩ := u_195
            replace hP : va_P D vwCl [(k, .inr (7, [.ref k0, .int sc1_193, .int c2, .int c3, .int c4])), (k0, .inl (cI, 40, .inl sc0_194))] H := hP
            replace hD : va_D A [(k, .inr (7, [.ref k0, .int sc1_193, .int c2, .int c3, .int c4])), (k0, .inl (cI, 40, .inl sc0_194))] := hD
            have lo_r_191 := k_lo r_191
            have hi_r_191 := k_hi r_191
            refine lv_aload_n hx hb dX7_say_412 rfl (lv_at hl 2 rfl) ?_
            refine lv_iconst (v := 1) hx hb dX7_say_413 (by decide +kernel) ?_
            refine lv_aload_n hx hb dX7_say_414 rfl (lv_at hl 2 rfl) ?_
            refine va_get (D := D) (ci := 7) (v := .int c3) (C := RX7) (T := TX7) (N := 5) hx hb hT giX7 hown hK hP 0 rfl rfl 3 (by decide +kernel) (hT (Cond.fieldLink RX7 22 "DesertWire$Voices" "n" "I") mw_262) (fun _ h9 => h9) rfl dX7_say_415 ?_
            refine lv_iload hx hb dX7_say_418 (lv_at hl 0 rfl) ?_
            refine kJi (wr := []) (va_runV (As := [.int 1, .int c3, .int v_121]) (rest := [.int r_191]) ⟨hx, hb, hml, hown, hT⟩ (c_X7_own_of dd ih l D cI aK aV k k0 H.size sc1_193 c2 c3 c4 sc0_194 1 c3 v_121 (by first | omega | (simp only [zl_1]; first | done | omega) | decide | assumption | rfl)) (cwV 3 hT (gV_in mw_1050 mw_1047 mw_1049 mw_p3_6 mw_10) rfl rfl rfl (by decide +kernel) ⟨(by dsimp only; omega), (by dsimp only; omega)⟩) (kRecvX (q0 := 0) (ci := 7) hK hP hD hN hXS hS hA rfl rfl [0, 1] rfl (by decide +kernel)) rfl rfl hl.1 rfl (lv_room (Nat.le_of_ble_eq_true rfl)) dX7_say_420 ⟨Nat.le_of_ble_eq_true rfl, Nat.le_of_ble_eq_true rfl⟩) hP hD hS hA [0, 1] [] rfl rfl (by decide +kernel) (by decide +kernel) ?_
            clear hP hD hS
            intro r_196 u_200 H locs w_197 hP hD hS
            obtain ⟨sc1_198, sc0_199⟩ := u_200
            replace hP : va_P D vwCl [(k, .inr (7, [.ref k0, .int sc1_198, .int c2, .int c3, .int c4])), (k0, .inl (cI, 40, .inl sc0_199))] H := hP
            replace hD : va_D A [(k, .inr (7, [.ref k0, .int sc1_198, .int c2, .int c3, .int c4])), (k0, .inl (cI, 40, .inl sc0_199))] := hD
            have lo_r_196 := k_lo r_196
            have hi_r_196 := k_hi r_196
            refine lv_ixor hx hb dX7_say_423 ?_
            refine lv_topi (fun v_201 ev_201 => ?_)
            have lo_v_201 := k_lo v_201
            have hi_v_201 := k_hi v_201
            exact hRet (sc1_198, sc0_199) [0, 1] trivial hP hD (by decide +kernel) rfl hS rfl dX7_say_424
          by_cases c_202 : r_2.toInt = 50
          · refine lv_tableIn (off := 364) (tgt := 425) hx hb dX7_say_61 (by omega) (by omega) (by rw [c_202]; decide) (by decide +kernel) ?_
            refine lv_aload_n hx hb dX7_say_425 rfl (lv_at hl 2 rfl) ?_
            refine lv_iconst (v := 0) hx hb dX7_say_426 (by decide +kernel) ?_
            refine lv_iconst (v := 0) hx hb dX7_say_427 (by decide +kernel) ?_
            refine lv_iload_n hx hb dX7_say_428 rfl (lv_at hl 5 rfl) ?_
            refine lv_iload hx hb dX7_say_429 (lv_at hl 0 rfl) ?_
            refine kJi (wr := []) (va_runV (As := [.int 0, .int 0, .int a2, .int v_121]) (rest := []) ⟨hx, hb, hml, hown, hT⟩ (ih l D cI aK aV k k0 H.size c1 c2 c3 c4 c0 0 0 a2 v_121 (by first | omega | (simp only [zl_0]; first | done | omega) | decide | assumption | rfl)) (cwV 4 hT (gV_in mw_1054 mw_1051 mw_1053 mw_p3_7 mw_10) rfl rfl rfl (by decide +kernel) ⟨(by dsimp only; omega), (by dsimp only; omega)⟩) (kRecvX (q0 := 0) (ci := 7) hK hP hD hN hXS hS hA rfl rfl [0, 1] rfl (by decide +kernel)) rfl rfl hl.1 rfl (lv_room (Nat.le_of_ble_eq_true rfl)) dX7_say_431 ⟨Nat.le_of_ble_eq_true rfl, Nat.le_of_ble_eq_true rfl⟩) hP hD hS hA [0, 1] [] rfl rfl (by decide +kernel) (by decide +kernel) ?_
            clear hP hD hS
            intro r_203 u_207 H locs w_204 hP hD hS
            obtain ⟨sc1_205, sc0_206⟩ := u_207
            replace hP : va_P D vwCl [(k, .inr (7, [.ref k0, .int sc1_205, .int c2, .int c3, .int c4])), (k0, .inl (cI, 40, .inl sc0_206))] H := hP
            replace hD : va_D A [(k, .inr (7, [.ref k0, .int sc1_205, .int c2, .int c3, .int c4])), (k0, .inl (cI, 40, .inl sc0_206))] := hD
            have lo_r_203 := k_lo r_203
            have hi_r_203 := k_hi r_203
            refine lv_aload_n hx hb dX7_say_434 rfl (lv_at hl 2 rfl) ?_
            refine va_get (D := D) (ci := 7) (v := .int c4) (C := RX7) (T := TX7) (N := 5) hx hb hT giX7 hown hK hP 0 rfl rfl 4 (by decide +kernel) (hT (Cond.fieldLink RX7 25 "DesertWire$Voices" "w" "I") mw_263) (fun _ h9 => h9) rfl dX7_say_435 ?_
            refine lv_iadd hx hb dX7_say_438 ?_
            refine lv_topi (fun v_208 ev_208 => ?_)
            have lo_v_208 := k_lo v_208
            have hi_v_208 := k_hi v_208
            exact hRet (sc1_205, sc0_206) [0, 1] trivial hP hD (by decide +kernel) rfl hS rfl dX7_say_439
          by_cases c_209 : r_2.toInt = 51
          · refine lv_tableIn (off := 379) (tgt := 440) hx hb dX7_say_61 (by omega) (by omega) (by rw [c_209]; decide) (by decide +kernel) ?_
            refine lv_aload_n hx hb dX7_say_440 rfl (lv_at hl 2 rfl) ?_
            refine lv_iconst (v := 0) hx hb dX7_say_441 (by decide +kernel) ?_
            refine lv_iconst (v := 2) hx hb dX7_say_442 (by decide +kernel) ?_
            refine lv_iload_n hx hb dX7_say_443 rfl (lv_at hl 5 rfl) ?_
            refine lv_iload hx hb dX7_say_444 (lv_at hl 0 rfl) ?_
            refine kJi (wr := []) (va_runV (As := [.int 0, .int 2, .int a2, .int v_121]) (rest := []) ⟨hx, hb, hml, hown, hT⟩ (ih l D cI aK aV k k0 H.size c1 c2 c3 c4 c0 0 2 a2 v_121 (by first | omega | (simp only [zl_0, zl_2]; first | done | omega) | decide | assumption | rfl)) (cwV 4 hT (gV_in mw_1054 mw_1051 mw_1053 mw_p3_7 mw_10) rfl rfl rfl (by decide +kernel) ⟨(by dsimp only; omega), (by dsimp only; omega)⟩) (kRecvX (q0 := 0) (ci := 7) hK hP hD hN hXS hS hA rfl rfl [0, 1] rfl (by decide +kernel)) rfl rfl hl.1 rfl (lv_room (Nat.le_of_ble_eq_true rfl)) dX7_say_446 ⟨Nat.le_of_ble_eq_true rfl, Nat.le_of_ble_eq_true rfl⟩) hP hD hS hA [0, 1] [] rfl rfl (by decide +kernel) (by decide +kernel) ?_
            clear hP hD hS
            intro r_210 u_214 H locs w_211 hP hD hS
            obtain ⟨sc1_212, sc0_213⟩ := u_214
            replace hP : va_P D vwCl [(k, .inr (7, [.ref k0, .int sc1_212, .int c2, .int c3, .int c4])), (k0, .inl (cI, 40, .inl sc0_213))] H := hP
            replace hD : va_D A [(k, .inr (7, [.ref k0, .int sc1_212, .int c2, .int c3, .int c4])), (k0, .inl (cI, 40, .inl sc0_213))] := hD
            have lo_r_210 := k_lo r_210
            have hi_r_210 := k_hi r_210
            refine lv_aload_n hx hb dX7_say_449 rfl (lv_at hl 2 rfl) ?_
            refine lv_iconst (v := 0) hx hb dX7_say_450 (by decide +kernel) ?_
            refine lv_iconst (v := 1) hx hb dX7_say_451 (by decide +kernel) ?_
            refine lv_iload hx hb dX7_say_452 (lv_at hl 0 rfl) ?_
            refine kJi (wr := []) (va_runV (As := [.int 0, .int 1, .int v_121]) (rest := [.int r_210]) ⟨hx, hb, hml, hown, hT⟩ (c_X7_own_of dd ih l D cI aK aV k k0 H.size sc1_212 c2 c3 c4 sc0_213 0 1 v_121 (by first | omega | (simp only [zl_0, zl_1]; first | done | omega) | decide | assumption | rfl)) (cwV 3 hT (gV_in mw_1050 mw_1047 mw_1049 mw_p3_6 mw_10) rfl rfl rfl (by decide +kernel) ⟨(by dsimp only; omega), (by dsimp only; omega)⟩) (kRecvX (q0 := 0) (ci := 7) hK hP hD hN hXS hS hA rfl rfl [0, 1] rfl (by decide +kernel)) rfl rfl hl.1 rfl (lv_room (Nat.le_of_ble_eq_true rfl)) dX7_say_454 ⟨Nat.le_of_ble_eq_true rfl, Nat.le_of_ble_eq_true rfl⟩) hP hD hS hA [0, 1] [] rfl rfl (by decide +kernel) (by decide +kernel) ?_
            clear hP hD hS
            intro r_215 u_219 H locs w_216 hP hD hS
            obtain ⟨sc1_217, sc0_218⟩ := u_219
            replace hP : va_P D vwCl [(k, .inr (7, [.ref k0, .int sc1_217, .int c2, .int c3, .int c4])), (k0, .inl (cI, 40, .inl sc0_218))] H := hP
            replace hD : va_D A [(k, .inr (7, [.ref k0, .int sc1_217, .int c2, .int c3, .int c4])), (k0, .inl (cI, 40, .inl sc0_218))] := hD
            have lo_r_215 := k_lo r_215
            have hi_r_215 := k_hi r_215
            refine lv_isub hx hb dX7_say_457 ?_
            refine lv_topi (fun v_220 ev_220 => ?_)
            have lo_v_220 := k_lo v_220
            have hi_v_220 := k_hi v_220
            exact hRet (sc1_217, sc0_218) [0, 1] trivial hP hD (by decide +kernel) rfl hS rfl dX7_say_458
          by_cases c_221 : r_2.toInt = 60
          · refine lv_tableIn (off := 398) (tgt := 459) hx hb dX7_say_61 (by omega) (by omega) (by rw [c_221]; decide) (by decide +kernel) ?_
            refine lv_aload_n hx hb dX7_say_459 rfl (lv_at hl 2 rfl) ?_
            refine lv_iconst (v := 4) hx hb dX7_say_460 (by decide +kernel) ?_
            refine lv_iconst (v := 1) hx hb dX7_say_461 (by decide +kernel) ?_
            refine lv_iload_n hx hb dX7_say_462 rfl (lv_at hl 5 rfl) ?_
            refine lv_iload hx hb dX7_say_463 (lv_at hl 0 rfl) ?_
            refine kJi (wr := []) (va_runV (As := [.int 4, .int 1, .int a2, .int v_121]) (rest := []) ⟨hx, hb, hml, hown, hT⟩ (ih l D cI aK aV k k0 H.size c1 c2 c3 c4 c0 4 1 a2 v_121 (by first | omega | (simp only [zl_1, zl_4]; first | done | omega) | decide | assumption | rfl)) (cwV 4 hT (gV_in mw_1054 mw_1051 mw_1053 mw_p3_7 mw_10) rfl rfl rfl (by decide +kernel) ⟨(by dsimp only; omega), (by dsimp only; omega)⟩) (kRecvX (q0 := 0) (ci := 7) hK hP hD hN hXS hS hA rfl rfl [0, 1] rfl (by decide +kernel)) rfl rfl hl.1 rfl (lv_room (Nat.le_of_ble_eq_true rfl)) dX7_say_465 ⟨Nat.le_of_ble_eq_true rfl, Nat.le_of_ble_eq_true rfl⟩) hP hD hS hA [0, 1] [] rfl rfl (by decide +kernel) (by decide +kernel) ?_
            clear hP hD hS
            intro r_222 u_226 H locs w_223 hP hD hS
            obtain ⟨sc1_224, sc0_225⟩ := u_226
            replace hP : va_P D vwCl [(k, .inr (7, [.ref k0, .int sc1_224, .int c2, .int c3, .int c4])), (k0, .inl (cI, 40, .inl sc0_225))] H := hP
            replace hD : va_D A [(k, .inr (7, [.ref k0, .int sc1_224, .int c2, .int c3, .int c4])), (k0, .inl (cI, 40, .inl sc0_225))] := hD
            have lo_r_222 := k_lo r_222
            have hi_r_222 := k_hi r_222
            refine lv_aload_n hx hb dX7_say_468 rfl (lv_at hl 2 rfl) ?_
            refine va_get (D := D) (ci := 7) (v := .int c4) (C := RX7) (T := TX7) (N := 5) hx hb hT giX7 hown hK hP 0 rfl rfl 4 (by decide +kernel) (hT (Cond.fieldLink RX7 25 "DesertWire$Voices" "w" "I") mw_263) (fun _ h9 => h9) rfl dX7_say_469 ?_
            refine lv_imul hx hb dX7_say_472 ?_
            refine lv_topi (fun v_227 ev_227 => ?_)
            have lo_v_227 := k_lo v_227
            have hi_v_227 := k_hi v_227
            exact hRet (sc1_224, sc0_225) [0, 1] trivial hP hD (by decide +kernel) rfl hS rfl dX7_say_473
          refine lv_tableOut (tgt := 474) hx hb dX7_say_61 (by omega) (by decide +kernel) ?_
          refine lv_iconst (v := 0) hx hb dX7_say_474 (by decide +kernel) ?_
          refine lv_aload_n hx hb dX7_say_475 rfl (lv_at hl 2 rfl) ?_
          refine lv_iconst (v := 4) hx hb dX7_say_476 (by decide +kernel) ?_
          refine lv_iconst (v := 3) hx hb dX7_say_477 (by decide +kernel) ?_
          refine lv_iload_n hx hb dX7_say_478 rfl (lv_at hl 5 rfl) ?_
          refine lv_iload hx hb dX7_say_479 (lv_at hl 0 rfl) ?_
          refine kJi (wr := []) (va_runV (As := [.int 4, .int 3, .int a2, .int v_121]) (rest := [.int 0]) ⟨hx, hb, hml, hown, hT⟩ (ih l D cI aK aV k k0 H.size c1 c2 c3 c4 c0 4 3 a2 v_121 (by first | omega | (simp only [zl_3, zl_4]; first | done | omega) | decide | assumption | rfl)) (cwV 4 hT (gV_in mw_1054 mw_1051 mw_1053 mw_p3_7 mw_10) rfl rfl rfl (by decide +kernel) ⟨(by dsimp only; omega), (by dsimp only; omega)⟩) (kRecvX (q0 := 0) (ci := 7) hK hP hD hN hXS hS hA rfl rfl [0, 1] rfl (by decide +kernel)) rfl rfl hl.1 rfl (lv_room (Nat.le_of_ble_eq_true rfl)) dX7_say_481 ⟨Nat.le_of_ble_eq_true rfl, Nat.le_of_ble_eq_true rfl⟩) hP hD hS hA [0, 1] [] rfl rfl (by decide +kernel) (by decide +kernel) ?_
          clear hP hD hS
          intro r_228 u_232 H locs w_229 hP hD hS
          obtain ⟨sc1_230, sc0_231⟩ := u_232
          replace hP : va_P D vwCl [(k, .inr (7, [.ref k0, .int sc1_230, .int c2, .int c3, .int c4])), (k0, .inl (cI, 40, .inl sc0_231))] H := hP
          replace hD : va_D A [(k, .inr (7, [.ref k0, .int sc1_230, .int c2, .int c3, .int c4])), (k0, .inl (cI, 40, .inl sc0_231))] := hD
          have lo_r_228 := k_lo r_228
          have hi_r_228 := k_hi r_228
          refine lv_isub hx hb dX7_say_484 ?_
          refine lv_topi (fun v_233 ev_233 => ?_)
          have lo_v_233 := k_lo v_233
          have hi_v_233 := k_hi v_233
          exact hRet (sc1_230, sc0_231) [0, 1] trivial hP hD (by decide +kernel) rfl hS rfl dX7_say_485
        · refine lv_aload_n hx hb dX7_say_32 rfl (lv_at hl 1 rfl) ?_
          refine va_get (D := D) (ci := 7) (v := .ref k0) (C := RX7) (T := TX7) (N := 5) hx hb hT giX7 hown hK hP 0 rfl rfl 0 (by decide +kernel) (hT (Cond.fieldLink RX7 9 "DesertWire$Voices" "bodies" "[I") mw_258) (fun _ h9 => h9) rfl dX7_say_33 ?_
          refine lv_aload_n hx hb dX7_say_36 rfl (lv_at hl 1 rfl) ?_
          refine va_get (D := D) (ci := 7) (v := .int c1) (C := RX7) (T := TX7) (N := 5) hx hb hT giX7 hown hK hP 0 rfl rfl 1 (by decide +kernel) (hT (Cond.fieldLink RX7 15 "DesertWire$Voices" "begun" "I") mw_259) (fun _ h9 => h9) rfl dX7_say_37 ?_
          refine lv_iload hx hb dX7_say_40 (lv_at hl 0 rfl) ?_
          refine va_iast hx hb hK hP hD hS 1 0 rfl rfl (k_in (by omega) (by omega)) dX7_say_42 ?_
          clear hP hD hS
          intro H locs hP hD hS
          replace hP : va_P D vwCl [(k, .inr (7, [.ref k0, .int c1, .int c2, .int c3, .int c4])), (k0, .inl (cI, 40, .inl (upd c0 c1.toNatClampNeg r_2)))] H := hP
          replace hD : va_D A [(k, .inr (7, [.ref k0, .int c1, .int c2, .int c3, .int c4])), (k0, .inl (cI, 40, .inl (upd c0 c1.toNatClampNeg r_2)))] := hD
          obtain ⟨f_234, ef_234⟩ : ∃ g : Nat → Int32, g = upd c0 c1.toNatClampNeg r_2 := ⟨_, rfl⟩
          rw [← ef_234] at hP hD
          refine lv_aload_n hx hb dX7_say_43 rfl (lv_at hl 1 rfl) ?_
          refine lv_dup hx hb dX7_say_44 rfl ?_
          refine va_get (D := D) (ci := 7) (v := .int c1) (C := RX7) (T := TX7) (N := 5) hx hb hT giX7 hown hK hP 0 rfl rfl 1 (by decide +kernel) (hT (Cond.fieldLink RX7 15 "DesertWire$Voices" "begun" "I") mw_259) (fun _ h9 => h9) rfl dX7_say_45 ?_
          refine lv_iconst (v := 1) hx hb dX7_say_48 (by decide +kernel) ?_
          refine lv_iadd hx hb dX7_say_49 ?_
          refine lv_topi (fun v_235 ev_235 => ?_)
          have tv_235 : v_235.toInt = c1.toInt + 1 := by rw [ev_235]; exact k_addv rfl zl_1 (by omega) (by omega)
          refine va_put (D := D) (ci := 7) (v := .int v_235) (ty := .int) (C := RX7) (T := TX7) (N := 5) hx hb hT giX7 tyX7 tyX7_ok nmX7 hown hK hP hD hS 0 rfl rfl 1 (by decide +kernel) (hT (Cond.fieldLink RX7 15 "DesertWire$Voices" "begun" "I") mw_259) (fun _ h9 => h9) rfl (by decide +kernel) rfl rfl (Nat.le_of_ble_eq_true rfl) dX7_say_50 ?_
          clear hP hD hS
          intro H locs hP hD hS
          replace hP : va_P D vwCl [(k, .inr (7, [.ref k0, .int v_235, .int c2, .int c3, .int c4])), (k0, .inl (cI, 40, .inl f_234))] H := hP
          replace hD : va_D A [(k, .inr (7, [.ref k0, .int v_235, .int c2, .int c3, .int c4])), (k0, .inl (cI, 40, .inl f_234))] := hD
          refine lv_iload hx hb dX7_say_53 (lv_at hl 5 rfl) ?_
          refine lv_iconst (v := 1) hx hb dX7_say_55 (by decide +kernel) ?_
          refine lv_iadd hx hb dX7_say_56 ?_
          refine lv_topi (fun v_236 ev_236 => ?_)
          have tv_236 : v_236.toInt = a3.toInt + 1 := by rw [ev_236]; exact k_addv rfl zl_1 (by omega) (by omega)
          refine lv_istore (lv' := [(6, .int v_236), (5, .int r_2), (0, .ref k), (1, .int a0), (2, .int a1), (3, .int a2), (4, .int a3)]) hx hb dX7_say_57 hl (by decide +kernel) rfl ?_
          clear hl
          intro ls hl
          refine lv_iload hx hb dX7_say_59 (lv_at hl 1 rfl) ?_
          by_cases c_237 : r_2.toInt = 10
          · refine lv_tableIn (off := 219) (tgt := 280) hx hb dX7_say_61 (by omega) (by omega) (by rw [c_237]; decide) (by decide +kernel) ?_
            refine lv_iload_n hx hb dX7_say_280 rfl (lv_at hl 5 rfl) ?_
            refine lv_aload_n hx hb dX7_say_281 rfl (lv_at hl 2 rfl) ?_
            refine va_get (D := D) (ci := 7) (v := .int c3) (C := RX7) (T := TX7) (N := 5) hx hb hT giX7 hown hK hP 0 rfl rfl 3 (by decide +kernel) (hT (Cond.fieldLink RX7 22 "DesertWire$Voices" "n" "I") mw_262) (fun _ h9 => h9) rfl dX7_say_282 ?_
            refine lv_isub hx hb dX7_say_285 ?_
            refine lv_topi (fun v_238 ev_238 => ?_)
            have lo_v_238 := k_lo v_238
            have hi_v_238 := k_hi v_238
            exact hRet (v_235, f_234) [0, 1] trivial hP hD (by decide +kernel) rfl hS rfl dX7_say_286
          by_cases c_239 : r_2.toInt = 11
          · refine lv_tableIn (off := 226) (tgt := 287) hx hb dX7_say_61 (by omega) (by omega) (by rw [c_239]; decide) (by decide +kernel) ?_
            refine lv_aload_n hx hb dX7_say_287 rfl (lv_at hl 2 rfl) ?_
            refine lv_iconst (v := 0) hx hb dX7_say_288 (by decide +kernel) ?_
            refine lv_iload_n hx hb dX7_say_289 rfl (lv_at hl 5 rfl) ?_
            refine lv_iload hx hb dX7_say_290 (lv_at hl 0 rfl) ?_
            refine kJi (wr := []) (va_runV (As := [.int 0, .int a2, .int v_236]) (rest := []) ⟨hx, hb, hml, hown, hT⟩ (c_X7_own_of dd ih l D cI aK aV k k0 H.size v_235 c2 c3 c4 f_234 0 a2 v_236 (by first | omega | (simp only [zl_0]; first | done | omega) | decide | assumption | rfl)) (cwV 3 hT (gV_in mw_1050 mw_1047 mw_1049 mw_p3_6 mw_10) rfl rfl rfl (by decide +kernel) ⟨(by dsimp only; omega), (by dsimp only; omega)⟩) (kRecvX (q0 := 0) (ci := 7) hK hP hD hN hXS hS hA rfl rfl [0, 1] rfl (by decide +kernel)) rfl rfl hl.1 rfl (lv_room (Nat.le_of_ble_eq_true rfl)) dX7_say_292 ⟨Nat.le_of_ble_eq_true rfl, Nat.le_of_ble_eq_true rfl⟩) hP hD hS hA [0, 1] [] rfl rfl (by decide +kernel) (by decide +kernel) ?_
            clear hP hD hS
            intro r_240 u_244 H locs w_241 hP hD hS
            obtain ⟨sc1_242, sc0_243⟩ := u_244
            replace hP : va_P D vwCl [(k, .inr (7, [.ref k0, .int sc1_242, .int c2, .int c3, .int c4])), (k0, .inl (cI, 40, .inl sc0_243))] H := hP
            replace hD : va_D A [(k, .inr (7, [.ref k0, .int sc1_242, .int c2, .int c3, .int c4])), (k0, .inl (cI, 40, .inl sc0_243))] := hD
            have lo_r_240 := k_lo r_240
            have hi_r_240 := k_hi r_240
            refine lv_aload_n hx hb dX7_say_295 rfl (lv_at hl 2 rfl) ?_
            refine va_get (D := D) (ci := 7) (v := .int c4) (C := RX7) (T := TX7) (N := 5) hx hb hT giX7 hown hK hP 0 rfl rfl 4 (by decide +kernel) (hT (Cond.fieldLink RX7 25 "DesertWire$Voices" "w" "I") mw_263) (fun _ h9 => h9) rfl dX7_say_296 ?_
            refine lv_iadd hx hb dX7_say_299 ?_
            refine lv_topi (fun v_245 ev_245 => ?_)
            have lo_v_245 := k_lo v_245
            have hi_v_245 := k_hi v_245
            exact hRet (sc1_242, sc0_243) [0, 1] trivial hP hD (by decide +kernel) rfl hS rfl dX7_say_300
          by_cases c_246 : r_2.toInt = 12
          · refine lv_tableIn (off := 240) (tgt := 301) hx hb dX7_say_61 (by omega) (by omega) (by rw [c_246]; decide) (by decide +kernel) ?_
            refine lv_aload_n hx hb dX7_say_301 rfl (lv_at hl 2 rfl) ?_
            refine lv_iconst (v := 1) hx hb dX7_say_302 (by decide +kernel) ?_
            refine lv_iload_n hx hb dX7_say_303 rfl (lv_at hl 5 rfl) ?_
            refine lv_iload hx hb dX7_say_304 (lv_at hl 0 rfl) ?_
            refine kJi (wr := []) (va_runV (As := [.int 1, .int a2, .int v_236]) (rest := []) ⟨hx, hb, hml, hown, hT⟩ (c_X7_own_of dd ih l D cI aK aV k k0 H.size v_235 c2 c3 c4 f_234 1 a2 v_236 (by first | omega | (simp only [zl_1]; first | done | omega) | decide | assumption | rfl)) (cwV 3 hT (gV_in mw_1050 mw_1047 mw_1049 mw_p3_6 mw_10) rfl rfl rfl (by decide +kernel) ⟨(by dsimp only; omega), (by dsimp only; omega)⟩) (kRecvX (q0 := 0) (ci := 7) hK hP hD hN hXS hS hA rfl rfl [0, 1] rfl (by decide +kernel)) rfl rfl hl.1 rfl (lv_room (Nat.le_of_ble_eq_true rfl)) dX7_say_306 ⟨Nat.le_of_ble_eq_true rfl, Nat.le_of_ble_eq_true rfl⟩) hP hD hS hA [0, 1] [] rfl rfl (by decide +kernel) (by decide +kernel) ?_
            clear hP hD hS
            intro r_247 u_251 H locs w_248 hP hD hS
            obtain ⟨sc1_249, sc0_250⟩ := u_251
            replace hP : va_P D vwCl [(k, .inr (7, [.ref k0, .int sc1_249, .int c2, .int c3, .int c4])), (k0, .inl (cI, 40, .inl sc0_250))] H := hP
            replace hD : va_D A [(k, .inr (7, [.ref k0, .int sc1_249, .int c2, .int c3, .int c4])), (k0, .inl (cI, 40, .inl sc0_250))] := hD
            have lo_r_247 := k_lo r_247
            have hi_r_247 := k_hi r_247
            refine lv_iconst (v := 2) hx hb dX7_say_309 (by decide +kernel) ?_
            refine lv_imul hx hb dX7_say_310 ?_
            refine lv_topi (fun v_252 ev_252 => ?_)
            have lo_v_252 := k_lo v_252
            have hi_v_252 := k_hi v_252
            exact hRet (sc1_249, sc0_250) [0, 1] trivial hP hD (by decide +kernel) rfl hS rfl dX7_say_311
          by_cases c_253 : r_2.toInt = 13
          · refine lv_tableIn (off := 251) (tgt := 312) hx hb dX7_say_61 (by omega) (by omega) (by rw [c_253]; decide) (by decide +kernel) ?_
            refine lv_aload_n hx hb dX7_say_312 rfl (lv_at hl 2 rfl) ?_
            refine lv_iconst (v := 2) hx hb dX7_say_313 (by decide +kernel) ?_
            refine lv_iload_n hx hb dX7_say_314 rfl (lv_at hl 5 rfl) ?_
            refine lv_iload hx hb dX7_say_315 (lv_at hl 0 rfl) ?_
            refine kJi (wr := []) (va_runV (As := [.int 2, .int a2, .int v_236]) (rest := []) ⟨hx, hb, hml, hown, hT⟩ (c_X7_own_of dd ih l D cI aK aV k k0 H.size v_235 c2 c3 c4 f_234 2 a2 v_236 (by first | omega | (simp only [zl_2]; first | done | omega) | decide | assumption | rfl)) (cwV 3 hT (gV_in mw_1050 mw_1047 mw_1049 mw_p3_6 mw_10) rfl rfl rfl (by decide +kernel) ⟨(by dsimp only; omega), (by dsimp only; omega)⟩) (kRecvX (q0 := 0) (ci := 7) hK hP hD hN hXS hS hA rfl rfl [0, 1] rfl (by decide +kernel)) rfl rfl hl.1 rfl (lv_room (Nat.le_of_ble_eq_true rfl)) dX7_say_317 ⟨Nat.le_of_ble_eq_true rfl, Nat.le_of_ble_eq_true rfl⟩) hP hD hS hA [0, 1] [] rfl rfl (by decide +kernel) (by decide +kernel) ?_
            clear hP hD hS
            intro r_254 u_258 H locs w_255 hP hD hS
            obtain ⟨sc1_256, sc0_257⟩ := u_258
            replace hP : va_P D vwCl [(k, .inr (7, [.ref k0, .int sc1_256, .int c2, .int c3, .int c4])), (k0, .inl (cI, 40, .inl sc0_257))] H := hP
            replace hD : va_D A [(k, .inr (7, [.ref k0, .int sc1_256, .int c2, .int c3, .int c4])), (k0, .inl (cI, 40, .inl sc0_257))] := hD
            have lo_r_254 := k_lo r_254
            have hi_r_254 := k_hi r_254
            refine lv_aload_n hx hb dX7_say_320 rfl (lv_at hl 2 rfl) ?_
            refine lv_iconst (v := 0) hx hb dX7_say_321 (by decide +kernel) ?_
            refine lv_iload_n hx hb dX7_say_322 rfl (lv_at hl 5 rfl) ?_
            refine lv_iload hx hb dX7_say_323 (lv_at hl 0 rfl) ?_
            refine kJi (wr := []) (va_runV (As := [.int 0, .int a2, .int v_236]) (rest := [.int r_254]) ⟨hx, hb, hml, hown, hT⟩ (c_X7_own_of dd ih l D cI aK aV k k0 H.size sc1_256 c2 c3 c4 sc0_257 0 a2 v_236 (by first | omega | (simp only [zl_0]; first | done | omega) | decide | assumption | rfl)) (cwV 3 hT (gV_in mw_1050 mw_1047 mw_1049 mw_p3_6 mw_10) rfl rfl rfl (by decide +kernel) ⟨(by dsimp only; omega), (by dsimp only; omega)⟩) (kRecvX (q0 := 0) (ci := 7) hK hP hD hN hXS hS hA rfl rfl [0, 1] rfl (by decide +kernel)) rfl rfl hl.1 rfl (lv_room (Nat.le_of_ble_eq_true rfl)) dX7_say_325 ⟨Nat.le_of_ble_eq_true rfl, Nat.le_of_ble_eq_true rfl⟩) hP hD hS hA [0, 1] [] rfl rfl (by decide +kernel) (by decide +kernel) ?_
            clear hP hD hS
            intro r_259 u_263 H locs w_260 hP hD hS
            obtain ⟨sc1_261, sc0_262⟩ := u_263
            replace hP : va_P D vwCl [(k, .inr (7, [.ref k0, .int sc1_261, .int c2, .int c3, .int c4])), (k0, .inl (cI, 40, .inl sc0_262))] H := hP
            replace hD : va_D A [(k, .inr (7, [.ref k0, .int sc1_261, .int c2, .int c3, .int c4])), (k0, .inl (cI, 40, .inl sc0_262))] := hD
            have lo_r_259 := k_lo r_259
            have hi_r_259 := k_hi r_259
            refine lv_ixor hx hb dX7_say_328 ?_
            refine lv_topi (fun v_264 ev_264 => ?_)
            have lo_v_264 := k_lo v_264
            have hi_v_264 := k_hi v_264
            exact hRet (sc1_261, sc0_262) [0, 1] trivial hP hD (by decide +kernel) rfl hS rfl dX7_say_329
          by_cases c_265 : r_2.toInt = 20
          · refine lv_tableIn (off := 269) (tgt := 330) hx hb dX7_say_61 (by omega) (by omega) (by rw [c_265]; decide) (by decide +kernel) ?_
            refine lv_aload_n hx hb dX7_say_330 rfl (lv_at hl 2 rfl) ?_
            refine lv_iconst (v := 0) hx hb dX7_say_331 (by decide +kernel) ?_
            refine lv_iconst (v := 1) hx hb dX7_say_332 (by decide +kernel) ?_
            refine lv_iload_n hx hb dX7_say_333 rfl (lv_at hl 5 rfl) ?_
            refine lv_iconst (v := 1) hx hb dX7_say_334 (by decide +kernel) ?_
            refine lv_iadd hx hb dX7_say_335 ?_
            refine lv_topi (fun v_266 ev_266 => ?_)
            have lo_v_266 := k_lo v_266
            have hi_v_266 := k_hi v_266
            refine lv_iload hx hb dX7_say_336 (lv_at hl 0 rfl) ?_
            refine kJi (wr := []) (va_runV (As := [.int 0, .int 1, .int v_266, .int v_236]) (rest := []) ⟨hx, hb, hml, hown, hT⟩ (ih l D cI aK aV k k0 H.size v_235 c2 c3 c4 f_234 0 1 v_266 v_236 (by first | omega | (simp only [zl_0, zl_1]; first | done | omega) | decide | assumption | rfl)) (cwV 4 hT (gV_in mw_1054 mw_1051 mw_1053 mw_p3_7 mw_10) rfl rfl rfl (by decide +kernel) ⟨(by dsimp only; omega), (by dsimp only; omega)⟩) (kRecvX (q0 := 0) (ci := 7) hK hP hD hN hXS hS hA rfl rfl [0, 1] rfl (by decide +kernel)) rfl rfl hl.1 rfl (lv_room (Nat.le_of_ble_eq_true rfl)) dX7_say_338 ⟨Nat.le_of_ble_eq_true rfl, Nat.le_of_ble_eq_true rfl⟩) hP hD hS hA [0, 1] [] rfl rfl (by decide +kernel) (by decide +kernel) ?_
            clear hP hD hS
            intro r_267 u_271 H locs w_268 hP hD hS
            obtain ⟨sc1_269, sc0_270⟩ := u_271
            replace hP : va_P D vwCl [(k, .inr (7, [.ref k0, .int sc1_269, .int c2, .int c3, .int c4])), (k0, .inl (cI, 40, .inl sc0_270))] H := hP
            replace hD : va_D A [(k, .inr (7, [.ref k0, .int sc1_269, .int c2, .int c3, .int c4])), (k0, .inl (cI, 40, .inl sc0_270))] := hD
            have lo_r_267 := k_lo r_267
            have hi_r_267 := k_hi r_267
            exact hRet (sc1_269, sc0_270) [0, 1] trivial hP hD (by decide +kernel) rfl hS rfl dX7_say_341
          by_cases c_272 : r_2.toInt = 21
          · refine lv_tableIn (off := 281) (tgt := 342) hx hb dX7_say_61 (by omega) (by omega) (by rw [c_272]; decide) (by decide +kernel) ?_
            refine lv_aload_n hx hb dX7_say_342 rfl (lv_at hl 2 rfl) ?_
            refine lv_iconst (v := 0) hx hb dX7_say_343 (by decide +kernel) ?_
            refine lv_iconst (v := 3) hx hb dX7_say_344 (by decide +kernel) ?_
            refine lv_iload_n hx hb dX7_say_345 rfl (lv_at hl 5 rfl) ?_
            refine lv_iload hx hb dX7_say_346 (lv_at hl 0 rfl) ?_
            refine kJi (wr := []) (va_runV (As := [.int 0, .int 3, .int a2, .int v_236]) (rest := []) ⟨hx, hb, hml, hown, hT⟩ (ih l D cI aK aV k k0 H.size v_235 c2 c3 c4 f_234 0 3 a2 v_236 (by first | omega | (simp only [zl_0, zl_3]; first | done | omega) | decide | assumption | rfl)) (cwV 4 hT (gV_in mw_1054 mw_1051 mw_1053 mw_p3_7 mw_10) rfl rfl rfl (by decide +kernel) ⟨(by dsimp only; omega), (by dsimp only; omega)⟩) (kRecvX (q0 := 0) (ci := 7) hK hP hD hN hXS hS hA rfl rfl [0, 1] rfl (by decide +kernel)) rfl rfl hl.1 rfl (lv_room (Nat.le_of_ble_eq_true rfl)) dX7_say_348 ⟨Nat.le_of_ble_eq_true rfl, Nat.le_of_ble_eq_true rfl⟩) hP hD hS hA [0, 1] [] rfl rfl (by decide +kernel) (by decide +kernel) ?_
            clear hP hD hS
            intro r_273 u_277 H locs w_274 hP hD hS
            obtain ⟨sc1_275, sc0_276⟩ := u_277
            replace hP : va_P D vwCl [(k, .inr (7, [.ref k0, .int sc1_275, .int c2, .int c3, .int c4])), (k0, .inl (cI, 40, .inl sc0_276))] H := hP
            replace hD : va_D A [(k, .inr (7, [.ref k0, .int sc1_275, .int c2, .int c3, .int c4])), (k0, .inl (cI, 40, .inl sc0_276))] := hD
            have lo_r_273 := k_lo r_273
            have hi_r_273 := k_hi r_273
            refine lv_aload_n hx hb dX7_say_351 rfl (lv_at hl 2 rfl) ?_
            refine va_get (D := D) (ci := 7) (v := .int c3) (C := RX7) (T := TX7) (N := 5) hx hb hT giX7 hown hK hP 0 rfl rfl 3 (by decide +kernel) (hT (Cond.fieldLink RX7 22 "DesertWire$Voices" "n" "I") mw_262) (fun _ h9 => h9) rfl dX7_say_352 ?_
            refine lv_isub hx hb dX7_say_355 ?_
            refine lv_topi (fun v_278 ev_278 => ?_)
            have lo_v_278 := k_lo v_278
            have hi_v_278 := k_hi v_278
            exact hRet (sc1_275, sc0_276) [0, 1] trivial hP hD (by decide +kernel) rfl hS rfl dX7_say_356
          by_cases c_279 : r_2.toInt = 30
          · refine lv_tableIn (off := 296) (tgt := 357) hx hb dX7_say_61 (by omega) (by omega) (by rw [c_279]; decide) (by decide +kernel) ?_
            refine lv_aload_n hx hb dX7_say_357 rfl (lv_at hl 2 rfl) ?_
            refine lv_iconst (v := 1) hx hb dX7_say_358 (by decide +kernel) ?_
            refine lv_iconst (v := 0) hx hb dX7_say_359 (by decide +kernel) ?_
            refine lv_iload_n hx hb dX7_say_360 rfl (lv_at hl 5 rfl) ?_
            refine lv_iload hx hb dX7_say_361 (lv_at hl 0 rfl) ?_
            refine kJi (wr := []) (va_runV (As := [.int 1, .int 0, .int a2, .int v_236]) (rest := []) ⟨hx, hb, hml, hown, hT⟩ (ih l D cI aK aV k k0 H.size v_235 c2 c3 c4 f_234 1 0 a2 v_236 (by first | omega | (simp only [zl_0, zl_1]; first | done | omega) | decide | assumption | rfl)) (cwV 4 hT (gV_in mw_1054 mw_1051 mw_1053 mw_p3_7 mw_10) rfl rfl rfl (by decide +kernel) ⟨(by dsimp only; omega), (by dsimp only; omega)⟩) (kRecvX (q0 := 0) (ci := 7) hK hP hD hN hXS hS hA rfl rfl [0, 1] rfl (by decide +kernel)) rfl rfl hl.1 rfl (lv_room (Nat.le_of_ble_eq_true rfl)) dX7_say_363 ⟨Nat.le_of_ble_eq_true rfl, Nat.le_of_ble_eq_true rfl⟩) hP hD hS hA [0, 1] [] rfl rfl (by decide +kernel) (by decide +kernel) ?_
            clear hP hD hS
            intro r_280 u_284 H locs w_281 hP hD hS
            obtain ⟨sc1_282, sc0_283⟩ := u_284
            replace hP : va_P D vwCl [(k, .inr (7, [.ref k0, .int sc1_282, .int c2, .int c3, .int c4])), (k0, .inl (cI, 40, .inl sc0_283))] H := hP
            replace hD : va_D A [(k, .inr (7, [.ref k0, .int sc1_282, .int c2, .int c3, .int c4])), (k0, .inl (cI, 40, .inl sc0_283))] := hD
            have lo_r_280 := k_lo r_280
            have hi_r_280 := k_hi r_280
            refine lv_iconst (v := 3) hx hb dX7_say_366 (by decide +kernel) ?_
            refine lv_imul hx hb dX7_say_367 ?_
            refine lv_topi (fun v_285 ev_285 => ?_)
            have lo_v_285 := k_lo v_285
            have hi_v_285 := k_hi v_285
            exact hRet (sc1_282, sc0_283) [0, 1] trivial hP hD (by decide +kernel) rfl hS rfl dX7_say_368
          by_cases c_286 : r_2.toInt = 31
          · refine lv_tableIn (off := 308) (tgt := 369) hx hb dX7_say_61 (by omega) (by omega) (by rw [c_286]; decide) (by decide +kernel) ?_
            refine lv_iconst (v := 0) hx hb dX7_say_369 (by decide +kernel) ?_
            refine lv_aload_n hx hb dX7_say_370 rfl (lv_at hl 2 rfl) ?_
            refine lv_iconst (v := 1) hx hb dX7_say_371 (by decide +kernel) ?_
            refine lv_iconst (v := 2) hx hb dX7_say_372 (by decide +kernel) ?_
            refine lv_iload_n hx hb dX7_say_373 rfl (lv_at hl 5 rfl) ?_
            refine lv_iload hx hb dX7_say_374 (lv_at hl 0 rfl) ?_
            refine kJi (wr := []) (va_runV (As := [.int 1, .int 2, .int a2, .int v_236]) (rest := [.int 0]) ⟨hx, hb, hml, hown, hT⟩ (ih l D cI aK aV k k0 H.size v_235 c2 c3 c4 f_234 1 2 a2 v_236 (by first | omega | (simp only [zl_1, zl_2]; first | done | omega) | decide | assumption | rfl)) (cwV 4 hT (gV_in mw_1054 mw_1051 mw_1053 mw_p3_7 mw_10) rfl rfl rfl (by decide +kernel) ⟨(by dsimp only; omega), (by dsimp only; omega)⟩) (kRecvX (q0 := 0) (ci := 7) hK hP hD hN hXS hS hA rfl rfl [0, 1] rfl (by decide +kernel)) rfl rfl hl.1 rfl (lv_room (Nat.le_of_ble_eq_true rfl)) dX7_say_376 ⟨Nat.le_of_ble_eq_true rfl, Nat.le_of_ble_eq_true rfl⟩) hP hD hS hA [0, 1] [] rfl rfl (by decide +kernel) (by decide +kernel) ?_
            clear hP hD hS
            intro r_287 u_291 H locs w_288 hP hD hS
            obtain ⟨sc1_289, sc0_290⟩ := u_291
            replace hP : va_P D vwCl [(k, .inr (7, [.ref k0, .int sc1_289, .int c2, .int c3, .int c4])), (k0, .inl (cI, 40, .inl sc0_290))] H := hP
            replace hD : va_D A [(k, .inr (7, [.ref k0, .int sc1_289, .int c2, .int c3, .int c4])), (k0, .inl (cI, 40, .inl sc0_290))] := hD
            have lo_r_287 := k_lo r_287
            have hi_r_287 := k_hi r_287
            refine lv_isub hx hb dX7_say_379 ?_
            refine lv_topi (fun v_292 ev_292 => ?_)
            have lo_v_292 := k_lo v_292
            have hi_v_292 := k_hi v_292
            exact hRet (sc1_289, sc0_290) [0, 1] trivial hP hD (by decide +kernel) rfl hS rfl dX7_say_380
          by_cases c_293 : r_2.toInt = 40
          · refine lv_tableIn (off := 320) (tgt := 381) hx hb dX7_say_61 (by omega) (by omega) (by rw [c_293]; decide) (by decide +kernel) ?_
            refine lv_aload_n hx hb dX7_say_381 rfl (lv_at hl 2 rfl) ?_
            refine lv_iconst (v := 2) hx hb dX7_say_382 (by decide +kernel) ?_
            refine lv_iconst (v := 2) hx hb dX7_say_383 (by decide +kernel) ?_
            refine lv_iload_n hx hb dX7_say_384 rfl (lv_at hl 5 rfl) ?_
            refine lv_iload hx hb dX7_say_385 (lv_at hl 0 rfl) ?_
            refine kJi (wr := []) (va_runV (As := [.int 2, .int 2, .int a2, .int v_236]) (rest := []) ⟨hx, hb, hml, hown, hT⟩ (ih l D cI aK aV k k0 H.size v_235 c2 c3 c4 f_234 2 2 a2 v_236 (by first | omega | (simp only [zl_2]; first | done | omega) | decide | assumption | rfl)) (cwV 4 hT (gV_in mw_1054 mw_1051 mw_1053 mw_p3_7 mw_10) rfl rfl rfl (by decide +kernel) ⟨(by dsimp only; omega), (by dsimp only; omega)⟩) (kRecvX (q0 := 0) (ci := 7) hK hP hD hN hXS hS hA rfl rfl [0, 1] rfl (by decide +kernel)) rfl rfl hl.1 rfl (lv_room (Nat.le_of_ble_eq_true rfl)) dX7_say_387 ⟨Nat.le_of_ble_eq_true rfl, Nat.le_of_ble_eq_true rfl⟩) hP hD hS hA [0, 1] [] rfl rfl (by decide +kernel) (by decide +kernel) ?_
            clear hP hD hS
            intro r_294 u_298 H locs w_295 hP hD hS
            obtain ⟨sc1_296, sc0_297⟩ := u_298
            replace hP : va_P D vwCl [(k, .inr (7, [.ref k0, .int sc1_296, .int c2, .int c3, .int c4])), (k0, .inl (cI, 40, .inl sc0_297))] H := hP
            replace hD : va_D A [(k, .inr (7, [.ref k0, .int sc1_296, .int c2, .int c3, .int c4])), (k0, .inl (cI, 40, .inl sc0_297))] := hD
            have lo_r_294 := k_lo r_294
            have hi_r_294 := k_hi r_294
            refine lv_aload_n hx hb dX7_say_390 rfl (lv_at hl 2 rfl) ?_
            refine lv_iconst (v := 0) hx hb dX7_say_391 (by decide +kernel) ?_
            refine lv_aload_n hx hb dX7_say_392 rfl (lv_at hl 2 rfl) ?_
            refine va_get (D := D) (ci := 7) (v := .int c4) (C := RX7) (T := TX7) (N := 5) hx hb hT giX7 hown hK hP 0 rfl rfl 4 (by decide +kernel) (hT (Cond.fieldLink RX7 25 "DesertWire$Voices" "w" "I") mw_263) (fun _ h9 => h9) rfl dX7_say_393 ?_
            refine lv_iload hx hb dX7_say_396 (lv_at hl 0 rfl) ?_
            refine kJi (wr := []) (va_runV (As := [.int 0, .int c4, .int v_236]) (rest := [.int r_294]) ⟨hx, hb, hml, hown, hT⟩ (c_X7_own_of dd ih l D cI aK aV k k0 H.size sc1_296 c2 c3 c4 sc0_297 0 c4 v_236 (by first | omega | (simp only [zl_0]; first | done | omega) | decide | assumption | rfl)) (cwV 3 hT (gV_in mw_1050 mw_1047 mw_1049 mw_p3_6 mw_10) rfl rfl rfl (by decide +kernel) ⟨(by dsimp only; omega), (by dsimp only; omega)⟩) (kRecvX (q0 := 0) (ci := 7) hK hP hD hN hXS hS hA rfl rfl [0, 1] rfl (by decide +kernel)) rfl rfl hl.1 rfl (lv_room (Nat.le_of_ble_eq_true rfl)) dX7_say_398 ⟨Nat.le_of_ble_eq_true rfl, Nat.le_of_ble_eq_true rfl⟩) hP hD hS hA [0, 1] [] rfl rfl (by decide +kernel) (by decide +kernel) ?_
            clear hP hD hS
            intro r_299 u_303 H locs w_300 hP hD hS
            obtain ⟨sc1_301, sc0_302⟩ := u_303
            replace hP : va_P D vwCl [(k, .inr (7, [.ref k0, .int sc1_301, .int c2, .int c3, .int c4])), (k0, .inl (cI, 40, .inl sc0_302))] H := hP
            replace hD : va_D A [(k, .inr (7, [.ref k0, .int sc1_301, .int c2, .int c3, .int c4])), (k0, .inl (cI, 40, .inl sc0_302))] := hD
            have lo_r_299 := k_lo r_299
            have hi_r_299 := k_hi r_299
            refine lv_iadd hx hb dX7_say_401 ?_
            refine lv_topi (fun v_304 ev_304 => ?_)
            have lo_v_304 := k_lo v_304
            have hi_v_304 := k_hi v_304
            exact hRet (sc1_301, sc0_302) [0, 1] trivial hP hD (by decide +kernel) rfl hS rfl dX7_say_402
          by_cases c_305 : r_2.toInt = 41
          · refine lv_tableIn (off := 342) (tgt := 403) hx hb dX7_say_61 (by omega) (by omega) (by rw [c_305]; decide) (by decide +kernel) ?_
            refine lv_aload_n hx hb dX7_say_403 rfl (lv_at hl 2 rfl) ?_
            refine lv_iconst (v := 2) hx hb dX7_say_404 (by decide +kernel) ?_
            refine lv_iconst (v := 3) hx hb dX7_say_405 (by decide +kernel) ?_
            refine lv_iload_n hx hb dX7_say_406 rfl (lv_at hl 5 rfl) ?_
            refine lv_iload hx hb dX7_say_407 (lv_at hl 0 rfl) ?_
            refine kJi (wr := []) (va_runV (As := [.int 2, .int 3, .int a2, .int v_236]) (rest := []) ⟨hx, hb, hml, hown, hT⟩ (ih l D cI aK aV k k0 H.size v_235 c2 c3 c4 f_234 2 3 a2 v_236 (by first | omega | (simp only [zl_2, zl_3]; first | done | omega) | decide | assumption | rfl)) (cwV 4 hT (gV_in mw_1054 mw_1051 mw_1053 mw_p3_7 mw_10) rfl rfl rfl (by decide +kernel) ⟨(by dsimp only; omega), (by dsimp only; omega)⟩) (kRecvX (q0 := 0) (ci := 7) hK hP hD hN hXS hS hA rfl rfl [0, 1] rfl (by decide +kernel)) rfl rfl hl.1 rfl (lv_room (Nat.le_of_ble_eq_true rfl)) dX7_say_409 ⟨Nat.le_of_ble_eq_true rfl, Nat.le_of_ble_eq_true rfl⟩) hP hD hS hA [0, 1] [] rfl rfl (by decide +kernel) (by decide +kernel) ?_
            clear hP hD hS
            intro r_306 u_310 H locs w_307 hP hD hS
            obtain ⟨sc1_308, sc0_309⟩ := u_310
            replace hP : va_P D vwCl [(k, .inr (7, [.ref k0, .int sc1_308, .int c2, .int c3, .int c4])), (k0, .inl (cI, 40, .inl sc0_309))] H := hP
            replace hD : va_D A [(k, .inr (7, [.ref k0, .int sc1_308, .int c2, .int c3, .int c4])), (k0, .inl (cI, 40, .inl sc0_309))] := hD
            have lo_r_306 := k_lo r_306
            have hi_r_306 := k_hi r_306
            refine lv_aload_n hx hb dX7_say_412 rfl (lv_at hl 2 rfl) ?_
            refine lv_iconst (v := 1) hx hb dX7_say_413 (by decide +kernel) ?_
            refine lv_aload_n hx hb dX7_say_414 rfl (lv_at hl 2 rfl) ?_
            refine va_get (D := D) (ci := 7) (v := .int c3) (C := RX7) (T := TX7) (N := 5) hx hb hT giX7 hown hK hP 0 rfl rfl 3 (by decide +kernel) (hT (Cond.fieldLink RX7 22 "DesertWire$Voices" "n" "I") mw_262) (fun _ h9 => h9) rfl dX7_say_415 ?_
            refine lv_iload hx hb dX7_say_418 (lv_at hl 0 rfl) ?_
            refine kJi (wr := []) (va_runV (As := [.int 1, .int c3, .int v_236]) (rest := [.int r_306]) ⟨hx, hb, hml, hown, hT⟩ (c_X7_own_of dd ih l D cI aK aV k k0 H.size sc1_308 c2 c3 c4 sc0_309 1 c3 v_236 (by first | omega | (simp only [zl_1]; first | done | omega) | decide | assumption | rfl)) (cwV 3 hT (gV_in mw_1050 mw_1047 mw_1049 mw_p3_6 mw_10) rfl rfl rfl (by decide +kernel) ⟨(by dsimp only; omega), (by dsimp only; omega)⟩) (kRecvX (q0 := 0) (ci := 7) hK hP hD hN hXS hS hA rfl rfl [0, 1] rfl (by decide +kernel)) rfl rfl hl.1 rfl (lv_room (Nat.le_of_ble_eq_true rfl)) dX7_say_420 ⟨Nat.le_of_ble_eq_true rfl, Nat.le_of_ble_eq_true rfl⟩) hP hD hS hA [0, 1] [] rfl rfl (by decide +kernel) (by decide +kernel) ?_
            clear hP hD hS
            intro r_311 u_315 H locs w_312 hP hD hS
            obtain ⟨sc1_313, sc0_314⟩ := u_315
            replace hP : va_P D vwCl [(k, .inr (7, [.ref k0, .int sc1_313, .int c2, .int c3, .int c4])), (k0, .inl (cI, 40, .inl sc0_314))] H := hP
            replace hD : va_D A [(k, .inr (7, [.ref k0, .int sc1_313, .int c2, .int c3, .int c4])), (k0, .inl (cI, 40, .inl sc0_314))] := hD
            have lo_r_311 := k_lo r_311
            have hi_r_311 := k_hi r_311
            refine lv_ixor hx hb dX7_say_423 ?_
            refine lv_topi (fun v_316 ev_316 => ?_)
            have lo_v_316 := k_lo v_316
            have hi_v_316 := k_hi v_316
            exact hRet (sc1_313, sc0_314) [0, 1] trivial hP hD (by decide +kernel) rfl hS rfl dX7_say_424
          by_cases c_317 : r_2.toInt = 50
          · refine lv_tableIn (off := 364) (tgt := 425) hx hb dX7_say_61 (by omega) (by omega) (by rw [c_317]; decide) (by decide +kernel) ?_
            refine lv_aload_n hx hb dX7_say_425 rfl (lv_at hl 2 rfl) ?_
            refine lv_iconst (v := 0) hx hb dX7_say_426 (by decide +kernel) ?_
            refine lv_iconst (v := 0) hx hb dX7_say_427 (by decide +kernel) ?_
            refine lv_iload_n hx hb dX7_say_428 rfl (lv_at hl 5 rfl) ?_
            refine lv_iload hx hb dX7_say_429 (lv_at hl 0 rfl) ?_
            refine kJi (wr := []) (va_runV (As := [.int 0, .int 0, .int a2, .int v_236]) (rest := []) ⟨hx, hb, hml, hown, hT⟩ (ih l D cI aK aV k k0 H.size v_235 c2 c3 c4 f_234 0 0 a2 v_236 (by first | omega | (simp only [zl_0]; first | done | omega) | decide | assumption | rfl)) (cwV 4 hT (gV_in mw_1054 mw_1051 mw_1053 mw_p3_7 mw_10) rfl rfl rfl (by decide +kernel) ⟨(by dsimp only; omega), (by dsimp only; omega)⟩) (kRecvX (q0 := 0) (ci := 7) hK hP hD hN hXS hS hA rfl rfl [0, 1] rfl (by decide +kernel)) rfl rfl hl.1 rfl (lv_room (Nat.le_of_ble_eq_true rfl)) dX7_say_431 ⟨Nat.le_of_ble_eq_true rfl, Nat.le_of_ble_eq_true rfl⟩) hP hD hS hA [0, 1] [] rfl rfl (by decide +kernel) (by decide +kernel) ?_
            clear hP hD hS
            intro r_318 u_322 H locs w_319 hP hD hS
            obtain ⟨sc1_320, sc0_321⟩ := u_322
            replace hP : va_P D vwCl [(k, .inr (7, [.ref k0, .int sc1_320, .int c2, .int c3, .int c4])), (k0, .inl (cI, 40, .inl sc0_321))] H := hP
            replace hD : va_D A [(k, .inr (7, [.ref k0, .int sc1_320, .int c2, .int c3, .int c4])), (k0, .inl (cI, 40, .inl sc0_321))] := hD
            have lo_r_318 := k_lo r_318
            have hi_r_318 := k_hi r_318
            refine lv_aload_n hx hb dX7_say_434 rfl (lv_at hl 2 rfl) ?_
            refine va_get (D := D) (ci := 7) (v := .int c4) (C := RX7) (T := TX7) (N := 5) hx hb hT giX7 hown hK hP 0 rfl rfl 4 (by decide +kernel) (hT (Cond.fieldLink RX7 25 "DesertWire$Voices" "w" "I") mw_263) (fun _ h9 => h9) rfl dX7_say_435 ?_
            refine lv_iadd hx hb dX7_say_438 ?_
            refine lv_topi (fun v_323 ev_323 => ?_)
            have lo_v_323 := k_lo v_323
            have hi_v_323 := k_hi v_323
            exact hRet (sc1_320, sc0_321) [0, 1] trivial hP hD (by decide +kernel) rfl hS rfl dX7_say_439
          by_cases c_324 : r_2.toInt = 51
          · refine lv_tableIn (off := 379) (tgt := 440) hx hb dX7_say_61 (by omega) (by omega) (by rw [c_324]; decide) (by decide +kernel) ?_
            refine lv_aload_n hx hb dX7_say_440 rfl (lv_at hl 2 rfl) ?_
            refine lv_iconst (v := 0) hx hb dX7_say_441 (by decide +kernel) ?_
            refine lv_iconst (v := 2) hx hb dX7_say_442 (by decide +kernel) ?_
            refine lv_iload_n hx hb dX7_say_443 rfl (lv_at hl 5 rfl) ?_
            refine lv_iload hx hb dX7_say_444 (lv_at hl 0 rfl) ?_
            refine kJi (wr := []) (va_runV (As := [.int 0, .int 2, .int a2, .int v_236]) (rest := []) ⟨hx, hb, hml, hown, hT⟩ (ih l D cI aK aV k k0 H.size v_235 c2 c3 c4 f_234 0 2 a2 v_236 (by first | omega | (simp only [zl_0, zl_2]; first | done | omega) | decide | assumption | rfl)) (cwV 4 hT (gV_in mw_1054 mw_1051 mw_1053 mw_p3_7 mw_10) rfl rfl rfl (by decide +kernel) ⟨(by dsimp only; omega), (by dsimp only; omega)⟩) (kRecvX (q0 := 0) (ci := 7) hK hP hD hN hXS hS hA rfl rfl [0, 1] rfl (by decide +kernel)) rfl rfl hl.1 rfl (lv_room (Nat.le_of_ble_eq_true rfl)) dX7_say_446 ⟨Nat.le_of_ble_eq_true rfl, Nat.le_of_ble_eq_true rfl⟩) hP hD hS hA [0, 1] [] rfl rfl (by decide +kernel) (by decide +kernel) ?_
            clear hP hD hS
            intro r_325 u_329 H locs w_326 hP hD hS
            obtain ⟨sc1_327, sc0_328⟩ := u_329
            replace hP : va_P D vwCl [(k, .inr (7, [.ref k0, .int sc1_327, .int c2, .int c3, .int c4])), (k0, .inl (cI, 40, .inl sc0_328))] H := hP
            replace hD : va_D A [(k, .inr (7, [.ref k0, .int sc1_327, .int c2, .int c3, .int c4])), (k0, .inl (cI, 40, .inl sc0_328))] := hD
            have lo_r_325 := k_lo r_325
            have hi_r_325 := k_hi r_325
            refine lv_aload_n hx hb dX7_say_449 rfl (lv_at hl 2 rfl) ?_
            refine lv_iconst (v := 0) hx hb dX7_say_450 (by decide +kernel) ?_
            refine lv_iconst (v := 1) hx hb dX7_say_451 (by decide +kernel) ?_
            refine lv_iload hx hb dX7_say_452 (lv_at hl 0 rfl) ?_
            refine kJi (wr := []) (va_runV (As := [.int 0, .int 1, .int v_236]) (rest := [.int r_325]) ⟨hx, hb, hml, hown, hT⟩ (c_X7_own_of dd ih l D cI aK aV k k0 H.size sc1_327 c2 c3 c4 sc0_328 0 1 v_236 (by first | omega | (simp only [zl_0, zl_1]; first | done | omega) | decide | assumption | rfl)) (cwV 3 hT (gV_in mw_1050 mw_1047 mw_1049 mw_p3_6 mw_10) rfl rfl rfl (by decide +kernel) ⟨(by dsimp only; omega), (by dsimp only; omega)⟩) (kRecvX (q0 := 0) (ci := 7) hK hP hD hN hXS hS hA rfl rfl [0, 1] rfl (by decide +kernel)) rfl rfl hl.1 rfl (lv_room (Nat.le_of_ble_eq_true rfl)) dX7_say_454 ⟨Nat.le_of_ble_eq_true rfl, Nat.le_of_ble_eq_true rfl⟩) hP hD hS hA [0, 1] [] rfl rfl (by decide +kernel) (by decide +kernel) ?_
            clear hP hD hS
            intro r_330 u_334 H locs w_331 hP hD hS
            obtain ⟨sc1_332, sc0_333⟩ := u_334
            replace hP : va_P D vwCl [(k, .inr (7, [.ref k0, .int sc1_332, .int c2, .int c3, .int c4])), (k0, .inl (cI, 40, .inl sc0_333))] H := hP
            replace hD : va_D A [(k, .inr (7, [.ref k0, .int sc1_332, .int c2, .int c3, .int c4])), (k0, .inl (cI, 40, .inl sc0_333))] := hD
            have lo_r_330 := k_lo r_330
            have hi_r_330 := k_hi r_330
            refine lv_isub hx hb dX7_say_457 ?_
            refine lv_topi (fun v_335 ev_335 => ?_)
            have lo_v_335 := k_lo v_335
            have hi_v_335 := k_hi v_335
            exact hRet (sc1_332, sc0_333) [0, 1] trivial hP hD (by decide +kernel) rfl hS rfl dX7_say_458
          by_cases c_336 : r_2.toInt = 60
          · refine lv_tableIn (off := 398) (tgt := 459) hx hb dX7_say_61 (by omega) (by omega) (by rw [c_336]; decide) (by decide +kernel) ?_
            refine lv_aload_n hx hb dX7_say_459 rfl (lv_at hl 2 rfl) ?_
            refine lv_iconst (v := 4) hx hb dX7_say_460 (by decide +kernel) ?_
            refine lv_iconst (v := 1) hx hb dX7_say_461 (by decide +kernel) ?_
            refine lv_iload_n hx hb dX7_say_462 rfl (lv_at hl 5 rfl) ?_
            refine lv_iload hx hb dX7_say_463 (lv_at hl 0 rfl) ?_
            refine kJi (wr := []) (va_runV (As := [.int 4, .int 1, .int a2, .int v_236]) (rest := []) ⟨hx, hb, hml, hown, hT⟩ (ih l D cI aK aV k k0 H.size v_235 c2 c3 c4 f_234 4 1 a2 v_236 (by first | omega | (simp only [zl_1, zl_4]; first | done | omega) | decide | assumption | rfl)) (cwV 4 hT (gV_in mw_1054 mw_1051 mw_1053 mw_p3_7 mw_10) rfl rfl rfl (by decide +kernel) ⟨(by dsimp only; omega), (by dsimp only; omega)⟩) (kRecvX (q0 := 0) (ci := 7) hK hP hD hN hXS hS hA rfl rfl [0, 1] rfl (by decide +kernel)) rfl rfl hl.1 rfl (lv_room (Nat.le_of_ble_eq_true rfl)) dX7_say_465 ⟨Nat.le_of_ble_eq_true rfl, Nat.le_of_ble_eq_true rfl⟩) hP hD hS hA [0, 1] [] rfl rfl (by decide +kernel) (by decide +kernel) ?_
            clear hP hD hS
            intro r_337 u_341 H locs w_338 hP hD hS
            obtain ⟨sc1_339, sc0_340⟩ := u_341
            replace hP : va_P D vwCl [(k, .inr (7, [.ref k0, .int sc1_339, .int c2, .int c3, .int c4])), (k0, .inl (cI, 40, .inl sc0_340))] H := hP
            replace hD : va_D A [(k, .inr (7, [.ref k0, .int sc1_339, .int c2, .int c3, .int c4])), (k0, .inl (cI, 40, .inl sc0_340))] := hD
            have lo_r_337 := k_lo r_337
            have hi_r_337 := k_hi r_337
            refine lv_aload_n hx hb dX7_say_468 rfl (lv_at hl 2 rfl) ?_
            refine va_get (D := D) (ci := 7) (v := .int c4) (C := RX7) (T := TX7) (N := 5) hx hb hT giX7 hown hK hP 0 rfl rfl 4 (by decide +kernel) (hT (Cond.fieldLink RX7 25 "DesertWire$Voices" "w" "I") mw_263) (fun _ h9 => h9) rfl dX7_say_469 ?_
            refine lv_imul hx hb dX7_say_472 ?_
            refine lv_topi (fun v_342 ev_342 => ?_)
            have lo_v_342 := k_lo v_342
            have hi_v_342 := k_hi v_342
            exact hRet (sc1_339, sc0_340) [0, 1] trivial hP hD (by decide +kernel) rfl hS rfl dX7_say_473
          refine lv_tableOut (tgt := 474) hx hb dX7_say_61 (by omega) (by decide +kernel) ?_
          refine lv_iconst (v := 0) hx hb dX7_say_474 (by decide +kernel) ?_
          refine lv_aload_n hx hb dX7_say_475 rfl (lv_at hl 2 rfl) ?_
          refine lv_iconst (v := 4) hx hb dX7_say_476 (by decide +kernel) ?_
          refine lv_iconst (v := 3) hx hb dX7_say_477 (by decide +kernel) ?_
          refine lv_iload_n hx hb dX7_say_478 rfl (lv_at hl 5 rfl) ?_
          refine lv_iload hx hb dX7_say_479 (lv_at hl 0 rfl) ?_
          refine kJi (wr := []) (va_runV (As := [.int 4, .int 3, .int a2, .int v_236]) (rest := [.int 0]) ⟨hx, hb, hml, hown, hT⟩ (ih l D cI aK aV k k0 H.size v_235 c2 c3 c4 f_234 4 3 a2 v_236 (by first | omega | (simp only [zl_3, zl_4]; first | done | omega) | decide | assumption | rfl)) (cwV 4 hT (gV_in mw_1054 mw_1051 mw_1053 mw_p3_7 mw_10) rfl rfl rfl (by decide +kernel) ⟨(by dsimp only; omega), (by dsimp only; omega)⟩) (kRecvX (q0 := 0) (ci := 7) hK hP hD hN hXS hS hA rfl rfl [0, 1] rfl (by decide +kernel)) rfl rfl hl.1 rfl (lv_room (Nat.le_of_ble_eq_true rfl)) dX7_say_481 ⟨Nat.le_of_ble_eq_true rfl, Nat.le_of_ble_eq_true rfl⟩) hP hD hS hA [0, 1] [] rfl rfl (by decide +kernel) (by decide +kernel) ?_
          clear hP hD hS
          intro r_343 u_347 H locs w_344 hP hD hS
          obtain ⟨sc1_345, sc0_346⟩ := u_347
          replace hP : va_P D vwCl [(k, .inr (7, [.ref k0, .int sc1_345, .int c2, .int c3, .int c4])), (k0, .inl (cI, 40, .inl sc0_346))] H := hP
          replace hD : va_D A [(k, .inr (7, [.ref k0, .int sc1_345, .int c2, .int c3, .int c4])), (k0, .inl (cI, 40, .inl sc0_346))] := hD
          have lo_r_343 := k_lo r_343
          have hi_r_343 := k_hi r_343
          refine lv_isub hx hb dX7_say_484 ?_
          refine lv_topi (fun v_348 ev_348 => ?_)
          have lo_v_348 := k_lo v_348
          have hi_v_348 := k_hi v_348
          exact hRet (sc1_345, sc0_346) [0, 1] trivial hP hD (by decide +kernel) rfl hS rfl dX7_say_485
    · refine lv_iconst (v := 0) hx hb dX7_say_7 (by decide +kernel) ?_
      exact hRet (c1, c0) [0, 1] trivial hP hD (by decide +kernel) rfl hS rfl dX7_say_8
theorem bn_cX7_hear_0 : BN cX7_hear 0 0x15a1d00adc08060b0142c2b0d0056c1e1585c02b60e8ac28015b070561000ad8082b := by
  unfold BN; decide +kernel
theorem dX7_hear_0 : decode cX7_hear 0 = .ok (.aload_n 0, 1) := dR0 (k := 0) (i := 0) bn_cX7_hear_0 dop_42 (by decide +kernel)
theorem dX7_hear_1 : decode cX7_hear 1 = .ok (.iconst 0, 1) := dR0 (k := 0) (i := 1) bn_cX7_hear_0 dop_3 (by decide +kernel)
theorem dX7_hear_2 : decode cX7_hear 2 = .ok (.putfield 15, 3) := dR2 (f := Instr.putfield) (k := 0) (i := 2) bn_cX7_hear_0 dop_181 15 (by decide +kernel)
theorem dX7_hear_5 : decode cX7_hear 5 = .ok (.aload_n 0, 1) := dR0 (k := 0) (i := 5) bn_cX7_hear_0 dop_42 (by decide +kernel)
theorem dX7_hear_6 : decode cX7_hear 6 = .ok (.iload_n 1, 1) := dR0 (k := 0) (i := 6) bn_cX7_hear_0 dop_27 (by decide +kernel)
theorem dX7_hear_7 : decode cX7_hear 7 = .ok (.putfield 19, 3) := dR2 (f := Instr.putfield) (k := 0) (i := 7) bn_cX7_hear_0 dop_181 19 (by decide +kernel)
theorem dX7_hear_10 : decode cX7_hear 10 = .ok (.aload_n 0, 1) := dR0 (k := 0) (i := 10) bn_cX7_hear_0 dop_42 (by decide +kernel)
theorem dX7_hear_11 : decode cX7_hear 11 = .ok (.iload_n 2, 1) := dR0 (k := 0) (i := 11) bn_cX7_hear_0 dop_28 (by decide +kernel)
theorem dX7_hear_12 : decode cX7_hear 12 = .ok (.putfield 22, 3) := dR2 (f := Instr.putfield) (k := 0) (i := 12) bn_cX7_hear_0 dop_181 22 (by decide +kernel)
theorem dX7_hear_15 : decode cX7_hear 15 = .ok (.aload_n 0, 1) := dR0 (k := 0) (i := 15) bn_cX7_hear_0 dop_42 (by decide +kernel)
theorem dX7_hear_16 : decode cX7_hear 16 = .ok (.iload_n 3, 1) := dR0 (k := 0) (i := 16) bn_cX7_hear_0 dop_29 (by decide +kernel)
theorem dX7_hear_17 : decode cX7_hear 17 = .ok (.putfield 25, 3) := dR2 (f := Instr.putfield) (k := 0) (i := 17) bn_cX7_hear_0 dop_181 25 (by decide +kernel)
theorem dX7_hear_20 : decode cX7_hear 20 = .ok (.aload_n 0, 1) := dR0 (k := 0) (i := 20) bn_cX7_hear_0 dop_42 (by decide +kernel)
theorem dX7_hear_21 : decode cX7_hear 21 = .ok (.iload 4, 2) := dR1 (f := Instr.iload) (k := 0) (i := 21) bn_cX7_hear_0 dop_21 4 (by decide +kernel)
theorem dX7_hear_23 : decode cX7_hear 23 = .ok (.iload 5, 2) := dR1 (f := Instr.iload) (k := 0) (i := 23) bn_cX7_hear_0 dop_21 5 (by decide +kernel)
theorem dX7_hear_25 : decode cX7_hear 25 = .ok (.iconst 0, 1) := dR0 (k := 0) (i := 25) bn_cX7_hear_0 dop_3 (by decide +kernel)
theorem dX7_hear_26 : decode cX7_hear 26 = .ok (.invokevirtual 28, 3) := dR2 (f := Instr.invokevirtual) (k := 0) (i := 26) bn_cX7_hear_0 dop_182 28 (by decide +kernel)
theorem dX7_hear_29 : decode cX7_hear 29 = .ok (.ireturn, 1) := dR0 (k := 0) (i := 29) bn_cX7_hear_0 dop_172 (by decide +kernel)
set_option maxHeartbeats 4000000 in
set_option maxRecDepth 100000 in
theorem c_X7_hearG (l : Launch) (D : va_G) (cI : ClassId) (aK aV : Nat → Nat) (k k0 : Nat) (sz : Nat) (c1 : Int32) (c2 : Int32) (c3 : Int32) (c4 : Int32) (c0 : Nat → Int32) (a0 : Int32) (a1 : Int32) (a2 : Int32) (a3 : Int32) (a4 : Int32) : Met l yX7_hear (gW yX7_hear cX7_hear 6 (some .int)) ({ frames := 171, cells := 0, slots := 0, locals := 5463 } : Room) (kPreX D cI aK aV [.ref k, .int a0, .int a1, .int a2, .int a3, .int a4] [(k, .inr (7, [.ref k0, .int c1, .int c2, .int c3, .int c4])), (k0, .inl (cI, 40, .inl c0))] sz) (va_Qi (fun (r : Int32) (u : Int32 × Int32 × Int32 × Int32 × (Nat → Int32)) => True) (fun u t => kWd D cI (va_A [(k, .inr (7, [.ref k0, .int c1, .int c2, .int c3, .int c4])), (k0, .inl (cI, 40, .inl c0))] sz) [(k, .inr (7, [.ref k0, .int u.1, .int u.2.1, .int u.2.2.1, .int u.2.2.2.1])), (k0, .inl (cI, 40, .inl u.2.2.2.2))] t) (va_A [(k, .inr (7, [.ref k0, .int c1, .int c2, .int c3, .int c4])), (k0, .inl (cI, 40, .inl c0))] sz)) 0 0 (va_A [(k, .inr (7, [.ref k0, .int c1, .int c2, .int c3, .int c4])), (k0, .inl (cI, 40, .inl c0))] sz) := by
  refine kMetIX (own := RX7) (by decide +kernel) rfl (Nat.le_of_ble_eq_true rfl) ?_
  intro p e s m args below meth c hx hb hT hown hname hml A Q hK hP hD hS hA hN hXS hRet ls hl
  have hl : lv_has ls 6 [(0, .ref k), (1, .int a0), (2, .int a1), (3, .int a2), (4, .int a3), (5, .int a4)] := hl
  have lo_a0 := k_lo a0
  have hi_a0 := k_hi a0
  have lo_a1 := k_lo a1
  have hi_a1 := k_hi a1
  have lo_a2 := k_lo a2
  have hi_a2 := k_hi a2
  have lo_a3 := k_lo a3
  have hi_a3 := k_hi a3
  have lo_a4 := k_lo a4
  have hi_a4 := k_hi a4
  refine lv_aload_n hx hb dX7_hear_0 rfl (lv_at hl 0 rfl) ?_
  refine lv_iconst (v := 0) hx hb dX7_hear_1 (by decide +kernel) ?_
  refine va_put (D := D) (ci := 7) (v := .int 0) (ty := .int) (C := RX7) (T := TX7) (N := 5) hx hb hT giX7 tyX7 tyX7_ok nmX7 hown hK hP hD hS 0 rfl rfl 1 (by decide +kernel) (hT (Cond.fieldLink RX7 15 "DesertWire$Voices" "begun" "I") mw_259) (fun _ h9 => h9) rfl (by decide +kernel) rfl rfl (Nat.le_of_ble_eq_true rfl) dX7_hear_2 ?_
  clear hP hD hS
  intro H locs hP hD hS
  replace hP : va_P D vwCl [(k, .inr (7, [.ref k0, .int 0, .int c2, .int c3, .int c4])), (k0, .inl (cI, 40, .inl c0))] H := hP
  replace hD : va_D A [(k, .inr (7, [.ref k0, .int 0, .int c2, .int c3, .int c4])), (k0, .inl (cI, 40, .inl c0))] := hD
  refine lv_aload_n hx hb dX7_hear_5 rfl (lv_at hl 0 rfl) ?_
  refine lv_iload_n hx hb dX7_hear_6 rfl (lv_at hl 1 rfl) ?_
  refine va_put (D := D) (ci := 7) (v := .int a0) (ty := .int) (C := RX7) (T := TX7) (N := 5) hx hb hT giX7 tyX7 tyX7_ok nmX7 hown hK hP hD hS 0 rfl rfl 2 (by decide +kernel) (hT (Cond.fieldLink RX7 19 "DesertWire$Voices" "kind" "I") mw_261) (fun _ h9 => h9) rfl (by decide +kernel) rfl rfl (Nat.le_of_ble_eq_true rfl) dX7_hear_7 ?_
  clear hP hD hS
  intro H locs hP hD hS
  replace hP : va_P D vwCl [(k, .inr (7, [.ref k0, .int 0, .int a0, .int c3, .int c4])), (k0, .inl (cI, 40, .inl c0))] H := hP
  replace hD : va_D A [(k, .inr (7, [.ref k0, .int 0, .int a0, .int c3, .int c4])), (k0, .inl (cI, 40, .inl c0))] := hD
  refine lv_aload_n hx hb dX7_hear_10 rfl (lv_at hl 0 rfl) ?_
  refine lv_iload_n hx hb dX7_hear_11 rfl (lv_at hl 2 rfl) ?_
  refine va_put (D := D) (ci := 7) (v := .int a1) (ty := .int) (C := RX7) (T := TX7) (N := 5) hx hb hT giX7 tyX7 tyX7_ok nmX7 hown hK hP hD hS 0 rfl rfl 3 (by decide +kernel) (hT (Cond.fieldLink RX7 22 "DesertWire$Voices" "n" "I") mw_262) (fun _ h9 => h9) rfl (by decide +kernel) rfl rfl (Nat.le_of_ble_eq_true rfl) dX7_hear_12 ?_
  clear hP hD hS
  intro H locs hP hD hS
  replace hP : va_P D vwCl [(k, .inr (7, [.ref k0, .int 0, .int a0, .int a1, .int c4])), (k0, .inl (cI, 40, .inl c0))] H := hP
  replace hD : va_D A [(k, .inr (7, [.ref k0, .int 0, .int a0, .int a1, .int c4])), (k0, .inl (cI, 40, .inl c0))] := hD
  refine lv_aload_n hx hb dX7_hear_15 rfl (lv_at hl 0 rfl) ?_
  refine lv_iload_n hx hb dX7_hear_16 rfl (lv_at hl 3 rfl) ?_
  refine va_put (D := D) (ci := 7) (v := .int a2) (ty := .int) (C := RX7) (T := TX7) (N := 5) hx hb hT giX7 tyX7 tyX7_ok nmX7 hown hK hP hD hS 0 rfl rfl 4 (by decide +kernel) (hT (Cond.fieldLink RX7 25 "DesertWire$Voices" "w" "I") mw_263) (fun _ h9 => h9) rfl (by decide +kernel) rfl rfl (Nat.le_of_ble_eq_true rfl) dX7_hear_17 ?_
  clear hP hD hS
  intro H locs hP hD hS
  replace hP : va_P D vwCl [(k, .inr (7, [.ref k0, .int 0, .int a0, .int a1, .int a2])), (k0, .inl (cI, 40, .inl c0))] H := hP
  replace hD : va_D A [(k, .inr (7, [.ref k0, .int 0, .int a0, .int a1, .int a2])), (k0, .inl (cI, 40, .inl c0))] := hD
  refine lv_aload_n hx hb dX7_hear_20 rfl (lv_at hl 0 rfl) ?_
  refine lv_iload hx hb dX7_hear_21 (lv_at hl 4 rfl) ?_
  refine lv_iload hx hb dX7_hear_23 (lv_at hl 5 rfl) ?_
  refine lv_iconst (v := 0) hx hb dX7_hear_25 (by decide +kernel) ?_
  refine kJi (wr := []) (va_runV (As := [.int a3, .int a4, .int 0]) (rest := []) ⟨hx, hb, hml, hown, hT⟩ (c_X7_own_of 42 (c_X7_sayR 42) l D cI aK aV k k0 H.size 0 a0 a1 a2 c0 a3 a4 0 (by first | omega | (simp only [zl_0]; first | done | omega) | decide | assumption | rfl)) (cwV 3 hT (gV_in mw_1050 mw_1047 mw_1049 mw_p3_6 mw_10) rfl rfl rfl (by decide +kernel) ⟨Nat.le_of_ble_eq_true rfl, Nat.le_of_ble_eq_true rfl⟩) (kRecvX (q0 := 0) (ci := 7) hK hP hD hN hXS hS hA rfl rfl [0, 1] rfl (by decide +kernel)) rfl rfl hl.1 rfl (lv_room (Nat.le_of_ble_eq_true rfl)) dX7_hear_26 ⟨Nat.le_of_ble_eq_true rfl, Nat.le_of_ble_eq_true rfl⟩) hP hD hS hA [0, 1] [] rfl rfl (by decide +kernel) (by decide +kernel) ?_
  clear hP hD hS
  intro r_1 u_5 H locs w_2 hP hD hS
  obtain ⟨sc1_3, sc0_4⟩ := u_5
  replace hP : va_P D vwCl [(k, .inr (7, [.ref k0, .int sc1_3, .int a0, .int a1, .int a2])), (k0, .inl (cI, 40, .inl sc0_4))] H := hP
  replace hD : va_D A [(k, .inr (7, [.ref k0, .int sc1_3, .int a0, .int a1, .int a2])), (k0, .inl (cI, 40, .inl sc0_4))] := hD
  have lo_r_1 := k_lo r_1
  have hi_r_1 := k_hi r_1
  exact hRet (sc1_3, a0, a1, a2, sc0_4) [0, 1] trivial hP hD (by decide +kernel) rfl hS rfl dX7_hear_29
